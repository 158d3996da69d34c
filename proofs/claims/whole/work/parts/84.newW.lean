-- worlds that grow: the constructors
def nwS : List (String × Nat × MethodName × String) := [("ButterChurn", 9, (⟨"ButterChurn$Told", "<init>", "()V"⟩ : MethodName), "ButterChurn"), ("ButterChurn", 18, (⟨"ButterChurn$Reading", "<init>", "()V"⟩ : MethodName), "ButterChurn"), ("ButterChurn$Reading", 9, (⟨"ButterChurn$Tape", "<init>", "()V"⟩ : MethodName), "ButterChurn"), ("ButterChurn$Reading", 18, (⟨"ButterChurn$Told", "<init>", "()V"⟩ : MethodName), "ButterChurn"), ("ButterChurn", 25, (⟨"ButterChurn$Churn", "<init>", "()V"⟩ : MethodName), "ButterChurn"), ("ButterChurn", 35, (⟨"ButterChurn$Best", "<init>", "()V"⟩ : MethodName), "ButterChurn"), ("ButterChurn", 42, (⟨"ButterChurn$Image", "<init>", "()V"⟩ : MethodName), "ButterChurn"), ("ButterChurn$Image", 9, (⟨"ButterChurn$Churn", "<init>", "()V"⟩ : MethodName), "ButterChurn"), ("ButterChurn", 49, (⟨"ButterChurn$Sheet", "<init>", "()V"⟩ : MethodName), "ButterChurn")]
def CN (g : XG) (A : Nat → Prop) (U : State) (H : Heap) : Prop :=
  (∀ q ∈ nwS, va_Nw (.methodLinkNest q.1 q.2.1 q.2.2.1 q.2.2.2) U) ∧ va_Nw (.castable "[I" "java/lang/Cloneable") U ∧ va_AO "ButterChurn$Image" U ∧ va_AO "ButterChurn$Sheet" U ∧
  ∀ i : Nat, i < 2 → ∃ scr : Cell, H[sa g i]? = some scr ∧ (∀ k, scr.vm ≠ .statics k) ∧ scr.vm ≠ .unknown ∧ scr.cls = cA g 0 ∧ scr.slots.size = stL i ∧ (∀ j : Nat, j < stL i → scr.slots[j]? = some (.int ((stV i).getD j 0))) ∧ ¬ A (sa g i)
theorem CN.narrow {g : XG} {A B : Nat → Prop} {U : State} {H : Heap} (h : CN g A U H) (hAB : ∀ q, B q → A q) : CN g B U H :=
  ⟨h.1, h.2.1, h.2.2.1, h.2.2.2.1, fun i hi => by obtain ⟨scr, a, b, c, d, e, f, k⟩ := h.2.2.2.2 i hi; exact ⟨scr, a, b, c, d, e, f, fun z => k (hAB _ z)⟩⟩
theorem CN.kept {g : XG} {A : Nat → Prop} {U : State} {H H1 : Heap} (h : CN g A U H) (hq : ∀ a : Nat, a < H.size → ¬ A a → H1[a]? = H[a]?) : CN g A U H1 :=
  ⟨h.1, h.2.1, h.2.2.1, h.2.2.2.1, fun i hi => by obtain ⟨scr, a, b⟩ := h.2.2.2.2 i hi; exact ⟨scr, by rw [hq _ (Array.getElem?_eq_some_iff.mp a).1 b.2.2.2.2.2]; exact a, b⟩⟩
theorem CN.warm {g : XG} {A : Nat → Prop} {s U : State} {H : Heap} (hW : s.WarmedH U.vm) (h : CN g A s H) : CN g A U H :=
  ⟨fun q hq => va_Nw.warmM hW (h.1 q hq), va_Nw.warmC hW h.2.1, va_AO.moved hW.alike h.2.2.1, va_AO.moved hW.alike h.2.2.2.1, h.2.2.2.2⟩
theorem CN.same {g : XG} {A : Nat → Prop} {u U : State} {H : Heap} (hv : U.vm = u.vm) (h : CN g A u H) : CN g A U H := by
  have ha : u.vm.Alike U.vm := by rw [hv]; exact Vm.Alike.refl u.vm
  exact ⟨fun q hq => va_Nw.same rfl hv.symm (h.1 q hq), va_Nw.same rfl hv.symm h.2.1, va_AO.moved ha h.2.2.1, va_AO.moved ha h.2.2.2.1, h.2.2.2.2⟩
def EW (x : XC) (g : XG) (nL : Nat) (ws : va_W) (ce sl pc : Nat) (L : List (Nat × Value)) (S : List Value) : Prop :=
  ∀ (H : Heap) (locs : List Loc) (ls : Array Slot), va_P g.1 vwCl ws H → va_D (x_A x) ws → va_S (x_A x) (x_s x).heap H locs → lv_has ls nL L →
    W (x_p x) (x_l x) (x_e x) (x_R x) (x_s x) (x_m x) (x_a x) (x_b x) (x_me x) (x_c x) H locs ce sl (x_Q x) (F0 (x_m x) pc ls S)
def xPn (g : XG) (ws : va_W) (sz : Nat) (As : List Value) : Array Value → State → Prop := va_Pc As (fun U => U.heap.size = sz ∧ va_P g.1 vwCl ws U.heap ∧ va_K g.1 vwCl (xty g) U ∧ va_D (fun _ => True) ws ∧ CO g (va_A ws sz) U U.heap ∧ CN g (va_A ws sz) U U.heap)
def xQn (g : XG) (ws : va_W) (sz : Nat) (P : Option Value → va_W → Prop) : Array Value → State → Outcome → State → Prop := fun _ st o t => (∃ (r : Option Value) (ws' : va_W), o = .returned r ∧ P r ws' ∧ va_P g.1 vwCl ws' t.heap ∧ va_D (va_A ws sz) ws') ∧ va_F (va_A ws sz) st t
def xrn (y : XM) (mc ms : Nat) : Room := { frames := xmF y, cells := mc, slots := ms, locals := xmW y }
def New (l : Launch) (g : XG) (y : XM) (As : List Value) (ws : va_W) (mc ms : Nat) (P : Option Value → va_W → Prop) : Prop :=
  ∀ sz : Nat, Met l (xmN y) (xws y) (xrn y mc ms) (xPn g ws sz As) (xQn g ws sz P) mc ms (va_A ws sz)
def XN (x : XC) (g : XG) (y : XM) : Prop := XF x g y ∧ CN g (x_A x) (x_s x) (x_s x).heap ∧ ((xmN y).name = "<init>" → (x_me x).name = (xmN y).name)
def XRn (x : XC) (g : XG) (y : XM) (ws : va_W) (mc ms : Nat) (P : Option Value → va_W → Prop) : Prop :=
  x_A x = va_A ws (x_s x).heap.size ∧ x_Q x = MQ (x_b x) (xQn g ws (x_s x).heap.size P) (x_a x) (x_s x) mc ms (va_A ws (x_s x).heap.size) ∧ (x_me x).sig.returnType = xmR y ∧ (x_me x).locks = false ∧ (x_R x).cells = mc ∧ (x_R x).slots = ms
theorem new_of {l : Launch} {g : XG} {y : XM} {As : List Value} {ws : va_W} {mc ms : Nat} {P : Option Value → va_W → Prop} (hy : plainName (xmN y).cls = true) (hn : (lg_sl As).length ≤ xmL y)
    (h : ∀ x : XC, x_l x = l → XN x g y → XRn x g y ws mc ms P → EW x g (xmL y) ws 0 0 0 (lv_args 0 As) []) : New l g y As ws mc ms P := by
  intro sz
  refine Met.ofW (cc := xmB y) (maxL := xmL y) (ret := xmR y) (ws' := TB) hy rfl ?_
  intro p e s m args below meth c s₁ B hml hv
  obtain ⟨rfl, hsz, hP, hK, hD0, hC, hN⟩ := hv
  subst hsz
  have hts := atoms_spec (ws := xws y) B.pre
  have hown : s.vm.findClass (xmN y).cls = some m.cls := findClass_of_methodNamed B.named
  have hl := lv_entry As (n := xmL y) hn
  rw [lg_entry_eq]
  refine h (p, l, e, xrn y mc ms, s, m, As.toArray, below, meth, c, 0, 0, MQ below (xQn g ws s.heap.size P) As.toArray s mc ms (va_A ws s.heap.size), va_A ws s.heap.size) rfl
    ⟨⟨B.exec, B.bytes, hml, hown, fun w hw => hts w (List.mem_cons_of_mem _ hw), hK, hC, fun q hq => Or.inr hq, Nat.le_refl _, Nat.le_refl _, Nat.zero_le _, Nat.zero_le _⟩, hN, fun _ => (name_of_methodNamed B.named B.method).1⟩
    ⟨rfl, rfl, B.returns, B.notSynchronized, rfl, rfl⟩ s.heap [] _ hP hD0.self va_S.rf hl
theorem nw_iconst {x : XC} {g : XG} {y0 : XM} {ws : va_W} {ce sl pc : Nat} {L : List (Nat × Value)} {S : List Value} {n : Int} {v : Int32} (F : XN x g y0) (d : decode (xmB y0) pc = .ok (.iconst n, 1)) (hv : Int32.ofInt n = v)
    (k : EW x g (xmL y0) ws ce sl (pc + 1) L (.int v :: S)) : EW x g (xmL y0) ws ce sl pc L S :=
  fun H locs ls hP hD hS hl => lv_iconst F.1.1 F.1.2.1 d hv (k H locs ls hP hD hS hl)
theorem nw_bipush {x : XC} {g : XG} {y0 : XM} {ws : va_W} {ce sl pc : Nat} {L : List (Nat × Value)} {S : List Value} {n : Int} {v : Int32} (F : XN x g y0) (d : decode (xmB y0) pc = .ok (.bipush n, 2)) (hv : (Int8.ofInt n).toInt32 = v)
    (k : EW x g (xmL y0) ws ce sl (pc + 2) L (.int v :: S)) : EW x g (xmL y0) ws ce sl pc L S :=
  fun H locs ls hP hD hS hl => lv_bipush F.1.1 F.1.2.1 d hv (k H locs ls hP hD hS hl)
theorem nw_sipush {x : XC} {g : XG} {y0 : XM} {ws : va_W} {ce sl pc : Nat} {L : List (Nat × Value)} {S : List Value} {n : Int} {v : Int32} (F : XN x g y0) (d : decode (xmB y0) pc = .ok (.sipush n, 3)) (hv : (Int16.ofInt n).toInt32 = v)
    (k : EW x g (xmL y0) ws ce sl (pc + 3) L (.int v :: S)) : EW x g (xmL y0) ws ce sl pc L S :=
  fun H locs ls hP hD hS hl => lv_sipush F.1.1 F.1.2.1 d hv (k H locs ls hP hD hS hl)
theorem nw_aload_n {x : XC} {g : XG} {y0 : XM} {ws : va_W} {ce sl pc : Nat} {L : List (Nat × Value)} {S : List Value} {n : Fin 4} {i : Nat} {v : Nat} (F : XN x g y0) (d : decode (xmB y0) pc = .ok (.aload_n n, 1)) (hi : (n : Nat) = i) (hk : L.lookup i = some (.ref v))
    (k : EW x g (xmL y0) ws ce sl (pc + 1) L (.ref v :: S)) : EW x g (xmL y0) ws ce sl pc L S :=
  fun H locs ls hP hD hS hl => lv_aload_n F.1.1 F.1.2.1 d hi (lk_at hl hk) (k H locs ls hP hD hS hl)
theorem nw_dup {x : XC} {g : XG} {y0 : XM} {ws : va_W} {ce sl pc : Nat} {L : List (Nat × Value)} {S : List Value} {v : Value} (F : XN x g y0) (d : decode (xmB y0) pc = .ok (.dup, 1)) (hv : v.category = 1)
    (k : EW x g (xmL y0) ws ce sl (pc + 1) L (v :: v :: S)) : EW x g (xmL y0) ws ce sl pc L (v :: S) :=
  fun H locs ls hP hD hS hl => lv_dup F.1.1 F.1.2.1 d hv (k H locs ls hP hD hS hl)
theorem nw_obj {x : XC} {g : XG} {y0 : XM} {ws : va_W} {ce sl pc : Nat} {L : List (Nat × Value)} {S : List Value} {a idx : Nat} (F : XN x g y0) (d : decode (xmB y0) pc = .ok (.invokespecial idx, 3)) (hw : Cond.methodLink (xmN y0).cls idx objectInit ∈ TB) (hi : Cond.instanceMethod objectInit ∈ TB) (hc : Cond.code objectInit ⟨#[0xb1]⟩ 1 none ∈ TB) (hf : 1 ≤ xmF y0) (hr : (S.map fun v => v.category).sum + 12 ≤ xmW y0)
    (k : EW x g (xmL y0) ws ce sl (pc + 3) L S) : EW x g (xmL y0) ws ce sl pc L (.ref a :: S) := fun H locs ls hP hD hS hl =>
  W.objInit F.1.1 F.1.2.1 F.1.2.2.2.1 (F.1.2.2.2.2.1 _ hw) (F.1.2.2.2.2.1 _ hi) (F.1.2.2.2.2.1 _ hc) rfl (by show ls.size = _; rw [F.1.2.2.1]; exact hl.1) rfl d (Nat.le_trans hf F.1.2.2.2.2.2.2.2.2.1) (by show 2 * 0 + _ + 12 ≤ _; have := Nat.le_trans hr F.1.2.2.2.2.2.2.2.2.2.1; omega) (k H locs ls hP hD hS hl)
theorem nw_putF {x : XC} {g : XG} {y0 : XM} {ws : va_W} {ce sl pc : Nat} {L : List (Nat × Value)} {S : List Value} {ws1 : va_W} {ci q0 N j idx a : Nat} {C : String} {T : u_T} {fs : List Value} {ty : FieldType} {v : Value} (F : XN x g y0) (d : decode (xmB y0) pc = .ok (.putfield idx, 3)) (hin : ∀ w ∈ u_ws C T N, w ∈ TB) (ty0 : Nat → FieldType) (hty : ∀ k, k < N → parseFieldDescriptor (T k).2.2.1 = some (ty0 k)) (hnm : ∀ a, a < N → ∀ b, b < N → a ≠ b → (T a).2.1 ≠ (T b).2.1) (he : ws[q0]? = some (a, .inr (ci, fs))) (hc : vwCl[ci]? = some (C, T, N)) (hj : j < N) (hw : Cond.fieldLink (xmN y0).cls idx (T j).1 (T j).2.1 (T j).2.2.1 ∈ TB) (hfin : (T j).2.2.2 = true) (hnn : (xmN y0).name = "<init>") (hdc : (T j).1 = (xmN y0).cls) (hd : parseFieldDescriptor (T j).2.2.1 = some ty) (hn : narrow ty v = v) (hfit : fits ty v = true) (hlen : j < fs.length) (hset : ws.set q0 (a, .inr (ci, fs.set j v)) = ws1)
    (k : EW x g (xmL y0) ws1 ce sl (pc + 3) L S) : EW x g (xmL y0) ws ce sl pc L (v :: .ref a :: S) := fun H locs ls hP hD hS hl => va_putF F.1.1 F.1.2.1 F.1.2.2.2.2.1 hin ty0 hty hnm F.1.2.2.2.1 F.1.2.2.2.2.2.1 hP hD hS q0 he hc j hj (F.1.2.2.2.2.1 _ hw) (fun _ h => h) hfin ((F.2.2 hnn).trans hnn) hdc hd hn hfit hlen d (fun H1 locs1 hP1 hD1 hS1 => by rw [hset] at hP1 hD1; exact k H1 locs1 ls hP1 hD1 hS1 hl)
theorem nw_put {x : XC} {g : XG} {y0 : XM} {ws : va_W} {ce sl pc : Nat} {L : List (Nat × Value)} {S : List Value} {ws1 : va_W} {ci q0 N j idx a : Nat} {C : String} {T : u_T} {fs : List Value} {ty : FieldType} {v : Value} (F : XN x g y0) (d : decode (xmB y0) pc = .ok (.putfield idx, 3)) (hin : ∀ w ∈ u_ws C T N, w ∈ TB) (ty0 : Nat → FieldType) (hty : ∀ k, k < N → parseFieldDescriptor (T k).2.2.1 = some (ty0 k)) (hnm : ∀ a, a < N → ∀ b, b < N → a ≠ b → (T a).2.1 ≠ (T b).2.1) (he : ws[q0]? = some (a, .inr (ci, fs))) (hc : vwCl[ci]? = some (C, T, N)) (hj : j < N) (hw : Cond.fieldLink (xmN y0).cls idx (T j).1 (T j).2.1 (T j).2.2.1 ∈ TB) (hfin : (T j).2.2.2 = false) (hd : parseFieldDescriptor (T j).2.2.1 = some ty) (hn : narrow ty v = v) (hfit : fits ty v = true) (hlen : j < fs.length) (hset : ws.set q0 (a, .inr (ci, fs.set j v)) = ws1)
    (k : EW x g (xmL y0) ws1 ce sl (pc + 3) L S) : EW x g (xmL y0) ws ce sl pc L (v :: .ref a :: S) := fun H locs ls hP hD hS hl => va_put F.1.1 F.1.2.1 F.1.2.2.2.2.1 hin ty0 hty hnm F.1.2.2.2.1 F.1.2.2.2.2.2.1 hP hD hS q0 he hc j hj (F.1.2.2.2.2.1 _ hw) (fun _ h => h) hfin hd hn hfit hlen d (fun H1 locs1 hP1 hD1 hS1 => by rw [hset] at hP1 hD1; exact k H1 locs1 ls hP1 hD1 hS1 hl)
theorem va_K_last {D : va_G} {cl : List vw_C} {tys : List (ClassId × FieldType)} {q : ClassId × FieldType} {s : State} (h : va_K D cl (tys ++ [q]) s) : va_RA s q.1 q.2 := (h.2 tys.length q (by simp)).2
theorem nw_newaI {x : XC} {g : XG} {y0 : XM} {ws : va_W} {ce sl pc : Nat} {L : List (Nat × Value)} {S : List Value} {n : Int32} {N : Nat} (F : XN x g y0) (d : decode (xmB y0) pc = .ok (.newarray .int, 2)) (hn : ¬ n < 0) (hN : n.toNatClampNeg = N) (hw : Cond.arrayClass .int ∈ TB) (hby : N * componentBytes .int ≤ 536870912) (hce : ce + 1 ≤ (x_R x).cells) (hsl : sl + N ≤ (x_R x).slots)
    (k : ∀ q : Nat, EW x g (xmL y0) (ws ++ [(q, .inl (cA g 0, N, (.inl (fun _ => 0))))]) (ce + 1) (sl + N) (pc + 2) L (.ref q :: S)) : EW x g (xmL y0) ws ce sl pc L (.int n :: S) := fun H locs ls hP hD hS hl => by
  refine va_newa (atype := .int) (ty := .int) (a0 := (N, (.inl (fun _ => 0)))) F.1.1 F.1.2.1 (F.1.2.2.2.2.1 _ hw) rfl F.1.2.2.2.2.2.1 hP hD hS F.1.2.2.2.2.2.2.2.1 (fun _ => rfl) hn hN hby hce hsl d (fun q cc H1 hK1 hP1 hD1 hS1 => ?_)
  have e1 : (x_s x).vm.findClass ("[" ++ (.int : FieldType).toString) = some cc := va_K_last hK1
  have e2 : (x_s x).vm.findClass ("[" ++ (.int : FieldType).toString) = some (cA g 0) := (F.1.2.2.2.2.2.1.2 0 _ (show (xty g)[0]? = some (cA g 0, .int) from rfl)).2
  obtain rfl : cc = cA g 0 := Option.some.inj (e1.symm.trans e2)
  exact k q H1 locs ls hP1 hD1 hS1 hl
theorem nw_newaB {x : XC} {g : XG} {y0 : XM} {ws : va_W} {ce sl pc : Nat} {L : List (Nat × Value)} {S : List Value} {n : Int32} {N : Nat} (F : XN x g y0) (d : decode (xmB y0) pc = .ok (.newarray .byte, 2)) (hn : ¬ n < 0) (hN : n.toNatClampNeg = N) (hw : Cond.arrayClass .byte ∈ TB) (hby : N * componentBytes .byte ≤ 536870912) (hce : ce + 1 ≤ (x_R x).cells) (hsl : sl + N ≤ (x_R x).slots)
    (k : ∀ q : Nat, EW x g (xmL y0) (ws ++ [(q, .inl (cA g 1, N, (.inl (fun _ => 0))))]) (ce + 1) (sl + N) (pc + 2) L (.ref q :: S)) : EW x g (xmL y0) ws ce sl pc L (.int n :: S) := fun H locs ls hP hD hS hl => by
  refine va_newa (atype := .byte) (ty := .byte) (a0 := (N, (.inl (fun _ => 0)))) F.1.1 F.1.2.1 (F.1.2.2.2.2.1 _ hw) rfl F.1.2.2.2.2.2.1 hP hD hS F.1.2.2.2.2.2.2.2.1 (fun _ => rfl) hn hN hby hce hsl d (fun q cc H1 hK1 hP1 hD1 hS1 => ?_)
  have e1 : (x_s x).vm.findClass ("[" ++ (.byte : FieldType).toString) = some cc := va_K_last hK1
  have e2 : (x_s x).vm.findClass ("[" ++ (.byte : FieldType).toString) = some (cA g 1) := (F.1.2.2.2.2.2.1.2 1 _ (show (xty g)[1]? = some (cA g 1, .byte) from rfl)).2
  obtain rfl : cc = cA g 1 := Option.some.inj (e1.symm.trans e2)
  exact k q H1 locs ls hP1 hD1 hS1 hl
theorem nw_newaZ {x : XC} {g : XG} {y0 : XM} {ws : va_W} {ce sl pc : Nat} {L : List (Nat × Value)} {S : List Value} {n : Int32} {N : Nat} (F : XN x g y0) (d : decode (xmB y0) pc = .ok (.newarray .boolean, 2)) (hn : ¬ n < 0) (hN : n.toNatClampNeg = N) (hw : Cond.arrayClass .boolean ∈ TB) (hby : N * componentBytes .boolean ≤ 536870912) (hce : ce + 1 ≤ (x_R x).cells) (hsl : sl + N ≤ (x_R x).slots)
    (k : ∀ q : Nat, EW x g (xmL y0) (ws ++ [(q, .inl (cA g 2, N, (.inl (fun _ => 0))))]) (ce + 1) (sl + N) (pc + 2) L (.ref q :: S)) : EW x g (xmL y0) ws ce sl pc L (.int n :: S) := fun H locs ls hP hD hS hl => by
  refine va_newa (atype := .boolean) (ty := .boolean) (a0 := (N, (.inl (fun _ => 0)))) F.1.1 F.1.2.1 (F.1.2.2.2.2.1 _ hw) rfl F.1.2.2.2.2.2.1 hP hD hS F.1.2.2.2.2.2.2.2.1 (fun _ => rfl) hn hN hby hce hsl d (fun q cc H1 hK1 hP1 hD1 hS1 => ?_)
  have e1 : (x_s x).vm.findClass ("[" ++ (.boolean : FieldType).toString) = some cc := va_K_last hK1
  have e2 : (x_s x).vm.findClass ("[" ++ (.boolean : FieldType).toString) = some (cA g 2) := (F.1.2.2.2.2.2.1.2 2 _ (show (xty g)[2]? = some (cA g 2, .boolean) from rfl)).2
  obtain rfl : cc = cA g 2 := Option.some.inj (e1.symm.trans e2)
  exact k q H1 locs ls hP1 hD1 hS1 hl
theorem nw_anew_im {x : XC} {g : XG} {y0 : XM} {ws : va_W} {ce sl pc : Nat} {L : List (Nat × Value)} {S : List Value} {idx : Nat} {n : Int32} {N : Nat} (F : XN x g y0) (d : decode (xmB y0) pc = .ok (.anewarray idx, 3)) (hw : Cond.classLink (xmN y0).cls idx "ButterChurn$Image" ∈ TB) (hn : ¬ n < 0) (hN : n.toNatClampNeg = N) (hby : N * 4 ≤ 536870912) (hce : ce + 1 ≤ (x_R x).cells) (hsl : sl + N ≤ (x_R x).slots)
    (k : ∀ q : Nat, EW x g (xmL y0) (ws ++ [(q, .inl (cA g 3, N, .inr (.inr (.inr (.inr (fun _ => none))))))]) (ce + 1) (sl + N) (pc + 3) L (.ref q :: S)) : EW x g (xmL y0) ws ce sl pc L (.int n :: S) := fun H locs ls hP hD hS hl => by
  refine va_newq F.1.1 F.1.2.1 F.1.2.2.2.1 (F.1.2.2.2.2.1 _ hw) F.2.1.2.2.1 F.1.2.2.2.2.2.1 hP hD hS F.1.2.2.2.2.2.2.2.1 hn hN hby hce hsl d (fun q cc H1 hK1 hP1 hD1 hS1 => ?_)
  obtain ⟨-, -, -, -, -, e1⟩ := va_K_last hK1
  obtain ⟨-, -, -, -, -, e2⟩ := (F.1.2.2.2.2.2.1.2 3 _ (show (xty g)[3]? = some (cA g 3, .object "ButterChurn$Image") from rfl)).2
  obtain rfl : cc = cA g 3 := Option.some.inj (e1.symm.trans e2)
  exact k q H1 locs ls hP1 hD1 hS1 hl
theorem nw_aast_im {x : XC} {g : XG} {y0 : XM} {ws : va_W} {ce sl pc : Nat} {L : List (Nat × Value)} {S : List Value} {ws1 : va_W} {q0 qk a v : Nat} {vs : List Value} {n : Nat} {f : Nat → Option Nat} {i : Int32} (F : XN x g y0) (d : decode (xmB y0) pc = .ok (.aastore, 1)) (ha : ws[q0]? = some (a, .inl (cA g 3, n, .inr (.inr (.inr (.inr f)))))) (hv : ws[qk]? = some (v, .inr (2, vs))) (hin : vp_in i n) (hset : ws.set q0 (a, .inl (cA g 3, n, .inr (.inr (.inr (.inr (va_up f i.toNatClampNeg (some v))))))) = ws1)
    (k : EW x g (xmL y0) ws1 ce sl (pc + 1) L S) : EW x g (xmL y0) ws ce sl pc L (.ref v :: .int i :: .ref a :: S) := fun H locs ls hP hD hS hl => va_astq (r := (RX2, TX2, 2)) F.1.1 F.1.2.1 F.1.2.2.2.2.2.1 hP hD hS q0 3 qk 2 ha rfl hv rfl hin d (fun H1 locs1 hP1 hD1 hS1 => by rw [hset] at hP1 hD1; exact k H1 locs1 ls hP1 hD1 hS1 hl)
theorem nw_anew_sh {x : XC} {g : XG} {y0 : XM} {ws : va_W} {ce sl pc : Nat} {L : List (Nat × Value)} {S : List Value} {idx : Nat} {n : Int32} {N : Nat} (F : XN x g y0) (d : decode (xmB y0) pc = .ok (.anewarray idx, 3)) (hw : Cond.classLink (xmN y0).cls idx "ButterChurn$Sheet" ∈ TB) (hn : ¬ n < 0) (hN : n.toNatClampNeg = N) (hby : N * 4 ≤ 536870912) (hce : ce + 1 ≤ (x_R x).cells) (hsl : sl + N ≤ (x_R x).slots)
    (k : ∀ q : Nat, EW x g (xmL y0) (ws ++ [(q, .inl (cA g 4, N, .inr (.inr (.inr (.inr (fun _ => none))))))]) (ce + 1) (sl + N) (pc + 3) L (.ref q :: S)) : EW x g (xmL y0) ws ce sl pc L (.int n :: S) := fun H locs ls hP hD hS hl => by
  refine va_newq F.1.1 F.1.2.1 F.1.2.2.2.1 (F.1.2.2.2.2.1 _ hw) F.2.1.2.2.2.1 F.1.2.2.2.2.2.1 hP hD hS F.1.2.2.2.2.2.2.2.1 hn hN hby hce hsl d (fun q cc H1 hK1 hP1 hD1 hS1 => ?_)
  obtain ⟨-, -, -, -, -, e1⟩ := va_K_last hK1
  obtain ⟨-, -, -, -, -, e2⟩ := (F.1.2.2.2.2.2.1.2 4 _ (show (xty g)[4]? = some (cA g 4, .object "ButterChurn$Sheet") from rfl)).2
  obtain rfl : cc = cA g 4 := Option.some.inj (e1.symm.trans e2)
  exact k q H1 locs ls hP1 hD1 hS1 hl
theorem nw_aast_sh {x : XC} {g : XG} {y0 : XM} {ws : va_W} {ce sl pc : Nat} {L : List (Nat × Value)} {S : List Value} {ws1 : va_W} {q0 qk a v : Nat} {vs : List Value} {n : Nat} {f : Nat → Option Nat} {i : Int32} (F : XN x g y0) (d : decode (xmB y0) pc = .ok (.aastore, 1)) (ha : ws[q0]? = some (a, .inl (cA g 4, n, .inr (.inr (.inr (.inr f)))))) (hv : ws[qk]? = some (v, .inr (4, vs))) (hin : vp_in i n) (hset : ws.set q0 (a, .inl (cA g 4, n, .inr (.inr (.inr (.inr (va_up f i.toNatClampNeg (some v))))))) = ws1)
    (k : EW x g (xmL y0) ws1 ce sl (pc + 1) L S) : EW x g (xmL y0) ws ce sl pc L (.ref v :: .int i :: .ref a :: S) := fun H locs ls hP hD hS hl => va_astq (r := (RX4, TX4, 3)) F.1.1 F.1.2.1 F.1.2.2.2.2.2.1 hP hD hS q0 4 qk 4 ha rfl hv rfl hin d (fun H1 locs1 hP1 hD1 hS1 => by rw [hset] at hP1 hD1; exact k H1 locs1 ls hP1 hD1 hS1 hl)
theorem nw_iast {x : XC} {g : XG} {y0 : XM} {ws : va_W} {ce sl pc : Nat} {L : List (Nat × Value)} {S : List Value} {ws1 : va_W} {q0 a n : Nat} {f : Nat → Int32} {i v : Int32} (F : XN x g y0) (d : decode (xmB y0) pc = .ok (.iastore, 1)) (ha : ws[q0]? = some (a, .inl (cA g 0, n, .inl f))) (hin : vp_in i n) (hset : ws.set q0 (a, .inl (cA g 0, n, .inl (upd f i.toNatClampNeg v))) = ws1)
    (k : EW x g (xmL y0) ws1 ce sl (pc + 1) L S) : EW x g (xmL y0) ws ce sl pc L (.int v :: .int i :: .ref a :: S) := fun H locs ls hP hD hS hl => va_iast F.1.1 F.1.2.1 F.1.2.2.2.2.2.1 hP hD hS q0 0 ha rfl hin d (fun H1 locs1 hP1 hD1 hS1 => by rw [hset] at hP1 hD1; exact k H1 locs1 ls hP1 hD1 hS1 hl)
theorem nw_iald {x : XC} {g : XG} {y0 : XM} {ws : va_W} {ce sl pc : Nat} {L : List (Nat × Value)} {S : List Value} {q0 a n : Nat} {f : Nat → Int32} {i : Int32} (F : XN x g y0) (d : decode (xmB y0) pc = .ok (.iaload, 1)) (ha : ws[q0]? = some (a, .inl (cA g 0, n, .inl f))) (hin : vp_in i n)
    (k : EW x g (xmL y0) ws ce sl (pc + 1) L (.int (f i.toNatClampNeg) :: S)) : EW x g (xmL y0) ws ce sl pc L (.int i :: .ref a :: S) := fun H locs ls hP hD hS hl => va_iald F.1.1 F.1.2.1 F.1.2.2.2.2.2.1 hP q0 0 ha rfl hin d (k H locs ls hP hD hS hl)
theorem nw_getf {x : XC} {g : XG} {y0 : XM} {ws : va_W} {ce sl pc : Nat} {L : List (Nat × Value)} {S : List Value} {ci q0 N j idx a : Nat} {C : String} {T : u_T} {fs : List Value} {v : Value} (F : XN x g y0) (d : decode (xmB y0) pc = .ok (.getfield idx, 3)) (hin : ∀ w ∈ u_ws C T N, w ∈ TB) (he : ws[q0]? = some (a, .inr (ci, fs))) (hc : vwCl[ci]? = some (C, T, N)) (hj : j < N) (hw : Cond.fieldLink (xmN y0).cls idx (T j).1 (T j).2.1 (T j).2.2.1 ∈ TB) (hv : fs[j]? = some v)
    (k : EW x g (xmL y0) ws ce sl (pc + 3) L (v :: S)) : EW x g (xmL y0) ws ce sl pc L (.ref a :: S) := fun H locs ls hP hD hS hl => va_get F.1.1 F.1.2.1 F.1.2.2.2.2.1 hin F.1.2.2.2.1 F.1.2.2.2.2.2.1 hP q0 he hc j hj (F.1.2.2.2.2.1 _ hw) (fun _ h => h) hv d (k H locs ls hP hD hS hl)
