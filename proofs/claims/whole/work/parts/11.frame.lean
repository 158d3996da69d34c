-- words, contexts, contracts over the whole world; a row an instruction
def TB : List Cond := lw_tbl.filter goodWord
theorem tb_of {w : Cond} (h : w ∈ lw_tbl) (hg : goodWord w = true) : w ∈ TB := List.mem_filter.mpr ⟨h, hg⟩
theorem tb_good {w : Cond} (h : w ∈ TB) : goodWord w = true := (List.mem_filter.mp h).2
theorem tb_tbl {w : Cond} (h : w ∈ TB) : w ∈ lw_tbl := (List.mem_filter.mp h).1
-- what nobody writes: static arrays of ints, by their places
def stC (i : Nat) : String := if i < 2 then "ButterChurn$Told" else "ButterChurn$Reading"
def stN (i : Nat) : String := (["FIRST_RULES", "FIRST_DROPS", "NUMBERS", "FIRST_TOLD", "LEAST", "MOST"] : List String).getD i ""
def stV (i : Nat) : List Int32 := ([[100, 130, 10, 10, 20, 4, 10, 20, 80], [64, 16, 4, 0], [2, 4, 1, 2, 2, 1, 1, 2], [0, 2, 6, 7, 9, 11, 12, 13], [1, 0, 0, 0, 0, 0, 10, 0, 1, 0, 0, 3, 1, 0, 0], [50, 100, 99, 99, 99, 99, 400, 400, 99, 50, 99, 6, 99, 100, 100]] : List (List Int32)).getD i []
def stL (i : Nat) : Nat := (stV i).length
def strT (i : Nat) : List Int32 := ([[99, 111, 119], [100, 114, 111, 112, 115], [99, 104, 117, 114, 110], [115, 111, 102, 116], [98, 101, 97, 116], [103, 114, 97, 105, 110], [104, 101, 97, 116], [103, 111, 111, 100]] : List (List Int32)).getD i []
def strX (i : Nat) : String := (["cow", "drops", "churn", "soft", "beat", "grain", "heat", "good"] : List String).getD i ""
def strK (i : Nat) : Nat := ([79, 85, 87, 89, 91, 93, 95, 97] : List Nat).getD i 0
def strLen : List Nat := [3, 5, 5, 4, 4, 5, 4, 4]
def strByt : List (List Int32) := [[99, 111, 119], [100, 114, 111, 112, 115], [99, 104, 117, 114, 110], [115, 111, 102, 116], [98, 101, 97, 116], [103, 114, 97, 105, 110], [104, 101, 97, 116], [103, 111, 111, 100]]
def CO (g : XG) (A : Nat → Prop) (U : State) (H : Heap) : Prop :=
  (∀ i : Nat, i < 6 → va_Z (stC i) (stN i) "[I" (.ref (sa g i)) A U H ∧ va_T .int (sa g i) (stL i) (fun j => .int ((stV i).getD j 0)) A U H) ∧
  vk_S 8 strLen strByt (sk g) (sv g) A U H ∧ (∀ i : Nat, i < 8 → vk_R "ButterChurn$Reading" (strK i) (strX i) (sk g i) U) ∧
  va_Z "java/lang/String" "COMPACT_STRINGS" "Z" (.int 1) A U H ∧
  va_Nw (.methodLinkNest RX3 114 yX7_outside RX7) U ∧
  ∃ v : Value, (v = .null ∨ ∃ a, v = .ref a) ∧ va_Z "jdk/internal/util/Preconditions" "SIOOBE_FORMATTER" "Ljava/util/function/BiFunction;" v A U H
def XA (g : XG) (sz : Nat) : Nat → Prop := fun q => (∃ k : Nat, k < 60 ∧ q = ad g k) ∨ sz ≤ q
theorem CO.narrow {g : XG} {A B : Nat → Prop} {U : State} {H : Heap} (h : CO g A U H) (hAB : ∀ q, B q → A q) : CO g B U H :=
  ⟨fun i hi => ⟨(h.1 i hi).1.narrow hAB, (h.1 i hi).2.narrow hAB⟩, h.2.1.narrow hAB, h.2.2.1, h.2.2.2.1.narrow hAB, h.2.2.2.2.1, by obtain ⟨v, h1, h2⟩ := h.2.2.2.2.2; exact ⟨v, h1, h2.narrow hAB⟩⟩
theorem CO.kept {g : XG} {A : Nat → Prop} {U : State} {H H1 : Heap} (h : CO g A U H) (hq : ∀ a : Nat, a < H.size → ¬ A a → H1[a]? = H[a]?) : CO g A U H1 :=
  ⟨fun i hi => ⟨(h.1 i hi).1.kept hq, (h.1 i hi).2.kept hq⟩, h.2.1.kept hq, h.2.2.1, h.2.2.2.1.kept hq, h.2.2.2.2.1, by obtain ⟨v, h1, h2⟩ := h.2.2.2.2.2; exact ⟨v, h1, h2.kept hq⟩⟩
theorem CO.warm {g : XG} {A : Nat → Prop} {s U : State} {H : Heap} (hW : s.WarmedH U.vm) (h : CO g A s H) : CO g A U H :=
  ⟨fun i hi => ⟨va_Z.moved hW.alike (h.1 i hi).1, va_T.moved hW.alike (h.1 i hi).2⟩, vk_S.moved hW.alike h.2.1, fun i hi => vk_R.warm hW (h.2.2.1 i hi), va_Z.moved hW.alike h.2.2.2.1, va_Nw.warmM hW h.2.2.2.2.1, by obtain ⟨v, h1, h2⟩ := h.2.2.2.2.2; exact ⟨v, h1, va_Z.moved hW.alike h2⟩⟩
theorem CO.same {g : XG} {A : Nat → Prop} {u U : State} {H : Heap} (hv : U.vm = u.vm) (h : CO g A u H) : CO g A U H := by
  have ha : u.vm.Alike U.vm := by rw [hv]; exact Vm.Alike.refl u.vm
  exact ⟨fun i hi => ⟨va_Z.moved ha (h.1 i hi).1, va_T.moved ha (h.1 i hi).2⟩, vk_S.moved ha h.2.1, fun i hi => vk_R.same hv (h.2.2.1 i hi), va_Z.moved ha h.2.2.2.1, va_Nw.same rfl hv.symm h.2.2.2.2.1, by obtain ⟨v, h1, h2⟩ := h.2.2.2.2.2; exact ⟨v, h1, va_Z.moved ha h2⟩⟩
-- methods: name, code, places of locals, answer, frames, words
abbrev XM : Type := MethodName × ByteArray × Nat × Option FieldType × Nat × Nat
abbrev xmN (y : XM) : MethodName := y.1
abbrev xmB (y : XM) : ByteArray := y.2.1
abbrev xmL (y : XM) : Nat := y.2.2.1
abbrev xmR (y : XM) : Option FieldType := y.2.2.2.1
abbrev xmF (y : XM) : Nat := y.2.2.2.2.1
abbrev xmW (y : XM) : Nat := y.2.2.2.2.2
def xcode (y : XM) : Cond := Cond.code (xmN y) (xmB y) (xmL y) (xmR y)
def xws (y : XM) : List Cond := Cond.code (xmN y) (xmB y) (xmL y) (xmR y) :: TB
def xrm (y : XM) : Room := { frames := xmF y, cells := 0, slots := 0, locals := xmW y }
def xPc (g : XG) (M : Mem) (sz : Nat) (As : List Value) : Array Value → State → Prop := va_Pc As (fun U => U.heap.size = sz ∧ va_P g.1 vwCl (WL g M) U.heap ∧ va_K g.1 vwCl (xty g) U ∧ va_D (fun _ => True) (WL g M) ∧ CO g (XA g sz) U U.heap)
def xQc (g : XG) (sz : Nat) (P : Option Value → Mem → Prop) : Array Value → State → Outcome → State → Prop := fun _ st o t => (∃ (r : Option Value) (M' : Mem), o = .returned r ∧ P r M' ∧ va_P g.1 vwCl (WL g M') t.heap ∧ va_D (XA g sz) (WL g M')) ∧ va_F (XA g sz) st t
def Call (l : Launch) (g : XG) (y : XM) (As : List Value) (M : Mem) (P : Option Value → Mem → Prop) : Prop :=
  ∀ sz : Nat, Met l (xmN y) (xws y) (xrm y) (xPc g M sz As) (xQc g sz P) 0 0 (XA g sz)
-- contexts: where a body stands
abbrev XC : Type := Program × Launch × Env × Room × State × MethodId × Array Value × List Frame × Method × Code × Nat × Nat × (State → Prop) × (Nat → Prop)
abbrev x_p (x : XC) : Program := x.1
abbrev x_l (x : XC) : Launch := x.2.1
abbrev x_e (x : XC) : Env := x.2.2.1
abbrev x_R (x : XC) : Room := x.2.2.2.1
abbrev x_s (x : XC) : State := x.2.2.2.2.1
abbrev x_m (x : XC) : MethodId := x.2.2.2.2.2.1
abbrev x_a (x : XC) : Array Value := x.2.2.2.2.2.2.1
abbrev x_b (x : XC) : List Frame := x.2.2.2.2.2.2.2.1
abbrev x_me (x : XC) : Method := x.2.2.2.2.2.2.2.2.1
abbrev x_c (x : XC) : Code := x.2.2.2.2.2.2.2.2.2.1
abbrev x_ce (x : XC) : Nat := x.2.2.2.2.2.2.2.2.2.2.1
abbrev x_sl (x : XC) : Nat := x.2.2.2.2.2.2.2.2.2.2.2.1
abbrev x_Q (x : XC) : State → Prop := x.2.2.2.2.2.2.2.2.2.2.2.2.1
abbrev x_A (x : XC) : Nat → Prop := x.2.2.2.2.2.2.2.2.2.2.2.2.2
def EX (x : XC) (g : XG) (nL : Nat) (M : Mem) (pc : Nat) (L : List (Nat × Value)) (S : List Value) : Prop :=
  ∀ (H : Heap) (locs : List Loc) (ls : Array Slot), va_P g.1 vwCl (WL g M) H → va_D (x_A x) (WL g M) → va_S (x_A x) (x_s x).heap H locs → lv_has ls nL L →
    W (x_p x) (x_l x) (x_e x) (x_R x) (x_s x) (x_m x) (x_a x) (x_b x) (x_me x) (x_c x) H locs (x_ce x) (x_sl x) (x_Q x) (F0 (x_m x) pc ls S)
def XF (x : XC) (g : XG) (y : XM) : Prop :=
  (x_p x).tables.exec = Jvm.exec ∧ (x_c x).code = xmB y ∧ (x_c x).maxLocals = xmL y ∧ (x_s x).vm.findClass (xmN y).cls = some (x_m x).cls ∧ (∀ w ∈ TB, w.before (x_a x) (x_s x) = true) ∧
  va_K g.1 vwCl (xty g) (x_s x) ∧ CO g (x_A x) (x_s x) (x_s x).heap ∧ (∀ q : Nat, (x_s x).heap.size ≤ q → x_A x q) ∧ xmF y ≤ (x_R x).frames ∧ xmW y ≤ (x_R x).locals ∧ x_ce x ≤ (x_R x).cells ∧ x_sl x ≤ (x_R x).slots
def XR (x : XC) (g : XG) (y : XM) (P : Option Value → Mem → Prop) : Prop :=
  x_ce x = 0 ∧ x_sl x = 0 ∧ x_A x = XA g (x_s x).heap.size ∧ x_Q x = MQ (x_b x) (xQc g (x_s x).heap.size P) (x_a x) (x_s x) 0 0 (XA g (x_s x).heap.size) ∧ (x_me x).sig.returnType = xmR y ∧ (x_me x).locks = false
theorem xa_D {g : XG} {M : Mem} {A : Nat → Prop} {sz : Nat} (h : va_D A (WL g M)) : va_D (XA g sz) (WL g M) :=
  h.weaken (fun k q hk _ => Or.inl ⟨k, (wl_ad g M k q hk).2, (wl_ad g M k q hk).1⟩)
theorem wl_some (g : XG) (M : Mem) {k : Nat} (hk : k < 60) : ∃ q, (WL g M)[k]? = some q ∧ q.1 = ad g k := by
  have h : k < (WL g M).length := by rw [wl_len]; exact hk
  exact ⟨_, List.getElem?_eq_getElem h, (wl_ad g M k _ (List.getElem?_eq_getElem h)).1⟩
theorem xa_in {g : XG} {M : Mem} {A : Nat → Prop} {sz sz' : Nat} (h : va_D A (WL g M)) (hA : ∀ q : Nat, sz ≤ q → A q) (hs : sz ≤ sz') : ∀ q, XA g sz' q → A q := by
  intro q hq
  rcases hq with ⟨k, hk, rfl⟩ | hq
  · obtain ⟨q, h1, h2⟩ := wl_some g M hk
    rw [← h2]; exact h.2 k q h1
  · exact hA q (Nat.le_trans hs hq)
theorem xg_in {y z : XM} (hz : xcode z ∈ TB) : GoodIn (xws y) (xws z) := by
  intro w hw
  rcases List.mem_cons.mp hw with rfl | hw
  · exact ⟨List.mem_cons_of_mem _ hz, good_of_word (tb_good hz)⟩
  · exact ⟨List.mem_cons_of_mem _ hw, good_of_word (tb_good hw)⟩
theorem tb_in {z : XM} (hz : xcode z ∈ TB) : GoodIn TB (xws z) := by
  intro w hw
  rcases List.mem_cons.mp hw with rfl | hw
  · exact ⟨hz, good_of_word (tb_good hz)⟩
  · exact ⟨hw, good_of_word (tb_good hw)⟩
theorem xPc_blind (g : XG) (M : Mem) (sz : Nat) (As : List Value) : FrameBlind (xPc g M sz As) := by
  intro a U fr mk h
  obtain ⟨h0, h1, h2, h3, h4, h5⟩ := h
  exact ⟨h0, h1, h2, va_K.moved (u := U) (U := U.calling fr mk a) (Vm.Alike.refl U.vm) h3, h4, CO.same (u := U) (U := U.calling fr mk a) rfl h5⟩
/-- a contract out of its body -/
theorem call_of {l : Launch} {g : XG} {y : XM} {As : List Value} {M : Mem} {P : Option Value → Mem → Prop} (hy : plainName (xmN y).cls = true) (hn : (lg_sl As).length ≤ xmL y)
    (h : ∀ x : XC, x_l x = l → XF x g y → XR x g y P → EX x g (xmL y) M 0 (lv_args 0 As) []) : Call l g y As M P := by
  intro sz
  refine Met.ofW (cc := xmB y) (maxL := xmL y) (ret := xmR y) (ws' := TB) hy rfl ?_
  intro p e s m args below meth c s₁ B hml hv
  obtain ⟨rfl, hsz, hP, hK, hD0, hC⟩ := hv
  subst hsz
  have hts := atoms_spec (ws := xws y) B.pre
  have hown : s.vm.findClass (xmN y).cls = some m.cls := findClass_of_methodNamed B.named
  have hl := lv_entry As (n := xmL y) hn
  rw [lg_entry_eq]
  refine h (p, l, e, xrm y, s, m, As.toArray, below, meth, c, 0, 0, MQ below (xQc g s.heap.size P) As.toArray s 0 0 (XA g s.heap.size), XA g s.heap.size) rfl
    ⟨B.exec, B.bytes, hml, hown, fun w hw => hts w (List.mem_cons_of_mem _ hw), hK, hC, fun q hq => Or.inr hq, Nat.le_refl _, Nat.le_refl _, Nat.zero_le _, Nat.zero_le _⟩
    ⟨rfl, rfl, rfl, rfl, B.returns, B.notSynchronized⟩ s.heap [] _ hP (xa_D hD0) va_S.rf hl
-- locals by lookup
theorem lk_mem : ∀ {L : List (Nat × Value)} {i : Nat} {v : Value}, L.lookup i = some v → (i, v) ∈ L := by
  intro L
  induction L with
  | nil => intro i v h; cases h
  | cons q r ih =>
    intro i v h
    obtain ⟨a, b⟩ := q
    rw [List.lookup_cons] at h
    by_cases hi : i = a
    · subst hi
      simp at h
      subst h
      exact List.mem_cons_self
    · have : (i == a) = false := by simpa using hi
      rw [this] at h
      exact List.mem_cons_of_mem _ (ih h)
theorem lk_at {ls : Array Slot} {nL : Nat} {L : List (Nat × Value)} {i : Nat} {v : Value} (h : lv_has ls nL L) (hk : L.lookup i = some v) : ls[i]? = some (.val v) := h.2.2 (i, v) (lk_mem hk)
def lput (L : List (Nat × Value)) (i : Nat) (v : Value) : List (Nat × Value) := (i, v) :: L.filter (fun q => !(q.1 == i) && !(q.1 + 1 == i && q.2.category == 2))
def lput2 (L : List (Nat × Value)) (i : Nat) (v : Value) : List (Nat × Value) := (i, v) :: L.filter (fun q => !(q.1 == i) && (!(q.1 == i + 1) && !(q.1 + 1 == i && q.2.category == 2)))
def lall (L : List (Nat × Value)) : List (Nat × Value) → Prop
  | [] => True
  | (i, v) :: r => L.lookup i = some v ∧ lall L r
theorem lall_sub {L : List (Nat × Value)} {ls : Array Slot} {nL : Nat} (h : lv_has ls nL L) : ∀ L' : List (Nat × Value), lall L L' → lv_has ls nL L' := by
  intro L' hL
  refine ⟨h.1, h.2.1, ?_⟩
  induction L' with
  | nil => intro q hq; cases hq
  | cons a r ih =>
    intro q hq
    obtain ⟨i, v⟩ := a
    rcases List.mem_cons.mp hq with rfl | hq
    · exact lk_at h hL.1
    · exact ih hL.2 q hq
