theorem vd_app {A : Nat → Prop} {ws w1 : va_W} (h1 : va_D A ws) (h2 : va_D A w1) (h3 : ∀ (i j : Nat) (p q : Nat × va_E), ws[i]? = some p → w1[j]? = some q → p.1 ≠ q.1) : va_D A (ws ++ w1) := by
  have sp : ∀ (i : Nat) (p : Nat × va_E), (ws ++ w1)[i]? = some p → (i < ws.length ∧ ws[i]? = some p) ∨ (ws.length ≤ i ∧ w1[i - ws.length]? = some p) := fun i p h => by
    by_cases hl : i < ws.length
    · exact Or.inl ⟨hl, by rw [List.getElem?_append_left hl] at h; exact h⟩
    · exact Or.inr ⟨by omega, by rw [List.getElem?_append_right (by omega)] at h; exact h⟩
  refine ⟨fun i j p q hi hj e => ?_, fun k q hk => ?_⟩
  · rcases sp i p hi with ⟨a, b⟩ | ⟨a, b⟩ <;> rcases sp j q hj with ⟨c, d⟩ | ⟨c, d⟩
    · exact h1.1 i j p q b d e
    · exact absurd e (h3 i _ p q b d)
    · exact absurd e.symm (h3 j _ q p d b)
    · have := h2.1 _ _ p q b d e; omega
  · rcases sp k q hk with ⟨a, b⟩ | ⟨a, b⟩
    · exact h1.2 k q b
    · exact h2.2 _ q b
theorem nw_join {A : Nat → Prop} {D : va_G} {cl : List vw_C} {ws wc w1 : va_W} {H H1 : Heap} (hP : va_P D cl (ws ++ wc) H) (hD : va_D A (ws ++ wc)) (hk : ∀ q : Nat, q < H.size → ¬ va_A wc H.size q → H1[q]? = H[q]?) (hF : ∀ q, va_A wc H.size q → A q) (hP1 : va_P D cl w1 H1) (hD1 : va_D (va_A wc H.size) w1) : va_P D cl (ws ++ w1) H1 ∧ va_D A (ws ++ w1) := by
  have lt : ∀ (k : Nat) (q : Nat × va_E), ws[k]? = some q → k < ws.length ∧ (ws ++ wc)[k]? = some q := fun k q h => by
    have hl : k < ws.length := (List.getElem?_eq_some_iff.mp h).1
    exact ⟨hl, by rw [List.getElem?_append_left hl]; exact h⟩
  have out : ∀ (k : Nat) (q : Nat × va_E), ws[k]? = some q → q.1 < H.size ∧ ¬ va_A wc H.size q.1 := fun k q h => by
    obtain ⟨hl, h2⟩ := lt k q h
    have hlt : q.1 < H.size := (hP k q h2).lt
    refine ⟨hlt, ?_⟩
    rintro (⟨k', e, h3⟩ | h3)
    · have h4 : (ws ++ wc)[ws.length + k']? = some (q.1, e) := by rw [List.getElem?_append_right (by omega), show ws.length + k' - ws.length = k' by omega]; exact h3
      have := hD.1 k _ q _ h2 h4 rfl
      omega
    · omega
  refine ⟨va_P.app (va_P.kept (fun k q h => hP k q (lt k q h).2) (fun k q h => hk q.1 (out k q h).1 (out k q h).2)) hP1, vd_app ⟨fun i j p q hi hj e => hD.1 i j p q (lt i p hi).2 (lt j q hj).2 e, fun k q h => hD.2 k q (lt k q h).2⟩ (hD1.weaken (fun _ q _ h => hF q.1 h)) (fun i j p q hi hj e => (out i p hi).2 (by rw [e]; exact hD1.2 j q hj))⟩
theorem nw_free {x : XC} {g : XG} {y0 : XM} {ws wc : va_W} {H : Heap} {locs : List Loc} (F : XN x g y0) (hD : va_D (x_A x) (ws ++ wc)) (hS : va_S (x_A x) (x_s x).heap H locs) : ∀ q, va_A wc H.size q → x_A x q := by
  rintro q (⟨k, e, h⟩ | h)
  · exact hD.2 (ws.length + k) (q, e) (by rw [List.getElem?_append_right (by omega), show ws.length + k - ws.length = k by omega]; exact h)
  · exact F.1.2.2.2.2.2.2.2.1 q (Nat.le_trans hS.1 h)
theorem nw_back {x : XC} {g : XG} {y0 : XM} {ws : va_W} {ce sl pc : Nat} {L : List (Nat × Value)} {S : List Value} {wc : va_W} {mc ms : Nat} {P0 : Option Value → va_W → Prop} {a : Array Value} {St : List Value} (F : XN x g y0) {H : Heap} {locs : List Loc} {ls : Array Slot} (hP : va_P g.1 vwCl (ws ++ wc) H) (hD : va_D (x_A x) (ws ++ wc)) (hS : va_S (x_A x) (x_s x).heap H locs) (hl : lv_has ls (xmL y0) L)
    (hr : va_Run (x_p x) (x_l x) (x_e x) (x_R x) (x_s x) (x_m x) (x_a x) (x_b x) (x_me x) (x_c x) H locs ce sl mc ms (F0 (x_m x) pc ls St) S (xQn g wc H.size P0 a) (va_A wc H.size))
    (kk : ∀ (r : Option Value) (w1 : va_W), P0 r w1 → EW x g (xmL y0) (ws ++ w1) (ce + mc) (sl + ms) (pc + 3) L (r.toList ++ S)) :
    W (x_p x) (x_l x) (x_e x) (x_R x) (x_s x) (x_m x) (x_a x) (x_b x) (x_me x) (x_c x) H locs ce sl (x_Q x) (F0 (x_m x) pc ls St) := by
  have hin := nw_free F hD hS
  intro T hT X
  obtain ⟨v, st₀, t, T', L9, h0, X', hL, e1, e2, ⟨⟨r, w1, hv, hp, hP1, hD1⟩, hz, hk⟩, st⟩ := hr T hT X
  cases hv
  rw [h0] at hz hk
  have hk2 : ∀ q : Nat, q < H.size → ¬ va_A wc H.size q → T'.heap[q]? = H[q]? := fun q h1 h2 => by rw [e1]; exact hk q h1 h2
  obtain ⟨hP2, hD2⟩ := nw_join hP hD hk2 hin (by rw [e1]; exact hP1) hD1
  obtain ⟨t2, a1, b1⟩ := kk v w1 hp T'.heap (locs ++ L9) ls hP2 hD2
    ⟨Nat.le_trans hS.1 (by rw [e1]; exact hz), fun q h1 h2 => by rw [hk2 q (Nat.lt_of_lt_of_le h1 hS.1) (fun z => h2 (hin q z))]; exact hS.2.1 q h1 h2, fun q hq => by
      rcases List.mem_append.mp hq with h | h
      · exact hS.2.2 q h
      · exact hin _ (hL q h)⟩ hl T' rfl X'
  exact ⟨t2, st t2 a1, b1⟩
theorem xPn_blind (g : XG) (ws : va_W) (sz : Nat) (As : List Value) : FrameBlind (xPn g ws sz As) := by
  intro a U fr mk h
  obtain ⟨h0, h1, h2, h3, h4, h5, h6⟩ := h
  exact ⟨h0, h1, h2, va_K.moved (u := U) (U := U.calling fr mk a) (Vm.Alike.refl U.vm) h3, h4, CO.same (u := U) (U := U.calling fr mk a) rfl h5, CN.same (u := U) (U := U.calling fr mk a) rfl h6⟩
theorem xpn_at {x : XC} {g : XG} {y0 : XM} {ws wc : va_W} {H : Heap} {locs : List Loc} {As : List Value} (F : XN x g y0) (hP : va_P g.1 vwCl (ws ++ wc) H) (hD : va_D (x_A x) (ws ++ wc)) (hS : va_S (x_A x) (x_s x).heap H locs) : ∀ U : State, U.heap = H → (x_s x).WarmedH U.vm → xPn g wc H.size As As.toArray U := by
  intro U hU hW
  have hin := nw_free F hD hS
  have up : ∀ (k : Nat) (q : Nat × va_E), wc[k]? = some q → (ws ++ wc)[ws.length + k]? = some q := fun k q h => by rw [List.getElem?_append_right (by omega), show ws.length + k - ws.length = k by omega]; exact h
  refine ⟨rfl, by rw [hU], by rw [hU]; exact fun k q h => hP _ q (up k q h), va_K.moved hW.alike F.1.2.2.2.2.2.1, ⟨fun i j p q hi hj e => by have := hD.1 _ _ p q (up i p hi) (up j q hj) e; omega, fun _ _ _ => trivial⟩, ?_, ?_⟩
  · rw [hU]; exact ((CO.kept F.1.2.2.2.2.2.2.1 hS.2.1).narrow hin).warm hW
  · rw [hU]; exact ((CN.kept F.2.1 hS.2.1).narrow hin).warm hW
theorem nw_make {x : XC} {g : XG} {y0 : XM} {ws : va_W} {hs : String} {ce sl pc : Nat} {L : List (Nat × Value)} {S : List Value} {z : XM} {ci N idx idx2 mc ms : Nat} {C : String} {T : u_T} {fs : List Value} {Pz : Nat → Option Value → va_W → Prop} (F : XN x g y0) (d1 : decode (xmB y0) pc = .ok (.new idx, 3)) (d2 : decode (xmB y0) (pc + 3) = .ok (.dup, 1)) (d3 : decode (xmB y0) (pc + 3 + 1) = .ok (.invokespecial idx2, 3)) (hin : ∀ w ∈ u_ws C T N, w ∈ TB) (ty0 : Nat → FieldType) (hty : ∀ k, k < N → parseFieldDescriptor (T k).2.2.1 = some (ty0 k)) (hcw : Cond.classLink (xmN y0).cls idx C ∈ TB) (hiw : Cond.instantiable C N ∈ TB) (hini : Cond.initialized C ∈ TB) (hc : vwCl[ci]? = some (C, T, N)) (hfs : ∀ j, j < N → defaultValue (ty0 j) = vp_V fs j) (hzc : (xmN z).cls = C) (hzn : (xmN z).name = "<init>") (hz : xcode z ∈ TB) (hzi : Cond.instanceMethod (xmN z) ∈ TB) (hzr : xmR z = none) (hd : (xmN z).cls ≠ "java/lang/invoke/MethodHandle" ∧ (xmN z).cls ≠ "java/lang/invoke/VarHandle" ∧ (parseMethodDescriptor (xmN z).desc).map (fun d => d.parameters.length) = some 0) (hlk : ((xmN y0).cls, idx2, xmN z, hs) ∈ nwS) (hroom : xmF z + 1 ≤ xmF y0 ∧ 8 + (xmL z + 11) + xmW z ≤ xmW y0) (hW : (S.map fun v => v.category).sum + 1 ≤ 8) (hN : ∀ q, New (x_l x) g z [.ref q] [(q, .inr (ci, fs))] mc ms (Pz q)) (hce : ce + 1 + mc ≤ (x_R x).cells) (hsl : sl + N + ms ≤ (x_R x).slots)
    (k : ∀ (q : Nat) (w1 : va_W), Pz q none w1 → EW x g (xmL y0) (ws ++ w1) (ce + 1 + mc) (sl + N + ms) (pc + 3 + 1 + 3) L (.ref q :: S)) (hno : ∀ q v w1, ¬ Pz q (some v) w1) : EW x g (xmL y0) ws ce sl pc L S := fun H locs ls hP hD hS hl => by
  refine va_new F.1.1 F.1.2.1 F.1.2.2.2.2.1 hin ty0 hty F.1.2.2.2.1 (F.1.2.2.2.2.1 _ hcw) (F.1.2.2.2.2.1 _ hiw) (F.1.2.2.2.2.1 _ hini) F.1.2.2.2.2.2.1 hP hD hS F.1.2.2.2.2.2.2.2.1 hc hfs (by omega) (by omega) d1 (fun q H1 hP1 hD1 hS1 => ?_)
  refine lv_dup F.1.1 F.1.2.1 d2 rfl ?_
  refine nw_back (P0 := Pz q) F hP1 hD1 hS1 hl (va_runIN (host := hs) (As := []) (rest := .ref q :: S) ⟨F.1.1, F.1.2.1, F.1.2.2.1, F.1.2.2.2.1, F.1.2.2.2.2.1⟩ (hN q H1.size) ⟨va_cnB (Ts := TB) 0 F.1.2.2.2.2.1 (tb_in hz) (by rw [← hzr]; rfl) rfl rfl (F.2.1.1 _ hlk) (by rw [hzc]; exact F.1.2.2.2.2.1 _ hini) hd ⟨Nat.le_trans hroom.1 F.1.2.2.2.2.2.2.2.2.1, Nat.le_trans hroom.2 F.1.2.2.2.2.2.2.2.2.2.1⟩, hzn, F.1.2.2.2.2.1 _ hzi⟩ ⟨xPn_blind _ _ _ _, xpn_at F hP1 hD1 hS1⟩ rfl rfl hl.1 rfl (lv_room (by simp only [List.map_cons, List.sum_cons]; show 1 + _ ≤ 8; omega)) d3 ⟨hce, hsl⟩) (fun r w1 h => ?_)
  cases r with
  | none => exact k q w1 h
  | some v => exact absurd h (hno q v w1)
theorem nw_mk0 {x : XC} {g : XG} {y0 : XM} {ws : va_W} {ce sl pc : Nat} {L : List (Nat × Value)} {S : List Value} {z : XM} {ci N idx idx2 mc ms : Nat} {C : String} {T : u_T} {fs : List Value} {Pz : Nat → Option Value → va_W → Prop} (F : XN x g y0) (d1 : decode (xmB y0) pc = .ok (.new idx, 3)) (d2 : decode (xmB y0) (pc + 3) = .ok (.dup, 1)) (d3 : decode (xmB y0) (pc + 3 + 1) = .ok (.invokespecial idx2, 3)) (hin : ∀ w ∈ u_ws C T N, w ∈ TB) (ty0 : Nat → FieldType) (hty : ∀ k, k < N → parseFieldDescriptor (T k).2.2.1 = some (ty0 k)) (hcw : Cond.classLink (xmN y0).cls idx C ∈ TB) (hiw : Cond.instantiable C N ∈ TB) (hini : Cond.initialized C ∈ TB) (hc : vwCl[ci]? = some (C, T, N)) (hfs : ∀ j, j < N → defaultValue (ty0 j) = vp_V fs j) (hzc : (xmN z).cls = C) (hzn : (xmN z).name = "<init>") (hz : xcode z ∈ TB) (hzi : Cond.instanceMethod (xmN z) ∈ TB) (hzr : xmR z = none) (hd : (xmN z).cls ≠ "java/lang/invoke/MethodHandle" ∧ (xmN z).cls ≠ "java/lang/invoke/VarHandle" ∧ (parseMethodDescriptor (xmN z).desc).map (fun d => d.parameters.length) = some 0) (hlk : Cond.methodLink (xmN y0).cls idx2 (xmN z) ∈ TB) (hroom : xmF z + 1 ≤ xmF y0 ∧ 8 + (xmL z + 11) + xmW z ≤ xmW y0) (hW : (S.map fun v => v.category).sum + 1 ≤ 8) (hN : ∀ q, New (x_l x) g z [.ref q] [(q, .inr (ci, fs))] mc ms (Pz q)) (hce : ce + 1 + mc ≤ (x_R x).cells) (hsl : sl + N + ms ≤ (x_R x).slots)
    (k : ∀ (q : Nat) (w1 : va_W), Pz q none w1 → EW x g (xmL y0) (ws ++ w1) (ce + 1 + mc) (sl + N + ms) (pc + 3 + 1 + 3) L (.ref q :: S)) (hno : ∀ q v w1, ¬ Pz q (some v) w1) : EW x g (xmL y0) ws ce sl pc L S := fun H locs ls hP hD hS hl => by
  refine va_new F.1.1 F.1.2.1 F.1.2.2.2.2.1 hin ty0 hty F.1.2.2.2.1 (F.1.2.2.2.2.1 _ hcw) (F.1.2.2.2.2.1 _ hiw) (F.1.2.2.2.2.1 _ hini) F.1.2.2.2.2.2.1 hP hD hS F.1.2.2.2.2.2.2.2.1 hc hfs (by omega) (by omega) d1 (fun q H1 hP1 hD1 hS1 => ?_)
  refine lv_dup F.1.1 F.1.2.1 d2 rfl ?_
  refine nw_back (P0 := Pz q) F hP1 hD1 hS1 hl (va_runI (As := []) (rest := .ref q :: S) ⟨F.1.1, F.1.2.1, F.1.2.2.1, F.1.2.2.2.1, F.1.2.2.2.2.1⟩ (hN q H1.size) (cwI (Ts := TB) 0 F.1.2.2.2.2.1 (tb_in hz) (by rw [← hzr]; rfl) rfl rfl (by rw [hzc]; exact F.1.2.2.2.2.1 _ hini) (F.1.2.2.2.2.1 _ hlk) (F.1.2.2.2.2.1 _ hzi) hzn hd ⟨Nat.le_trans hroom.1 F.1.2.2.2.2.2.2.2.2.1, Nat.le_trans hroom.2 F.1.2.2.2.2.2.2.2.2.2.1⟩) ⟨xPn_blind _ _ _ _, xpn_at F hP1 hD1 hS1⟩ rfl rfl hl.1 rfl (lv_room (by simp only [List.map_cons, List.sum_cons]; show 1 + _ ≤ 8; omega)) d3 ⟨hce, hsl⟩) (fun r w1 h => ?_)
  cases r with
  | none => exact k q w1 h
  | some v => exact absurd h (hno q v w1)
