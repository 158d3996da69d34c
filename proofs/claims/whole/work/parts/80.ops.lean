theorem op_fill {l : Launch} {g : XG} {M : Mem} {T : Nat} {b w0 : Int32} (h : BW M T) : PairI l g YX7_fill YX8_fill [.int b, .int w0] M T := by
  obtain ⟨n, hB⟩ := h.1.1
  refine pairI (c_X7_fill) (fun v1 M1 q => ?_)
  obtain ⟨rfl, q⟩ := q
  have ez : sFillN 7 (sLitN (M 4) b 8) (sHardOf (M 4) (M 5) b) w0 (M 3) (cX M 14) = sRowB M b w0 := fill_z h.z14
  rw [ez] at q
  subst q
  by_cases hc : (!sHasCows (M 1 4) b || outB w0 0 400) = true
  · rw [if_pos hc, if_pos hc]
    refine ⟨_, c_X8_fill hB h.1.2.1, fun v2 M2 q2 => ?_⟩
    obtain ⟨z1, z2, z3⟩ := q2
    rw [if_pos hc] at z1 z2
    exact ⟨z1, BW_c h (Or.inr ⟨rfl, rfl⟩) z2 (by omega) (by omega) z3⟩
  · rw [if_neg hc, if_neg hc]
    refine ⟨_, c_X8_fill (M := putC M 14 (sRowB M b w0)) (RB_cong hB (fun _ _ _ => rfl) (c38 M _ 47 (by decide)) (c38 M _ 48 (by decide)) (by rw [c38 M _ 38 (by decide)])) (BU_M h.1 (c38 M _)).2.1, fun v2 M2 q2 => ?_⟩
    obtain ⟨z1, z2, z3⟩ := q2
    rw [if_neg hc] at z1 z2
    exact ⟨z1, BW_c h (Or.inl rfl) z2 (by omega) (by omega) z3⟩
theorem op_warm {l : Launch} {g : XG} {M : Mem} {T : Nat} {w0 : Int32} (h : BW M T) : PairI l g YX7_warm YX8_warm [.int w0] M T := by
  obtain ⟨n, hB⟩ := h.1.1
  refine pairI (c_X7_warm) (fun v1 M1 q => ?_)
  obtain ⟨rfl, q⟩ := q
  rw [mu_c2] at q
  subst q
  by_cases hc : outB w0 0 400 = true
  · rw [if_pos hc, if_pos hc]
    refine ⟨_, c_X8_warm h.R hB.ru h.1.2.1, fun v2 M2 q2 => ?_⟩
    obtain ⟨z1, z2, z3⟩ := q2
    rw [if_pos hc] at z1 z2
    exact ⟨z1, BW_c h (Or.inr ⟨rfl, rfl⟩) z2 (by omega) (by omega) z3⟩
  · rw [if_neg hc, if_neg hc]
    refine ⟨_, c_X8_warm (M := putC M 14 (upd (cX M 14) 1 w0)) (c := cX M 14) (r := M 2) (T := T) h.R (fun j hj => by rw [c38 M _ 47 (by decide)]; exact hB.ru j hj) (BU_M h.1 (c38 M _)).2.1, fun v2 M2 q2 => ?_⟩
    obtain ⟨z1, z2, z3⟩ := q2
    rw [if_neg hc] at z1 z2
    exact ⟨z1, BW_c h (Or.inl rfl) z2 (by omega) (by omega) z3⟩
theorem img_z {M : Mem} {T k : Nat} (h : BW M T) (hk : k < 2) : zC (cX M (20 + 3 * k + 1)) := by
  match k, hk with
  | 0, _ => exact h.2.2.1
  | 1, _ => exact h.2.2.2
theorem RS_0 {K M : Mem} (h1 : K 0 10 = 0) (h2 : M 38 28 = 0) : RS K M 0 := ⟨⟨by decide, h1, fun i hi => absurd hi (by omega)⟩, h2, fun i hi => absurd hi (by omega)⟩
theorem BU_S {K M K' M' : Mem} {T k : Nat} (h : BU K M T) (hS : RS K' M' k) (hK : ∀ q, q < 38 → q ≠ 0 → q ≠ 35 → q ≠ 36 → K' q = K q) (h11 : K' 0 11 = K 0 11) (hM : ∀ q, 38 < q → q ≠ 54 → M' q = M q) (hj : ∀ j, j ≠ 28 → M' 38 j = M 38 j) : BU K' M' T := by
  obtain ⟨⟨n, hB⟩, hC, hI, hSh, -, ⟨t, hTt⟩, hY, hKM, hfa, hto⟩ := h
  refine ⟨⟨n, RB_cong hB (fun q a b => hK q (by omega) (by omega) (by omega) (by omega)) (hM 47 (by decide) (by decide)) (hM 48 (by decide) (by decide)) (hj 18 (by decide))⟩, ?_, RI_cong hI (fun q a b => hK q (by omega) (by omega) (by omega) (by omega)) (hM 56 (by decide) (by decide)) (hM 51 (by decide) (by decide)) (hj 24 (by decide)), RSh_cong hSh (fun q a b => hK q (by omega) (by omega) (by omega) (by omega)) (hM 57 (by decide) (by decide)) (hM 58 (by decide) (by decide)) (hM 59 (by decide) (by decide)), ⟨k, hS⟩, ⟨t, RT_K (RT_of hTt (hj 1 (by decide)) (hM 39 (by decide) (by decide))) (by rw [hK 7 (by decide) (by decide) (by decide) (by decide)]) (hK 8 (by decide) (by decide) (by decide) (by decide))⟩, ?_, KM_of hKM (fun q a b => hM q (by omega) (by omega)), ?_, ?_⟩
  · rw [cX_cong (hK 14 (by decide) (by decide) (by decide) (by decide)) (hK 15 (by decide) (by decide) (by decide) (by decide)), hK 2 (by decide) (by decide) (by decide) (by decide)]
    exact RC_cong hC (hM 51 (by decide) (by decide)) (hj 24 (by decide))
  · unfold BY; rw [hK 8 (by decide) (by decide) (by decide) (by decide)]; exact hY
  · rw [hK 6 (by decide) (by decide) (by decide) (by decide), hj 2 (by decide)]; exact hfa
  · rw [h11, hj 34 (by decide)]; exact hto
theorem z_cong {M M1 : Mem} {T : Nat} (h : BW M T) (e : ∀ q, 16 ≤ q → q ≤ 25 → M1 q = M q) : zC (cX M1 16) ∧ zC (cX M1 21) ∧ zC (cX M1 24) := by
  rw [cX_cong (e 16 (by decide) (by decide)) (e 17 (by decide) (by decide)), cX_cong (e 21 (by decide) (by decide)) (e 22 (by decide) (by decide)), cX_cong (e 24 (by decide) (by decide)) (e 25 (by decide) (by decide))]
  exact h.2
theorem fin2 {M M1 M2 : Mem} {T T' : Nat} (h : BW M T) (hU : BU M1 M2 T') (hT : T' ≤ T + 8000) (fM : ∀ q, q < 38 → M2 q = M1 q) (e : ∀ q, 16 ≤ q → q ≤ 25 → M1 q = M q) : BW M2 (T + 8000) := by
  obtain ⟨z6, z1, z4⟩ := z_cong h e
  exact fin_BW hU hT fM z6 z1 z4
theorem op_forget {l : Launch} {g : XG} {M : Mem} {T : Nat} (h : BW M T) : PairI l g YX7_forget YX8_forget [] M T := by
  obtain ⟨k, hS⟩ := h.1.2.2.2.2.1
  refine pairI (c_X7_forget) (fun v1 M1 q => ?_)
  obtain ⟨rfl, rfl⟩ := q
  refine ⟨_, c_X8_forget, fun v2 M2 q2 => ?_⟩
  obtain ⟨rfl, rfl⟩ := q2
  refine ⟨by rw [mu_k _ _ _ 38 _ (by decide)]; exact hS.2.1.trans hS.1.2.1.symm, fin2 (M1 := mu M 0 10 0) (T' := T) h (BU_S (k := 0) (BU_M h.1 (fun q hq => mu_k _ _ _ _ _ (by omega))) (RS_0 (mu_same _ _ _ _) (mu_same _ _ _ _)) (fun q a b c d => mu_k _ _ _ _ _ b) (mu_j _ _ _ _ _ (by decide)) (fun q a b => mu_k _ _ _ _ _ (by omega)) (fun j hj => mu_j _ _ _ _ _ hj)) (by omega) (fun q hq => mu_k _ _ _ _ _ (by omega)) (fun q a b => mu_k _ _ _ _ _ (by omega))⟩
theorem saw_RS {M : Mem} {k : Nat} {b t : Int32} (hS : RS M M k) (hk : k < 8) (hb : sHasCows (M 1 4) b = true) (ht : outB t 0 400 = false) {M1 M2 : Mem} (e1 : M1 = mu (mu (mu M 35 k b) 36 k t) 0 10 (nI (k + 1))) (e2 : M2 = mu (mu (mu M1 54 (2 * k) b) 54 (2 * k + 1) t) 38 28 (nI (k + 1))) : RS M1 M2 (k + 1) := by
  obtain ⟨x, -, lx, rfl⟩ := outB_n (a := 0) (b := 400) (by decide) ht (by decide)
  obtain ⟨⟨h1, h2, h3⟩, h4, h5⟩ := hS
  have a35 : ∀ i, M1 35 i = if i = k then b else M 35 i := fun i => by
    rw [e1, mu_k _ _ _ 35 _ (by decide), mu_k _ _ _ 35 _ (by decide)]
    by_cases e : i = k
    · subst e; rw [mu_same, if_pos rfl]
    · rw [mu_j _ _ _ _ _ e, if_neg e]
  have a36 : ∀ i, M1 36 i = if i = k then nI x else M 36 i := fun i => by
    rw [e1, mu_k _ _ _ 36 _ (by decide)]
    by_cases e : i = k
    · subst e; rw [mu_same, if_pos rfl]
    · rw [mu_j _ _ _ _ _ e, if_neg e, mu_k _ _ _ 36 _ (by decide)]
  have a54 : ∀ i, M2 54 i = if i = 2 * k + 1 then nI x else if i = 2 * k then b else M 54 i := fun i => by
    rw [e2, mu_k _ _ _ 54 _ (by decide)]
    by_cases e : i = 2 * k + 1
    · subst e; rw [mu_same, if_pos rfl]
    · rw [mu_j _ _ _ _ _ e, if_neg e]
      by_cases e3 : i = 2 * k
      · subst e3; rw [mu_same, if_pos rfl]
      · rw [mu_j _ _ _ _ _ e3, if_neg e3, e1, mu_k _ _ _ 54 _ (by decide), mu_k _ _ _ 54 _ (by decide), mu_k _ _ _ 54 _ (by decide)]
  have a14 : M1 1 4 = M 1 4 := by rw [e1, mu_k _ _ _ 1 _ (by decide), mu_k _ _ _ 1 _ (by decide), mu_k _ _ _ 1 _ (by decide)]
  refine ⟨⟨by omega, by rw [e1, mu_same], fun i hi => ?_⟩, by rw [e2, mu_same], fun i hi => ?_⟩
  · rw [a35, a36, a14]
    by_cases e : i = k
    · rw [if_pos e, if_pos e]; exact ⟨hb, x, lx, rfl⟩
    · rw [if_neg e, if_neg e]; exact h3 i (by omega)
  · rw [a54, a54, a35, a36]
    by_cases e : i = k
    · subst e; rw [if_neg (by omega), if_pos rfl, if_pos rfl, if_pos rfl, if_pos rfl]; exact ⟨rfl, rfl⟩
    · repeat rw [if_neg (by omega)]
      exact h5 i (by omega)
theorem op_saw {l : Launch} {g : XG} {M : Mem} {T : Nat} {b t : Int32} (h : BW M T) : PairI l g YX7_saw YX8_saw [.int b, .int t] M T := by
  obtain ⟨n, hB⟩ := h.1.1
  obtain ⟨k, hS⟩ := h.1.2.2.2.2.1
  refine pairI (c_X7_saw hS.1.2.1 hS.1.1) (fun v1 M1 q => ?_)
  obtain ⟨rfl, q⟩ := q
  have e1 : ∀ q, 38 ≤ q → M1 q = M q := fun x hx => by
    rw [q]; split
    · rfl
    · split
      · rw [mu_k _ _ _ _ _ (by omega), mu_k _ _ _ _ _ (by omega), mu_k _ _ _ _ _ (by omega)]
      · rfl
  have eK : ∀ q, q ≠ 0 → q ≠ 35 → q ≠ 36 → M1 q = M q := fun x a b c => by
    rw [q]; split
    · rfl
    · split
      · rw [mu_k _ _ _ _ _ a, mu_k _ _ _ _ _ c, mu_k _ _ _ _ _ b]
      · rfl
  have hU := BU_M h.1 e1
  refine ⟨_, c_X8_saw (M := M1) (K := M) (k := k) (RB_cong hB (fun _ _ _ => rfl) (e1 47 (by decide)) (e1 48 (by decide)) (by rw [e1 38 (by decide)])) (by rw [e1 38 (by decide)]; exact hS.2.1) hS.1.1, fun v2 M2 q2 => ?_⟩
  obtain ⟨rfl, q2⟩ := q2
  refine ⟨rfl, ?_⟩
  by_cases hc : (!sHasCows (M 1 4) b || outB t 0 400) = true
  · rw [if_pos hc] at q q2
    subst q; subst q2
    exact BW_same h
  · rw [if_neg hc] at q q2
    by_cases h8 : k < 8
    · rw [if_pos h8] at q q2
      simp only [Bool.or_eq_true, not_or] at hc
      have hb : sHasCows (M 1 4) b = true := by simpa using hc.1
      have ht : outB t 0 400 = false := by simpa using hc.2
      refine fin2 (M1 := M1) (T' := T) h (BU_S hU (saw_RS hS h8 hb ht q q2) (fun x a b c d => eK x b c d) ?_ (fun x a b => ?_) (fun j hj => ?_)) (by omega) (fun x hx => ?_) (fun x a b => eK x (by omega) (by omega) (by omega))
      · rw [q, mu_j _ _ _ _ _ (by decide), mu_k _ _ _ 0 _ (by decide), mu_k _ _ _ 0 _ (by decide)]
      · rw [q2, mu_k _ _ _ _ _ (by omega), mu_k _ _ _ _ _ b, mu_k _ _ _ _ _ b]
      · rw [q2, mu_j _ _ _ _ _ hj, mu_k _ _ _ 38 _ (by decide), mu_k _ _ _ 38 _ (by decide)]
      · rw [q2, mu_k _ _ _ _ _ (by omega), mu_k _ _ _ _ _ (by omega), mu_k _ _ _ _ _ (by omega)]
    · rw [if_neg h8] at q q2
      subst q; subst q2
      exact BW_same h
theorem op_end {l : Launch} {g : XG} {M : Mem} {T : Nat} {n0 : Int32} (h : BW M T) : PairI l g YX7_end YX8_end [.int n0] M T := by
  obtain ⟨t, ht⟩ := h.1.2.2.2.2.2.1
  refine pairI (c_X7_end) (fun v1 M1 q => ?_)
  obtain ⟨rfl, rfl⟩ := q
  have eK : ∀ q, q ≠ 7 → (if outB n0 0 (M 7 1) = true then M else mu M 7 1 n0) q = M q := fun x a => by
    split
    · rfl
    · exact mu_k _ _ _ _ _ a
  have hU := BU_M h.1 (M' := if outB n0 0 (M 7 1) = true then M else mu M 7 1 n0) (fun q hq => eK q (by omega))
  refine ⟨_, c_X8_end (K := M) (t := t) (RT_of ht (by rw [eK 38 (by decide)]) (eK 39 (by decide))), fun v2 M2 q2 => ?_⟩
  obtain ⟨rfl, ht2, hf⟩ := q2
  refine ⟨rfl, fin2 (T' := T) h (BU_cong hU (fun q a b c d e => eK q c) (fun q a b c d => hf.1 q (by omega) b) (hf.2 18 (by decide)) (hf.2 24 (by decide)) (hf.2 28 (by decide)) (hf.2 34 (by decide)) ht2 ?_ ?_) (by omega) (fun q hq => hf.1 q (by omega) (by omega)) (fun q a b => eK q (by omega))⟩
  · unfold BY; rw [eK 8 (by decide)]; exact h.1.2.2.2.2.2.2.1
  · rw [eK 6 (by decide), hf.2 2 (by decide), eK 38 (by decide)]; exact h.1.2.2.2.2.2.2.2.2.1
theorem op_feed {l : Launch} {g : XG} {M : Mem} {T : Nat} {z : Int64} (h : BW M T) : PairI l g YX7_feed YX8_feed [.long z] M T := by
  obtain ⟨t, ht⟩ := h.1.2.2.2.2.2.1
  refine pairI (c_X7_feed ht.2.1 ht.1) (fun v1 M1 q => ?_)
  obtain ⟨rfl, rfl⟩ := q
  have eK : ∀ q, q ≠ 7 → q ≠ 8 → (if t ≤ 312 then putT M t z 8 else M) q = M q := fun x a b => by
    split
    · show (if x = 8 then _ else mu M 7 1 (nI (t + 8)) x) = _
      rw [if_neg b, mu_k _ _ _ _ _ a]
    · rfl
  have hU := BU_M h.1 (M' := if t ≤ 312 then putT M t z 8 else M) (fun q hq => eK q (by omega) (by omega))
  refine ⟨_, c_X8_feed (K := M) (t := t) (RT_of ht (by rw [eK 38 (by decide) (by decide)]) (eK 39 (by decide) (by decide))), fun v2 M2 q2 => ?_⟩
  obtain ⟨rfl, ht2, hf⟩ := q2
  refine ⟨rfl, fin2 (T' := T) h (BU_cong hU (fun q a b c d e => eK q c d) (fun q a b c d => hf.1 q (by omega) b) (hf.2 18 (by decide)) (hf.2 24 (by decide)) (hf.2 28 (by decide)) (hf.2 34 (by decide)) ht2 ?_ ?_) (by omega) (fun q hq => hf.1 q (by omega) (by omega)) (fun q a b => eK q (by omega) (by omega))⟩
  · intro i
    split
    · show ∃ x : Int32, (if t ≤ i ∧ i < t + 8 then byB z (i - t) else M 8 i) = _
      split
      · exact ⟨_, rfl⟩
      · exact h.1.2.2.2.2.2.2.1 i
    · exact h.1.2.2.2.2.2.2.1 i
  · rw [eK 6 (by decide) (by decide), hf.2 2 (by decide), eK 38 (by decide) (by decide)]; exact h.1.2.2.2.2.2.2.2.2.1
theorem op_dairy {l : Launch} {g : XG} {M : Mem} {T : Nat} (h : BW M T) : PairI l g YX7_dairy YX8_dairy [] M T := by
  obtain ⟨t, ht⟩ := h.1.2.2.2.2.2.1
  refine pairI (c_X7_dairy ht.2.1 ht.1) (fun v1 M1 q => ?_)
  obtain ⟨rfl, rfl⟩ := q
  have zo : ∀ q, q ≠ 6 → q ≠ 7 → (q < 9 ∨ 13 < q) → rdm 321 (inR M) q = M q := fun q a b c => by rw [rdm_o _ _ a b c, inR_o _ a b c]
  have eK : ∀ q, (16 ≤ q ∧ q ≠ 20 ∧ q ≠ 23) → dyM (rdm 321 (inR M)) q = M q := fun q a => by
    unfold dyM
    split
    · rw [dyC_o _ (by omega) (by omega) (by omega) (by omega) (by omega) (by omega) (by omega), zo q (by omega) (by omega) (by omega)]
    · rw [mu_k _ _ _ _ _ (by omega), zo q (by omega) (by omega) (by omega)]
  have eJ : ∀ q, q = 20 ∨ q = 23 → ∀ j, j ≠ 1 → dyM (rdm 321 (inR M)) q j = M q j := fun q a j hj => by
    unfold dyM
    split
    · rw [← zo q (by omega) (by omega) (by omega)]
      rcases a with rfl | rfl
      · rw [dyC, mu_k _ _ _ 20 _ (by decide), mu_j _ _ _ _ _ hj, mu_k _ _ _ 20 _ (by decide), dyB, rd_o (by decide) (by decide), dyA, becL, mu_k _ _ _ 20 _ (by decide), if_neg (by decide), if_neg (by decide), if_neg (by decide), if_neg (by decide), mu_k _ _ _ 20 _ (by decide)]
      · rw [dyC, mu_j _ _ _ _ _ hj, mu_k _ _ _ 23 _ (by decide), mu_k _ _ _ 23 _ (by decide), dyB, rd_o (by decide) (by decide), dyA, becL, mu_k _ _ _ 23 _ (by decide), if_neg (by decide), if_neg (by decide), if_neg (by decide), if_neg (by decide), mu_k _ _ _ 23 _ (by decide)]
    · rw [mu_k _ _ _ _ _ (by omega), zo q (by omega) (by omega) (by omega)]
  refine ⟨_, c_X8_dairy (BU_M h.1 (fun q hq => eK q (by omega))), fun v2 M2 q2 => ?_⟩
  obtain ⟨rfl, hU, hf⟩ := q2
  refine ⟨rfl, fin_BW hU (by omega) hf ?_ ?_ ?_⟩
  · rw [cX_cong (eK 16 (by decide)) (eK 17 (by decide))]; exact h.2.1
  · rw [cX_cong (eK 21 (by decide)) (eK 22 (by decide))]; exact h.2.2.1
  · rw [cX_cong (eK 24 (by decide)) (eK 25 (by decide))]; exact h.2.2.2
