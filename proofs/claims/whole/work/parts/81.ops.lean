theorem feeds_RB {K M : Mem} {n c y : Nat} (h : RB K M n) (hc : c < n) (hy : y ≤ 100) : RB (mu K 5 c (nI y)) (mu M 48 (2 * c + 1) (nI y)) n := by
  have e5 : ∀ q, q ≠ 5 → mu K 5 c (nI y) q = K q := fun q a => mu_k _ _ _ _ _ a
  refine ⟨by rw [e5 2 (by decide)]; exact h.ok, ?_, ?_, h.n8, by rw [e5 1 (by decide)]; exact h.kn, by rw [mu_k _ _ _ 38 _ (by decide)]; exact h.mn, fun i hi => ?_, fun i hi => ?_, h.n8, fun i hi => ?_⟩
  · unfold mR; rw [e5 2 (by decide), mu_k _ _ _ 47 _ (by decide)]; exact h.ru
  · rw [e5 3 (by decide), mu_k _ _ _ 47 _ (by decide)]; exact h.dr
  · rw [e5 4 (by decide), mu_j _ _ _ _ _ (by omega)]; exact h.li i hi
  · by_cases e : i = c
    · subst e; rw [mu_same, mu_same]
    · rw [mu_j _ _ _ _ _ (by omega), mu_j _ _ _ _ _ e]; exact h.ha i hi
  · rw [e5 4 (by decide)]
    by_cases e : i = c
    · subst e; rw [mu_same]; exact ⟨(h.tt.2 i hi).1, y, hy, rfl⟩
    · rw [mu_j _ _ _ _ _ e]; exact h.tt.2 i hi
theorem BU_F {K M K' M' : Mem} {T n : Nat} (h : BU K M T) (hB : RB K' M' n) (hK : ∀ q, q < 38 → q ≠ 5 → K' q = K q) (hM : ∀ q, 38 ≤ q → q ≠ 48 → M' q = M q) : BU K' M' T := by
  have e38 : M' 38 = M 38 := hM 38 (by decide) (by decide)
  obtain ⟨-, hC, hI, hSh, ⟨k, hS⟩, ⟨t, hTt⟩, hY, hKM, hfa, hto⟩ := h
  refine ⟨⟨n, hB⟩, ?_, RI_cong hI (fun q a b => hK q (by omega) (by omega)) (hM 56 (by decide) (by decide)) (hM 51 (by decide) (by decide)) (by rw [e38]), RSh_cong hSh (fun q a b => hK q (by omega) (by omega)) (hM 57 (by decide) (by decide)) (hM 58 (by decide) (by decide)) (hM 59 (by decide) (by decide)), ⟨k, RS_cong hS (by rw [hK 0 (by decide) (by decide)]) (by rw [hK 1 (by decide) (by decide)]) (hK 35 (by decide) (by decide)) (hK 36 (by decide) (by decide)) (by rw [e38]) (hM 54 (by decide) (by decide))⟩, ⟨t, RT_K (RT_of hTt (by rw [e38]) (hM 39 (by decide) (by decide))) (by rw [hK 7 (by decide) (by decide)]) (hK 8 (by decide) (by decide))⟩, ?_, KM_of hKM (fun q a b => hM q (by omega) (by omega)), ?_, ?_⟩
  · rw [cX_cong (hK 14 (by decide) (by decide)) (hK 15 (by decide) (by decide)), hK 2 (by decide) (by decide)]
    exact RC_cong hC (hM 51 (by decide) (by decide)) (by rw [e38])
  · unfold BY; rw [hK 8 (by decide) (by decide)]; exact hY
  · rw [hK 6 (by decide) (by decide), e38]; exact hfa
  · rw [hK 0 (by decide) (by decide), e38]; exact hto
theorem op_feeds {l : Launch} {g : XG} {M : Mem} {T : Nat} {c0 v0 : Int32} (h : BW M T) : PairI l g YX7_feeds YX8_feeds [.int c0, .int v0] M T := by
  obtain ⟨n, hB⟩ := h.1.1
  refine pairI (c_X7_feeds) (fun v1 M1 q => ?_)
  obtain ⟨rfl, q⟩ := q
  have eK : ∀ q, q ≠ 5 → M1 q = M q := fun x a => by
    rw [q]; split
    · rfl
    · exact mu_k _ _ _ _ _ a
  refine ⟨_, c_X8_feeds (M := M1) (K := M) (RB_cong hB (fun _ _ _ => rfl) (eK 47 (by decide)) (eK 48 (by decide)) (by rw [eK 38 (by decide)])), fun v2 M2 q2 => ?_⟩
  obtain ⟨rfl, q2⟩ := q2
  refine ⟨rfl, ?_⟩
  by_cases hc : (!sHasCow (M 1 4) c0 || outB v0 0 100) = true
  · rw [if_pos hc] at q q2
    subst q; subst q2
    exact BW_same h
  · rw [if_neg hc] at q q2
    simp only [Bool.or_eq_true, not_or] at hc
    have hb : sHasCow (M 1 4) c0 = true := by simpa using hc.1
    have hv : outB v0 0 100 = false := by simpa using hc.2
    obtain ⟨y, -, ly, rfl⟩ := outB_n (a := 0) (b := 100) (by decide) hv (by decide)
    simp only [sHasCow, Bool.and_eq_true, decide_eq_true_eq] at hb
    obtain ⟨j, lj, rfl⟩ := nI_of (x := c0) (Int32.not_lt.mpr hb.1.1)
    have ljn : j < n := (nI_ltI lj (by have := hB.n8; omega)).mp (by rw [← hB.kn]; exact hb.1.2)
    rw [nI_clamp lj] at q q2
    have hB1 : RB M M1 n := RB_cong hB (fun _ _ _ => rfl) (eK 47 (by decide)) (eK 48 (by decide)) (by rw [eK 38 (by decide)])
    have hB2 := feeds_RB hB1 ljn ly
    rw [← q, ← q2] at hB2
    exact fin2 (M1 := M1) (T' := T) h (BU_F (BU_M h.1 (fun x hx => eK x (by omega))) hB2 (fun x a b => eK x b) (fun x a b => by rw [q2, mu_k _ _ _ _ _ b])) (by omega) (fun x hx => by rw [q2, mu_k _ _ _ _ _ (by omega)]) (fun x a b => eK x (by omega))
theorem BU_I {K M K' M' : Mem} {T : Nat} (h : BU K M T) (hC : RC (cX K 14) (K 2 1) M' T) (hI : RI K' M' T) (hf : frI M M') (hK : ∀ q, q < 38 → (q < 20 ∨ 25 < q) → K' q = K q) : BU K' M' T := by
  obtain ⟨⟨n, hB⟩, -, -, hSh, ⟨k, hS⟩, ⟨t, hTt⟩, hY, hKM, hfa, hto⟩ := h
  have m : ∀ q, q ≠ 38 → q ≠ 51 → q ≠ 52 → q ≠ 53 → q ≠ 55 → q ≠ 56 → M' q = M q := hf.1
  refine ⟨⟨n, RB_cong hB (fun q a b => hK q (by omega) (by omega)) (m 47 (by decide) (by decide) (by decide) (by decide) (by decide) (by decide)) (m 48 (by decide) (by decide) (by decide) (by decide) (by decide) (by decide)) (hf.2 18 (by decide))⟩, ?_, hI, RSh_cong hSh (fun q a b => hK q (by omega) (by omega)) (m 57 (by decide) (by decide) (by decide) (by decide) (by decide) (by decide)) (m 58 (by decide) (by decide) (by decide) (by decide) (by decide) (by decide)) (m 59 (by decide) (by decide) (by decide) (by decide) (by decide) (by decide)), ⟨k, RS_cong hS (by rw [hK 0 (by decide) (by decide)]) (by rw [hK 1 (by decide) (by decide)]) (hK 35 (by decide) (by decide)) (hK 36 (by decide) (by decide)) (hf.2 28 (by decide)) (m 54 (by decide) (by decide) (by decide) (by decide) (by decide) (by decide))⟩, ⟨t, RT_K (RT_of hTt (hf.2 1 (by decide)) (m 39 (by decide) (by decide) (by decide) (by decide) (by decide) (by decide))) (by rw [hK 7 (by decide) (by decide)]) (hK 8 (by decide) (by decide))⟩, ?_, KM_of hKM (fun q a b => m q (by omega) (by omega) (by omega) (by omega) (by omega) (by omega)), ?_, ?_⟩
  · rw [cX_cong (hK 14 (by decide) (by decide)) (hK 15 (by decide) (by decide)), hK 2 (by decide) (by decide)]; exact hC
  · unfold BY; rw [hK 8 (by decide) (by decide)]; exact hY
  · rw [hK 6 (by decide) (by decide), hf.2 2 (by decide)]; exact hfa
  · rw [hK 0 (by decide) (by decide), hf.2 34 (by decide)]; exact hto
theorem op_keep {l : Launch} {g : XG} {M : Mem} {T : Nat} {k0 : Int32} (h : BW M T) : PairI l g YX7_keep YX8_keep [.int k0] M T := by
  obtain ⟨n, hB⟩ := h.1.1
  refine pairI (c_X7_keep h.z14 h.z h.im) (fun v1 M1 q => ?_)
  obtain ⟨rfl, q⟩ := q
  by_cases hc : outN k0 2 = true
  · rw [if_pos hc] at q
    subst q
    refine ⟨_, c_X8_keep (K := M1) (c := cX M1 14) (r := M1 2) (T := T) hB.ru h.1.2.1 h.1.2.2.1, fun v2 M2 q2 => ?_⟩
    obtain ⟨rfl, hC, hI, hf⟩ := q2
    rw [if_pos hc] at hI
    exact ⟨rfl, fin2 (M1 := M1) (T' := T) h (BU_I h.1 hC hI hf (fun _ _ _ => rfl)) (by omega) (fun x hx => hf.1 x (by omega) (by omega) (by omega) (by omega) (by omega) (by omega)) (fun _ _ _ => rfl)⟩
  · rw [if_neg hc] at q
    obtain ⟨j, lj, rfl⟩ := outN_n (m := 2) (by decide) (show outN k0 2 = false by simpa using hc)
    rw [nI_clamp (by omega)] at q
    have o : ∀ q, q ≠ 20 + 3 * j → q ≠ 20 + 3 * j + 1 → q ≠ 20 + 3 * j + 1 + 1 → M1 q = M q := fun x a b d => by rw [q, mu_k _ _ _ _ _ a, rd_o b d]
    have hU := BU_M h.1 (M' := M1) (fun x hx => o x (by omega) (by omega) (by omega))
    refine ⟨_, c_X8_keep (M := M1) (K := M) (c := cX M 14) (r := M 2) (T := T) (fun i hi => by rw [o 47 (by omega) (by omega) (by omega)]; exact hB.ru i hi) hU.2.1 hU.2.2.1, fun v2 M2 q2 => ?_⟩
    obtain ⟨rfl, hC, hI, hf⟩ := q2
    rw [if_neg hc, nI_clamp (by omega), ← q] at hI
    have cj : cX M1 (20 + 3 * j + 1) = cX M 14 := by
      rw [q, cX_cong (mu_k _ _ _ (20 + 3 * j + 1) _ (by omega)) (mu_k _ _ _ (20 + 3 * j + 1 + 1) _ (by omega)), cX_putC]
    have zz : ∀ i, i < 2 → zC (cX M1 (20 + 3 * i + 1)) := fun i hi => by
      by_cases e : i = j
      · subst e; rw [cj]; exact h.z14
      · rw [cX_cong (o (20 + 3 * i + 1) (by omega) (by omega) (by omega)) (o (20 + 3 * i + 1 + 1) (by omega) (by omega) (by omega))]; exact img_z h hi
    refine ⟨rfl, fin_BW (M1 := M1) (T' := T) (BU_I hU hC hI hf (fun x a b => o x (by omega) (by omega) (by omega))) (by omega) (fun x hx => hf.1 x (by omega) (by omega) (by omega) (by omega) (by omega) (by omega)) ?_ (zz 0 (by decide)) (zz 1 (by decide))⟩
    rw [cX_cong (o 16 (by omega) (by omega) (by omega)) (o 17 (by omega) (by omega) (by omega))]; exact h.2.1
theorem op_back {l : Launch} {g : XG} {M : Mem} {T : Nat} {k0 : Int32} (h : BW M T) : PairI l g YX7_back YX8_back [.int k0] M T := by
  obtain ⟨n, hB⟩ := h.1.1
  refine pairI (c_X7_back h.z14 h.z) (fun v1 M1 q => ?_)
  obtain ⟨rfl, q⟩ := q
  by_cases hc : outN k0 2 = true
  · rw [if_pos hc] at q
    subst q
    refine ⟨_, c_X8_back (K := M1) (c := cX M1 14) (r := M1 2) (T := T) h.1.2.1 h.1.2.2.1, fun v2 M2 q2 => ?_⟩
    obtain ⟨rfl, hC, hI, hf⟩ := q2
    rw [if_pos hc] at hC
    exact ⟨rfl, BW_c h (Or.inr ⟨rfl, rfl⟩) hC (Nat.le_refl T) (by omega) hf⟩
  · rw [if_neg hc] at q
    by_cases hd : M (20 + 3 * k0.toNatClampNeg) 1 = 0
    · rw [if_pos hd] at q
      subst q
      refine ⟨_, c_X8_back (K := M1) (c := cX M1 14) (r := M1 2) (T := T) h.1.2.1 h.1.2.2.1, fun v2 M2 q2 => ?_⟩
      obtain ⟨rfl, hC, hI, hf⟩ := q2
      rw [if_neg hc, if_pos hd] at hC
      exact ⟨rfl, BW_c h (Or.inr ⟨rfl, rfl⟩) hC (Nat.le_refl T) (by omega) hf⟩
    · rw [if_neg hd] at q
      subst q
      have hU := BU_M h.1 (c38 M (cX M (20 + 3 * k0.toNatClampNeg + 1)))
      refine ⟨_, c_X8_back (K := M) (c := cX M 14) (r := M 2) (T := T) hU.2.1 hU.2.2.1, fun v2 M2 q2 => ?_⟩
      obtain ⟨rfl, hC, hI, hf⟩ := q2
      rw [if_neg hc, if_neg hd] at hC
      exact ⟨rfl, BW_c h (Or.inl rfl) hC (Nat.le_refl T) (by omega) hf⟩
theorem BU_Sh {K M K' M' : Mem} {T : Nat} (h : BU K M T) (hSh : RSh K' M') (hf : frSh M M') (hK : ∀ q, q < 38 → (q < 27 ∨ 34 < q) → K' q = K q) : BU K' M' T := by
  obtain ⟨⟨n, hB⟩, hC, hI, -, ⟨k, hS⟩, ⟨t, hTt⟩, hY, hKM, hfa, hto⟩ := h
  have e38 : M' 38 = M 38 := hf 38 (by decide) (by decide) (by decide)
  refine ⟨⟨n, RB_cong hB (fun q a b => hK q (by omega) (by omega)) (hf 47 (by decide) (by decide) (by decide)) (hf 48 (by decide) (by decide) (by decide)) (by rw [e38])⟩, ?_, RI_cong hI (fun q a b => hK q (by omega) (by omega)) (hf 56 (by decide) (by decide) (by decide)) (hf 51 (by decide) (by decide) (by decide)) (by rw [e38]), hSh, ⟨k, RS_cong hS (by rw [hK 0 (by decide) (by decide)]) (by rw [hK 1 (by decide) (by decide)]) (hK 35 (by decide) (by decide)) (hK 36 (by decide) (by decide)) (by rw [e38]) (hf 54 (by decide) (by decide) (by decide))⟩, ⟨t, RT_K (RT_of hTt (by rw [e38]) (hf 39 (by decide) (by decide) (by decide))) (by rw [hK 7 (by decide) (by decide)]) (hK 8 (by decide) (by decide))⟩, ?_, KM_of hKM (fun q a b => hf q (by omega) (by omega) (by omega)), ?_, ?_⟩
  · rw [cX_cong (hK 14 (by decide) (by decide)) (hK 15 (by decide) (by decide)), hK 2 (by decide) (by decide)]; exact RC_cong hC (hf 51 (by decide) (by decide) (by decide)) (by rw [e38])
  · unfold BY; rw [hK 8 (by decide) (by decide)]; exact hY
  · rw [hK 6 (by decide) (by decide), e38]; exact hfa
  · rw [hK 0 (by decide) (by decide), e38]; exact hto
theorem sh_fin {M M1 M2 : Mem} {T : Nat} (h : BW M T) (o : ∀ q, (q < 27 ∨ 34 < q) → M1 q = M q) (hSh : RSh M1 M2) (hf : frSh M1 M2) : BW M2 (T + 8000) :=
  fin2 (M1 := M1) (T' := T) h (BU_Sh (BU_M h.1 (fun x hx => o x (by omega))) hSh hf (fun x a b => o x b)) (by omega) (fun x hx => hf x (by omega) (by omega) (by omega)) (fun x a b => o x (by omega))
theorem sh_in {M M1 : Mem} {T : Nat} (h : BW M T) (o : ∀ q, (q < 27 ∨ 34 < q) → M1 q = M q) : RSh M M1 := RSh_cong h.1.2.2.2.1 (fun _ _ _ => rfl) (o 57 (by decide)) (o 58 (by decide)) (o 59 (by decide))
theorem op_sheet {l : Launch} {g : XG} {M : Mem} {T : Nat} {k0 la n0 : Int32} (h : BW M T) : PairI l g YX7_sheet YX8_sheet [.int k0, .int la, .int n0] M T := by
  refine pairI (c_X7_sheet) (fun v1 M1 q => ?_)
  obtain ⟨rfl, q⟩ := q
  have o : ∀ q, (q < 27 ∨ 34 < q) → M1 q = M q := fun x hx => by
    rw [q]; split
    · rfl
    · rename_i hc
      simp only [Bool.or_eq_true, not_or] at hc
      split
      · rfl
      · obtain ⟨j, lj, e⟩ := outN_n (m := 4) (by decide) (show outN k0 4 = false by simpa using hc.1)
        rw [e, nI_clamp (by omega)]
        show (if x = 27 + 2 * j + 1 then _ else mu (mu M (27 + 2 * j) 1 la) (27 + 2 * j) 2 n0 x) = _
        rw [if_neg (by omega), mu_k _ _ _ _ _ (by omega), mu_k _ _ _ _ _ (by omega)]
  refine ⟨_, c_X8_sheet (M := M1) (K := M) (sh_in h o), fun v2 M2 q2 => ?_⟩
  obtain ⟨rfl, hSh, hf⟩ := q2
  rw [← q] at hSh
  exact ⟨rfl, sh_fin h o hSh hf⟩
theorem op_lay {l : Launch} {g : XG} {M : Mem} {T : Nat} {k0 i0 v0 : Int32} (h : BW M T) : PairI l g YX7_lay YX8_lay [.int k0, .int i0, .int v0] M T := by
  refine pairI (c_X7_lay) (fun v1 M1 q => ?_)
  obtain ⟨rfl, q⟩ := q
  have o : ∀ q, (q < 27 ∨ 34 < q) → M1 q = M q := fun x hx => by
    rw [q]; split
    · rfl
    · rename_i hc
      split
      · obtain ⟨j, lj, e⟩ := outN_n (m := 4) (by decide) (show outN k0 4 = false by simpa using hc)
        rw [e, nI_clamp (by omega), mu_k _ _ _ _ _ (by omega)]
      · rfl
  refine ⟨_, c_X8_lay (M := M1) (K := M) (sh_in h o), fun v2 M2 q2 => ?_⟩
  obtain ⟨rfl, hSh, hf⟩ := q2
  rw [← q] at hSh
  exact ⟨rfl, sh_fin h o hSh hf⟩
theorem BU_R {K M K' M' : Mem} {T T' : Nat} (h : BU K M T) (hC : RC (cX K' 14) (K 2 1) M' T') (hT : T ≤ T') (hf : frR M M') (hK : ∀ q, q < 38 → q ≠ 0 → q ≠ 14 → q ≠ 15 → K' q = K q) (h10 : K' 0 10 = K 0 10) (h11 : K' 0 11 = M' 38 34) : BU K' M' T' := by
  obtain ⟨⟨n, hB⟩, -, hI, hSh, ⟨k, hS⟩, ⟨t, hTt⟩, hY, hKM, hfa, hto⟩ := h
  have m : ∀ q, q ≠ 38 → q ≠ 51 → q ≠ 52 → q ≠ 53 → q ≠ 55 → M' q = M q := hf.1
  have hI2 : RI K' M' T' := by
    intro k lk
    obtain ⟨h1, h2, h3⟩ := hI k lk
    have e6 : M' 56 = M 56 := m 56 (by decide) (by decide) (by decide) (by decide) (by decide)
    have c0 : cX K' (20 + 3 * k + 1) = cX K (20 + 3 * k + 1) := cX_cong (hK (20 + 3 * k + 1) (by omega) (by omega) (by omega) (by omega)) (hK (20 + 3 * k + 1 + 1) (by omega) (by omega) (by omega) (by omega))
    refine ⟨by rw [e6]; exact h1, by rw [e6, hK (20 + 3 * k) (by omega) (by omega) (by omega) (by omega)]; exact h2, fun q => ?_⟩
    rw [e6] at q
    obtain ⟨g1, g2, g3, g4⟩ := h3 q
    refine ⟨?_, okM_fr g2 (hf.2.2.1 _ (by omega)), by rw [c0]; exact okC_mono g3 hT, hf.2.2.2 g4⟩
    rw [c0]; exact (cM_eq (fun i hi => hf.2.2.1 _ (by omega))).trans g1
  refine ⟨⟨n, RB_cong hB (fun q a b => hK q (by omega) (by omega) (by omega) (by omega)) (m 47 (by decide) (by decide) (by decide) (by decide) (by decide)) (m 48 (by decide) (by decide) (by decide) (by decide) (by decide)) (hf.2.1 18 (by decide) (by decide))⟩, by rw [hK 2 (by decide) (by decide) (by decide) (by decide)]; exact hC, hI2, RSh_cong hSh (fun q a b => hK q (by omega) (by omega) (by omega) (by omega)) (m 57 (by decide) (by decide) (by decide) (by decide) (by decide)) (m 58 (by decide) (by decide) (by decide) (by decide) (by decide)) (m 59 (by decide) (by decide) (by decide) (by decide) (by decide)), ⟨k, RS_cong hS h10 (by rw [hK 1 (by decide) (by decide) (by decide) (by decide)]) (hK 35 (by decide) (by decide) (by decide) (by decide)) (hK 36 (by decide) (by decide) (by decide) (by decide)) (hf.2.1 28 (by decide) (by decide)) (m 54 (by decide) (by decide) (by decide) (by decide) (by decide))⟩, ⟨t, RT_K (RT_of hTt (hf.2.1 1 (by decide) (by decide)) (m 39 (by decide) (by decide) (by decide) (by decide) (by decide))) (by rw [hK 7 (by decide) (by decide) (by decide) (by decide)]) (hK 8 (by decide) (by decide) (by decide) (by decide))⟩, ?_, KM_of hKM (fun q a b => m q (by omega) (by omega) (by omega) (by omega) (by omega)), ?_, h11⟩
  · unfold BY; rw [hK 8 (by decide) (by decide) (by decide) (by decide)]; exact hY
  · rw [hK 6 (by decide) (by decide) (by decide) (by decide), hf.2.1 2 (by decide) (by decide)]; exact hfa
theorem op_read {l : Launch} {g : XG} {M : Mem} {T : Nat} {k0 la f n0 : Int32} (h : BW M T) (hT : T + 9000 < 2 ^ 31) : PairI l g YX7_read YX8_read [.int k0, .int la, .int f, .int n0] M T := by
  obtain ⟨n, hB⟩ := h.1.1
  refine pairI (c_X7_read h.R h.sh) (fun v1 M1 q => ?_)
  obtain ⟨rfl, q⟩ := q
  have o : ∀ q, q ≠ 0 → q ≠ 14 → q ≠ 15 → M1 q = M q := fun x a b d => by
    rw [q]; split
    · rfl
    · split
      · rw [mu_k _ _ _ _ _ a, rd_o b d]
      · rfl
  have o10 : M1 0 10 = M 0 10 := by
    rw [q]; split
    · rfl
    · split
      · rw [mu_j _ _ _ _ _ (by decide), rd_o (by decide) (by decide)]
      · rfl
  have hU := BU_M h.1 (M' := M1) (fun x hx => o x (by omega) (by omega) (by omega))
  refine ⟨_, c_X8_read (M := M1) (K := M) (c := cX M 14) (r := M 2) (T := T) h.R (fun i hi => by rw [o 47 (by decide) (by decide) (by decide)]; exact hB.ru i hi) hU.2.1 (by omega) hU.2.2.2.1, fun v2 M2 q2 => ?_⟩
  obtain ⟨rfl, hC, h34, hf⟩ := q2
  refine ⟨rfl, fin2 (M1 := M1) (T' := T + 8000) h (BU_R hU ?_ (by omega) hf (fun x a b c d => o x b c d) o10 ?_) (by omega) (fun x hx => hf.1 x (by omega) (by omega) (by omega) (by omega) (by omega)) (fun x a b => o x (by omega) (by omega) (by omega))⟩
  · have e14 : cX M1 14 = (if (outN k0 4 || (outB la 0 2 || outB n0 0 20)) = true then cX M 14 else if sBadAt M (27 + 2 * k0.toNatClampNeg) f (sPairs M (27 + 2 * k0.toNatClampNeg) la f n0).toNatClampNeg 0 = 0 then sDo (M 2) M (27 + 2 * k0.toNatClampNeg) f (sPairs M (27 + 2 * k0.toNatClampNeg) la f n0).toNatClampNeg (cX M 14) else cX M 14) := by
      rw [q]; split
      · rfl
      · split
        · rw [cX_cong (mu_k _ _ _ 14 _ (by decide)) (mu_k _ _ _ (14 + 1) _ (by decide)), cX_putC]
        · rfl
    rw [e14]; exact hC
  · rw [h34, q]; split
    · exact h.1.2.2.2.2.2.2.2.2.2
    · split
      · exact mu_same _ _ _ _
      · exact h.1.2.2.2.2.2.2.2.2.2
