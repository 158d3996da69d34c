theorem outN_B {v hi : Int32} {m : Nat} (hm : m < 2 ^ 31) (e : hi = nI (m - 1)) (h1 : 1 ≤ m) : outB v 0 hi = outN v (nI m) := by
  subst e
  unfold outB outN
  by_cases h0 : v < 0
  · rw [decide_eq_true h0]; rfl
  · obtain ⟨j, hj, rfl⟩ := nI_of h0
    rw [decide_eq_false h0]
    congr 1
    by_cases q : j < m
    · rw [decide_eq_false (Int32.not_lt.mpr (nI_le (show j ≤ m - 1 by omega) (by omega))), decide_eq_false (nI_ge q hm)]
    · rw [decide_eq_true (nI_lt (show m - 1 < j by omega) hj), decide_eq_true (nI_le (show m ≤ j by omega) hj)]
theorem out2 (v : Int32) : outB v 0 1 = outN v 2 := outN_B (m := 2) (by decide) rfl (by decide)
theorem out4 (v : Int32) : outB v 0 3 = outN v 4 := outN_B (m := 4) (by decide) rfl (by decide)
theorem outN_n {v : Int32} {m : Nat} (hm : m < 2 ^ 31) (h : outN v (nI m) = false) : ∃ j, j < m ∧ v = nI j := by
  simp only [outN, Bool.or_eq_false_iff, decide_eq_false_iff_not] at h
  obtain ⟨j, hj, rfl⟩ := nI_of h.1
  exact ⟨j, by rcases Nat.lt_or_ge j m with q | q; · exact q
               · exact absurd (nI_le q hj) h.2, rfl⟩
-- the images
def IM (K M : Mem) (T k : Nat) : Prop := (M 56 k = 0 ∨ M 56 k = 1) ∧ K (20 + 3 * k) 1 = M 56 k ∧ (M 56 k = 1 → cM M (32 + 16 * k) = cX K (20 + 3 * k + 1) ∧ okM M (32 + 16 * k) ∧ okC T (cX K (20 + 3 * k + 1)) ∧ M 38 24 = 1)
def RI (K M : Mem) (T : Nat) : Prop := ∀ k, k < 2 → IM K M T k
theorem RI_fr {K M M' : Mem} {T : Nat} (h : RI K M T) (hf : frB M M') (ha : M 38 24 = 1 → M' 38 24 = 1) : RI K M' T := by
  intro k hk
  have e6 : M' 56 = M 56 := hf.1 56 (by decide) (by decide) (by decide) (by decide) (by decide)
  obtain ⟨h1, h2, h3⟩ := h k hk
  refine ⟨by rw [e6]; exact h1, by rw [e6]; exact h2, fun q => ?_⟩
  rw [e6] at q
  obtain ⟨g1, g2, g3, g4⟩ := h3 q
  exact ⟨(cM_eq (fun i hi => hf.2.2.1 _ (by omega))).trans g1, okM_fr g2 (hf.2.2.1 _ (by omega)), g3, ha g4⟩
def frI (M M' : Mem) : Prop := (∀ q, q ≠ 38 → q ≠ 51 → q ≠ 52 → q ≠ 53 → q ≠ 55 → q ≠ 56 → M' q = M q) ∧ ∀ j, j ≠ 24 → M' 38 j = M 38 j
theorem frI_B {M M' : Mem} (h : frB M M') : frI M M' := ⟨fun q a b c d e _ => h.1 q a b c d e, h.2.1⟩
theorem img_ne {k : Nat} (hk : k < 2) : k = 0 ∨ k = 1 := by omega
theorem at32 {k : Nat} : (32 : Int32) + 16 * nI k = nI (32 + 16 * k) := by
  rw [show (16 : Int32) * nI k = nI (16 * k) from pk_mul 16 k, show (32 : Int32) + nI (16 * k) = nI (32 + 16 * k) from nI_add 32 _]
theorem keep_RI {K M N N' : Mem} {c : Nat → Int32} {T kk : Nat} (hI : RI K M T) (hB : frB M N) (ha : N 38 24 = 1) (hk : kk < 2) (hC : okC T c) (hcN : cM N 0 = c) (hON : okM N 0) (h1 : ∀ i, i < 16 → N' 51 (32 + 16 * kk + i) = N 51 (0 + i)) (h2 : frT N N' (32 + 16 * kk)) : RI (mu (putC K (20 + 3 * kk + 1) c) (20 + 3 * kk) 1 1) (mu N' 56 kk 1) T := by
  have e6 : N' 56 = M 56 := (h2.1 56 (by decide) (by decide)).trans (hB.1 56 (by decide) (by decide) (by decide) (by decide) (by decide))
  have e51 : mu N' 56 kk 1 51 = N' 51 := mu_k _ _ _ 51 _ (by decide)
  have e38 : mu N' 56 kk 1 38 24 = 1 := by rw [mu_k _ _ _ 38 _ (by decide), h2.1 38 (by decide) (by decide)]; exact ha
  intro k lk
  by_cases e : k = kk
  · subst e
    refine ⟨Or.inr (mu_same _ _ _ _), by rw [mu_same, mu_same], fun _ => ⟨?_, ?_, ?_, e38⟩⟩
    · have g : cM (mu N' 56 k 1) (32 + 16 * k) = cM N 0 := cM_eq (fun i hi => by rw [e51]; exact h1 i (by omega))
      rw [g, hcN]
      funext j
      rw [cX, mu_k _ _ _ (20 + 3 * k + 1) _ (by omega), mu_k _ _ _ (20 + 3 * k + 1 + 1) _ (by omega)]
      exact (congrFun (cX_putC K (20 + 3 * k + 1) c) j).symm
    · obtain ⟨t, lt, q⟩ := hON
      exact ⟨t, lt, by rw [e51]; exact (h1 5 (by decide)).trans q⟩
    · have g : cX (mu (putC K (20 + 3 * k + 1) c) (20 + 3 * k) 1 1) (20 + 3 * k + 1) = c := by
        funext j
        rw [cX, mu_k _ _ _ (20 + 3 * k + 1) _ (by omega), mu_k _ _ _ (20 + 3 * k + 1 + 1) _ (by omega)]
        exact congrFun (cX_putC K (20 + 3 * k + 1) c) j
      rw [g]; exact hC
  · obtain ⟨g1, g2, g3⟩ := hI k lk
    have hK : ∀ q, q ≠ 20 + 3 * kk → q ≠ 20 + 3 * kk + 1 → q ≠ 20 + 3 * kk + 1 + 1 → mu (putC K (20 + 3 * kk + 1) c) (20 + 3 * kk) 1 1 q = K q := fun q a b d => by rw [mu_k _ _ _ _ _ a, rd_o b d]
    have m6 : mu N' 56 kk 1 56 k = M 56 k := by rw [mu_j _ _ _ _ _ e, e6]
    refine ⟨by rw [m6]; exact g1, by rw [m6, hK _ (by omega) (by omega) (by omega)]; exact g2, fun q => ?_⟩
    rw [m6] at q
    obtain ⟨f1, f2, f3, -⟩ := g3 q
    have ec : cX (mu (putC K (20 + 3 * kk + 1) c) (20 + 3 * kk) 1 1) (20 + 3 * k + 1) = cX K (20 + 3 * k + 1) := by
      unfold cX
      rw [hK _ (by omega) (by omega) (by omega), hK _ (by omega) (by omega) (by omega)]
    have r : ∀ i, i < 16 → mu N' 56 kk 1 51 (32 + 16 * k + i) = M 51 (32 + 16 * k + i) := fun i hi => by rw [e51, h2.2 _ (by omega)]; exact hB.2.2.1 _ (by omega)
    exact ⟨(cM_eq (fun i hi => r i (by omega))).trans (f1.trans ec.symm), okM_fr f2 (r 5 (by decide)), by rw [ec]; exact f3, e38⟩
theorem keep_RC {N N' : Mem} {c : Nat → Int32} {w0 : Int32} {T kk : Nat} (h : okC T c) (w1 : cM N 0 = c) (w2 : okM N 0) (w3 : N 38 24 = 1) (k2 : frT N N' (32 + 16 * kk)) : RC c w0 (mu N' 56 kk 1) T := by
  have e51 : mu N' 56 kk 1 51 = N' 51 := mu_k _ _ _ 51 _ (by decide)
  refine RC_mk h (okM_fr w2 (by rw [e51]; exact k2.2 5 (by omega))) (by rw [mu_k _ _ _ 38 _ (by decide), k2.1 38 (by decide) (by decide)]; exact w3) ?_
  exact (cM_eq (A := 0) (B := 0) (fun i hi => by rw [e51]; exact k2.2 _ (by omega))).trans w1
theorem keep_fr {M N N' : Mem} {kk : Nat} (h : frB M N) (k2 : frT N N' (32 + 16 * kk)) : frI M (mu N' 56 kk 1) := ⟨fun q a b d e f g => by rw [mu_k _ _ _ _ _ g, k2.1 q b d, h.1 q a b d e f], fun j hj => by rw [mu_k _ _ _ 38 _ (by decide), k2.1 38 (by decide) (by decide)]; exact h.2.1 j hj⟩
theorem keep_v {K M N : Mem} {T kk : Nat} (h : IM K M T kk) (e : N 56 kk = M 56 kk) (c : N 56 kk = 0) : 0 = K (20 + 3 * kk) 1 := by rw [h.2.1, ← e, c]
theorem keep_v1 {K M N : Mem} {T kk : Nat} (h : IM K M T kk) (e : N 56 kk = M 56 kk) (c : ¬ N 56 kk = 0) : 1 = K (20 + 3 * kk) 1 := by rw [h.2.1, ← e]; rw [e] at c ⊢; exact (h.1.resolve_left c).symm
theorem cs_X8_keep_190 : CSV (xmN YX8_keep).cls (xmF YX8_keep) (xmW YX8_keep) 190 0 YX8_awake := ⟨⟨ml_X8_190, ini_X8, cd_X8_awake, by decide +kernel, by decide⟩, im_X8_awake, se_X8_awake⟩
theorem cs_X8_keep_78 : CSS (xmN YX8_keep).cls (xmF YX8_keep) (xmW YX8_keep) 78 3 YX8_in := ⟨⟨ml_X8_78, ini_X8, cd_X8_in, by decide +kernel, by decide⟩, st_X8_in⟩
theorem cs_X8_keep_233 : CSV (xmN YX8_keep).cls (xmF YX8_keep) (xmW YX8_keep) 233 2 YX8_copies := ⟨⟨ml_X8_233, ini_X8, cd_X8_copies, by decide +kernel, by decide⟩, im_X8_copies, se_X8_copies⟩
set_option maxRecDepth 100000 in
theorem c_X8_keep {l : Launch} {g : XG} {M : Mem} {c r : Nat → Int32} {T : Nat} {K : Mem} (hr : mR M r) (hC : RC c (r 1) M T) (hI : RI K M T) {k0 : Int32} : Call l g YX8_keep [.ref (ad g 38), .int k0] M (PI (fun v M' => v = (if outN k0 2 = true then -1 else K (20 + 3 * k0.toNatClampNeg) 1) ∧ RC c (r 1) M' T ∧ RI (if outN k0 2 = true then K else mu (putC K (20 + 3 * k0.toNatClampNeg + 1) c) (20 + 3 * k0.toNatClampNeg) 1 1) M' T ∧ frI M M')) := by
  refine call_of (by decide +kernel) (Nat.le_of_ble_eq_true rfl) (fun x hxl F R => ?_)
  subst hxl
  have hw : M 47 1 = r 1 := hr 1 (by decide)
  refine ex_aload_n F dX8_keep_0 rfl rfl ?_
  refine ex_callVv F (c_X8_awake) dX8_keep_1 cs_X8_keep_190 ob_8 rfl rfl rfl rfl (Nat.le_of_ble_eq_true rfl) (fun M1 h1 => ?_)
  obtain ⟨w1, w2, w3, w4⟩ := wake_ok hC hw h1
  have hr1 := frB_mR hr w4
  refine ex_iload_n F dX8_keep_4 rfl rfl ?_
  refine ex_i2l F dX8_keep_5 ?_
  refine ex_lconst (v := 0) F dX8_keep_6 (by decide) ?_
  refine ex_lconst (v := 1) F dX8_keep_7 (by decide) ?_
  refine ex_callSi F (c_X8_in) dX8_keep_8 cs_X8_keep_78 rfl rfl (Nat.le_of_ble_eq_true rfl) (fun v8 M8 h8 => ?_)
  obtain ⟨e8, q8⟩ := h8
  rw [q8]
  clear q8
  rw [in_out (lo := 0) (hi := 1) (by decide) (by decide)] at e8
  subst e8
  rw [out2]
  refine ex_if_ne (t := 16) F dX8_keep_11 (by decide) (fun c11 => ?_) (fun c11 => ?_)
  · have z : outN k0 2 = false := by simpa using b2i_1.mp c11
    obtain ⟨kk, lk, rfl⟩ := outN_n (m := 2) (by decide) z
    simp only [ifn z, nI_clamp (show kk < 2 ^ 31 by omega)] at R
    refine ex_aload_n F dX8_keep_16 rfl rfl ?_
    refine ex_iconst (v := 0) F dX8_keep_17 (by decide) ?_
    refine ex_bipush (v := 32) F dX8_keep_18 (by decide) ?_
    refine ex_bipush (v := 16) F dX8_keep_20 (by decide) ?_
    refine ex_iload_n F dX8_keep_22 rfl rfl ?_
    refine ex_imul F dX8_keep_23 ?_
    refine ex_iadd F dX8_keep_24 ?_
    rw [at32]
    refine ex_callVv F (c_X8_copies (A := 0) (B := 32 + 16 * kk) (by decide) (by omega) (by omega)) dX8_keep_25 cs_X8_keep_233 ob_8 rfl rfl rfl rfl (Nat.le_of_ble_eq_true rfl) (fun M25 h25 => ?_)
    obtain ⟨k1, k2⟩ := h25
    have e56 : M25 56 kk = M 56 kk := by rw [k2.1 56 (by decide) (by decide)]; exact congrFun (w4.1 56 (by decide) (by decide) (by decide) (by decide) (by decide)) kk
    refine ex_aload_n F dX8_keep_28 rfl rfl ?_
    refine gf_8_30 F dX8_keep_29 fl_X8_61 ?_
    refine ex_iload_n F dX8_keep_32 rfl rfl ?_
    refine ex_zald (n := 2) F dX8_keep_33 (by decide) (vp_in_nI (by omega) (by decide)) (j := kk) (nI_clamp (by omega)) ?_
    refine ex_if_eq (t := 41) F dX8_keep_34 (by decide) (fun c34 => ?_) (fun c34 => ?_)
    · refine ex_iconst (v := 0) F dX8_keep_41 (by decide) ?_
      refine ex_istore_n F dX8_keep_42 rfl (by decide) ?_
      skip
      refine ex_aload_n F dX8_keep_43 rfl rfl ?_
      refine gf_8_30 F dX8_keep_44 fl_X8_61 ?_
      refine ex_iload_n F dX8_keep_47 rfl rfl ?_
      refine ex_iconst (v := 1) F dX8_keep_48 (by decide) ?_
      refine ex_zast (n := 2) F dX8_keep_49 (by decide) (vp_in_nI (by omega) (by decide)) (j := kk) (nI_clamp (by omega)) ?_
      refine ex_iload_n F dX8_keep_50 rfl rfl ?_
      exact ex_iret F R dX8_keep_51 rfl (⟨keep_v (hI kk lk) e56 c34 , keep_RC hC.okc w1 w2 w3 k2, keep_RI hI w4 w3 lk hC.okc w1 w2 k1 k2, keep_fr w4 k2⟩)
    · refine ex_iconst (v := 1) F dX8_keep_37 (by decide) ?_
      refine ex_goto (t := 42) F dX8_keep_38 (by decide) ?_
      refine ex_istore_n F dX8_keep_42 rfl (by decide) ?_
      skip
      refine ex_aload_n F dX8_keep_43 rfl rfl ?_
      refine gf_8_30 F dX8_keep_44 fl_X8_61 ?_
      refine ex_iload_n F dX8_keep_47 rfl rfl ?_
      refine ex_iconst (v := 1) F dX8_keep_48 (by decide) ?_
      refine ex_zast (n := 2) F dX8_keep_49 (by decide) (vp_in_nI (by omega) (by decide)) (j := kk) (nI_clamp (by omega)) ?_
      refine ex_iload_n F dX8_keep_50 rfl rfl ?_
      exact ex_iret F R dX8_keep_51 rfl (⟨keep_v1 (hI kk lk) e56 c34, keep_RC hC.okc w1 w2 w3 k2, keep_RI hI w4 w3 lk hC.okc w1 w2 k1 k2, keep_fr w4 k2⟩)
  · refine ex_iconst (v := -1) F dX8_keep_14 (by decide) ?_
    exact ex_iret F R dX8_keep_15 rfl (⟨by rw [ift (by simpa using b2i_0.mp c11)], RC_mk hC.okc w2 w3 w1, by rw [ift (by simpa using b2i_0.mp c11)]; exact RI_fr hI w4 (fun _ => w3), frI_B w4⟩)
