def sDropC (c : Nat → Int32) (v : Int32) : Int32 := if v < 0 then -1 else if 7 ≤ v then -1 else c (v.toNatClampNeg + 6)
theorem half0 (c : Nat → Int32) : upd (upd c 0 (c 0 / 2)) 3 (c 3 / 2) = sHalfN 0 c := by
  funext j
  by_cases h0 : j = 0
  · subst h0; simp [upd, sHalfN]
  · by_cases h3 : j = 3
    · subst h3; simp [upd, sHalfN]
    · simp [upd, sHalfN, h0, h3, show ¬ (6 ≤ j ∧ j < 6) by omega]
theorem halfS (n : Nat) (c : Nat → Int32) : upd (sHalfN n c) (n + 6) (sHalfN n c (n + 6) / 2) = sHalfN (n + 1) c := by
  funext j
  by_cases h : j = n + 6
  · subst h
    simp only [upd, if_true, sHalfN]
    rw [if_neg (by omega), if_pos (by omega)]
  · simp only [upd, if_neg h, sHalfN]
    by_cases h1 : j = 0 ∨ j = 3 ∨ (6 ≤ j ∧ j < 6 + n)
    · rw [if_pos h1, if_pos (by omega)]
    · rw [if_neg h1, if_neg (by omega)]
theorem fill0 (li ha w : Int32) (dr c : Nat → Int32) : upd (upd (upd (upd (upd (upd c 0 li) 2 ha) 1 w) 3 0) 4 0) 5 (-4) = sFillN 0 li ha w dr c := by
  funext j
  have h : j = 0 ∨ j = 1 ∨ j = 2 ∨ j = 3 ∨ j = 4 ∨ j = 5 ∨ 6 ≤ j := by omega
  rcases h with rfl | rfl | rfl | rfl | rfl | rfl | h
  all_goals first | rfl | skip
  simp [upd, sFillN, show ¬ j = 0 by omega, show ¬ j = 1 by omega, show ¬ j = 2 by omega, show ¬ j = 3 by omega, show ¬ j = 4 by omega, show ¬ j = 5 by omega, show ¬ j < 6 by omega]
theorem fillS (n : Nat) (li ha w : Int32) (dr c : Nat → Int32) : upd (sFillN n li ha w dr c) (n + 6) (if n < 4 then li * dr n else 0) = sFillN (n + 1) li ha w dr c := by
  funext j
  by_cases h : j = n + 6
  · subst h
    simp [upd, sFillN, show ¬ n + 6 = 0 by omega, show ¬ n + 6 = 1 by omega, show ¬ n + 6 = 2 by omega, show ¬ n + 6 = 3 by omega, show ¬ n + 6 = 4 by omega, show ¬ n + 6 = 5 by omega, show n + 6 < 6 + (n + 1) by omega]
    by_cases h4 : n < 4
    · rw [if_pos h4, if_pos (by omega)]
    · rw [if_neg h4, if_neg (by omega)]
  · simp only [upd, if_neg h, sFillN]
    by_cases h1 : j < 6 + n
    · simp [h1, show j < 6 + (n + 1) by omega]
    · simp [h1, show ¬ j < 6 + (n + 1) by omega]
theorem like_eq (M : Mem) (k q : Nat) (h1 : q ≠ k) (h2 : q ≠ k + 1) (h3 : q + 1 ≠ k) (M6 : Mem) (hM : M6 = mu (mu (mu (mu (mu (mu M k 1 (M q 1)) k 2 (M q 2)) k 3 (M q 3)) k 4 (M q 4)) k 5 (M q 5)) k 6 (M q 6)) :
    (fun c => if c = k + 1 then va_cpy (M6 (q + 1)) (M6 (k + 1)) 0 0 7 else M6 c) = putC M k (cpC (cX M q) (cX M k)) := by
  subst hM
  funext c j
  by_cases hc : c = k
  · subst hc
    have h : j = 0 ∨ j = 1 ∨ j = 2 ∨ j = 3 ∨ j = 4 ∨ j = 5 ∨ j = 6 ∨ 7 ≤ j := by omega
    rcases h with rfl | rfl | rfl | rfl | rfl | rfl | rfl | h
    all_goals first | (simp [mu, upd, putC, cpC, cX]; done) | skip
    simp [mu, upd, putC, show ¬ j = 0 by omega, show ¬ j < 7 by omega, show ¬ j = 1 by omega, show ¬ j = 2 by omega, show ¬ j = 3 by omega, show ¬ j = 4 by omega, show ¬ j = 5 by omega, show ¬ j = 6 by omega]
  · by_cases hc1 : c = k + 1
    · subst hc1
      by_cases h7 : j < 7
      · simp [mu, upd, putC, cpC, cX, va_cpy, h3, h7, show j + 6 < 13 by omega, show ¬ j + 6 < 6 by omega]
      · simp [mu, upd, putC, cpC, cX, va_cpy, h3, h7, show ¬ j + 6 < 13 by omega, show ¬ j + 6 < 6 by omega]
    · simp [mu, putC, hc, hc1]
theorem cs_X1_left_99 : CSV (xmN YX1_left).cls (xmF YX1_left) (xmW YX1_left) 99 1 YX1_fatFrom := ⟨⟨ml_X1_99, ini_X1, cd_X1_fatFrom, by decide +kernel, by decide⟩, im_X1_fatFrom, se_X1_fatFrom⟩
set_option maxRecDepth 100000 in
theorem c_X1_left {l : Launch} {g : XG} {M : Mem} {k : Nat} (hk : isO 1 k) (hR : okR (M 2)) : Call l g YX1_left [.ref (ad g k), .ref (ad g 1)] M (PI (fun v M' => v = sLeft (M 2) (cX M k) ∧ M' = M)) := by
  refine call_of (by decide +kernel) (Nat.le_of_ble_eq_true rfl) (fun x hxl F R => ?_)
  subst hxl
  obtain ⟨gr, hgr, hg3, hg6⟩ := okR_grain hR
  have hsg : sGrain (M 2) = gr := by rw [sGrain, hgr]; exact nI_clamp (by omega)
  refine ex_aload_n F dX1_left_0 rfl rfl ?_
  refine ex_iconst (v := 0) F dX1_left_1 (by decide) ?_
  refine ex_callVi F (c_X1_fatFrom hk (i0 := 0) rfl (by decide)) dX1_left_2 cs_X1_left_99 (ob_1 hk) rfl rfl rfl rfl (Nat.le_of_ble_eq_true rfl) (fun v2 M2 h2 => ?_)
  obtain ⟨rfl, q2⟩ := h2
  rw [q2]
  clear q2
  refine ex_aload_n F dX1_left_5 rfl rfl ?_
  refine ex_aload_n F dX1_left_6 rfl rfl ?_
  refine gf_6_0 (by decide) (q9 := 2) rfl F dX1_left_7 fl_X1_52 ?_
  refine ex_iconst (v := 5) F dX1_left_10 (by decide) ?_
  refine ex_iald (n := 9) F dX1_left_11 (by decide) (vpd (by decide)) (j := 5) (by decide) ?_
  refine ex_callVi F (c_X1_fatFrom hk hgr (by omega)) dX1_left_12 cs_X1_left_99 (ob_1 hk) rfl rfl rfl rfl (Nat.le_of_ble_eq_true rfl) (fun v12 M12 h12 => ?_)
  obtain ⟨rfl, q12⟩ := h12
  rw [q12]
  clear q12
  refine ex_isub F dX1_left_15 ?_
  exact ex_iret F R dX1_left_16 rfl (⟨by rw [sLeft, hsg], rfl⟩)
theorem cs_X1_isMostlyGreatest_99 : CSV (xmN YX1_isMostlyGreatest).cls (xmF YX1_isMostlyGreatest) (xmW YX1_isMostlyGreatest) 99 1 YX1_fatFrom := ⟨⟨ml_X1_99, ini_X1, cd_X1_fatFrom, by decide +kernel, by decide⟩, im_X1_fatFrom, se_X1_fatFrom⟩
set_option maxRecDepth 100000 in
theorem c_X1_isMostlyGreatest {l : Launch} {g : XG} {M : Mem} {k : Nat} (hk : isO 1 k) : Call l g YX1_isMostlyGreatest [.ref (ad g k)] M (PI (fun v M' => v = b2i (sMost (cX M k)) ∧ M' = M)) := by
  refine call_of (by decide +kernel) (Nat.le_of_ble_eq_true rfl) (fun x hxl F R => ?_)
  subst hxl
  refine ex_bipush (v := 10) F dX1_isMostlyGreatest_0 (by decide) ?_
  refine ex_aload_n F dX1_isMostlyGreatest_2 rfl rfl ?_
  refine ex_bipush (v := 6) F dX1_isMostlyGreatest_3 (by decide) ?_
  refine ex_callVi F (c_X1_fatFrom hk (i0 := 6) rfl (by decide)) dX1_isMostlyGreatest_5 cs_X1_isMostlyGreatest_99 (ob_1 hk) rfl rfl rfl rfl (Nat.le_of_ble_eq_true rfl) (fun v5 M5 h5 => ?_)
  obtain ⟨rfl, q5⟩ := h5
  rw [q5]
  clear q5
  refine ex_imul F dX1_isMostlyGreatest_8 ?_
  refine ex_bipush (v := 9) F dX1_isMostlyGreatest_9 (by decide) ?_
  refine ex_aload_n F dX1_isMostlyGreatest_11 rfl rfl ?_
  refine ex_iconst (v := 0) F dX1_isMostlyGreatest_12 (by decide) ?_
  refine ex_callVi F (c_X1_fatFrom hk (i0 := 0) rfl (by decide)) dX1_isMostlyGreatest_13 cs_X1_isMostlyGreatest_99 (ob_1 hk) rfl rfl rfl rfl (Nat.le_of_ble_eq_true rfl) (fun v13 M13 h13 => ?_)
  obtain ⟨rfl, q13⟩ := h13
  rw [q13]
  clear q13
  refine ex_imul F dX1_isMostlyGreatest_16 ?_
  refine ex_icmp_lt (t := 24) F dX1_isMostlyGreatest_17 (by decide) (fun c17 => ?_) (fun c17 => ?_)
  · refine ex_iconst (v := 0) F dX1_isMostlyGreatest_24 (by decide) ?_
    exact ex_zret (ty := .boolean) F R dX1_isMostlyGreatest_25 rfl (rfl) (⟨by simp [sMost, b2i, lt_nle, -Int32.not_le, -Int32.not_lt] at c17 ⊢; simp [c17], rfl⟩)
  · refine ex_iconst (v := 1) F dX1_isMostlyGreatest_20 (by decide) ?_
    refine ex_goto (t := 25) F dX1_isMostlyGreatest_21 (by decide) ?_
    exact ex_zret (ty := .boolean) F R dX1_isMostlyGreatest_25 rfl (rfl) (⟨by simp [sMost, b2i, lt_nle, -Int32.not_le, -Int32.not_lt] at c17 ⊢; simp [c17], rfl⟩)
set_option maxRecDepth 100000 in
theorem c_X1_dropsOf {l : Launch} {g : XG} {M : Mem} {k : Nat} (hk : isO 1 k) {v0 : Int32} : Call l g YX1_dropsOf [.ref (ad g k), .int v0] M (PI (fun v M' => v = sDropC (cX M k) v0 ∧ M' = M)) := by
  refine call_of (by decide +kernel) (Nat.le_of_ble_eq_true rfl) (fun x hxl F R => ?_)
  subst hxl
  refine ex_iload_n F dX1_dropsOf_0 rfl rfl ?_
  refine ex_if_lt (t := 22) F dX1_dropsOf_1 (by decide) (fun c1 => ?_) (fun c1 => ?_)
  · refine ex_iconst (v := -1) F dX1_dropsOf_22 (by decide) ?_
    exact ex_iret F R dX1_dropsOf_23 rfl (⟨by rw [sDropC, if_pos c1], rfl⟩)
  · refine ex_iload_n F dX1_dropsOf_4 rfl rfl ?_
    refine ex_aload_n F dX1_dropsOf_5 rfl rfl ?_
    refine gf_1_0 hk (q9 := (k + 1)) rfl F dX1_dropsOf_6 fl_X1_11 ?_
    refine ex_ilen (n := 7) (v := 7) F dX1_dropsOf_9 (tI_1_0 hk) (by decide) ?_
    refine ex_icmp_ge (t := 22) F dX1_dropsOf_10 (by decide) (fun c10 => ?_) (fun c10 => ?_)
    · refine ex_iconst (v := -1) F dX1_dropsOf_22 (by decide) ?_
      exact ex_iret F R dX1_dropsOf_23 rfl (⟨by rw [sDropC, if_neg c1, if_pos c10], rfl⟩)
    · refine ex_aload_n F dX1_dropsOf_13 rfl rfl ?_
      refine gf_1_0 hk (q9 := (k + 1)) rfl F dX1_dropsOf_14 fl_X1_11 ?_
      refine ex_iload_n F dX1_dropsOf_17 rfl rfl ?_
      refine ex_iald (n := 7) F dX1_dropsOf_18 (tI_1_0 hk) (vin (by decide) c1 c10) rfl ?_
      refine ex_goto (t := 23) F dX1_dropsOf_19 (by decide) ?_
      exact ex_iret F R dX1_dropsOf_23 rfl (⟨by rw [sDropC, if_neg c1, if_neg c10]; simp [cX, show ¬ v0.toNatClampNeg + 6 < 6 by omega], rfl⟩)
theorem cs_X1_outcome_75 : CSV (xmN YX1_outcome).cls (xmF YX1_outcome) (xmW YX1_outcome) 75 1 YX1_isSwollen := ⟨⟨ml_X1_75, ini_X1, cd_X1_isSwollen, by decide +kernel, by decide⟩, im_X1_isSwollen, se_X1_isSwollen⟩
theorem cs_X1_outcome_55 : CSV (xmN YX1_outcome).cls (xmF YX1_outcome) (xmW YX1_outcome) 55 0 YX1_hasCome := ⟨⟨ml_X1_55, ini_X1, cd_X1_hasCome, by decide +kernel, by decide⟩, im_X1_hasCome, se_X1_hasCome⟩
theorem cs_X1_outcome_95 : CSV (xmN YX1_outcome).cls (xmF YX1_outcome) (xmW YX1_outcome) 95 1 YX1_hardness := ⟨⟨ml_X1_95, ini_X1, cd_X1_hardness, by decide +kernel, by decide⟩, im_X1_hardness, se_X1_hardness⟩
theorem cs_X1_outcome_108 : CSV (xmN YX1_outcome).cls (xmF YX1_outcome) (xmW YX1_outcome) 108 0 YX1_isMostlyGreatest := ⟨⟨ml_X1_108, ini_X1, cd_X1_isMostlyGreatest, by decide +kernel, by decide⟩, im_X1_isMostlyGreatest, se_X1_isMostlyGreatest⟩
theorem cs_X1_outcome_102 : CSV (xmN YX1_outcome).cls (xmF YX1_outcome) (xmW YX1_outcome) 102 1 YX1_left := ⟨⟨ml_X1_102, ini_X1, cd_X1_left, by decide +kernel, by decide⟩, im_X1_left, se_X1_left⟩
theorem cs_X1_outcome_99 : CSV (xmN YX1_outcome).cls (xmF YX1_outcome) (xmW YX1_outcome) 99 1 YX1_fatFrom := ⟨⟨ml_X1_99, ini_X1, cd_X1_fatFrom, by decide +kernel, by decide⟩, im_X1_fatFrom, se_X1_fatFrom⟩
set_option maxRecDepth 100000 in
theorem c_X1_outcome {l : Launch} {g : XG} {M : Mem} {k : Nat} (hk : isO 1 k) (hR : okR (M 2)) : Call l g YX1_outcome [.ref (ad g k), .ref (ad g 1)] M (PI (fun v M' => v = sOut (M 2) (cX M k) ∧ M' = M)) := by
  refine call_of (by decide +kernel) (Nat.le_of_ble_eq_true rfl) (fun x hxl F R => ?_)
  subst hxl
  refine ex_aload_n F dX1_outcome_0 rfl rfl ?_
  refine ex_aload_n F dX1_outcome_1 rfl rfl ?_
  refine ex_callVi F (c_X1_isSwollen hk) dX1_outcome_2 cs_X1_outcome_75 (ob_1 hk) rfl rfl rfl rfl (Nat.le_of_ble_eq_true rfl) (fun v2 M2 h2 => ?_)
  obtain ⟨rfl, q2⟩ := h2
  rw [q2]
  clear q2
  refine ex_if_eq (t := 10) F dX1_outcome_5 (by decide) (fun c5 => ?_) (fun c5 => ?_)
  · refine ex_aload_n F dX1_outcome_10 rfl rfl ?_
    refine ex_callVi F (c_X1_hasCome hk) dX1_outcome_11 cs_X1_outcome_55 (ob_1 hk) rfl rfl rfl rfl (Nat.le_of_ble_eq_true rfl) (fun v11 M11 h11 => ?_)
    obtain ⟨rfl, q11⟩ := h11
    rw [q11]
    clear q11
    refine ex_if_ne (t := 19) F dX1_outcome_14 (by decide) (fun c14 => ?_) (fun c14 => ?_)
    · refine ex_aload_n F dX1_outcome_19 rfl rfl ?_
      refine ex_aload_n F dX1_outcome_20 rfl rfl ?_
      refine ex_callVi F (c_X1_hardness hk) dX1_outcome_21 cs_X1_outcome_95 (ob_1 hk) rfl rfl rfl rfl (Nat.le_of_ble_eq_true rfl) (fun v21 M21 h21 => ?_)
      obtain ⟨rfl, q21⟩ := h21
      rw [q21]
      clear q21
      refine ex_aload_n F dX1_outcome_24 rfl rfl ?_
      refine gf_6_0 (by decide) (q9 := 2) rfl F dX1_outcome_25 fl_X1_52 ?_
      refine ex_bipush (v := 7) F dX1_outcome_28 (by decide) ?_
      refine ex_iald (n := 9) F dX1_outcome_30 (by decide) (vpd (by decide)) (j := 7) (by decide) ?_
      refine ex_icmp_ge (t := 36) F dX1_outcome_31 (by decide) (fun c31 => ?_) (fun c31 => ?_)
      · refine ex_aload_n F dX1_outcome_36 rfl rfl ?_
        refine ex_callVi F (c_X1_isMostlyGreatest hk) dX1_outcome_37 cs_X1_outcome_108 (ob_1 hk) rfl rfl rfl rfl (Nat.le_of_ble_eq_true rfl) (fun v37 M37 h37 => ?_)
        obtain ⟨rfl, q37⟩ := h37
        rw [q37]
        clear q37
        refine ex_if_eq (t := 45) F dX1_outcome_40 (by decide) (fun c40 => ?_) (fun c40 => ?_)
        · refine ex_bipush (v := 10) F dX1_outcome_45 (by decide) ?_
          refine ex_aload_n F dX1_outcome_47 rfl rfl ?_
          refine ex_aload_n F dX1_outcome_48 rfl rfl ?_
          refine ex_callVi F (c_X1_left hk hR) dX1_outcome_49 cs_X1_outcome_102 (ob_1 hk) rfl rfl rfl rfl (Nat.le_of_ble_eq_true rfl) (fun v49 M49 h49 => ?_)
          obtain ⟨rfl, q49⟩ := h49
          rw [q49]
          clear q49
          refine ex_imul F dX1_outcome_52 ?_
          refine ex_aload_n F dX1_outcome_53 rfl rfl ?_
          refine ex_iconst (v := 0) F dX1_outcome_54 (by decide) ?_
          refine ex_callVi F (c_X1_fatFrom hk (i0 := 0) rfl (by decide)) dX1_outcome_55 cs_X1_outcome_99 (ob_1 hk) rfl rfl rfl rfl (Nat.le_of_ble_eq_true rfl) (fun v55 M55 h55 => ?_)
          obtain ⟨rfl, q55⟩ := h55
          rw [q55]
          clear q55
          refine ex_icmp_le (t := 65) F dX1_outcome_58 (by decide) (fun c58 => ?_) (fun c58 => ?_)
          · refine ex_iconst (v := 1) F dX1_outcome_65 (by decide) ?_
            exact ex_iret F R dX1_outcome_66 rfl (⟨by simp [sOut, b2i_0.mp c5, b2i_1.mp c14, c31, b2i_0.mp c40, c58, lt_nle, -Int32.not_le, -Int32.not_lt], rfl⟩)
          · refine ex_iconst (v := 4) F dX1_outcome_61 (by decide) ?_
            refine ex_goto (t := 66) F dX1_outcome_62 (by decide) ?_
            exact ex_iret F R dX1_outcome_66 rfl (⟨by simp [sOut, b2i_0.mp c5, b2i_1.mp c14, c31, b2i_0.mp c40, c58, lt_nle, -Int32.not_le, -Int32.not_lt], rfl⟩)
        · refine ex_iconst (v := 5) F dX1_outcome_43 (by decide) ?_
          exact ex_iret F R dX1_outcome_44 rfl (⟨by simp [sOut, b2i_0.mp c5, b2i_1.mp c14, c31, b2i_1.mp c40, lt_nle, -Int32.not_le, -Int32.not_lt], rfl⟩)
      · refine ex_iconst (v := 3) F dX1_outcome_34 (by decide) ?_
        exact ex_iret F R dX1_outcome_35 rfl (⟨by simp [sOut, b2i_0.mp c5, b2i_1.mp c14, c31, lt_nle, -Int32.not_le, -Int32.not_lt], rfl⟩)
    · refine ex_iconst (v := 0) F dX1_outcome_17 (by decide) ?_
      exact ex_iret F R dX1_outcome_18 rfl (⟨by simp [sOut, b2i_0.mp c5, b2i_0.mp c14, lt_nle, -Int32.not_le, -Int32.not_lt], rfl⟩)
  · refine ex_iconst (v := 2) F dX1_outcome_8 (by decide) ?_
    exact ex_iret F R dX1_outcome_9 rfl (⟨by simp [sOut, b2i_1.mp c5, lt_nle, -Int32.not_le, -Int32.not_lt], rfl⟩)
theorem cs_X1_tell_95 : CSV (xmN YX1_tell).cls (xmF YX1_tell) (xmW YX1_tell) 95 1 YX1_hardness := ⟨⟨ml_X1_95, ini_X1, cd_X1_hardness, by decide +kernel, by decide⟩, im_X1_hardness, se_X1_hardness⟩
theorem cs_X1_tell_102 : CSV (xmN YX1_tell).cls (xmF YX1_tell) (xmW YX1_tell) 102 1 YX1_left := ⟨⟨ml_X1_102, ini_X1, cd_X1_left, by decide +kernel, by decide⟩, im_X1_left, se_X1_left⟩
theorem cs_X1_tell_99 : CSV (xmN YX1_tell).cls (xmF YX1_tell) (xmW YX1_tell) 99 1 YX1_fatFrom := ⟨⟨ml_X1_99, ini_X1, cd_X1_fatFrom, by decide +kernel, by decide⟩, im_X1_fatFrom, se_X1_fatFrom⟩
theorem cs_X1_tell_75 : CSV (xmN YX1_tell).cls (xmF YX1_tell) (xmW YX1_tell) 75 1 YX1_isSwollen := ⟨⟨ml_X1_75, ini_X1, cd_X1_isSwollen, by decide +kernel, by decide⟩, im_X1_isSwollen, se_X1_isSwollen⟩
theorem cs_X1_tell_105 : CSV (xmN YX1_tell).cls (xmF YX1_tell) (xmW YX1_tell) 105 1 YX1_outcome := ⟨⟨ml_X1_105, ini_X1, cd_X1_outcome, by decide +kernel, by decide⟩, im_X1_outcome, se_X1_outcome⟩
set_option maxRecDepth 100000 in
theorem c_X1_tell {l : Launch} {g : XG} {M : Mem} {k : Nat} (hk : isO 1 k) (hR : okR (M 2)) {w0 : Int32} : Call l g YX1_tell [.ref (ad g k), .ref (ad g 1), .int w0] M (PI (fun v M' => v = sTell (M 2) (cX M k) w0 ∧ M' = M)) := by
  refine call_of (by decide +kernel) (Nat.le_of_ble_eq_true rfl) (fun x hxl F R => ?_)
  subst hxl
  refine ex_iload_n F dX1_tell_0 rfl rfl ?_
  by_cases w1_0 : w0 = 0
  · rw [w1_0]
    refine ex_tswIn (t := 56) F dX1_tell_1 (by decide) (by decide) rfl (by decide) ?_
    refine ex_aload_n F dX1_tell_56 rfl rfl ?_
    refine gf_1_1 hk F dX1_tell_57 fl_X1_25 ?_
    exact ex_iret F R dX1_tell_60 rfl (⟨by rw [w1_0]; simp [sTell, cX], rfl⟩)
  by_cases w1_1 : w0 = 1
  · rw [w1_1]
    refine ex_tswIn (t := 61) F dX1_tell_1 (by decide) (by decide) rfl (by decide) ?_
    refine ex_aload_n F dX1_tell_61 rfl rfl ?_
    refine gf_1_2 hk F dX1_tell_62 fl_X1_34 ?_
    exact ex_iret F R dX1_tell_65 rfl (⟨by rw [w1_1]; simp [sTell, cX], rfl⟩)
  by_cases w1_2 : w0 = 2
  · rw [w1_2]
    refine ex_tswIn (t := 66) F dX1_tell_1 (by decide) (by decide) rfl (by decide) ?_
    refine ex_aload_n F dX1_tell_66 rfl rfl ?_
    refine ex_aload_n F dX1_tell_67 rfl rfl ?_
    refine ex_callVi F (c_X1_hardness hk) dX1_tell_68 cs_X1_tell_95 (ob_1 hk) rfl rfl rfl rfl (Nat.le_of_ble_eq_true rfl) (fun v68 M68 h68 => ?_)
    obtain ⟨rfl, q68⟩ := h68
    rw [q68]
    clear q68
    exact ex_iret F R dX1_tell_71 rfl (⟨by rw [w1_2]; simp [sTell, cX], rfl⟩)
  by_cases w1_3 : w0 = 3
  · rw [w1_3]
    refine ex_tswIn (t := 72) F dX1_tell_1 (by decide) (by decide) rfl (by decide) ?_
    refine ex_aload_n F dX1_tell_72 rfl rfl ?_
    refine gf_1_4 hk F dX1_tell_73 fl_X1_37 ?_
    exact ex_iret F R dX1_tell_76 rfl (⟨by rw [w1_3]; simp [sTell, cX], rfl⟩)
  by_cases w1_4 : w0 = 4
  · rw [w1_4]
    refine ex_tswIn (t := 77) F dX1_tell_1 (by decide) (by decide) rfl (by decide) ?_
    refine ex_aload_n F dX1_tell_77 rfl rfl ?_
    refine gf_1_5 hk F dX1_tell_78 fl_X1_40 ?_
    exact ex_iret F R dX1_tell_81 rfl (⟨by rw [w1_4]; simp [sTell, cX], rfl⟩)
  by_cases w1_5 : w0 = 5
  · rw [w1_5]
    refine ex_tswIn (t := 82) F dX1_tell_1 (by decide) (by decide) rfl (by decide) ?_
    refine ex_aload_n F dX1_tell_82 rfl rfl ?_
    refine gf_1_6 hk F dX1_tell_83 fl_X1_15 ?_
    exact ex_iret F R dX1_tell_86 rfl (⟨by rw [w1_5]; simp [sTell, cX], rfl⟩)
  by_cases w1_6 : w0 = 6
  · rw [w1_6]
    refine ex_tswIn (t := 87) F dX1_tell_1 (by decide) (by decide) rfl (by decide) ?_
    refine ex_aload_n F dX1_tell_87 rfl rfl ?_
    refine ex_aload_n F dX1_tell_88 rfl rfl ?_
    refine ex_callVi F (c_X1_left hk hR) dX1_tell_89 cs_X1_tell_102 (ob_1 hk) rfl rfl rfl rfl (Nat.le_of_ble_eq_true rfl) (fun v89 M89 h89 => ?_)
    obtain ⟨rfl, q89⟩ := h89
    rw [q89]
    clear q89
    exact ex_iret F R dX1_tell_92 rfl (⟨by rw [w1_6]; simp [sTell], rfl⟩)
  by_cases w1_7 : w0 = 7
  · rw [w1_7]
    refine ex_tswIn (t := 93) F dX1_tell_1 (by decide) (by decide) rfl (by decide) ?_
    refine ex_aload_n F dX1_tell_93 rfl rfl ?_
    refine ex_iconst (v := 0) F dX1_tell_94 (by decide) ?_
    refine ex_callVi F (c_X1_fatFrom hk (i0 := 0) rfl (by decide)) dX1_tell_95 cs_X1_tell_99 (ob_1 hk) rfl rfl rfl rfl (Nat.le_of_ble_eq_true rfl) (fun v95 M95 h95 => ?_)
    obtain ⟨rfl, q95⟩ := h95
    rw [q95]
    clear q95
    exact ex_iret F R dX1_tell_98 rfl (⟨by rw [w1_7]; simp [sTell], rfl⟩)
  by_cases w1_8 : w0 = 8
  · rw [w1_8]
    refine ex_tswIn (t := 99) F dX1_tell_1 (by decide) (by decide) rfl (by decide) ?_
    refine ex_aload_n F dX1_tell_99 rfl rfl ?_
    refine ex_aload_n F dX1_tell_100 rfl rfl ?_
    refine ex_callVi F (c_X1_isSwollen hk) dX1_tell_101 cs_X1_tell_75 (ob_1 hk) rfl rfl rfl rfl (Nat.le_of_ble_eq_true rfl) (fun v101 M101 h101 => ?_)
    obtain ⟨rfl, q101⟩ := h101
    rw [q101]
    clear q101
    refine ex_if_eq (t := 111) F dX1_tell_104 (by decide) (fun c104 => ?_) (fun c104 => ?_)
    · refine ex_iconst (v := 0) F dX1_tell_111 (by decide) ?_
      exact ex_iret F R dX1_tell_112 rfl (⟨by rw [w1_8]; simp [sTell, b2i_0.mp c104]; rfl, rfl⟩)
    · refine ex_iconst (v := 1) F dX1_tell_107 (by decide) ?_
      refine ex_goto (t := 112) F dX1_tell_108 (by decide) ?_
      exact ex_iret F R dX1_tell_112 rfl (⟨by rw [w1_8]; simp [sTell, b2i_1.mp c104]; rfl, rfl⟩)
  by_cases w1_9 : w0 = 9
  · rw [w1_9]
    refine ex_tswIn (t := 113) F dX1_tell_1 (by decide) (by decide) rfl (by decide) ?_
    refine ex_aload_n F dX1_tell_113 rfl rfl ?_
    refine ex_aload_n F dX1_tell_114 rfl rfl ?_
    refine ex_callVi F (c_X1_outcome hk hR) dX1_tell_115 cs_X1_tell_105 (ob_1 hk) rfl rfl rfl rfl (Nat.le_of_ble_eq_true rfl) (fun v115 M115 h115 => ?_)
    obtain ⟨rfl, q115⟩ := h115
    rw [q115]
    clear q115
    exact ex_iret F R dX1_tell_118 rfl (⟨by rw [w1_9]; simp [sTell], rfl⟩)
  refine ex_tswOut (t := 119) F dX1_tell_1 (tsw_out 9 (by decide) (fun k hk => match k, hk with | 0, _ => w1_0 | 1, _ => w1_1 | 2, _ => w1_2 | 3, _ => w1_3 | 4, _ => w1_4 | 5, _ => w1_5 | 6, _ => w1_6 | 7, _ => w1_7 | 8, _ => w1_8 | 9, _ => w1_9 | n + 10, h => absurd h (by omega))) (by decide) ?_
  refine ex_iconst (v := -1) F dX1_tell_119 (by decide) ?_
  exact ex_iret F R dX1_tell_120 rfl (⟨by simp [sTell, w1_0, w1_1, w1_2, w1_3, w1_4, w1_5, w1_6, w1_7, w1_8, w1_9], rfl⟩)
set_option maxRecDepth 100000 in
theorem c_X1_halve {l : Launch} {g : XG} {M : Mem} {k : Nat} (hk : isO 1 k) : Call l g YX1_halve [.ref (ad g k)] M (PV (fun M' => M' = putC M k (sHalfN 7 (cX M k)))) := by
  refine call_of (by decide +kernel) (Nat.le_of_ble_eq_true rfl) (fun x hxl F R => ?_)
  subst hxl
  refine ex_aload_n F dX1_halve_0 rfl rfl ?_
  refine ex_dup F dX1_halve_1 rfl ?_
  refine gf_1_1 hk F dX1_halve_2 fl_X1_25 ?_
  refine ex_iconst (v := 2) F dX1_halve_5 (by decide) ?_
  refine ex_idiv F dX1_halve_6 (by decide) ?_
  refine pf_1_1 hk F dX1_halve_7 fl_X1_25 ?_
  refine ex_aload_n F dX1_halve_10 rfl rfl ?_
  refine ex_dup F dX1_halve_11 rfl ?_
  refine gf_1_4 hk F dX1_halve_12 fl_X1_37 ?_
  refine ex_iconst (v := 2) F dX1_halve_15 (by decide) ?_
  refine ex_idiv F dX1_halve_16 (by decide) ?_
  refine pf_1_4 hk F dX1_halve_17 fl_X1_37 ?_
  refine ex_iconst (v := 0) F dX1_halve_20 (by decide) ?_
  refine ex_istore_n F dX1_halve_21 rfl (by decide) ?_
  have key : ∀ (m i : Nat) (v : Int32), i + m = 7 → v = nI i → EX x g (xmL YX1_halve) (putC M k (sHalfN i (cX M k))) 22 [(0, .ref (ad g k)), (1, .int v)] [] := by
    intro m
    induction m with
    | zero =>
      intro i v hi hv
      obtain rfl : i = 7 := by omega
      subst hv
      refine ex_iload_n F dX1_halve_22 rfl rfl ?_
      refine ex_aload_n F dX1_halve_23 rfl rfl ?_
      refine gf_1_0 hk (q9 := (k + 1)) rfl F dX1_halve_24 fl_X1_11 ?_
      refine ex_ilen (n := 7) (v := 7) F dX1_halve_27 (tI_1_0 hk) (by decide) ?_
      refine ex_icmp_ge (t := 47) F dX1_halve_28 (by decide) (fun _ => ?_) (fun c => absurd (by decide) c)
      exact ex_vret F R dX1_halve_47 rfl (rfl)
    | succ m ih =>
      intro i v hi hv
      subst hv
      refine ex_iload_n F dX1_halve_22 rfl rfl ?_
      refine ex_aload_n F dX1_halve_23 rfl rfl ?_
      refine gf_1_0 hk (q9 := (k + 1)) rfl F dX1_halve_24 fl_X1_11 ?_
      refine ex_ilen (n := 7) (v := 7) F dX1_halve_27 (tI_1_0 hk) (by decide) ?_
      refine ex_icmp_ge (t := 47) F dX1_halve_28 (by decide) (fun c => absurd c (nI_ge (b := 7) (by omega) (by decide))) (fun _ => ?_)
      refine ex_aload_n F dX1_halve_31 rfl rfl ?_
      refine gf_1_0 hk (q9 := (k + 1)) rfl F dX1_halve_32 fl_X1_11 ?_
      refine ex_iload_n F dX1_halve_35 rfl rfl ?_
      refine ex_dup2 F dX1_halve_36 rfl rfl ?_
      refine ex_iald (n := 7) F dX1_halve_37 (tI_1_0 hk) (vp_in_nI (by omega) (by decide)) (j := i) (nI_clamp (by omega)) ?_
      refine ex_iconst (v := 2) F dX1_halve_38 (by decide) ?_
      refine ex_idiv F dX1_halve_39 (by decide) ?_
      refine ex_iast (n := 7) F dX1_halve_40 (tI_1_0 hk) (vp_in_nI (by omega) (by decide)) (j := i) (nI_clamp (by omega)) ?_
      refine ex_iinc (w := _ + 1) F dX1_halve_41 rfl rfl (by decide) ?_
      refine ex_goto (t := 22) F dX1_halve_44 (by decide) ?_
      refine ex_weak2 (L1 := [(0, .ref (ad g k)), (1, .int (nI i + 1))]) ?_ ⟨rfl, rfl, trivial⟩
      refine ex_M (M1 := putC M k (sHalfN (i + 1) (cX M k))) ?_ (ih (i + 1) _ (by omega) (nI_1 i))
      rw [mu_cd, putC_putC, cX_putC, rd_d, halfS]
  refine ex_M (M1 := putC M k (sHalfN 0 (cX M k))) ?_ (ex_weak2 (key 7 0 _ (by omega) rfl) ⟨rfl, rfl, trivial⟩)
  rw [← half0]
  simp [mu_c1, mu_c2, mu_c3, mu_c4, mu_c5, mu_c6, mu_cd, putC_putC, cX_putC, putC_cX, rd_1, rd_2, rd_3, rd_4, rd_5, rd_6, rd_d, mu_j, upd, cX]
set_option maxRecDepth 100000 in
theorem c_X1_becomeLike {l : Launch} {g : XG} {M : Mem} {k q : Nat} (hk : isO 1 k) (hq : isO 1 q) (hne : q ≠ k) : Call l g YX1_becomeLike [.ref (ad g k), .ref (ad g q)] M (PV (fun M' => M' = putC M k (cpC (cX M q) (cX M k)))) := by
  refine call_of (by decide +kernel) (Nat.le_of_ble_eq_true rfl) (fun x hxl F R => ?_)
  subst hxl
  have h2 : q ≠ k + 1 := by rcases kk_1 hk with rfl | rfl | rfl | rfl <;> rcases kk_1 hq with rfl | rfl | rfl | rfl <;> omega
  have h3 : q + 1 ≠ k := by rcases kk_1 hk with rfl | rfl | rfl | rfl <;> rcases kk_1 hq with rfl | rfl | rfl | rfl <;> omega
  refine ex_aload_n F dX1_becomeLike_0 rfl rfl ?_
  refine ex_aload_n F dX1_becomeLike_1 rfl rfl ?_
  refine gf_1_1 hq F dX1_becomeLike_2 fl_X1_25 ?_
  refine pf_1_1 hk F dX1_becomeLike_5 fl_X1_25 ?_
  refine ex_aload_n F dX1_becomeLike_8 rfl rfl ?_
  refine ex_aload_n F dX1_becomeLike_9 rfl rfl ?_
  refine gf_1_2 hq F dX1_becomeLike_10 fl_X1_34 ?_
  refine pf_1_2 hk F dX1_becomeLike_13 fl_X1_34 ?_
  refine ex_aload_n F dX1_becomeLike_16 rfl rfl ?_
  refine ex_aload_n F dX1_becomeLike_17 rfl rfl ?_
  refine gf_1_3 hq F dX1_becomeLike_18 fl_X1_31 ?_
  refine pf_1_3 hk F dX1_becomeLike_21 fl_X1_31 ?_
  refine ex_aload_n F dX1_becomeLike_24 rfl rfl ?_
  refine ex_aload_n F dX1_becomeLike_25 rfl rfl ?_
  refine gf_1_4 hq F dX1_becomeLike_26 fl_X1_37 ?_
  refine pf_1_4 hk F dX1_becomeLike_29 fl_X1_37 ?_
  refine ex_aload_n F dX1_becomeLike_32 rfl rfl ?_
  refine ex_aload_n F dX1_becomeLike_33 rfl rfl ?_
  refine gf_1_5 hq F dX1_becomeLike_34 fl_X1_40 ?_
  refine pf_1_5 hk F dX1_becomeLike_37 fl_X1_40 ?_
  refine ex_aload_n F dX1_becomeLike_40 rfl rfl ?_
  refine ex_aload_n F dX1_becomeLike_41 rfl rfl ?_
  refine gf_1_6 hq F dX1_becomeLike_42 fl_X1_15 ?_
  refine pf_1_6 hk F dX1_becomeLike_45 fl_X1_15 ?_
  refine ex_aload_n F dX1_becomeLike_48 rfl rfl ?_
  refine gf_1_0 hq (q9 := (q + 1)) rfl F dX1_becomeLike_49 fl_X1_11 ?_
  refine ex_iconst (v := 0) F dX1_becomeLike_52 (by decide) ?_
  refine ex_aload_n F dX1_becomeLike_53 rfl rfl ?_
  refine gf_1_0 hk (q9 := (k + 1)) rfl F dX1_becomeLike_54 fl_X1_11 ?_
  refine ex_iconst (v := 0) F dX1_becomeLike_57 (by decide) ?_
  refine ex_aload_n F dX1_becomeLike_58 rfl rfl ?_
  refine gf_1_0 hk (q9 := (k + 1)) rfl F dX1_becomeLike_59 fl_X1_11 ?_
  refine ex_ilen (n := 7) (v := 7) F dX1_becomeLike_62 (tI_1_0 hk) (by decide) ?_
  refine ex_copyi F dX1_becomeLike_63 ml_X1_46 na_copy st_copy ini_sys (tI_1_0 hq) (tI_1_0 hk) (by decide) (by decide) (by decide) (by decide) (by decide) (by decide) (Nat.le_of_ble_eq_true rfl) ?_
  exact ex_vret F R dX1_becomeLike_66 rfl (like_eq M k q hne h2 h3 _ (by simp [mu_k, hne]))
theorem cs_X1_fillWith_19 : CSV (xmN YX1_fillWith).cls (xmF YX1_fillWith) (xmW YX1_fillWith) 19 1 YX6_litresOf := ⟨⟨ml_X1_19, ini_X6, cd_X6_litresOf, by decide +kernel, by decide⟩, im_X6_litresOf, se_X6_litresOf⟩
theorem cs_X1_fillWith_28 : CSV (xmN YX1_fillWith).cls (xmF YX1_fillWith) (xmW YX1_fillWith) 28 1 YX6_hardOf := ⟨⟨ml_X1_28, ini_X6, cd_X6_hardOf, by decide +kernel, by decide⟩, im_X6_hardOf, se_X6_hardOf⟩
set_option maxRecDepth 100000 in
theorem c_X1_fillWith {l : Launch} {g : XG} {M : Mem} {k : Nat} (hk : isO 1 k) {b w0 : Int32} : Call l g YX1_fillWith [.ref (ad g k), .ref (ad g 1), .int b, .int w0] M (PV (fun M' => M' = putC M k (sFillN 7 (sLitN (M 4) b 8) (sHardOf (M 4) (M 5) b) w0 (M 3) (cX M k)))) := by
  refine call_of (by decide +kernel) (Nat.le_of_ble_eq_true rfl) (fun x hxl F R => ?_)
  subst hxl
  have k4 : 4 ≠ k := by rcases kk_1 hk with rfl | rfl | rfl | rfl <;> omega
  have k5 : 5 ≠ k := by rcases kk_1 hk with rfl | rfl | rfl | rfl <;> omega
  refine ex_aload_n F dX1_fillWith_0 rfl rfl ?_
  refine ex_aload_n F dX1_fillWith_1 rfl rfl ?_
  refine ex_iload_n F dX1_fillWith_2 rfl rfl ?_
  refine ex_callVi F (c_X6_litresOf) dX1_fillWith_3 cs_X1_fillWith_19 (ob_6 (by decide)) rfl rfl rfl rfl (Nat.le_of_ble_eq_true rfl) (fun v3 M3 h3 => ?_)
  obtain ⟨rfl, q3⟩ := h3
  rw [q3]
  clear q3
  refine pf_1_1 hk F dX1_fillWith_6 fl_X1_25 ?_
  refine ex_aload_n F dX1_fillWith_9 rfl rfl ?_
  refine ex_aload_n F dX1_fillWith_10 rfl rfl ?_
  refine ex_iload_n F dX1_fillWith_11 rfl rfl ?_
  refine ex_callVi F (c_X6_hardOf) dX1_fillWith_12 cs_X1_fillWith_28 (ob_6 (by decide)) rfl rfl rfl rfl (Nat.le_of_ble_eq_true rfl) (fun v12 M12 h12 => ?_)
  obtain ⟨e12, q12⟩ := h12
  rw [q12]
  clear q12
  rw [mu_k _ _ _ _ _ k4, mu_k _ _ _ _ _ k5] at e12
  subst e12
  refine pf_1_3 hk F dX1_fillWith_15 fl_X1_31 ?_
  refine ex_aload_n F dX1_fillWith_18 rfl rfl ?_
  refine ex_iload_n F dX1_fillWith_19 rfl rfl ?_
  refine pf_1_2 hk F dX1_fillWith_20 fl_X1_34 ?_
  refine ex_aload_n F dX1_fillWith_23 rfl rfl ?_
  refine ex_iconst (v := 0) F dX1_fillWith_24 (by decide) ?_
  refine pf_1_4 hk F dX1_fillWith_25 fl_X1_37 ?_
  refine ex_aload_n F dX1_fillWith_28 rfl rfl ?_
  refine ex_iconst (v := 0) F dX1_fillWith_29 (by decide) ?_
  refine pf_1_5 hk F dX1_fillWith_30 fl_X1_40 ?_
  refine ex_aload_n F dX1_fillWith_33 rfl rfl ?_
  refine ex_bipush (v := -4) F dX1_fillWith_34 (by decide) ?_
  refine pf_1_6 hk F dX1_fillWith_36 fl_X1_15 ?_
  refine ex_iconst (v := 0) F dX1_fillWith_39 (by decide) ?_
  refine ex_istore F dX1_fillWith_40 (by decide) ?_
  have key : ∀ (m i : Nat) (v : Int32), i + m = 7 → v = nI i → EX x g (xmL YX1_fillWith) (putC M k (sFillN i (sLitN (M 4) b 8) (sHardOf (M 4) (M 5) b) w0 (M 3) (cX M k))) 42 [(0, .ref (ad g k)), (1, .ref (ad g 1)), (4, .int v)] [] := by
    intro m
    induction m with
    | zero =>
      intro i v hi hv
      obtain rfl : i = 7 := by omega
      subst hv
      refine ex_iload F dX1_fillWith_42 rfl ?_
      refine ex_aload_n F dX1_fillWith_44 rfl rfl ?_
      refine gf_1_0 hk (q9 := (k + 1)) rfl F dX1_fillWith_45 fl_X1_11 ?_
      refine ex_ilen (n := 7) (v := 7) F dX1_fillWith_48 (tI_1_0 hk) (by decide) ?_
      refine ex_icmp_ge (t := 91) F dX1_fillWith_49 (by decide) (fun _ => ?_) (fun c => absurd (by decide) c)
      exact ex_vret F R dX1_fillWith_91 rfl (rfl)
    | succ m ih =>
      intro i v hi hv
      subst hv
      refine ex_iload F dX1_fillWith_42 rfl ?_
      refine ex_aload_n F dX1_fillWith_44 rfl rfl ?_
      refine gf_1_0 hk (q9 := (k + 1)) rfl F dX1_fillWith_45 fl_X1_11 ?_
      refine ex_ilen (n := 7) (v := 7) F dX1_fillWith_48 (tI_1_0 hk) (by decide) ?_
      refine ex_icmp_ge (t := 91) F dX1_fillWith_49 (by decide) (fun c => absurd c (nI_ge (b := 7) (by omega) (by decide))) (fun _ => ?_)
      refine ex_aload_n F dX1_fillWith_52 rfl rfl ?_
      refine gf_1_0 hk (q9 := (k + 1)) rfl F dX1_fillWith_53 fl_X1_11 ?_
      refine ex_iload F dX1_fillWith_56 rfl ?_
      refine ex_iload F dX1_fillWith_58 rfl ?_
      refine ex_aload_n F dX1_fillWith_60 rfl rfl ?_
      refine gf_6_1 (by decide) (q9 := 3) rfl F dX1_fillWith_61 fl_X1_43 ?_
      refine ex_ilen (n := 4) (v := 4) F dX1_fillWith_64 (by decide) (by decide) ?_
      refine ex_icmp_ge (t := 83) F dX1_fillWith_65 (by decide) (fun c65 => ?_) (fun c65 => ?_)
      · refine ex_iconst (v := 0) F dX1_fillWith_83 (by decide) ?_
        refine ex_iast (n := 7) F dX1_fillWith_84 (tI_1_0 hk) (vp_in_nI (by omega) (by decide)) (j := i) (nI_clamp (by omega)) ?_
        refine ex_iinc (w := _ + 1) F dX1_fillWith_85 rfl rfl (by decide) ?_
        refine ex_goto (t := 42) F dX1_fillWith_88 (by decide) ?_
        refine ex_weak2 (L1 := [(0, .ref (ad g k)), (1, .ref (ad g 1)), (4, .int (nI i + 1))]) ?_ ⟨rfl, rfl, rfl, trivial⟩
        refine ex_M (M1 := putC M k (sFillN (i + 1) (sLitN (M 4) b 8) (sHardOf (M 4) (M 5) b) w0 (M 3) (cX M k))) ?_ (ih (i + 1) _ (by omega) (nI_1 i))
        have h4 : ¬ i < 4 := fun q => nI_ge (b := 4) q (by decide) c65
        rw [mu_cd, putC_putC, cX_putC, ← fillS, if_neg h4]
      · refine ex_aload_n F dX1_fillWith_68 rfl rfl ?_
        refine gf_1_1 hk F dX1_fillWith_69 fl_X1_25 ?_
        refine ex_aload_n F dX1_fillWith_72 rfl rfl ?_
        refine gf_6_1 (by decide) (q9 := 3) rfl F dX1_fillWith_73 fl_X1_43 ?_
        refine ex_iload F dX1_fillWith_76 rfl ?_
        refine ex_iald (n := 4) F dX1_fillWith_78 (by decide) (vp_in_nI (nI_ltof (b := 4) (by omega) c65) (by decide)) (j := i) (nI_clamp (by omega)) ?_
        refine ex_imul F dX1_fillWith_79 ?_
        refine ex_goto (t := 84) F dX1_fillWith_80 (by decide) ?_
        refine ex_iast (n := 7) F dX1_fillWith_84 (tI_1_0 hk) (vp_in_nI (by omega) (by decide)) (j := i) (nI_clamp (by omega)) ?_
        refine ex_iinc (w := _ + 1) F dX1_fillWith_85 rfl rfl (by decide) ?_
        refine ex_goto (t := 42) F dX1_fillWith_88 (by decide) ?_
        refine ex_weak2 (L1 := [(0, .ref (ad g k)), (1, .ref (ad g 1)), (4, .int (nI i + 1))]) ?_ ⟨rfl, rfl, rfl, trivial⟩
        refine ex_M (M1 := putC M k (sFillN (i + 1) (sLitN (M 4) b 8) (sHardOf (M 4) (M 5) b) w0 (M 3) (cX M k))) ?_ (ih (i + 1) _ (by omega) (nI_1 i))
        have h4 : i < 4 := nI_ltof (b := 4) (by omega) c65
        rw [rd_1, rd_lo hk 3 (by decide), mu_cd, putC_putC, cX_putC, ← fillS, if_pos h4]
        rfl
  refine ex_M (M1 := putC M k (sFillN 0 (sLitN (M 4) b 8) (sHardOf (M 4) (M 5) b) w0 (M 3) (cX M k))) ?_ (ex_weak2 (key 7 0 _ (by omega) rfl) ⟨rfl, rfl, rfl, trivial⟩)
  rw [← fill0]
  simp [mu_c1, mu_c2, mu_c3, mu_c4, mu_c5, mu_c6, mu_cd, putC_putC, cX_putC, putC_cX, rd_1, rd_2, rd_3, rd_4, rd_5, rd_6, rd_d]
