set_option maxRecDepth 100000 in
theorem c_X8_fault {l : Launch} {g : XG} {M : Mem}  : Call l g YX8_fault [.ref (ad g 38)] M (PI (fun v M' => v = M 38 2 ∧ M' = M)) := by
  refine call_of (by decide +kernel) (Nat.le_of_ble_eq_true rfl) (fun x hxl F R => ?_)
  subst hxl
  refine ex_aload_n F dX8_fault_0 rfl rfl ?_
  refine gf_8_2 F dX8_fault_1 fl_X8_136 ?_
  exact ex_iret F R dX8_fault_4 rfl (⟨rfl, rfl⟩)
set_option maxRecDepth 100000 in
theorem c_X8_torn {l : Launch} {g : XG} {M : Mem}  : Call l g YX8_torn [.ref (ad g 38)] M (PI (fun v M' => v = M 38 34 ∧ M' = M)) := by
  refine call_of (by decide +kernel) (Nat.le_of_ble_eq_true rfl) (fun x hxl F R => ?_)
  subst hxl
  refine ex_aload_n F dX8_torn_0 rfl rfl ?_
  refine gf_8_34 F dX8_torn_1 fl_X8_272 ?_
  exact ex_iret F R dX8_torn_4 rfl (⟨rfl, rfl⟩)
theorem rule_in1 {v : Int32} (h : outB v 0 8 = false) : (!decide (v < 0) && !decide (9 ≤ v)) = true ∧ ∃ n, n ≤ 8 ∧ v = nI n := by
  obtain ⟨n, -, hn, rfl⟩ := outB_n (a := 0) (b := 8) (by decide) h (by decide)
  refine ⟨?_, n, hn, rfl⟩
  rw [decide_eq_false (show ¬ nI n < 0 from nI_pos (by omega)), decide_eq_false (show ¬ (9 : Int32) ≤ nI n from nI_ge (b := 9) (by omega) (by decide))]
  rfl
theorem rule_out1 {v : Int32} (h : outB v 0 8 = true) : ¬ (!decide (v < 0) && !decide (9 ≤ v)) = true := by
  intro q
  simp only [outB, Bool.or_eq_true, decide_eq_true_eq] at h
  simp only [Bool.and_eq_true, Bool.not_eq_true', decide_eq_false_iff_not] at q
  rcases h with h | h
  · exact q.1 h
  · refine q.2 ?_
    obtain ⟨j, hj, rfl⟩ := nI_of q.1
    have : 8 < j := (nI_ltI (a := 8) (by decide) hj).mp h
    exact nI_le (a := 9) (by omega) hj
theorem rule_in2 {v : Int32} (h : outB v 10 13 = false) : (!decide (v < 10) && !decide (4 ≤ v - 10)) = true ∧ ∃ n, n < 4 ∧ v = nI (10 + n) ∧ (v - 10).toNatClampNeg = n := by
  obtain ⟨n, hn1, hn, rfl⟩ := outB_n (a := 10) (b := 13) (by decide) h (by decide)
  have e : nI n - 10 = nI (n - 10) := pk_sub (b := 10) hn1
  refine ⟨?_, n - 10, by omega, by rw [show 10 + (n - 10) = n by omega], by rw [e]; exact nI_clamp (by omega)⟩
  rw [e, decide_eq_false (show ¬ nI n < (10 : Int32) from Int32.not_lt.mpr (nI_le (a := 10) hn1 (by omega))), decide_eq_false (show ¬ (4 : Int32) ≤ nI (n - 10) from nI_ge (b := 4) (by omega) (by decide))]
  rfl
theorem rule_out2 {v : Int32} (h : outB v 10 13 = true) : ¬ (!decide (v < 10) && !decide (4 ≤ v - 10)) = true := by
  intro q
  simp only [outB, Bool.or_eq_true, decide_eq_true_eq] at h
  simp only [Bool.and_eq_true, Bool.not_eq_true', decide_eq_false_iff_not] at q
  rcases h with h | h
  · exact q.1 h
  · refine q.2 ?_
    have h0 : ¬ v < 0 := fun z => q.1 (Int32.lt_trans z (by decide))
    obtain ⟨j, hj, rfl⟩ := nI_of h0
    have : 13 < j := (nI_ltI (a := 13) (by decide) hj).mp h
    have e : nI j - 10 = nI (j - 10) := pk_sub (b := 10) (by omega)
    rw [e]
    exact nI_le (a := 4) (by omega) (by omega)
theorem s_rule1 {K : Mem} {v : Int32} (h : outB v 0 8 = false) : sRule K v = K 2 v.toNatClampNeg := by rw [sRule, if_pos (rule_in1 h).1]
theorem s_rule2 {K : Mem} {v : Int32} (h : outB v 0 8 = true) (h2 : outB v 10 13 = false) : sRule K v = K 3 (v - 10).toNatClampNeg := by rw [sRule, if_neg (rule_out1 h), if_pos (rule_in2 h2).1]
theorem s_rule3 {K : Mem} {v : Int32} (h : outB v 0 8 = true) (h2 : outB v 10 13 = true) : sRule K v = -1 := by rw [sRule, if_neg (rule_out1 h), if_neg (rule_out2 h2)]
theorem cs_X8_rule_78 : CSS (xmN YX8_rule).cls (xmF YX8_rule) (xmW YX8_rule) 78 3 YX8_in := ⟨⟨ml_X8_78, ini_X8, cd_X8_in, by decide +kernel, by decide⟩, st_X8_in⟩
set_option maxRecDepth 100000 in
theorem c_X8_rule {l : Launch} {g : XG} {M : Mem} {K : Mem} {n : Nat} (hB : RB K M n) {v0 : Int32} : Call l g YX8_rule [.ref (ad g 38), .int v0] M (PI (fun v M' => v = sRule K v0 ∧ M' = M)) := by
  refine call_of (by decide +kernel) (Nat.le_of_ble_eq_true rfl) (fun x hxl F R => ?_)
  subst hxl
  refine ex_iload_n F dX8_rule_0 rfl rfl ?_
  refine ex_i2l F dX8_rule_1 ?_
  refine ex_lconst (v := 0) F dX8_rule_2 (by decide) ?_
  refine ex_ldc2 F dX8_rule_3 kc_X8_153 ?_
  refine ex_callSi F (c_X8_in) dX8_rule_6 cs_X8_rule_78 rfl rfl (Nat.le_of_ble_eq_true rfl) (fun v6 M6 h6 => ?_)
  obtain ⟨e6, q6⟩ := h6
  rw [q6]
  clear q6
  rw [in_out (lo := 0) (hi := 8) (by decide) (by decide)] at e6
  subst e6
  refine ex_if_eq (t := 21) F dX8_rule_9 (by decide) (fun c9 => ?_) (fun c9 => ?_)
  · refine ex_iload_n F dX8_rule_21 rfl rfl ?_
    refine ex_i2l F dX8_rule_22 ?_
    refine ex_ldc2 F dX8_rule_23 kc_X8_155 ?_
    refine ex_ldc2 F dX8_rule_26 kc_X8_157 ?_
    refine ex_callSi F (c_X8_in) dX8_rule_29 cs_X8_rule_78 rfl rfl (Nat.le_of_ble_eq_true rfl) (fun v29 M29 h29 => ?_)
    obtain ⟨e29, q29⟩ := h29
    rw [q29]
    clear q29
    rw [in_out (lo := 10) (hi := 13) (by decide) (by decide)] at e29
    subst e29
    refine ex_if_eq (t := 50) F dX8_rule_32 (by decide) (fun c32 => ?_) (fun c32 => ?_)
    · refine ex_iconst (v := -1) F dX8_rule_50 (by decide) ?_
      exact ex_iret F R dX8_rule_51 rfl (⟨by rw [s_rule3 (by simpa using b2i_0.mp c9) (by simpa using b2i_0.mp c32)], rfl⟩)
    · have z2 : outB v0 10 13 = false := by simpa using b2i_1.mp c32
      obtain ⟨-, k, lk, evk, ek⟩ := rule_in2 z2
      have e9 : (9 : Int32) + v0 - 10 = nI (9 + k) := by
        rw [evk, show (9 : Int32) + nI (10 + k) = nI (9 + (10 + k)) from nI_add 9 _]
        exact (pk_sub (b := 10) (by omega)).trans (congrArg nI (by omega))
      refine ex_aload_n F dX8_rule_35 rfl rfl ?_
      refine gf_8_16 F dX8_rule_36 fl_X8_34 ?_
      refine ex_bipush (v := 9) F dX8_rule_39 (by decide) ?_
      refine ex_iload_n F dX8_rule_41 rfl rfl ?_
      refine ex_iadd F dX8_rule_42 ?_
      refine ex_bipush (v := 10) F dX8_rule_43 (by decide) ?_
      refine ex_isub F dX8_rule_45 ?_
      refine ex_iald (n := 13) F dX8_rule_46 (by decide) (by rw [e9]; exact vp_in_nI (by omega) (by decide)) (j := 9 + k) (by rw [e9]; exact nI_clamp (by omega)) ?_
      refine ex_goto (t := 51) F dX8_rule_47 (by decide) ?_
      exact ex_iret F R dX8_rule_51 rfl (⟨by rw [s_rule2 (by simpa using b2i_0.mp c9) z2, ek]; exact hB.dr k (by omega), rfl⟩)
  · have z1 : outB v0 0 8 = false := by simpa using b2i_1.mp c9
    obtain ⟨-, k, lk, rfl⟩ := rule_in1 z1
    refine ex_aload_n F dX8_rule_12 rfl rfl ?_
    refine gf_8_16 F dX8_rule_13 fl_X8_34 ?_
    refine ex_iload_n F dX8_rule_16 rfl rfl ?_
    refine ex_iald (n := 13) F dX8_rule_17 (by decide) (vp_in_nI (by omega) (by decide)) (j := k) (nI_clamp (by omega)) ?_
    refine ex_goto (t := 51) F dX8_rule_18 (by decide) ?_
    exact ex_iret F R dX8_rule_51 rfl (⟨by rw [s_rule1 z1, nI_clamp (by omega)]; exact hB.ru k (by omega), rfl⟩)
theorem cow_out {n : Nat} {c : Int32} (hn : n ≤ 8) : (!outB c 0 (nI n - 1)) = sHasCow (nI n) c := by
  by_cases h0 : c < 0
  · simp only [outB, sHasCow, decide_eq_true h0, decide_eq_false (Int32.not_le.mpr h0), Bool.true_or, Bool.false_and]; rfl
  · obtain ⟨j, hj, rfl⟩ := nI_of h0
    have e1 : decide (nI n - 1 < nI j) = !decide (nI j < nI n) := by
      rcases Nat.eq_zero_or_pos n with z | z
      · subst z
        rw [decide_eq_false (show ¬ nI j < nI 0 from h0), show nI 0 - 1 = -1 from rfl, decide_eq_true (show (-1 : Int32) < nI j from Int32.lt_of_lt_of_le (by decide) (Int32.not_lt.mp h0))]; rfl
      · have e : nI n - 1 = nI (n - 1) := pk_sub (b := 1) z
        rw [e]
        by_cases q : j < n
        · rw [decide_eq_true (nI_lt q (by omega)), decide_eq_false (Int32.not_lt.mpr (nI_le (by omega) (by omega)))]; rfl
        · rw [decide_eq_false (Int32.not_lt.mpr (nI_le (by omega) hj)), decide_eq_true (nI_lt (by omega) hj)]; rfl
    have e8 : (decide (nI j < nI n) && decide (nI j < 8)) = decide (nI j < nI n) := by
      by_cases q : nI j < nI n
      · have q2 : j < n := (nI_ltI hj (by omega)).mp q
        rw [decide_eq_true q, decide_eq_true (show nI j < (8 : Int32) from nI_lt (b := 8) (by omega) (by decide))]; rfl
      · rw [decide_eq_false q]; rfl
    rw [outB, sHasCow, e1, decide_eq_false h0, decide_eq_true (Int32.not_lt.mp h0), Bool.false_or, Bool.not_not, Bool.true_and, e8]
theorem hasCow_n {n : Nat} {c : Int32} (hn : n ≤ 8) (h : sHasCow (nI n) c = true) : ∃ j, j < n ∧ c = nI j := by
  simp only [sHasCow, Bool.and_eq_true, decide_eq_true_eq] at h
  obtain ⟨j, hj, rfl⟩ := nI_of (Int32.not_lt.mpr h.1.1)
  exact ⟨j, (nI_ltI hj (by omega)).mp h.1.2, rfl⟩
theorem cs_X8_isCow_78 : CSS (xmN YX8_isCow).cls (xmF YX8_isCow) (xmW YX8_isCow) 78 3 YX8_in := ⟨⟨ml_X8_78, ini_X8, cd_X8_in, by decide +kernel, by decide⟩, st_X8_in⟩
set_option maxRecDepth 100000 in
theorem c_X8_isCow {l : Launch} {g : XG} {M : Mem} {K : Mem} {n : Nat} (hB : RB K M n) {c0 : Int32} : Call l g YX8_isCow [.ref (ad g 38), .int c0] M (PI (fun v M' => v = b2i (sHasCow (K 1 4) c0) ∧ M' = M)) := by
  refine call_of (by decide +kernel) (Nat.le_of_ble_eq_true rfl) (fun x hxl F R => ?_)
  subst hxl
  refine ex_iload_n F dX8_isCow_0 rfl rfl ?_
  refine ex_i2l F dX8_isCow_1 ?_
  refine ex_lconst (v := 0) F dX8_isCow_2 (by decide) ?_
  refine ex_aload_n F dX8_isCow_3 rfl rfl ?_
  refine gf_8_18 F dX8_isCow_4 fl_X8_139 ?_
  refine ex_iconst (v := 1) F dX8_isCow_7 (by decide) ?_
  refine ex_isub F dX8_isCow_8 ?_
  refine ex_i2l F dX8_isCow_9 ?_
  refine ex_callSi F (c_X8_in) dX8_isCow_10 cs_X8_isCow_78 rfl rfl (Nat.le_of_ble_eq_true rfl) (fun v10 M10 h10 => ?_)
  obtain ⟨e10, q10⟩ := h10
  rw [q10]
  clear q10
  rw [in_out (lo := 0) (hi := M 38 18 - 1) (by decide) rfl] at e10
  subst e10
  exact ex_zret (ty := .boolean) F R dX8_isCow_13 rfl (narrow_b2i _) (⟨by rw [hB.kn, ← cow_out hB.n8, hB.mn], rfl⟩)
theorem cow_rd {K M : Mem} {n j x : Nat} (hB : RB K M n) (hj : j < n) (hx : x ≤ 1) : M 48 (2 * j + x) = if nI x = 0 then K 4 (nI j).toNatClampNeg else K 5 (nI j).toNatClampNeg := by
  have := hB.n8
  rw [nI_clamp (show j < 2 ^ 31 by omega)]
  match x, hx with
  | 0, _ => exact hB.li j hj
  | 1, _ => exact hB.ha j hj
theorem cs_X8_cow_159 : CSV (xmN YX8_cow).cls (xmF YX8_cow) (xmW YX8_cow) 159 1 YX8_isCow := ⟨⟨ml_X8_159, ini_X8, cd_X8_isCow, by decide +kernel, by decide⟩, im_X8_isCow, se_X8_isCow⟩
theorem cs_X8_cow_78 : CSS (xmN YX8_cow).cls (xmF YX8_cow) (xmW YX8_cow) 78 3 YX8_in := ⟨⟨ml_X8_78, ini_X8, cd_X8_in, by decide +kernel, by decide⟩, st_X8_in⟩
set_option maxRecDepth 100000 in
theorem c_X8_cow {l : Launch} {g : XG} {M : Mem} {K : Mem} {n : Nat} (hB : RB K M n) {c0 w0 : Int32} : Call l g YX8_cow [.ref (ad g 38), .int c0, .int w0] M (PI (fun v M' => v = (if (!sHasCow (K 1 4) c0 || outB w0 0 1) = true then -1 else if w0 = 0 then K 4 c0.toNatClampNeg else K 5 c0.toNatClampNeg) ∧ M' = M)) := by
  refine call_of (by decide +kernel) (Nat.le_of_ble_eq_true rfl) (fun x hxl F R => ?_)
  subst hxl
  refine ex_aload_n F dX8_cow_0 rfl rfl ?_
  refine ex_iload_n F dX8_cow_1 rfl rfl ?_
  refine ex_callVi F (c_X8_isCow hB) dX8_cow_2 cs_X8_cow_159 ob_8 rfl rfl rfl rfl (Nat.le_of_ble_eq_true rfl) (fun v2 M2 h2 => ?_)
  obtain ⟨rfl, q2⟩ := h2
  rw [q2]
  clear q2
  refine ex_if_eq (t := 31) F dX8_cow_5 (by decide) (fun c5 => ?_) (fun c5 => ?_)
  · refine ex_iconst (v := -1) F dX8_cow_31 (by decide) ?_
    exact ex_iret F R dX8_cow_32 rfl (⟨by rw [ift (or_l (by simpa using b2i_0.mp c5))], rfl⟩)
  · refine ex_iload_n F dX8_cow_8 rfl rfl ?_
    refine ex_i2l F dX8_cow_9 ?_
    refine ex_lconst (v := 0) F dX8_cow_10 (by decide) ?_
    refine ex_lconst (v := 1) F dX8_cow_11 (by decide) ?_
    refine ex_callSi F (c_X8_in) dX8_cow_12 cs_X8_cow_78 rfl rfl (Nat.le_of_ble_eq_true rfl) (fun v12 M12 h12 => ?_)
    obtain ⟨e12, q12⟩ := h12
    rw [q12]
    clear q12
    rw [in_out (lo := 0) (hi := 1) (by decide) (by decide)] at e12
    subst e12
    refine ex_if_eq (t := 31) F dX8_cow_15 (by decide) (fun c15 => ?_) (fun c15 => ?_)
    · refine ex_iconst (v := -1) F dX8_cow_31 (by decide) ?_
      exact ex_iret F R dX8_cow_32 rfl (⟨by rw [ift (or_r (by simpa using b2i_0.mp c15))], rfl⟩)
    · have n8 := hB.n8
      have z1 : sHasCow (K 1 4) c0 = true := b2i_1.mp c5
      have z2 : outB w0 0 1 = false := by simpa using b2i_1.mp c15
      have z1b := z1
      rw [hB.kn] at z1b
      obtain ⟨j, lj, rfl⟩ := hasCow_n n8 z1b
      obtain ⟨xx, -, lw, rfl⟩ := outB_n (a := 0) (b := 1) (by decide) z2 (by decide)
      refine ex_aload_n F dX8_cow_18 rfl rfl ?_
      refine gf_8_17 F dX8_cow_19 fl_X8_37 ?_
      refine ex_iconst (v := 2) F dX8_cow_22 (by decide) ?_
      refine ex_iload_n F dX8_cow_23 rfl rfl ?_
      refine ex_imul F dX8_cow_24 ?_
      refine ex_iload_n F dX8_cow_25 rfl rfl ?_
      refine ex_iadd F dX8_cow_26 ?_
      refine ex_iald (n := 16) F dX8_cow_27 (by decide) (by rw [ix2, nI_add]; exact vp_in_nI (by omega) (by decide)) (j := 2 * j + xx) (by rw [ix2, nI_add]; exact nI_clamp (by omega)) ?_
      refine ex_goto (t := 32) F dX8_cow_28 (by decide) ?_
      exact ex_iret F R dX8_cow_32 rfl (⟨by rw [ifn (or_n (by rw [z1]; rfl) z2)]; exact cow_rd hB lj lw, rfl⟩)
theorem cs_X8_feeds_159 : CSV (xmN YX8_feeds).cls (xmF YX8_feeds) (xmW YX8_feeds) 159 1 YX8_isCow := ⟨⟨ml_X8_159, ini_X8, cd_X8_isCow, by decide +kernel, by decide⟩, im_X8_isCow, se_X8_isCow⟩
theorem cs_X8_feeds_78 : CSS (xmN YX8_feeds).cls (xmF YX8_feeds) (xmW YX8_feeds) 78 3 YX8_in := ⟨⟨ml_X8_78, ini_X8, cd_X8_in, by decide +kernel, by decide⟩, st_X8_in⟩
set_option maxRecDepth 100000 in
theorem c_X8_feeds {l : Launch} {g : XG} {M : Mem} {K : Mem} {n : Nat} (hB : RB K M n) {c0 v0 : Int32} : Call l g YX8_feeds [.ref (ad g 38), .int c0, .int v0] M (PI (fun v M' => v = (if (!sHasCow (K 1 4) c0 || outB v0 0 100) = true then -1 else K 5 c0.toNatClampNeg) ∧ M' = (if (!sHasCow (K 1 4) c0 || outB v0 0 100) = true then M else mu M 48 (2 * c0.toNatClampNeg + 1) v0))) := by
  refine call_of (by decide +kernel) (Nat.le_of_ble_eq_true rfl) (fun x hxl F R => ?_)
  subst hxl
  refine ex_aload_n F dX8_feeds_0 rfl rfl ?_
  refine ex_iload_n F dX8_feeds_1 rfl rfl ?_
  refine ex_callVi F (c_X8_isCow hB) dX8_feeds_2 cs_X8_feeds_159 ob_8 rfl rfl rfl rfl (Nat.le_of_ble_eq_true rfl) (fun v2 M2 h2 => ?_)
  obtain ⟨rfl, q2⟩ := h2
  rw [q2]
  clear q2
  refine ex_if_eq (t := 20) F dX8_feeds_5 (by decide) (fun c5 => ?_) (fun c5 => ?_)
  · refine ex_iconst (v := -1) F dX8_feeds_20 (by decide) ?_
    exact ex_iret F R dX8_feeds_21 rfl (⟨by rw [ift (or_l (by simpa using b2i_0.mp c5))], by rw [ift (or_l (by simpa using b2i_0.mp c5))]⟩)
  · refine ex_iload_n F dX8_feeds_8 rfl rfl ?_
    refine ex_i2l F dX8_feeds_9 ?_
    refine ex_lconst (v := 0) F dX8_feeds_10 (by decide) ?_
    refine ex_ldc2 F dX8_feeds_11 kc_X8_163 ?_
    refine ex_callSi F (c_X8_in) dX8_feeds_14 cs_X8_feeds_78 rfl rfl (Nat.le_of_ble_eq_true rfl) (fun v14 M14 h14 => ?_)
    obtain ⟨e14, q14⟩ := h14
    rw [q14]
    clear q14
    rw [in_out (lo := 0) (hi := 100) (by decide) (by decide)] at e14
    subst e14
    refine ex_if_ne (t := 22) F dX8_feeds_17 (by decide) (fun c17 => ?_) (fun c17 => ?_)
    · have n8 := hB.n8
      have z1 : sHasCow (K 1 4) c0 = true := b2i_1.mp c5
      have z2 : outB v0 0 100 = false := by simpa using b2i_1.mp c17
      have z1b := z1
      rw [hB.kn] at z1b
      obtain ⟨j, lj, rfl⟩ := hasCow_n n8 z1b
      have hbad := or_n (show (!sHasCow (K 1 4) (nI j)) = false by rw [z1]; rfl) z2
      refine ex_aload_n F dX8_feeds_22 rfl rfl ?_
      refine gf_8_17 F dX8_feeds_23 fl_X8_37 ?_
      refine ex_iconst (v := 2) F dX8_feeds_26 (by decide) ?_
      refine ex_iload_n F dX8_feeds_27 rfl rfl ?_
      refine ex_imul F dX8_feeds_28 ?_
      refine ex_iconst (v := 1) F dX8_feeds_29 (by decide) ?_
      refine ex_iadd F dX8_feeds_30 ?_
      refine ex_iald (n := 16) F dX8_feeds_31 (by decide) (by rw [ix2, nI_1]; exact vp_in_nI (by omega) (by decide)) (j := 2 * j + 1) (by rw [ix2, nI_1]; exact nI_clamp (by omega)) ?_
      refine ex_istore_n F dX8_feeds_32 rfl (by decide) ?_
      refine ex_aload_n F dX8_feeds_33 rfl rfl ?_
      refine gf_8_17 F dX8_feeds_34 fl_X8_37 ?_
      refine ex_iconst (v := 2) F dX8_feeds_37 (by decide) ?_
      refine ex_iload_n F dX8_feeds_38 rfl rfl ?_
      refine ex_imul F dX8_feeds_39 ?_
      refine ex_iconst (v := 1) F dX8_feeds_40 (by decide) ?_
      refine ex_iadd F dX8_feeds_41 ?_
      refine ex_iload_n F dX8_feeds_42 rfl rfl ?_
      refine ex_iast (n := 16) F dX8_feeds_43 (by decide) (by rw [ix2, nI_1]; exact vp_in_nI (by omega) (by decide)) (j := 2 * j + 1) (by rw [ix2, nI_1]; exact nI_clamp (by omega)) ?_
      refine ex_iload_n F dX8_feeds_44 rfl rfl ?_
      exact ex_iret F R dX8_feeds_45 rfl (⟨by rw [ifn hbad, nI_clamp (by omega)]; exact hB.ha j lj, by rw [ifn hbad, nI_clamp (by omega)]⟩)
    · refine ex_iconst (v := -1) F dX8_feeds_20 (by decide) ?_
      exact ex_iret F R dX8_feeds_21 rfl (⟨by rw [ift (or_r (by simpa using b2i_0.mp c17))], by rw [ift (or_r (by simpa using b2i_0.mp c17))]⟩)
