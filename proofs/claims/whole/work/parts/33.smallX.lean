def sRule (M : Mem) (v : Int32) : Int32 := if (!decide (v < 0) && !decide (9 ≤ v)) = true then M 2 v.toNatClampNeg else if (!decide (v < 10) && !decide (4 ≤ v - 10)) = true then M 3 (v - 10).toNatClampNeg else -1
theorem s10 {v : Int32} (h : ¬ v < 10) : ¬ v - 10 < 0 := by
  have e10 : (10 : Int32).toInt = 10 := by decide
  have e0 : (0 : Int32).toInt = 0 := by decide
  have h1 := Int32.le_iff_toInt_le.mp (Int32.not_lt.mp h)
  rw [e10] at h1
  have h2 := v.toInt_lt
  intro q
  have q1 := Int32.lt_iff_toInt_lt.mp q
  rw [Jvm.Kit.i32_sub (by rw [e10]; omega) (by rw [e10]; omega), e10, e0] at q1
  omega
theorem hasCow_in {n c : Int32} (h : sHasCow n c = true) : vp_in c 8 := by
  simp only [sHasCow, Bool.and_eq_true, decide_eq_true_eq] at h
  exact vin (b := 8) (by decide) (Int32.not_lt.mpr h.1.1) (Int32.not_le.mpr h.2)
def sImgs (M : Mem) : Int32 := (if M 20 1 = 0 then 0 else 1) + (if M 23 1 = 0 then 0 else 1)
def sCount (M : Mem) (w : Int32) : Int32 := if w = 0 then M 1 4 else if w = 1 then M 0 10 else if w = 2 then sImgs M else if w = 3 then M 7 1 else if w = 4 then (if sThere M 27 = true then M 27 2 else -4) else -1
def byB (v : Int64) (i : Nat) : Int32 := ((v >>> ((nI (56 - 8 * i)).toInt64 &&& 63)).toInt32).toInt8.toInt32
theorem sh_i : ∀ i, i < 8 → nI (64 - 8 * i) + (-8) = nI (56 - 8 * i) := by decide
def putT (M : Mem) (t : Nat) (v : Int64) (n : Nat) : Mem := fun c => if c = 8 then (fun j => if t ≤ j ∧ j < t + n then byB v (j - t) else M 8 j) else mu M 7 1 (nI (t + n)) c
theorem putT_0 (M : Mem) (t : Nat) (v : Int64) (h : M 7 1 = nI t) : putT M t v 0 = M := by
  funext c j
  by_cases hc : c = 8
  · subst hc; simp [putT, show ¬ (t ≤ j ∧ j < t) by omega]
  · by_cases h7 : c = 7
    · subst h7
      by_cases hj : j = 1
      · subst hj; simp [putT, mu, upd, h]
      · simp [putT, mu, upd, hj]
    · simp [putT, hc, mu, h7]
theorem putT_S (M : Mem) (t : Nat) (v : Int64) (n : Nat) : mu (mu (putT M t v n) 8 (t + n) (byB v n)) 7 1 (nI (t + n + 1)) = putT M t v (n + 1) := by
  funext c j
  by_cases hc : c = 8
  · subst hc
    by_cases hj : j = t + n
    · subst hj; simp [putT, mu, upd]
    · by_cases h1 : t ≤ j ∧ j < t + n
      · simp [putT, mu, upd, hj, h1, show j < t + (n + 1) by omega]
      · simp only [putT, mu, upd, hj, h1, if_false, if_true, show ¬ (t ≤ j ∧ j < t + (n + 1)) by omega, show ¬ (8 : Nat) = 7 by decide]
  · by_cases h7 : c = 7
    · subst h7
      by_cases hj : j = 1
      · subst hj; simp [putT, mu, upd, Nat.add_assoc]
      · simp [putT, mu, upd, hj]
    · simp [putT, hc, mu, h7]
theorem putT_71 (M : Mem) (t : Nat) (v : Int64) (n : Nat) : putT M t v n 7 1 = nI (t + n) := by simp [putT, mu, upd]
set_option maxRecDepth 100000 in
theorem c_X7_rule {l : Launch} {g : XG} {M : Mem} {v0 : Int32} : Call l g YX7_rule [.ref (ad g 0), .int v0] M (PI (fun v M' => v = sRule M v0 ∧ M' = M)) := by
  refine call_of (by decide +kernel) (Nat.le_of_ble_eq_true rfl) (fun x hxl F R => ?_)
  subst hxl
  refine ex_iload_n F dX7_rule_0 rfl rfl ?_
  refine ex_if_lt (t := 26) F dX7_rule_1 (by decide) (fun c1 => ?_) (fun c1 => ?_)
  · refine ex_iload_n F dX7_rule_26 rfl rfl ?_
    refine ex_bipush (v := 10) F dX7_rule_27 (by decide) ?_
    refine ex_icmp_lt (t := 60) F dX7_rule_29 (by decide) (fun c29 => ?_) (fun c29 => ?_)
    · refine ex_iconst (v := -1) F dX7_rule_60 (by decide) ?_
      exact ex_iret F R dX7_rule_61 rfl (⟨by unfold sRule; simp [c1, c29], rfl⟩)
    · refine ex_iload_n F dX7_rule_32 rfl rfl ?_
      refine ex_bipush (v := 10) F dX7_rule_33 (by decide) ?_
      refine ex_isub F dX7_rule_35 ?_
      refine ex_aload_n F dX7_rule_36 rfl rfl ?_
      refine gf_7_0 F dX7_rule_37 fl_X7_10 ?_
      refine gf_6_1 (by decide) (q9 := 3) rfl F dX7_rule_40 fl_X7_122 ?_
      refine ex_ilen (n := 4) (v := 4) F dX7_rule_43 (by decide) (by decide) ?_
      refine ex_icmp_ge (t := 60) F dX7_rule_44 (by decide) (fun c44 => ?_) (fun c44 => ?_)
      · refine ex_iconst (v := -1) F dX7_rule_60 (by decide) ?_
        exact ex_iret F R dX7_rule_61 rfl (⟨by unfold sRule; simp [c1, c29, c44], rfl⟩)
      · refine ex_aload_n F dX7_rule_47 rfl rfl ?_
        refine gf_7_0 F dX7_rule_48 fl_X7_10 ?_
        refine gf_6_1 (by decide) (q9 := 3) rfl F dX7_rule_51 fl_X7_122 ?_
        refine ex_iload_n F dX7_rule_54 rfl rfl ?_
        refine ex_bipush (v := 10) F dX7_rule_55 (by decide) ?_
        refine ex_isub F dX7_rule_57 ?_
        refine ex_iald (n := 4) F dX7_rule_58 (by decide) (vin (b := 4) (n := 4) (by decide) (s10 c29) c44) rfl ?_
        exact ex_iret F R dX7_rule_59 rfl (⟨by unfold sRule; simp [c1, c29, c44], rfl⟩)
  · refine ex_iload_n F dX7_rule_4 rfl rfl ?_
    refine ex_aload_n F dX7_rule_5 rfl rfl ?_
    refine gf_7_0 F dX7_rule_6 fl_X7_10 ?_
    refine gf_6_0 (by decide) (q9 := 2) rfl F dX7_rule_9 fl_X7_119 ?_
    refine ex_ilen (n := 9) (v := 9) F dX7_rule_12 (by decide) (by decide) ?_
    refine ex_icmp_ge (t := 26) F dX7_rule_13 (by decide) (fun c13 => ?_) (fun c13 => ?_)
    · refine ex_iload_n F dX7_rule_26 rfl rfl ?_
      refine ex_bipush (v := 10) F dX7_rule_27 (by decide) ?_
      refine ex_icmp_lt (t := 60) F dX7_rule_29 (by decide) (fun c29 => ?_) (fun c29 => ?_)
      · refine ex_iconst (v := -1) F dX7_rule_60 (by decide) ?_
        exact ex_iret F R dX7_rule_61 rfl (⟨by unfold sRule; simp [c1, c13, c29], rfl⟩)
      · refine ex_iload_n F dX7_rule_32 rfl rfl ?_
        refine ex_bipush (v := 10) F dX7_rule_33 (by decide) ?_
        refine ex_isub F dX7_rule_35 ?_
        refine ex_aload_n F dX7_rule_36 rfl rfl ?_
        refine gf_7_0 F dX7_rule_37 fl_X7_10 ?_
        refine gf_6_1 (by decide) (q9 := 3) rfl F dX7_rule_40 fl_X7_122 ?_
        refine ex_ilen (n := 4) (v := 4) F dX7_rule_43 (by decide) (by decide) ?_
        refine ex_icmp_ge (t := 60) F dX7_rule_44 (by decide) (fun c44 => ?_) (fun c44 => ?_)
        · refine ex_iconst (v := -1) F dX7_rule_60 (by decide) ?_
          exact ex_iret F R dX7_rule_61 rfl (⟨by unfold sRule; simp [c1, c13, c29, c44], rfl⟩)
        · refine ex_aload_n F dX7_rule_47 rfl rfl ?_
          refine gf_7_0 F dX7_rule_48 fl_X7_10 ?_
          refine gf_6_1 (by decide) (q9 := 3) rfl F dX7_rule_51 fl_X7_122 ?_
          refine ex_iload_n F dX7_rule_54 rfl rfl ?_
          refine ex_bipush (v := 10) F dX7_rule_55 (by decide) ?_
          refine ex_isub F dX7_rule_57 ?_
          refine ex_iald (n := 4) F dX7_rule_58 (by decide) (vin (b := 4) (n := 4) (by decide) (s10 c29) c44) rfl ?_
          exact ex_iret F R dX7_rule_59 rfl (⟨by unfold sRule; simp [c1, c13, c29, c44], rfl⟩)
    · refine ex_aload_n F dX7_rule_16 rfl rfl ?_
      refine gf_7_0 F dX7_rule_17 fl_X7_10 ?_
      refine gf_6_0 (by decide) (q9 := 2) rfl F dX7_rule_20 fl_X7_119 ?_
      refine ex_iload_n F dX7_rule_23 rfl rfl ?_
      refine ex_iald (n := 9) F dX7_rule_24 (by decide) (vin (b := 9) (n := 9) (by decide) c1 c13) rfl ?_
      exact ex_iret F R dX7_rule_25 rfl (⟨by unfold sRule; simp [c1, c13], rfl⟩)
theorem cs_X7_cow_125 : CSV (xmN YX7_cow).cls (xmF YX7_cow) (xmW YX7_cow) 125 1 YX6_hasCow := ⟨⟨ml_X7_125, ini_X6, cd_X6_hasCow, by decide +kernel, by decide⟩, im_X6_hasCow, se_X6_hasCow⟩
theorem cs_X7_cow_85 : CSS (xmN YX7_cow).cls (xmF YX7_cow) (xmW YX7_cow) 85 3 YX7_outside := ⟨⟨ml_X7_85, ini_X7, cd_X7_outside, by decide +kernel, by decide⟩, st_X7_outside⟩
set_option maxRecDepth 100000 in
theorem c_X7_cow {l : Launch} {g : XG} {M : Mem} {c0 w0 : Int32} : Call l g YX7_cow [.ref (ad g 0), .int c0, .int w0] M (PI (fun v M' => v = (if (!sHasCow (M 1 4) c0 || outB w0 0 1) = true then -1 else if w0 = 0 then M 4 c0.toNatClampNeg else M 5 c0.toNatClampNeg) ∧ M' = M)) := by
  refine call_of (by decide +kernel) (Nat.le_of_ble_eq_true rfl) (fun x hxl F R => ?_)
  subst hxl
  refine ex_aload_n F dX7_cow_0 rfl rfl ?_
  refine gf_7_0 F dX7_cow_1 fl_X7_10 ?_
  refine ex_iload_n F dX7_cow_4 rfl rfl ?_
  refine ex_callVi F (c_X6_hasCow) dX7_cow_5 cs_X7_cow_125 (ob_6 (by decide)) rfl rfl rfl rfl (Nat.le_of_ble_eq_true rfl) (fun v5 M5 h5 => ?_)
  obtain ⟨rfl, q5⟩ := h5
  rw [q5]
  clear q5
  refine ex_if_eq (t := 20) F dX7_cow_8 (by decide) (fun c8 => ?_) (fun c8 => ?_)
  · refine ex_iconst (v := -1) F dX7_cow_20 (by decide) ?_
    exact ex_iret F R dX7_cow_21 rfl (⟨by rw [if_pos (by simp [b2i_0.mp c8])], rfl⟩)
  · refine ex_iload_n F dX7_cow_11 rfl rfl ?_
    refine ex_iconst (v := 0) F dX7_cow_12 (by decide) ?_
    refine ex_iconst (v := 1) F dX7_cow_13 (by decide) ?_
    refine ex_callSi F (c_X7_outside) dX7_cow_14 cs_X7_cow_85 rfl rfl (Nat.le_of_ble_eq_true rfl) (fun v14 M14 h14 => ?_)
    obtain ⟨rfl, q14⟩ := h14
    rw [q14]
    clear q14
    refine ex_if_eq (t := 22) F dX7_cow_17 (by decide) (fun c17 => ?_) (fun c17 => ?_)
    · refine ex_iload_n F dX7_cow_22 rfl rfl ?_
      refine ex_if_ne (t := 38) F dX7_cow_23 (by decide) (fun c23 => ?_) (fun c23 => ?_)
      · refine ex_aload_n F dX7_cow_38 rfl rfl ?_
        refine gf_7_0 F dX7_cow_39 fl_X7_10 ?_
        refine gf_6_3 (by decide) (q9 := 5) rfl F dX7_cow_42 fl_X7_132 ?_
        refine ex_iload_n F dX7_cow_45 rfl rfl ?_
        refine ex_iald (n := 8) F dX7_cow_46 (by decide) (hasCow_in (b2i_1.mp c8)) rfl ?_
        exact ex_iret F R dX7_cow_47 rfl (⟨by rw [if_neg (by simp [b2i_1.mp c8, b2i_0.mp c17]), if_neg c23], rfl⟩)
      · refine ex_aload_n F dX7_cow_26 rfl rfl ?_
        refine gf_7_0 F dX7_cow_27 fl_X7_10 ?_
        refine gf_6_2 (by decide) (q9 := 4) rfl F dX7_cow_30 fl_X7_129 ?_
        refine ex_iload_n F dX7_cow_33 rfl rfl ?_
        refine ex_iald (n := 8) F dX7_cow_34 (by decide) (hasCow_in (b2i_1.mp c8)) rfl ?_
        refine ex_goto (t := 47) F dX7_cow_35 (by decide) ?_
        exact ex_iret F R dX7_cow_47 rfl (⟨by rw [if_neg (by simp [b2i_1.mp c8, b2i_0.mp c17]), if_pos c23], rfl⟩)
    · refine ex_iconst (v := -1) F dX7_cow_20 (by decide) ?_
      exact ex_iret F R dX7_cow_21 rfl (⟨by rw [if_pos (by simp [b2i_1.mp c8, b2i_1.mp c17])], rfl⟩)
theorem cs_X7_feeds_125 : CSV (xmN YX7_feeds).cls (xmF YX7_feeds) (xmW YX7_feeds) 125 1 YX6_hasCow := ⟨⟨ml_X7_125, ini_X6, cd_X6_hasCow, by decide +kernel, by decide⟩, im_X6_hasCow, se_X6_hasCow⟩
theorem cs_X7_feeds_85 : CSS (xmN YX7_feeds).cls (xmF YX7_feeds) (xmW YX7_feeds) 85 3 YX7_outside := ⟨⟨ml_X7_85, ini_X7, cd_X7_outside, by decide +kernel, by decide⟩, st_X7_outside⟩
set_option maxRecDepth 100000 in
theorem c_X7_feeds {l : Launch} {g : XG} {M : Mem} {c0 v0 : Int32} : Call l g YX7_feeds [.ref (ad g 0), .int c0, .int v0] M (PI (fun v M' => v = (if (!sHasCow (M 1 4) c0 || outB v0 0 100) = true then -1 else M 5 c0.toNatClampNeg) ∧ M' = (if (!sHasCow (M 1 4) c0 || outB v0 0 100) = true then M else mu M 5 c0.toNatClampNeg v0))) := by
  refine call_of (by decide +kernel) (Nat.le_of_ble_eq_true rfl) (fun x hxl F R => ?_)
  subst hxl
  refine ex_aload_n F dX7_feeds_0 rfl rfl ?_
  refine gf_7_0 F dX7_feeds_1 fl_X7_10 ?_
  refine ex_iload_n F dX7_feeds_4 rfl rfl ?_
  refine ex_callVi F (c_X6_hasCow) dX7_feeds_5 cs_X7_feeds_125 (ob_6 (by decide)) rfl rfl rfl rfl (Nat.le_of_ble_eq_true rfl) (fun v5 M5 h5 => ?_)
  obtain ⟨rfl, q5⟩ := h5
  rw [q5]
  clear q5
  refine ex_if_eq (t := 21) F dX7_feeds_8 (by decide) (fun c8 => ?_) (fun c8 => ?_)
  · refine ex_iconst (v := -1) F dX7_feeds_21 (by decide) ?_
    exact ex_iret F R dX7_feeds_22 rfl (⟨by rw [if_pos (by simp [b2i_0.mp c8])], by rw [if_pos (by simp [b2i_0.mp c8])]⟩)
  · refine ex_iload_n F dX7_feeds_11 rfl rfl ?_
    refine ex_iconst (v := 0) F dX7_feeds_12 (by decide) ?_
    refine ex_bipush (v := 100) F dX7_feeds_13 (by decide) ?_
    refine ex_callSi F (c_X7_outside) dX7_feeds_15 cs_X7_feeds_85 rfl rfl (Nat.le_of_ble_eq_true rfl) (fun v15 M15 h15 => ?_)
    obtain ⟨rfl, q15⟩ := h15
    rw [q15]
    clear q15
    refine ex_if_eq (t := 23) F dX7_feeds_18 (by decide) (fun c18 => ?_) (fun c18 => ?_)
    · refine ex_aload_n F dX7_feeds_23 rfl rfl ?_
      refine gf_7_0 F dX7_feeds_24 fl_X7_10 ?_
      refine gf_6_3 (by decide) (q9 := 5) rfl F dX7_feeds_27 fl_X7_132 ?_
      refine ex_iload_n F dX7_feeds_30 rfl rfl ?_
      refine ex_iald (n := 8) F dX7_feeds_31 (by decide) (hasCow_in (b2i_1.mp c8)) rfl ?_
      refine ex_istore_n F dX7_feeds_32 rfl (by decide) ?_
      refine ex_aload_n F dX7_feeds_33 rfl rfl ?_
      refine gf_7_0 F dX7_feeds_34 fl_X7_10 ?_
      refine gf_6_3 (by decide) (q9 := 5) rfl F dX7_feeds_37 fl_X7_132 ?_
      refine ex_iload_n F dX7_feeds_40 rfl rfl ?_
      refine ex_iload_n F dX7_feeds_41 rfl rfl ?_
      refine ex_iast (n := 8) F dX7_feeds_42 (by decide) (hasCow_in (b2i_1.mp c8)) rfl ?_
      refine ex_iload_n F dX7_feeds_43 rfl rfl ?_
      exact ex_iret F R dX7_feeds_44 rfl (⟨by rw [if_neg (by simp [b2i_1.mp c8, b2i_0.mp c18])], by rw [if_neg (by simp [b2i_1.mp c8, b2i_0.mp c18])]⟩)
    · refine ex_iconst (v := -1) F dX7_feeds_21 (by decide) ?_
      exact ex_iret F R dX7_feeds_22 rfl (⟨by rw [if_pos (by simp [b2i_1.mp c8, b2i_1.mp c18])], by rw [if_pos (by simp [b2i_1.mp c8, b2i_1.mp c18])]⟩)
set_option maxRecDepth 100000 in
theorem c_X7_torn {l : Launch} {g : XG} {M : Mem}  : Call l g YX7_torn [.ref (ad g 0)] M (PI (fun v M' => v = M 0 11 ∧ M' = M)) := by
  refine call_of (by decide +kernel) (Nat.le_of_ble_eq_true rfl) (fun x hxl F R => ?_)
  subst hxl
  refine ex_aload_n F dX7_torn_0 rfl rfl ?_
  refine gf_7_11 F dX7_torn_1 fl_X7_260 ?_
  exact ex_iret F R dX7_torn_4 rfl (⟨rfl, rfl⟩)
set_option maxRecDepth 100000 in
theorem c_X7_fault {l : Launch} {g : XG} {M : Mem}  : Call l g YX7_fault [.ref (ad g 0)] M (PI (fun v M' => v = M 6 6 ∧ M' = M)) := by
  refine call_of (by decide +kernel) (Nat.le_of_ble_eq_true rfl) (fun x hxl F R => ?_)
  subst hxl
  refine ex_aload_n F dX7_fault_0 rfl rfl ?_
  refine gf_7_1 F dX7_fault_1 fl_X7_19 ?_
  refine gf_3_6 F dX7_fault_4 fl_X7_92 ?_
  exact ex_iret F R dX7_fault_7 rfl (⟨rfl, rfl⟩)
theorem cs_X7_end_85 : CSS (xmN YX7_end).cls (xmF YX7_end) (xmW YX7_end) 85 3 YX7_outside := ⟨⟨ml_X7_85, ini_X7, cd_X7_outside, by decide +kernel, by decide⟩, st_X7_outside⟩
set_option maxRecDepth 100000 in
theorem c_X7_end {l : Launch} {g : XG} {M : Mem} {n0 : Int32} : Call l g YX7_end [.ref (ad g 0), .int n0] M (PI (fun v M' => v = (if outB n0 0 (M 7 1) = true then -1 else M 7 1) ∧ M' = (if outB n0 0 (M 7 1) = true then M else mu M 7 1 n0))) := by
  refine call_of (by decide +kernel) (Nat.le_of_ble_eq_true rfl) (fun x hxl F R => ?_)
  subst hxl
  refine ex_iload_n F dX7_end_0 rfl rfl ?_
  refine ex_iconst (v := 0) F dX7_end_1 (by decide) ?_
  refine ex_aload_n F dX7_end_2 rfl rfl ?_
  refine gf_7_1 F dX7_end_3 fl_X7_19 ?_
  refine gf_3_0 F dX7_end_6 fl_X7_72 ?_
  refine gf_5_1 F dX7_end_9 fl_X7_82 ?_
  refine ex_callSi F (c_X7_outside) dX7_end_12 cs_X7_end_85 rfl rfl (Nat.le_of_ble_eq_true rfl) (fun v12 M12 h12 => ?_)
  obtain ⟨rfl, q12⟩ := h12
  rw [q12]
  clear q12
  refine ex_if_eq (t := 20) F dX7_end_15 (by decide) (fun c15 => ?_) (fun c15 => ?_)
  · refine ex_aload_n F dX7_end_20 rfl rfl ?_
    refine gf_7_1 F dX7_end_21 fl_X7_19 ?_
    refine gf_3_0 F dX7_end_24 fl_X7_72 ?_
    refine gf_5_1 F dX7_end_27 fl_X7_82 ?_
    refine ex_istore_n F dX7_end_30 rfl (by decide) ?_
    refine ex_aload_n F dX7_end_31 rfl rfl ?_
    refine gf_7_1 F dX7_end_32 fl_X7_19 ?_
    refine gf_3_0 F dX7_end_35 fl_X7_72 ?_
    refine ex_iload_n F dX7_end_38 rfl rfl ?_
    refine pf_5_1 F dX7_end_39 fl_X7_82 ?_
    refine ex_iload_n F dX7_end_42 rfl rfl ?_
    exact ex_iret F R dX7_end_43 rfl (⟨by rw [if_neg (by rw [b2i_0.mp c15]; decide)], by rw [if_neg (by rw [b2i_0.mp c15]; decide)]⟩)
  · refine ex_iconst (v := -1) F dX7_end_18 (by decide) ?_
    exact ex_iret F R dX7_end_19 rfl (⟨by rw [if_pos (b2i_1.mp c15)], by rw [if_pos (b2i_1.mp c15)]⟩)
set_option maxRecDepth 100000 in
theorem c_X7_imagesThere {l : Launch} {g : XG} {M : Mem}  : Call l g YX7_imagesThere [.ref (ad g 0)] M (PI (fun v M' => v = sImgs M ∧ M' = M)) := by
  refine call_of (by decide +kernel) (Nat.le_of_ble_eq_true rfl) (fun x hxl F R => ?_)
  subst hxl
  refine ex_iconst (v := 0) F dX7_imagesThere_0 (by decide) ?_
  refine ex_istore_n F dX7_imagesThere_1 rfl (by decide) ?_
  refine ex_aload_n F dX7_imagesThere_2 rfl rfl ?_
  refine gf_7_5 F dX7_imagesThere_3 fl_X7_43 ?_
  refine ex_astore_n F dX7_imagesThere_6 rfl (by decide) ?_
  refine ex_aload_n F dX7_imagesThere_7 rfl rfl ?_
  refine ex_alen_im (v := 2) F dX7_imagesThere_8 (by decide) ?_
  refine ex_istore_n F dX7_imagesThere_9 rfl (by decide) ?_
  refine ex_iconst (v := 0) F dX7_imagesThere_10 (by decide) ?_
  refine ex_istore F dX7_imagesThere_11 (by decide) ?_
  refine ex_iload F dX7_imagesThere_13 rfl ?_
  refine ex_iload_n F dX7_imagesThere_15 rfl rfl ?_
  refine ex_icmp_ge (t := 42) F dX7_imagesThere_16 (by decide) (fun c => absurd c (by decide)) (fun _ => ?_)
  refine ex_aload_n F dX7_imagesThere_19 rfl rfl ?_
  refine ex_iload F dX7_imagesThere_20 rfl ?_
  refine ex_aald_im F dX7_imagesThere_22 (vpd (by decide)) (j := 0) (by decide) ?_
  refine ex_astore F dX7_imagesThere_23 (by decide) ?_
  refine ex_aload F dX7_imagesThere_25 rfl ?_
  refine gf_2_1 (by decide) F dX7_imagesThere_27 fl_X7_115 ?_
  refine ex_if_eq (t := 36) F dX7_imagesThere_30 (by decide) (fun c30 => ?_) (fun c30 => ?_)
  · refine ex_iinc (w := _ + 1) F dX7_imagesThere_36 rfl rfl (by decide) ?_
    refine ex_goto (t := 13) F dX7_imagesThere_39 (by decide) ?_
    refine ex_iload F dX7_imagesThere_13 rfl ?_
    refine ex_iload_n F dX7_imagesThere_15 rfl rfl ?_
    refine ex_icmp_ge (t := 42) F dX7_imagesThere_16 (by decide) (fun c => absurd c (by decide)) (fun _ => ?_)
    refine ex_aload_n F dX7_imagesThere_19 rfl rfl ?_
    refine ex_iload F dX7_imagesThere_20 rfl ?_
    refine ex_aald_im F dX7_imagesThere_22 (vpd (by decide)) (j := 1) (by decide) ?_
    refine ex_astore F dX7_imagesThere_23 (by decide) ?_
    refine ex_aload F dX7_imagesThere_25 rfl ?_
    refine gf_2_1 (by decide) F dX7_imagesThere_27 fl_X7_115 ?_
    refine ex_if_eq (t := 36) F dX7_imagesThere_30 (by decide) (fun c30 => ?_) (fun c30 => ?_)
    · refine ex_iinc (w := _ + 1) F dX7_imagesThere_36 rfl rfl (by decide) ?_
      refine ex_goto (t := 13) F dX7_imagesThere_39 (by decide) ?_
      refine ex_iload F dX7_imagesThere_13 rfl ?_
      refine ex_iload_n F dX7_imagesThere_15 rfl rfl ?_
      refine ex_icmp_ge (t := 42) F dX7_imagesThere_16 (by decide) (fun _ => ?_) (fun c => absurd (by decide) c)
      refine ex_iload_n F dX7_imagesThere_42 rfl rfl ?_
      exact ex_iret F R dX7_imagesThere_43 rfl (⟨by clear F R; simp_all [sImgs], rfl⟩)
    · refine ex_iinc (w := _ + 1) F dX7_imagesThere_33 rfl rfl (by decide) ?_
      refine ex_iinc (w := _ + 1) F dX7_imagesThere_36 rfl rfl (by decide) ?_
      refine ex_goto (t := 13) F dX7_imagesThere_39 (by decide) ?_
      refine ex_iload F dX7_imagesThere_13 rfl ?_
      refine ex_iload_n F dX7_imagesThere_15 rfl rfl ?_
      refine ex_icmp_ge (t := 42) F dX7_imagesThere_16 (by decide) (fun _ => ?_) (fun c => absurd (by decide) c)
      refine ex_iload_n F dX7_imagesThere_42 rfl rfl ?_
      exact ex_iret F R dX7_imagesThere_43 rfl (⟨by clear F R; simp_all [sImgs], rfl⟩)
  · refine ex_iinc (w := _ + 1) F dX7_imagesThere_33 rfl rfl (by decide) ?_
    refine ex_iinc (w := _ + 1) F dX7_imagesThere_36 rfl rfl (by decide) ?_
    refine ex_goto (t := 13) F dX7_imagesThere_39 (by decide) ?_
    refine ex_iload F dX7_imagesThere_13 rfl ?_
    refine ex_iload_n F dX7_imagesThere_15 rfl rfl ?_
    refine ex_icmp_ge (t := 42) F dX7_imagesThere_16 (by decide) (fun c => absurd c (by decide)) (fun _ => ?_)
    refine ex_aload_n F dX7_imagesThere_19 rfl rfl ?_
    refine ex_iload F dX7_imagesThere_20 rfl ?_
    refine ex_aald_im F dX7_imagesThere_22 (vpd (by decide)) (j := 1) (by decide) ?_
    refine ex_astore F dX7_imagesThere_23 (by decide) ?_
    refine ex_aload F dX7_imagesThere_25 rfl ?_
    refine gf_2_1 (by decide) F dX7_imagesThere_27 fl_X7_115 ?_
    refine ex_if_eq (t := 36) F dX7_imagesThere_30 (by decide) (fun c30 => ?_) (fun c30 => ?_)
    · refine ex_iinc (w := _ + 1) F dX7_imagesThere_36 rfl rfl (by decide) ?_
      refine ex_goto (t := 13) F dX7_imagesThere_39 (by decide) ?_
      refine ex_iload F dX7_imagesThere_13 rfl ?_
      refine ex_iload_n F dX7_imagesThere_15 rfl rfl ?_
      refine ex_icmp_ge (t := 42) F dX7_imagesThere_16 (by decide) (fun _ => ?_) (fun c => absurd (by decide) c)
      refine ex_iload_n F dX7_imagesThere_42 rfl rfl ?_
      exact ex_iret F R dX7_imagesThere_43 rfl (⟨by clear F R; simp_all [sImgs], rfl⟩)
    · refine ex_iinc (w := _ + 1) F dX7_imagesThere_33 rfl rfl (by decide) ?_
      refine ex_iinc (w := _ + 1) F dX7_imagesThere_36 rfl rfl (by decide) ?_
      refine ex_goto (t := 13) F dX7_imagesThere_39 (by decide) ?_
      refine ex_iload F dX7_imagesThere_13 rfl ?_
      refine ex_iload_n F dX7_imagesThere_15 rfl rfl ?_
      refine ex_icmp_ge (t := 42) F dX7_imagesThere_16 (by decide) (fun _ => ?_) (fun c => absurd (by decide) c)
      refine ex_iload_n F dX7_imagesThere_42 rfl rfl ?_
      exact ex_iret F R dX7_imagesThere_43 rfl (⟨by clear F R; simp_all [sImgs], rfl⟩)
theorem cs_X7_count_266 : CSV (xmN YX7_count).cls (xmF YX7_count) (xmW YX7_count) 266 0 YX7_imagesThere := ⟨⟨ml_X7_266, ini_X7, cd_X7_imagesThere, by decide +kernel, by decide⟩, im_X7_imagesThere, se_X7_imagesThere⟩
theorem cs_X7_count_241 : CSV (xmN YX7_count).cls (xmF YX7_count) (xmW YX7_count) 241 1 YX7_sheetAt := ⟨⟨ml_X7_241, ini_X7, cd_X7_sheetAt, by decide +kernel, by decide⟩, im_X7_sheetAt, se_X7_sheetAt⟩
theorem cs_X7_count_269 : CSS (xmN YX7_count).cls (xmF YX7_count) (xmW YX7_count) 269 1 YX7_cellsOf := ⟨⟨ml_X7_269, ini_X7, cd_X7_cellsOf, by decide +kernel, by decide⟩, st_X7_cellsOf⟩
set_option maxRecDepth 100000 in
theorem c_X7_count {l : Launch} {g : XG} {M : Mem} {w0 : Int32} : Call l g YX7_count [.ref (ad g 0), .int w0] M (PI (fun v M' => v = sCount M w0 ∧ M' = M)) := by
  refine call_of (by decide +kernel) (Nat.le_of_ble_eq_true rfl) (fun x hxl F R => ?_)
  subst hxl
  refine ex_iload_n F dX7_count_0 rfl rfl ?_
  by_cases w1_0 : w0 = 0
  · rw [w1_0]
    refine ex_tswIn (t := 36) F dX7_count_1 (by decide) (by decide) rfl (by decide) ?_
    refine ex_aload_n F dX7_count_36 rfl rfl ?_
    refine gf_7_0 F dX7_count_37 fl_X7_10 ?_
    refine gf_6_4 (by decide) F dX7_count_40 fl_X7_263 ?_
    exact ex_iret F R dX7_count_43 rfl (⟨by rw [w1_0]; rfl, rfl⟩)
  by_cases w1_1 : w0 = 1
  · rw [w1_1]
    refine ex_tswIn (t := 44) F dX7_count_1 (by decide) (by decide) rfl (by decide) ?_
    refine ex_aload_n F dX7_count_44 rfl rfl ?_
    refine gf_7_10 F dX7_count_45 fl_X7_112 ?_
    exact ex_iret F R dX7_count_48 rfl (⟨by rw [w1_1]; rfl, rfl⟩)
  by_cases w1_2 : w0 = 2
  · rw [w1_2]
    refine ex_tswIn (t := 49) F dX7_count_1 (by decide) (by decide) rfl (by decide) ?_
    refine ex_aload_n F dX7_count_49 rfl rfl ?_
    refine ex_callVi F (c_X7_imagesThere) dX7_count_50 cs_X7_count_266 ob_7 rfl rfl rfl rfl (Nat.le_of_ble_eq_true rfl) (fun v50 M50 h50 => ?_)
    obtain ⟨rfl, q50⟩ := h50
    rw [q50]
    clear q50
    exact ex_iret F R dX7_count_53 rfl (⟨by rw [w1_2]; rfl, rfl⟩)
  by_cases w1_3 : w0 = 3
  · rw [w1_3]
    refine ex_tswIn (t := 54) F dX7_count_1 (by decide) (by decide) rfl (by decide) ?_
    refine ex_aload_n F dX7_count_54 rfl rfl ?_
    refine gf_7_1 F dX7_count_55 fl_X7_19 ?_
    refine gf_3_0 F dX7_count_58 fl_X7_72 ?_
    refine gf_5_1 F dX7_count_61 fl_X7_82 ?_
    exact ex_iret F R dX7_count_64 rfl (⟨by rw [w1_3]; rfl, rfl⟩)
  by_cases w1_4 : w0 = 4
  · rw [w1_4]
    refine ex_tswIn (t := 65) F dX7_count_1 (by decide) (by decide) rfl (by decide) ?_
    refine ex_aload_n F dX7_count_65 rfl rfl ?_
    refine ex_iconst (v := 0) F dX7_count_66 (by decide) ?_
    refine ex_callVa F (c_X7_sheetAt) dX7_count_67 cs_X7_count_241 ob_7 rfl rfl rfl rfl (Nat.le_of_ble_eq_true rfl) (fun v67 M67 h67 => ?_)
    obtain ⟨e67, q67⟩ := h67
    rw [q67]
    clear q67
    rw [if_neg (by decide), show 27 + 2 * (0 : Int32).toNatClampNeg = 27 from rfl] at e67
    subst e67
    refine ex_callSi F (c_X7_cellsOf (q := 27) (by decide)) dX7_count_70 cs_X7_count_269 rfl rfl (Nat.le_of_ble_eq_true rfl) (fun v70 M70 h70 => ?_)
    obtain ⟨rfl, q70⟩ := h70
    rw [q70]
    clear q70
    exact ex_iret F R dX7_count_73 rfl (⟨by rw [w1_4]; rfl, rfl⟩)
  refine ex_tswOut (t := 74) F dX7_count_1 (tsw_out 4 (by decide) (fun k hk => match k, hk with | 0, _ => w1_0 | 1, _ => w1_1 | 2, _ => w1_2 | 3, _ => w1_3 | 4, _ => w1_4 | n + 5, h => absurd h (by omega))) (by decide) ?_
  refine ex_iconst (v := -1) F dX7_count_74 (by decide) ?_
  exact ex_iret F R dX7_count_75 rfl (⟨by simp [sCount, w1_0, w1_1, w1_2, w1_3, w1_4], rfl⟩)
set_option maxRecDepth 100000 in
theorem c_X5_put {l : Launch} {g : XG} {M : Mem} {z : Int64} {t : Nat} (ht : M 7 1 = nI t) (lt : t ≤ 320) : Call l g YX5_put [.ref (ad g 7), .long z] M (PI (fun v M' => v = b2i (decide (t ≤ 312)) ∧ M' = (if t ≤ 312 then putT M t z 8 else M))) := by
  refine call_of (by decide +kernel) (Nat.le_of_ble_eq_true rfl) (fun x hxl F R => ?_)
  subst hxl
  refine ex_aload_n F dX5_put_0 rfl rfl ?_
  refine gf_5_1 F dX5_put_1 fl_X5_13 ?_
  refine ex_sipush (v := 312) F dX5_put_4 (by decide) ?_
  refine ex_icmp_le (t := 12) F dX5_put_7 (by decide) (fun c7 => ?_) (fun c7 => ?_)
  · have l312 : t ≤ 312 := (nI_leI (b := 312) (by omega) (by decide)).mp (by rw [ht] at c7; exact c7)
    refine ex_bipush (v := 56) F dX5_put_12 (by decide) ?_
    refine ex_istore_n F dX5_put_14 rfl (by decide) ?_
    have key : ∀ (m i : Nat) (v : Int32), i + m = 8 → v = nI (64 - 8 * i) + (-8) → EX x g (xmL YX5_put) (putT M t z i) 15 [(0, .ref (ad g 7)), (1, .long z), (3, .int v)] [] := by
      intro m
      induction m with
      | zero =>
        intro i v hi hv
        obtain rfl : i = 8 := by omega
        subst hv
        refine ex_iload_n F dX5_put_15 rfl rfl ?_
        refine ex_if_lt (t := 61) F dX5_put_16 (by decide) (fun _ => ?_) (fun c => absurd (by decide) c)
        refine ex_iconst (v := 1) F dX5_put_61 (by decide) ?_
        exact ex_zret (ty := .boolean) F R dX5_put_62 rfl (rfl) (⟨by simp [l312, b2i], by rw [if_pos l312]⟩)
      | succ m ih =>
        intro i v hi hv
        rw [sh_i i (by omega)] at hv
        subst hv
        refine ex_iload_n F dX5_put_15 rfl rfl ?_
        refine ex_if_lt (t := 61) F dX5_put_16 (by decide) (fun c => absurd c (nI_pos (by omega))) (fun _ => ?_)
        refine ex_aload_n F dX5_put_19 rfl rfl ?_
        refine gf_5_1 F dX5_put_20 fl_X5_13 ?_
        refine ex_aload_n F dX5_put_23 rfl rfl ?_
        refine gf_5_0 F dX5_put_24 fl_X5_9 ?_
        refine ex_blen (n := 320) (v := 320) F dX5_put_27 (by decide) (by decide) ?_
        refine ex_icmp_ge (t := 61) F dX5_put_28 (by decide) (fun c => absurd c (by rw [putT_71]; exact nI_ge (b := 320) (by omega) (by decide))) (fun _ => ?_)
        refine ex_aload_n F dX5_put_31 rfl rfl ?_
        refine gf_5_0 F dX5_put_32 fl_X5_9 ?_
        refine ex_aload_n F dX5_put_35 rfl rfl ?_
        refine gf_5_1 F dX5_put_36 fl_X5_13 ?_
        refine ex_lload_n F dX5_put_39 rfl rfl ?_
        refine ex_iload_n F dX5_put_40 rfl rfl ?_
        refine ex_lshr F dX5_put_41 ?_
        refine ex_l2i F dX5_put_42 ?_
        refine ex_i2b F dX5_put_43 ?_
        refine ex_bast (n := 320) F dX5_put_44 (by decide) (by rw [putT_71]; exact vp_in_nI (by omega) (by decide)) (j := t + i) (by rw [putT_71]; exact nI_clamp (by omega)) ?_
        refine ex_aload_n F dX5_put_45 rfl rfl ?_
        refine ex_dup F dX5_put_46 rfl ?_
        refine gf_5_1 F dX5_put_47 fl_X5_13 ?_
        refine ex_iconst (v := 1) F dX5_put_50 (by decide) ?_
        refine ex_iadd F dX5_put_51 ?_
        refine pf_5_1 F dX5_put_52 fl_X5_13 ?_
        refine ex_iinc (w := _ + (-8)) F dX5_put_55 rfl rfl (by decide) ?_
        refine ex_goto (t := 15) F dX5_put_58 (by decide) ?_
        refine ex_M (M1 := putT M t z (i + 1)) ?_ (ex_weak2 (ih (i + 1) _ (by omega) ?_) ⟨rfl, rfl, rfl, trivial⟩)
        · rw [pk_vb, ← putT_S]
          show mu (mu (putT M t z i) 8 (t + i) (byB z i)) 7 1 (putT M t z i 7 1 + 1) = _
          rw [putT_71, nI_1]
        · rw [show 64 - 8 * (i + 1) = 56 - 8 * i by omega]
    exact ex_M (putT_0 M t z ht).symm (ex_weak2 (key 8 0 _ (by omega) (by decide)) ⟨rfl, rfl, rfl, trivial⟩)
  · refine ex_iconst (v := 0) F dX5_put_10 (by decide) ?_
    exact ex_zret (ty := .boolean) F R dX5_put_11 rfl (rfl) (have l312 : ¬ t ≤ 312 := (fun q => absurd (nI_le (b := 312) q (by decide)) (by rw [ht] at c7; exact c7)); ⟨by simp [l312, b2i], by rw [if_neg l312]⟩)
theorem cs_X7_feed_76 : CSV (xmN YX7_feed).cls (xmF YX7_feed) (xmW YX7_feed) 76 1 YX5_put := ⟨⟨ml_X7_76, ini_X5, cd_X5_put, by decide +kernel, by decide⟩, im_X5_put, se_X5_put⟩
set_option maxRecDepth 100000 in
theorem c_X7_feed {l : Launch} {g : XG} {M : Mem} {z : Int64} {t : Nat} (ht : M 7 1 = nI t) (lt : t ≤ 320) : Call l g YX7_feed [.ref (ad g 0), .long z] M (PI (fun v M' => v = (if t ≤ 312 then nI (t + 8) else -3) ∧ M' = (if t ≤ 312 then putT M t z 8 else M))) := by
  refine call_of (by decide +kernel) (Nat.le_of_ble_eq_true rfl) (fun x hxl F R => ?_)
  subst hxl
  refine ex_aload_n F dX7_feed_0 rfl rfl ?_
  refine gf_7_1 F dX7_feed_1 fl_X7_19 ?_
  refine gf_3_0 F dX7_feed_4 fl_X7_72 ?_
  refine ex_lload_n F dX7_feed_7 rfl rfl ?_
  refine ex_callVi F (c_X5_put ht lt) dX7_feed_8 cs_X7_feed_76 ob_5 rfl rfl rfl rfl (Nat.le_of_ble_eq_true rfl) (fun v8 M8 h8 => ?_)
  obtain ⟨e8, q8⟩ := h8
  subst e8
  refine ex_if_eq (t := 27) F dX7_feed_11 (by decide) (fun c11 => ?_) (fun c11 => ?_)
  · refine ex_bipush (v := -3) F dX7_feed_27 (by decide) ?_
    exact ex_iret F R dX7_feed_29 rfl (have l312 : ¬ t ≤ 312 := (by simpa using b2i_0.mp c11); ⟨by rw [if_neg l312], q8⟩)
  · refine ex_aload_n F dX7_feed_14 rfl rfl ?_
    refine gf_7_1 F dX7_feed_15 fl_X7_19 ?_
    refine gf_3_0 F dX7_feed_18 fl_X7_72 ?_
    refine gf_5_1 F dX7_feed_21 fl_X7_82 ?_
    refine ex_goto (t := 29) F dX7_feed_24 (by decide) ?_
    exact ex_iret F R dX7_feed_29 rfl (have l312 : t ≤ 312 := (by simpa using b2i_1.mp c11); ⟨by rw [if_pos l312]; show M8 7 1 = _; rw [q8, if_pos l312, putT_71], q8⟩)
