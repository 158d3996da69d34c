-- spec of a churn: the row c (cX), the rules r; all as ints
def fdv (a b : Int32) : Int32 := if 0 ≤ a ^^^ b then a / b else if a / b * b = a then a / b else a / b - 1
def sHard (r c : Nat → Int32) : Int32 := if 0 < (if c 2 - fdv ((c 1 - r 1) * r 2) 100 < 100 then c 2 - fdv ((c 1 - r 1) * r 2) 100 else 100) then (if c 2 - fdv ((c 1 - r 1) * r 2) 100 < 100 then c 2 - fdv ((c 1 - r 1) * r 2) 100 else 100) else 0
def sCome (c : Nat → Int32) : Bool := !decide (c 5 = -4)
def sSwell (r c : Nat → Int32) : Bool := !sCome c && decide (r 0 ≤ c 0 + c 3 * r 4 / 100)
def sAir (r : Nat → Int32) (p : Int32) (c : Nat → Int32) : Nat → Int32 := if sCome c = true then c else upd c 3 (if c 3 + r 3 * p < 1000 then c 3 + r 3 * p else 1000)
def sRate (r : Nat → Int32) (p : Int32) (c : Nat → Int32) : Int32 := if sCome c = true then (if 20 * p < 100 then 20 * p else 100) else (if sHard r c * (100 - sHard r c) * c 3 / 25000 < 100 then sHard r c * (100 - sHard r c) * c 3 / 25000 else 100)
def sJ (rate : Int32) (k : Nat) (c : Nat → Int32) : Nat → Int32 := upd (upd c (k + 6) (c (k + 6) - 2 * (rate * c (k + 6) / 200))) (k + 1 + 6) (c (k + 1 + 6) + rate * c (k + 6) / 200)
def sJn (rate : Int32) : Nat → (Nat → Int32) → Nat → Int32
  | 0, c => c
  | n + 1, c => sJn rate n (sJ rate n c)
def sFatN (c : Nat → Int32) : Nat → Int32 → Int32
  | 0, a => a
  | n + 1, a => sFatN c n (a + c (6 - n + 6) <<< (nI (6 - n) &&& 31))
def sFat (c : Nat → Int32) (i : Nat) : Int32 := sFatN c (7 - i) 0
def sGrain (r : Nat → Int32) : Nat := (r 5).toNatClampNeg
def sDue (r c : Nat → Int32) : Bool := decide (0 < sFat c 0) && decide (sFat c 0 ≤ 2 * sFat c (sGrain r))
def sBreak (r c : Nat → Int32) : Nat → Int32 := if sCome c = true then c else if sDue r c = true then upd (upd c 5 (c 4)) 3 0 else c
def sTurn1 (r : Nat → Int32) (p : Int32) (c : Nat → Int32) : Nat → Int32 := if sSwell r c = true then c else sBreak r (sJn (sRate r p (sAir r p c)) 6 (sAir r p c))
def sTick (r : Nat → Int32) (p : Int32) (c : Nat → Int32) : Nat → Int32 := if c 4 + 1 - (c 4 + 1) / r 6 * r 6 = 0 then upd (upd c 4 (c 4 + 1)) 1 (if c 1 + p < 400 then c 1 + p else 400) else upd c 4 (c 4 + 1)
def sTurn (r : Nat → Int32) (p : Int32) (c : Nat → Int32) : Nat → Int32 := sTick r p (sTurn1 r p c)
def sLeft (r c : Nat → Int32) : Int32 := sFat c 0 - sFat c (sGrain r)
def sMost (c : Nat → Int32) : Bool := decide (9 * sFat c 0 ≤ 10 * sFat c 6)
def sOut (r c : Nat → Int32) : Int32 := if sSwell r c = true then 2 else if sCome c = true then (if sHard r c < r 7 then 3 else if sMost c = true then 5 else if sFat c 0 < 10 * sLeft r c then 4 else 1) else 0
def sTell (r c : Nat → Int32) (w : Int32) : Int32 := if w = 0 then c 0 else if w = 1 then c 1 else if w = 2 then sHard r c else if w = 3 then c 3 else if w = 4 then c 4 else if w = 5 then c 5 else if w = 6 then sLeft r c else if w = 7 then sFat c 0 else if w = 8 then b2i (sSwell r c) else if w = 9 then sOut r c else -1

set_option maxRecDepth 100000 in
theorem c_J9_floorDiv_7cf53 {l : Launch} {g : XG} {M : Mem} {a b : Int32} (hb : ¬ b = 0) : Call l g YJ9_floorDiv_7cf53 [.int a, .int b] M (PI (fun v M' => v = fdv a b ∧ M' = M)) := by
  refine call_ofF (by decide +kernel) (Nat.le_of_ble_eq_true rfl) (fun x hxl F R => ?_)
  subst hxl
  refine ex_iload_n F dJ9_floorDiv_7cf53_0 rfl rfl ?_
  refine ex_iload_n F dJ9_floorDiv_7cf53_1 rfl rfl ?_
  refine ex_idiv F dJ9_floorDiv_7cf53_2 hb ?_
  refine ex_istore_n F dJ9_floorDiv_7cf53_3 rfl (by decide) ?_
  refine ex_iload_n F dJ9_floorDiv_7cf53_4 rfl rfl ?_
  refine ex_iload_n F dJ9_floorDiv_7cf53_5 rfl rfl ?_
  refine ex_ixor F dJ9_floorDiv_7cf53_6 ?_
  refine ex_if_ge (t := 21) F dJ9_floorDiv_7cf53_7 (by decide) (fun c7 => ?_) (fun c7 => ?_)
  · refine ex_iload_n F dJ9_floorDiv_7cf53_21 rfl rfl ?_
    exact ex_iret F R dJ9_floorDiv_7cf53_22 rfl (⟨by first | rw [fdv, if_pos c7] | rw [fdv, if_neg c7, if_pos c14], rfl⟩)
  · refine ex_iload_n F dJ9_floorDiv_7cf53_10 rfl rfl ?_
    refine ex_iload_n F dJ9_floorDiv_7cf53_11 rfl rfl ?_
    refine ex_imul F dJ9_floorDiv_7cf53_12 ?_
    refine ex_iload_n F dJ9_floorDiv_7cf53_13 rfl rfl ?_
    refine ex_icmp_eq (t := 21) F dJ9_floorDiv_7cf53_14 (by decide) (fun c14 => ?_) (fun c14 => ?_)
    · refine ex_iload_n F dJ9_floorDiv_7cf53_21 rfl rfl ?_
      exact ex_iret F R dJ9_floorDiv_7cf53_22 rfl (⟨by first | rw [fdv, if_pos c7] | rw [fdv, if_neg c7, if_pos c14], rfl⟩)
    · refine ex_iload_n F dJ9_floorDiv_7cf53_17 rfl rfl ?_
      refine ex_iconst (v := 1) F dJ9_floorDiv_7cf53_18 (by decide) ?_
      refine ex_isub F dJ9_floorDiv_7cf53_19 ?_
      exact ex_iret F R dJ9_floorDiv_7cf53_20 rfl (⟨by rw [fdv, if_neg c7, if_neg c14], rfl⟩)
set_option maxRecDepth 100000 in
theorem c_X6_base {l : Launch} {g : XG} {M : Mem}  : Call l g YX6_base [.ref (ad g 1)] M (PI (fun v M' => v = M 2 1 ∧ M' = M)) := by
  refine call_of (by decide +kernel) (Nat.le_of_ble_eq_true rfl) (fun x hxl F R => ?_)
  subst hxl
  refine ex_aload_n F dX6_base_0 rfl rfl ?_
  refine gf_6_0 (by decide) (q9 := 2) rfl F dX6_base_1 fl_X6_18 ?_
  refine ex_iconst (v := 1) F dX6_base_4 (by decide) ?_
  refine ex_iald (n := 9) F dX6_base_5 (by decide) (vpd (by decide)) (j := 1) (by decide) ?_
  exact ex_iret F R dX6_base_6 rfl (⟨rfl, rfl⟩)
set_option maxRecDepth 100000 in
theorem c_X1_hasCome {l : Launch} {g : XG} {M : Mem} {k : Nat} (hk : isO 1 k) : Call l g YX1_hasCome [.ref (ad g k)] M (PI (fun v M' => v = b2i (sCome (cX M k)) ∧ M' = M)) := by
  refine call_of (by decide +kernel) (Nat.le_of_ble_eq_true rfl) (fun x hxl F R => ?_)
  subst hxl
  refine ex_aload_n F dX1_hasCome_0 rfl rfl ?_
  refine gf_1_6 hk F dX1_hasCome_1 fl_X1_15 ?_
  refine ex_bipush (v := -4) F dX1_hasCome_4 (by decide) ?_
  refine ex_icmp_eq (t := 13) F dX1_hasCome_6 (by decide) (fun c6 => ?_) (fun c6 => ?_)
  · refine ex_iconst (v := 0) F dX1_hasCome_13 (by decide) ?_
    exact ex_zret (ty := .boolean) F R dX1_hasCome_14 rfl (rfl) (⟨by first | (rw [show sCome (cX M k) = true from by simpa [sCome, cX] using c6]; rfl) | (rw [show sCome (cX M k) = false from by simpa [sCome, cX] using c6]; rfl), rfl⟩)
  · refine ex_iconst (v := 1) F dX1_hasCome_9 (by decide) ?_
    refine ex_goto (t := 14) F dX1_hasCome_10 (by decide) ?_
    exact ex_zret (ty := .boolean) F R dX1_hasCome_14 rfl (rfl) (⟨by first | (rw [show sCome (cX M k) = true from by simpa [sCome, cX] using c6]; rfl) | (rw [show sCome (cX M k) = false from by simpa [sCome, cX] using c6]; rfl), rfl⟩)
theorem cs_X1_hardness_59 : CSV (xmN YX1_hardness).cls (xmF YX1_hardness) (xmW YX1_hardness) 59 0 YX6_base := ⟨⟨ml_X1_59, ini_X6, cd_X6_base, by decide +kernel, by decide⟩, im_X6_base, se_X6_base⟩
theorem cs_X1_hardness_63 : CSS (xmN YX1_hardness).cls (xmF YX1_hardness) (xmW YX1_hardness) 63 2 YJ9_floorDiv_7cf53 := ⟨⟨ml_X1_63, ini_J9, cd_J9_floorDiv_7cf53, by decide +kernel, by decide⟩, st_J9_floorDiv_7cf53⟩
set_option maxRecDepth 100000 in
theorem c_X1_hardness {l : Launch} {g : XG} {M : Mem} {k : Nat} (hk : isO 1 k) : Call l g YX1_hardness [.ref (ad g k), .ref (ad g 1)] M (PI (fun v M' => v = sHard (M 2) (cX M k) ∧ M' = M)) := by
  refine call_of (by decide +kernel) (Nat.le_of_ble_eq_true rfl) (fun x hxl F R => ?_)
  subst hxl
  refine ex_aload_n F dX1_hardness_0 rfl rfl ?_
  refine gf_1_2 hk F dX1_hardness_1 fl_X1_34 ?_
  refine ex_aload_n F dX1_hardness_4 rfl rfl ?_
  refine ex_callVi F (c_X6_base) dX1_hardness_5 cs_X1_hardness_59 (ob_6 (by decide)) rfl rfl rfl rfl (Nat.le_of_ble_eq_true rfl) (fun v5 M5 h5 => ?_)
  obtain ⟨rfl, q5⟩ := h5
  rw [q5]
  clear q5
  refine ex_isub F dX1_hardness_8 ?_
  refine ex_aload_n F dX1_hardness_9 rfl rfl ?_
  refine gf_6_0 (by decide) (q9 := 2) rfl F dX1_hardness_10 fl_X1_52 ?_
  refine ex_iconst (v := 2) F dX1_hardness_13 (by decide) ?_
  refine ex_iald (n := 9) F dX1_hardness_14 (by decide) (vpd (by decide)) (j := 2) (by decide) ?_
  refine ex_imul F dX1_hardness_15 ?_
  refine ex_bipush (v := 100) F dX1_hardness_16 (by decide) ?_
  refine ex_callSi F (c_J9_floorDiv_7cf53 (by decide)) dX1_hardness_18 cs_X1_hardness_63 rfl rfl (Nat.le_of_ble_eq_true rfl) (fun v18 M18 h18 => ?_)
  obtain ⟨rfl, q18⟩ := h18
  rw [q18]
  clear q18
  refine ex_istore_n F dX1_hardness_21 rfl (by decide) ?_
  refine ex_iconst (v := 0) F dX1_hardness_22 (by decide) ?_
  refine ex_bipush (v := 100) F dX1_hardness_23 (by decide) ?_
  refine ex_aload_n F dX1_hardness_25 rfl rfl ?_
  refine gf_1_3 hk F dX1_hardness_26 fl_X1_31 ?_
  refine ex_iload_n F dX1_hardness_29 rfl rfl ?_
  refine ex_isub F dX1_hardness_30 ?_
  refine ex_mmin F dX1_hardness_31 ml_X1_69 st_min ini_math cd_min (by decide) (Nat.le_of_ble_eq_true rfl) ?_
  refine ex_mmax F dX1_hardness_34 ml_X1_72 st_max ini_math cd_max (by decide) (Nat.le_of_ble_eq_true rfl) ?_
  exact ex_iret F R dX1_hardness_37 rfl (⟨rfl, rfl⟩)
theorem cs_X1_isSwollen_55 : CSV (xmN YX1_isSwollen).cls (xmF YX1_isSwollen) (xmW YX1_isSwollen) 55 0 YX1_hasCome := ⟨⟨ml_X1_55, ini_X1, cd_X1_hasCome, by decide +kernel, by decide⟩, im_X1_hasCome, se_X1_hasCome⟩
set_option maxRecDepth 100000 in
theorem c_X1_isSwollen {l : Launch} {g : XG} {M : Mem} {k : Nat} (hk : isO 1 k) : Call l g YX1_isSwollen [.ref (ad g k), .ref (ad g 1)] M (PI (fun v M' => v = b2i (sSwell (M 2) (cX M k)) ∧ M' = M)) := by
  refine call_of (by decide +kernel) (Nat.le_of_ble_eq_true rfl) (fun x hxl F R => ?_)
  subst hxl
  refine ex_aload_n F dX1_isSwollen_0 rfl rfl ?_
  refine gf_1_4 hk F dX1_isSwollen_1 fl_X1_37 ?_
  refine ex_aload_n F dX1_isSwollen_4 rfl rfl ?_
  refine gf_6_0 (by decide) (q9 := 2) rfl F dX1_isSwollen_5 fl_X1_52 ?_
  refine ex_iconst (v := 4) F dX1_isSwollen_8 (by decide) ?_
  refine ex_iald (n := 9) F dX1_isSwollen_9 (by decide) (vpd (by decide)) (j := 4) (by decide) ?_
  refine ex_imul F dX1_isSwollen_10 ?_
  refine ex_bipush (v := 100) F dX1_isSwollen_11 (by decide) ?_
  refine ex_idiv F dX1_isSwollen_13 (by decide) ?_
  refine ex_istore_n F dX1_isSwollen_14 rfl (by decide) ?_
  refine ex_aload_n F dX1_isSwollen_15 rfl rfl ?_
  refine ex_callVi F (c_X1_hasCome hk) dX1_isSwollen_16 cs_X1_isSwollen_55 (ob_1 hk) rfl rfl rfl rfl (Nat.le_of_ble_eq_true rfl) (fun v16 M16 h16 => ?_)
  obtain ⟨rfl, q16⟩ := h16
  rw [q16]
  clear q16
  refine ex_if_ne (t := 41) F dX1_isSwollen_19 (by decide) (fun c19 => ?_) (fun c19 => ?_)
  · refine ex_iconst (v := 0) F dX1_isSwollen_41 (by decide) ?_
    exact ex_zret (ty := .boolean) F R dX1_isSwollen_42 rfl (rfl) (⟨by simp_all [b2i_0, b2i_1, b2i, cX, sSwell], rfl⟩)
  · refine ex_aload_n F dX1_isSwollen_22 rfl rfl ?_
    refine gf_1_1 hk F dX1_isSwollen_23 fl_X1_25 ?_
    refine ex_iload_n F dX1_isSwollen_26 rfl rfl ?_
    refine ex_iadd F dX1_isSwollen_27 ?_
    refine ex_aload_n F dX1_isSwollen_28 rfl rfl ?_
    refine gf_6_0 (by decide) (q9 := 2) rfl F dX1_isSwollen_29 fl_X1_52 ?_
    refine ex_iconst (v := 0) F dX1_isSwollen_32 (by decide) ?_
    refine ex_iald (n := 9) F dX1_isSwollen_33 (by decide) (vpd (by decide)) (j := 0) (by decide) ?_
    refine ex_icmp_lt (t := 41) F dX1_isSwollen_34 (by decide) (fun c34 => ?_) (fun c34 => ?_)
    · refine ex_iconst (v := 0) F dX1_isSwollen_41 (by decide) ?_
      exact ex_zret (ty := .boolean) F R dX1_isSwollen_42 rfl (rfl) (⟨by simp_all [b2i_0, b2i_1, b2i, cX, sSwell], rfl⟩)
    · refine ex_iconst (v := 1) F dX1_isSwollen_37 (by decide) ?_
      refine ex_goto (t := 42) F dX1_isSwollen_38 (by decide) ?_
      exact ex_zret (ty := .boolean) F R dX1_isSwollen_42 rfl (rfl) (⟨by simp_all [b2i_0, b2i_1, b2i, cX, sSwell], rfl⟩)
theorem cs_X1_beatIn_55 : CSV (xmN YX1_beatIn).cls (xmF YX1_beatIn) (xmW YX1_beatIn) 55 0 YX1_hasCome := ⟨⟨ml_X1_55, ini_X1, cd_X1_hasCome, by decide +kernel, by decide⟩, im_X1_hasCome, se_X1_hasCome⟩
set_option maxRecDepth 100000 in
theorem c_X1_beatIn {l : Launch} {g : XG} {M : Mem} {k : Nat} (hk : isO 1 k) {p : Int32} : Call l g YX1_beatIn [.ref (ad g k), .ref (ad g 1), .int p] M (PV (fun M' => M' = putC M k (sAir (M 2) p (cX M k)))) := by
  refine call_of (by decide +kernel) (Nat.le_of_ble_eq_true rfl) (fun x hxl F R => ?_)
  subst hxl
  refine ex_aload_n F dX1_beatIn_0 rfl rfl ?_
  refine ex_callVi F (c_X1_hasCome hk) dX1_beatIn_1 cs_X1_beatIn_55 (ob_1 hk) rfl rfl rfl rfl (Nat.le_of_ble_eq_true rfl) (fun v1 M1 h1 => ?_)
  obtain ⟨rfl, q1⟩ := h1
  rw [q1]
  clear q1
  refine ex_if_ne (t := 30) F dX1_beatIn_4 (by decide) (fun c4 => ?_) (fun c4 => ?_)
  · exact ex_vret F R dX1_beatIn_30 rfl (by first | (simp_all [b2i_0, b2i_1, sAir, mu_c1, mu_c2, mu_c3, mu_c4, mu_c5, mu_c6, mu_cd, putC_putC, cX_putC, putC_cX, rd_1, rd_2, rd_3, rd_4, rd_5, rd_6, rd_d]; done) | (simp_all [b2i_0, b2i_1, sAir, mu_c1, mu_c2, mu_c3, mu_c4, mu_c5, mu_c6, mu_cd, putC_putC, cX_putC, putC_cX, rd_1, rd_2, rd_3, rd_4, rd_5, rd_6, rd_d, cX]; done))
  · refine ex_aload_n F dX1_beatIn_7 rfl rfl ?_
    refine ex_sipush (v := 1000) F dX1_beatIn_8 (by decide) ?_
    refine ex_aload_n F dX1_beatIn_11 rfl rfl ?_
    refine gf_1_4 hk F dX1_beatIn_12 fl_X1_37 ?_
    refine ex_aload_n F dX1_beatIn_15 rfl rfl ?_
    refine gf_6_0 (by decide) (q9 := 2) rfl F dX1_beatIn_16 fl_X1_52 ?_
    refine ex_iconst (v := 3) F dX1_beatIn_19 (by decide) ?_
    refine ex_iald (n := 9) F dX1_beatIn_20 (by decide) (vpd (by decide)) (j := 3) (by decide) ?_
    refine ex_iload_n F dX1_beatIn_21 rfl rfl ?_
    refine ex_imul F dX1_beatIn_22 ?_
    refine ex_iadd F dX1_beatIn_23 ?_
    refine ex_mmin F dX1_beatIn_24 ml_X1_69 st_min ini_math cd_min (by decide) (Nat.le_of_ble_eq_true rfl) ?_
    refine pf_1_4 hk F dX1_beatIn_27 fl_X1_37 ?_
    exact ex_vret F R dX1_beatIn_30 rfl (by first | (simp_all [b2i_0, b2i_1, sAir, mu_c1, mu_c2, mu_c3, mu_c4, mu_c5, mu_c6, mu_cd, putC_putC, cX_putC, putC_cX, rd_1, rd_2, rd_3, rd_4, rd_5, rd_6, rd_d]; done) | (simp_all [b2i_0, b2i_1, sAir, mu_c1, mu_c2, mu_c3, mu_c4, mu_c5, mu_c6, mu_cd, putC_putC, cX_putC, putC_cX, rd_1, rd_2, rd_3, rd_4, rd_5, rd_6, rd_d, cX]; done))
theorem cs_X1_rate_55 : CSV (xmN YX1_rate).cls (xmF YX1_rate) (xmW YX1_rate) 55 0 YX1_hasCome := ⟨⟨ml_X1_55, ini_X1, cd_X1_hasCome, by decide +kernel, by decide⟩, im_X1_hasCome, se_X1_hasCome⟩
theorem cs_X1_rate_95 : CSV (xmN YX1_rate).cls (xmF YX1_rate) (xmW YX1_rate) 95 1 YX1_hardness := ⟨⟨ml_X1_95, ini_X1, cd_X1_hardness, by decide +kernel, by decide⟩, im_X1_hardness, se_X1_hardness⟩
set_option maxRecDepth 100000 in
theorem c_X1_rate {l : Launch} {g : XG} {M : Mem} {k : Nat} (hk : isO 1 k) {p : Int32} : Call l g YX1_rate [.ref (ad g k), .ref (ad g 1), .int p] M (PI (fun v M' => v = sRate (M 2) p (cX M k) ∧ M' = M)) := by
  refine call_of (by decide +kernel) (Nat.le_of_ble_eq_true rfl) (fun x hxl F R => ?_)
  subst hxl
  refine ex_aload_n F dX1_rate_0 rfl rfl ?_
  refine ex_callVi F (c_X1_hasCome hk) dX1_rate_1 cs_X1_rate_55 (ob_1 hk) rfl rfl rfl rfl (Nat.le_of_ble_eq_true rfl) (fun v1 M1 h1 => ?_)
  obtain ⟨rfl, q1⟩ := h1
  rw [q1]
  clear q1
  refine ex_if_eq (t := 17) F dX1_rate_4 (by decide) (fun c4 => ?_) (fun c4 => ?_)
  · refine ex_aload_n F dX1_rate_17 rfl rfl ?_
    refine ex_aload_n F dX1_rate_18 rfl rfl ?_
    refine ex_callVi F (c_X1_hardness hk) dX1_rate_19 cs_X1_rate_95 (ob_1 hk) rfl rfl rfl rfl (Nat.le_of_ble_eq_true rfl) (fun v19 M19 h19 => ?_)
    obtain ⟨rfl, q19⟩ := h19
    rw [q19]
    clear q19
    refine ex_istore_n F dX1_rate_22 rfl (by decide) ?_
    refine ex_bipush (v := 100) F dX1_rate_23 (by decide) ?_
    refine ex_iload_n F dX1_rate_25 rfl rfl ?_
    refine ex_bipush (v := 100) F dX1_rate_26 (by decide) ?_
    refine ex_iload_n F dX1_rate_28 rfl rfl ?_
    refine ex_isub F dX1_rate_29 ?_
    refine ex_imul F dX1_rate_30 ?_
    refine ex_aload_n F dX1_rate_31 rfl rfl ?_
    refine gf_1_4 hk F dX1_rate_32 fl_X1_37 ?_
    refine ex_imul F dX1_rate_35 ?_
    refine ex_sipush (v := 25000) F dX1_rate_36 (by decide) ?_
    refine ex_idiv F dX1_rate_39 (by decide) ?_
    refine ex_mmin F dX1_rate_40 ml_X1_69 st_min ini_math cd_min (by decide) (Nat.le_of_ble_eq_true rfl) ?_
    exact ex_iret F R dX1_rate_43 rfl (⟨by simp_all [b2i_0, b2i_1, b2i, cX, sRate], rfl⟩)
  · refine ex_bipush (v := 100) F dX1_rate_7 (by decide) ?_
    refine ex_bipush (v := 20) F dX1_rate_9 (by decide) ?_
    refine ex_iload_n F dX1_rate_11 rfl rfl ?_
    refine ex_imul F dX1_rate_12 ?_
    refine ex_mmin F dX1_rate_13 ml_X1_69 st_min ini_math cd_min (by decide) (Nat.le_of_ble_eq_true rfl) ?_
    exact ex_iret F R dX1_rate_16 rfl (⟨by simp_all [b2i_0, b2i_1, b2i, cX, sRate], rfl⟩)
set_option maxRecDepth 100000 in
theorem c_X1_joinDrops {l : Launch} {g : XG} {M : Mem} {k : Nat} (hk : isO 1 k) {rate : Int32} : Call l g YX1_joinDrops [.ref (ad g k), .int rate] M (PV (fun M' => M' = putC M k (sJn rate 6 (cX M k)))) := by
  refine call_of (by decide +kernel) (Nat.le_of_ble_eq_true rfl) (fun x hxl F R => ?_)
  subst hxl
  refine ex_aload_n F dX1_joinDrops_0 rfl rfl ?_
  refine gf_1_0 hk (q9 := (k + 1)) rfl F dX1_joinDrops_1 fl_X1_11 ?_
  refine ex_ilen (n := 7) (v := 7) F dX1_joinDrops_4 (tI_1_0 hk) (by decide) ?_
  refine ex_iconst (v := 2) F dX1_joinDrops_5 (by decide) ?_
  refine ex_isub F dX1_joinDrops_6 ?_
  refine ex_istore_n F dX1_joinDrops_7 rfl (by decide) ?_
  have key : ∀ (n : Nat) (v : Int32) (c : Nat → Int32), n ≤ 6 → v = nI n + (-1) → sJn rate n c = sJn rate 6 (cX M k) → EX x g (xmL YX1_joinDrops) (putC M k c) 8 [(0, .ref (ad g k)), (1, .int rate), (2, .int v)] [] := by
    intro n
    induction n with
    | zero =>
      intro v c hn hv hc
      subst hv
      refine ex_iload_n F dX1_joinDrops_8 rfl rfl ?_
      refine ex_if_lt (t := 55) F dX1_joinDrops_9 (by decide) (fun _ => ?_) (fun c => absurd (by decide) c)
      exact ex_vret F R dX1_joinDrops_55 rfl (by rw [← hc]; rfl)
    | succ n ih =>
      intro v c hn hv hc
      rw [pk_m1] at hv
      subst hv
      refine ex_iload_n F dX1_joinDrops_8 rfl rfl ?_
      refine ex_if_lt (t := 55) F dX1_joinDrops_9 (by decide) (fun c => absurd c (nI_pos (by omega))) (fun _ => ?_)
      refine ex_iload_n F dX1_joinDrops_12 rfl rfl ?_
      refine ex_aload_n F dX1_joinDrops_13 rfl rfl ?_
      refine gf_1_0 hk (q9 := (k + 1)) rfl F dX1_joinDrops_14 fl_X1_11 ?_
      refine ex_iload_n F dX1_joinDrops_17 rfl rfl ?_
      refine ex_iald (n := 7) F dX1_joinDrops_18 (tI_1_0 hk) (vp_in_nI (by omega) (by decide)) (j := n) (nI_clamp (by omega)) ?_
      refine ex_imul F dX1_joinDrops_19 ?_
      refine ex_sipush (v := 200) F dX1_joinDrops_20 (by decide) ?_
      refine ex_idiv F dX1_joinDrops_23 (by decide) ?_
      refine ex_istore_n F dX1_joinDrops_24 rfl (by decide) ?_
      refine ex_aload_n F dX1_joinDrops_25 rfl rfl ?_
      refine gf_1_0 hk (q9 := (k + 1)) rfl F dX1_joinDrops_26 fl_X1_11 ?_
      refine ex_iload_n F dX1_joinDrops_29 rfl rfl ?_
      refine ex_dup2 F dX1_joinDrops_30 rfl rfl ?_
      refine ex_iald (n := 7) F dX1_joinDrops_31 (tI_1_0 hk) (vp_in_nI (by omega) (by decide)) (j := n) (nI_clamp (by omega)) ?_
      refine ex_iconst (v := 2) F dX1_joinDrops_32 (by decide) ?_
      refine ex_iload_n F dX1_joinDrops_33 rfl rfl ?_
      refine ex_imul F dX1_joinDrops_34 ?_
      refine ex_isub F dX1_joinDrops_35 ?_
      refine ex_iast (n := 7) F dX1_joinDrops_36 (tI_1_0 hk) (vp_in_nI (by omega) (by decide)) (j := n) (nI_clamp (by omega)) ?_
      refine ex_aload_n F dX1_joinDrops_37 rfl rfl ?_
      refine gf_1_0 hk (q9 := (k + 1)) rfl F dX1_joinDrops_38 fl_X1_11 ?_
      refine ex_iload_n F dX1_joinDrops_41 rfl rfl ?_
      refine ex_iconst (v := 1) F dX1_joinDrops_42 (by decide) ?_
      refine ex_iadd F dX1_joinDrops_43 ?_
      refine ex_dup2 F dX1_joinDrops_44 rfl rfl ?_
      refine ex_iald (n := 7) F dX1_joinDrops_45 (tI_1_0 hk) (by rw [← nI_succ]; exact vp_in_nI (by omega) (by decide)) (j := n + 1) (by rw [← nI_succ]; exact nI_clamp (by omega)) ?_
      refine ex_iload_n F dX1_joinDrops_46 rfl rfl ?_
      refine ex_iadd F dX1_joinDrops_47 ?_
      refine ex_iast (n := 7) F dX1_joinDrops_48 (tI_1_0 hk) (by rw [← nI_succ]; exact vp_in_nI (by omega) (by decide)) (j := n + 1) (by rw [← nI_succ]; exact nI_clamp (by omega)) ?_
      refine ex_iinc (w := _ + (-1)) F dX1_joinDrops_49 rfl rfl (by decide) ?_
      refine ex_goto (t := 8) F dX1_joinDrops_52 (by decide) ?_
      refine ex_weak2 (L1 := [(0, .ref (ad g k)), (1, .int rate), (2, .int (nI n + (-1)))]) ?_ ⟨rfl, rfl, rfl, trivial⟩
      refine ex_M (M1 := putC M k (sJ rate n c)) ?_ (ih _ _ (by omega) rfl hc)
      simp [mu_cd, putC_putC, cX_putC, rd_d, sJ, pk_un (show n + 1 + 6 ≠ n + 6 by omega)]
  exact ex_M (putC_cX M k).symm (ex_weak2 (key 6 _ _ (by decide) (by decide) rfl) ⟨rfl, rfl, rfl, trivial⟩)
set_option maxRecDepth 100000 in
theorem c_X1_fatFrom {l : Launch} {g : XG} {M : Mem} {k : Nat} (hk : isO 1 k) {v0 : Int32} {i0 : Nat} (hv : v0 = nI i0) (hi : i0 ≤ 7) : Call l g YX1_fatFrom [.ref (ad g k), .int v0] M (PI (fun v M' => v = sFat (cX M k) i0 ∧ M' = M)) := by
  refine call_of (by decide +kernel) (Nat.le_of_ble_eq_true rfl) (fun x hxl F R => ?_)
  subst hxl
  refine ex_iconst (v := 0) F dX1_fatFrom_0 (by decide) ?_
  refine ex_istore_n F dX1_fatFrom_1 rfl (by decide) ?_
  refine ex_iconst (v := 0) F dX1_fatFrom_2 (by decide) ?_
  refine ex_iload_n F dX1_fatFrom_3 rfl rfl ?_
  refine ex_mmax F dX1_fatFrom_4 ml_X1_72 st_max ini_math cd_max (by decide) (Nat.le_of_ble_eq_true rfl) ?_
  refine ex_istore_n F dX1_fatFrom_7 rfl (by decide) ?_
  have key : ∀ (n i : Nat) (a : Int32), i + n = 7 → sFatN (cX M k) n a = sFat (cX M k) i0 → EX x g (xmL YX1_fatFrom) M 8 [(0, .ref (ad g k)), (2, .int a), (3, .int (nI i))] [] := by
    intro n
    induction n with
    | zero =>
      intro i a hi ha
      obtain rfl : i = 7 := by omega
      refine ex_iload_n F dX1_fatFrom_8 rfl rfl ?_
      refine ex_aload_n F dX1_fatFrom_9 rfl rfl ?_
      refine gf_1_0 hk (q9 := (k + 1)) rfl F dX1_fatFrom_10 fl_X1_11 ?_
      refine ex_ilen (n := 7) (v := 7) F dX1_fatFrom_13 (tI_1_0 hk) (by decide) ?_
      refine ex_icmp_ge (t := 34) F dX1_fatFrom_14 (by decide) (fun _ => ?_) (fun c => absurd (by decide) c)
      refine ex_iload_n F dX1_fatFrom_34 rfl rfl ?_
      exact ex_iret F R dX1_fatFrom_35 rfl (⟨ha, rfl⟩)
    | succ n ih =>
      intro i a hi ha
      obtain rfl : i = 6 - n := by omega
      refine ex_iload_n F dX1_fatFrom_8 rfl rfl ?_
      refine ex_aload_n F dX1_fatFrom_9 rfl rfl ?_
      refine gf_1_0 hk (q9 := (k + 1)) rfl F dX1_fatFrom_10 fl_X1_11 ?_
      refine ex_ilen (n := 7) (v := 7) F dX1_fatFrom_13 (tI_1_0 hk) (by decide) ?_
      refine ex_icmp_ge (t := 34) F dX1_fatFrom_14 (by decide) (fun c => absurd c (nI_ge (b := 7) (by omega) (by decide))) (fun _ => ?_)
      refine ex_iload_n F dX1_fatFrom_17 rfl rfl ?_
      refine ex_aload_n F dX1_fatFrom_18 rfl rfl ?_
      refine gf_1_0 hk (q9 := (k + 1)) rfl F dX1_fatFrom_19 fl_X1_11 ?_
      refine ex_iload_n F dX1_fatFrom_22 rfl rfl ?_
      refine ex_iald (n := 7) F dX1_fatFrom_23 (tI_1_0 hk) (vp_in_nI (by omega) (by decide)) (j := 6 - n) (nI_clamp (by omega)) ?_
      refine ex_iload_n F dX1_fatFrom_24 rfl rfl ?_
      refine ex_ishl F dX1_fatFrom_25 ?_
      refine ex_iadd F dX1_fatFrom_26 ?_
      refine ex_istore_n F dX1_fatFrom_27 rfl (by decide) ?_
      refine ex_iinc (w := _ + 1) F dX1_fatFrom_28 rfl rfl (by decide) ?_
      refine ex_goto (t := 8) F dX1_fatFrom_31 (by decide) ?_
      refine ex_weak2 (L1 := [(0, .ref (ad g k)), (2, .int (a + M (k + 1) (6 - n) <<< (nI (6 - n) &&& 31))), (3, .int (nI (6 - n) + 1))]) ?_ ⟨rfl, rfl, rfl, trivial⟩
      rw [nI_1]
      exact ih (6 - n + 1) _ (by omega) (by rw [← ha]; show _ = sFatN _ n _; rw [show cX M k (6 - n + 6) = M (k + 1) (6 - n) by simp [cX, show ¬ 6 - n + 6 < 6 by omega]])
  have e : (if (0 : Int32) < v0 then v0 else 0) = nI i0 := by
    rw [hv]
    by_cases h : (0 : Int32) < nI i0
    · rw [if_pos h]
    · rw [if_neg h]
      obtain rfl : i0 = 0 := by
        rcases Nat.eq_zero_or_pos i0 with h0 | h0
        · exact h0
        · exact absurd (nI_lt (a := 0) h0 (by omega)) h
      rfl
  rw [e]
  exact ex_weak2 (key (7 - i0) i0 0 (by omega) rfl) ⟨rfl, rfl, rfl, trivial⟩
