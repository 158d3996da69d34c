theorem RC_T {c : Nat → Int32} {w0 : Int32} {M : Mem} {T T' : Nat} (h : RC c w0 M T) (hT : T ≤ T') : RC c w0 M T' := ⟨okC_mono h.okc hT, h.okm, h.aw, h.row⟩
theorem okC_half {T : Nat} {c : Nat → Int32} (h : okC T c) : okC T (sHalfN 7 c) := okC_deed (d := 1) h
theorem or_l {a b : Bool} (h : a = true) : (a || b) = true := by rw [h]; rfl
theorem or_r {a b : Bool} (h : b = true) : (a || b) = true := by rw [h]; cases a <;> rfl
theorem or_n {a b : Bool} (h : a = false) (h2 : b = false) : (a || b) = false := by rw [h, h2]; rfl
theorem ifn {α : Type} {b : Bool} {x y : α} (h : b = false) : (if b = true then x else y) = y := by rw [h]; exact if_neg (by decide)
theorem ift {α : Type} {b : Bool} {x y : α} (h : b = true) : (if b = true then x else y) = x := if_pos h
theorem falls_S (r : Nat → Int32) (p : Int32) (c : Nat → Int32) (n : Nat) : sFalls r p c (n + 1) = sFalls r p c n + b2i (!sSwell r (itT r p n c)) := rfl
theorem drop_in {c : Nat → Int32} {n : Nat} (h : n < 7) : sDropC c (nI n) = c (n + 6) := by
  rw [sDropC, if_neg (show ¬ nI n < (0 : Int32) from Int32.not_lt.mpr (nI_le (a := 0) (Nat.zero_le _) (by omega))), if_neg (show ¬ (7 : Int32) ≤ nI n from nI_ge (b := 7) h (by decide)), nI_clamp (by omega)]
theorem drop_bad {c : Nat → Int32} {v : Int32} (h : outB v 0 6 = true) : -1 = sDropC c v := by
  simp only [outB, Bool.or_eq_true, decide_eq_true_eq] at h
  rw [sDropC]
  rcases h with h | h
  · rw [if_pos h]
  · by_cases h0 : v < 0
    · rw [if_pos h0]
    · rw [if_neg h0, if_pos (lt_7 h)]
theorem frB_S {M M' : Mem} {A : Nat} (h : frS M M' A) (hA : A + 16 ≤ 32 ∨ 64 ≤ A) : frB M M' := frB_T (frT_of h) hA
theorem cs_X8_warm_190 : CSV (xmN YX8_warm).cls (xmF YX8_warm) (xmW YX8_warm) 190 0 YX8_awake := ⟨⟨ml_X8_190, ini_X8, cd_X8_awake, by decide +kernel, by decide⟩, im_X8_awake, se_X8_awake⟩
theorem cs_X8_warm_187 : CSS (xmN YX8_warm).cls (xmF YX8_warm) (xmW YX8_warm) 187 1 YX8_isWarm := ⟨⟨ml_X8_187, ini_X8, cd_X8_isWarm, by decide +kernel, by decide⟩, st_X8_isWarm⟩
set_option maxRecDepth 100000 in
theorem c_X8_warm {l : Launch} {g : XG} {M : Mem} {c r : Nat → Int32} {T : Nat} (hR : okR r) (hr : mR M r) (hC : RC c (r 1) M T) {v0 : Int32} : Call l g YX8_warm [.ref (ad g 38), .int v0] M (PI (fun v M' => v = (if outB v0 0 400 = true then -1 else c 1) ∧ RC (if outB v0 0 400 = true then c else upd c 1 v0) (r 1) M' (T) ∧ frB M M')) := by
  refine call_of (by decide +kernel) (Nat.le_of_ble_eq_true rfl) (fun x hxl F R => ?_)
  subst hxl
  have hw : M 47 1 = r 1 := hr 1 (by decide)
  refine ex_aload_n F dX8_warm_0 rfl rfl ?_
  refine ex_callVv F (c_X8_awake) dX8_warm_1 cs_X8_warm_190 ob_8 rfl rfl rfl rfl (Nat.le_of_ble_eq_true rfl) (fun M1 h1 => ?_)
  obtain ⟨w1, w2, w3, w4⟩ := wake_ok hC hw h1
  have hr1 := frB_mR hr w4
  refine ex_iload_n F dX8_warm_4 rfl rfl ?_
  refine ex_callSi F (c_X8_isWarm) dX8_warm_5 cs_X8_warm_187 rfl rfl (Nat.le_of_ble_eq_true rfl) (fun v5 M5 h5 => ?_)
  obtain ⟨rfl, q5⟩ := h5
  rw [q5]
  clear q5
  refine ex_if_ne (t := 13) F dX8_warm_8 (by decide) (fun c8 => ?_) (fun c8 => ?_)
  · refine ex_aload_n F dX8_warm_13 rfl rfl ?_
    refine gf_8_23 F dX8_warm_14 fl_X8_46 ?_
    refine ex_iconst (v := 1) F dX8_warm_17 (by decide) ?_
    refine ex_iald (n := 80) F dX8_warm_18 (by decide) (vpd (by decide)) (j := 1) (by decide) ?_
    refine ex_istore_n F dX8_warm_19 rfl (by decide) ?_
    refine ex_aload_n F dX8_warm_20 rfl rfl ?_
    refine gf_8_23 F dX8_warm_21 fl_X8_46 ?_
    refine ex_iconst (v := 1) F dX8_warm_24 (by decide) ?_
    refine ex_iload_n F dX8_warm_25 rfl rfl ?_
    refine ex_iast (n := 80) F dX8_warm_26 (by decide) (vpd (by decide)) (j := 1) (by decide) ?_
    refine ex_iload_n F dX8_warm_27 rfl rfl ?_
    exact ex_iret F R dX8_warm_28 rfl (by
        have ho : outB v0 0 400 = false := by simpa using b2i_1.mp c8
        obtain ⟨ww, -, hw4, rfl⟩ := outB_n (a := 0) (b := 400) (by decide) ho (by decide)
        refine ⟨by rw [ifn ho, ← w1, cM_o (by decide) (by decide)], ?_, frB_tr w4 (frB_S (frS_mu (A := 0) (j := 1) _ (by decide)) (by decide))⟩
        rw [ifn ho]
        refine RC_mk (okC_1 hC.okc hw4) (okM_fr w2 (mu_j _ _ _ _ _ (by decide))) (by rw [mu_k _ _ _ 38 _ (by decide)]; exact w3) ?_
        exact (cM_mu (A := 0) (j := 1) (by decide) (by decide)).trans (by rw [w1]))
  · refine ex_iconst (v := -1) F dX8_warm_11 (by decide) ?_
    exact ex_iret F R dX8_warm_12 rfl (⟨by rw [ift (by simpa using b2i_0.mp c8)], by rw [ift (by simpa using b2i_0.mp c8)]; exact RC_mk hC.okc w2 w3 w1, w4⟩)
theorem cs_X8_half_190 : CSV (xmN YX8_half).cls (xmF YX8_half) (xmW YX8_half) 190 0 YX8_awake := ⟨⟨ml_X8_190, ini_X8, cd_X8_awake, by decide +kernel, by decide⟩, im_X8_awake, se_X8_awake⟩
theorem cs_X8_half_200 : CSV (xmN YX8_half).cls (xmF YX8_half) (xmW YX8_half) 200 1 YX8_halves := ⟨⟨ml_X8_200, ini_X8, cd_X8_halves, by decide +kernel, by decide⟩, im_X8_halves, se_X8_halves⟩
set_option maxRecDepth 100000 in
theorem c_X8_half {l : Launch} {g : XG} {M : Mem} {c r : Nat → Int32} {T : Nat} (hR : okR r) (hr : mR M r) (hC : RC c (r 1) M T) : Call l g YX8_half [.ref (ad g 38)] M (PI (fun v M' => v = sHalfN 7 c 0 ∧ RC (sHalfN 7 c) (r 1) M' T ∧ frB M M')) := by
  refine call_of (by decide +kernel) (Nat.le_of_ble_eq_true rfl) (fun x hxl F R => ?_)
  subst hxl
  have hw : M 47 1 = r 1 := hr 1 (by decide)
  refine ex_aload_n F dX8_half_0 rfl rfl ?_
  refine ex_callVv F (c_X8_awake) dX8_half_1 cs_X8_half_190 ob_8 rfl rfl rfl rfl (Nat.le_of_ble_eq_true rfl) (fun M1 h1 => ?_)
  obtain ⟨w1, w2, w3, w4⟩ := wake_ok hC hw h1
  have hr1 := frB_mR hr w4
  refine ex_aload_n F dX8_half_4 rfl rfl ?_
  refine ex_iconst (v := 0) F dX8_half_5 (by decide) ?_
  refine ex_callVv F (c_X8_halves (A := 0) (by decide)) dX8_half_6 cs_X8_half_200 ob_8 rfl rfl rfl rfl (Nat.le_of_ble_eq_true rfl) (fun M6 h6 => ?_)
  obtain ⟨k1, k2, k3⟩ := h6
  rw [w1] at k1
  refine ex_aload_n F dX8_half_9 rfl rfl ?_
  refine gf_8_23 F dX8_half_10 fl_X8_46 ?_
  refine ex_iconst (v := 0) F dX8_half_13 (by decide) ?_
  refine ex_iald (n := 80) F dX8_half_14 (by decide) (vpd (by decide)) (j := 0) (by decide) ?_
  exact ex_iret F R dX8_half_15 rfl (⟨by rw [← k1, cM_o (by decide) (by decide)], RC_mk (okC_half hC.okc) (okM_fr w2 k3) (by rw [k2.1 38 (by decide) (by decide)]; exact w3) k1, frB_tr w4 (frB_S k2 (by decide))⟩)
theorem cs_X8_now_190 : CSV (xmN YX8_now).cls (xmF YX8_now) (xmW YX8_now) 190 0 YX8_awake := ⟨⟨ml_X8_190, ini_X8, cd_X8_awake, by decide +kernel, by decide⟩, im_X8_awake, se_X8_awake⟩
theorem cs_X8_now_78 : CSS (xmN YX8_now).cls (xmF YX8_now) (xmW YX8_now) 78 3 YX8_in := ⟨⟨ml_X8_78, ini_X8, cd_X8_in, by decide +kernel, by decide⟩, st_X8_in⟩
theorem cs_X8_now_214 : CSV (xmN YX8_now).cls (xmF YX8_now) (xmW YX8_now) 214 2 YX8_told := ⟨⟨ml_X8_214, ini_X8, cd_X8_told, by decide +kernel, by decide⟩, im_X8_told, se_X8_told⟩
set_option maxRecDepth 100000 in
theorem c_X8_now {l : Launch} {g : XG} {M : Mem} {c r : Nat → Int32} {T : Nat} (hR : okR r) (hr : mR M r) (hC : RC c (r 1) M T) {v0 : Int32} : Call l g YX8_now [.ref (ad g 38), .int v0] M (PI (fun v M' => v = (if outB v0 0 9 = true then -1 else sTell r c v0) ∧ RC c (r 1) M' T ∧ frB M M')) := by
  refine call_of (by decide +kernel) (Nat.le_of_ble_eq_true rfl) (fun x hxl F R => ?_)
  subst hxl
  have hw : M 47 1 = r 1 := hr 1 (by decide)
  refine ex_aload_n F dX8_now_0 rfl rfl ?_
  refine ex_callVv F (c_X8_awake) dX8_now_1 cs_X8_now_190 ob_8 rfl rfl rfl rfl (Nat.le_of_ble_eq_true rfl) (fun M1 h1 => ?_)
  obtain ⟨w1, w2, w3, w4⟩ := wake_ok hC hw h1
  have hr1 := frB_mR hr w4
  refine ex_iload_n F dX8_now_4 rfl rfl ?_
  refine ex_i2l F dX8_now_5 ?_
  refine ex_lconst (v := 0) F dX8_now_6 (by decide) ?_
  refine ex_ldc2 F dX8_now_7 kc_X8_167 ?_
  refine ex_callSi F (c_X8_in) dX8_now_10 cs_X8_now_78 rfl rfl (Nat.le_of_ble_eq_true rfl) (fun v10 M10 h10 => ?_)
  obtain ⟨e10, q10⟩ := h10
  rw [q10]
  clear q10
  rw [in_out (lo := 0) (hi := 9) (by decide) (by decide)] at e10
  subst e10
  refine ex_if_eq (t := 25) F dX8_now_13 (by decide) (fun c13 => ?_) (fun c13 => ?_)
  · refine ex_iconst (v := -1) F dX8_now_25 (by decide) ?_
    exact ex_iret F R dX8_now_26 rfl (⟨by rw [ift (by simpa using b2i_0.mp c13)], RC_mk hC.okc w2 w3 w1, w4⟩)
  · refine ex_aload_n F dX8_now_16 rfl rfl ?_
    refine ex_iconst (v := 0) F dX8_now_17 (by decide) ?_
    refine ex_iload_n F dX8_now_18 rfl rfl ?_
    refine ex_callVi F (c_X8_told (A := 0) (T := T) (by decide) hR hr1 (by rw [w1]; exact hC.okc) w2) dX8_now_19 cs_X8_now_214 ob_8 rfl rfl rfl rfl (Nat.le_of_ble_eq_true rfl) (fun v19 M19 h19 => ?_)
    obtain ⟨rfl, q19⟩ := h19
    rw [q19]
    clear q19
    refine ex_goto (t := 26) F dX8_now_22 (by decide) ?_
    exact ex_iret F R dX8_now_26 rfl (⟨by rw [ifn (by simpa using b2i_1.mp c13), w1, told_now (by simpa using b2i_1.mp c13)], RC_mk hC.okc w2 w3 w1, w4⟩)
theorem cs_X8_drops_190 : CSV (xmN YX8_drops).cls (xmF YX8_drops) (xmW YX8_drops) 190 0 YX8_awake := ⟨⟨ml_X8_190, ini_X8, cd_X8_awake, by decide +kernel, by decide⟩, im_X8_awake, se_X8_awake⟩
theorem cs_X8_drops_78 : CSS (xmN YX8_drops).cls (xmF YX8_drops) (xmW YX8_drops) 78 3 YX8_in := ⟨⟨ml_X8_78, ini_X8, cd_X8_in, by decide +kernel, by decide⟩, st_X8_in⟩
set_option maxRecDepth 100000 in
theorem c_X8_drops {l : Launch} {g : XG} {M : Mem} {c r : Nat → Int32} {T : Nat} (hR : okR r) (hr : mR M r) (hC : RC c (r 1) M T) {v0 : Int32} : Call l g YX8_drops [.ref (ad g 38), .int v0] M (PI (fun v M' => v = sDropC c v0 ∧ RC c (r 1) M' T ∧ frB M M')) := by
  refine call_of (by decide +kernel) (Nat.le_of_ble_eq_true rfl) (fun x hxl F R => ?_)
  subst hxl
  have hw : M 47 1 = r 1 := hr 1 (by decide)
  refine ex_aload_n F dX8_drops_0 rfl rfl ?_
  refine ex_callVv F (c_X8_awake) dX8_drops_1 cs_X8_drops_190 ob_8 rfl rfl rfl rfl (Nat.le_of_ble_eq_true rfl) (fun M1 h1 => ?_)
  obtain ⟨w1, w2, w3, w4⟩ := wake_ok hC hw h1
  have hr1 := frB_mR hr w4
  refine ex_iload_n F dX8_drops_4 rfl rfl ?_
  refine ex_i2l F dX8_drops_5 ?_
  refine ex_lconst (v := 0) F dX8_drops_6 (by decide) ?_
  refine ex_ldc2 F dX8_drops_7 kc_X8_165 ?_
  refine ex_callSi F (c_X8_in) dX8_drops_10 cs_X8_drops_78 rfl rfl (Nat.le_of_ble_eq_true rfl) (fun v10 M10 h10 => ?_)
  obtain ⟨e10, q10⟩ := h10
  rw [q10]
  clear q10
  rw [in_out (lo := 0) (hi := 6) (by decide) (by decide)] at e10
  subst e10
  refine ex_if_eq (t := 28) F dX8_drops_13 (by decide) (fun c13 => ?_) (fun c13 => ?_)
  · refine ex_iconst (v := -1) F dX8_drops_28 (by decide) ?_
    exact ex_iret F R dX8_drops_29 rfl (⟨drop_bad (by simpa using b2i_0.mp c13), RC_mk hC.okc w2 w3 w1, w4⟩)
  · obtain ⟨n, -, hn, rfl⟩ := outB_n (a := 0) (b := 6) (by decide) (show outB v0 0 6 = false by simpa using b2i_1.mp c13) (by decide)
    refine ex_aload_n F dX8_drops_16 rfl rfl ?_
    refine gf_8_23 F dX8_drops_17 fl_X8_46 ?_
    refine ex_bipush (v := 6) F dX8_drops_20 (by decide) ?_
    refine ex_iload_n F dX8_drops_22 rfl rfl ?_
    refine ex_iadd F dX8_drops_23 ?_
    refine ex_iald (n := 80) F dX8_drops_24 (by decide) (by rw [show (6 : Int32) + nI n = nI (6 + n) from nI_add 6 n]; exact vp_in_nI (by omega) (by decide)) (j := 6 + n) (by rw [show (6 : Int32) + nI n = nI (6 + n) from nI_add 6 n]; exact nI_clamp (by omega)) ?_
    refine ex_goto (t := 29) F dX8_drops_25 (by decide) ?_
    exact ex_iret F R dX8_drops_29 rfl (⟨by rw [drop_in (by omega), ← w1, cM_o (by omega) (by omega), show 0 + (n + 6) = 6 + n by omega], RC_mk hC.okc w2 w3 w1, w4⟩)
theorem cs_X8_fill_184 : CSV (xmN YX8_fill).cls (xmF YX8_fill) (xmW YX8_fill) 184 1 YX8_areCows := ⟨⟨ml_X8_184, ini_X8, cd_X8_areCows, by decide +kernel, by decide⟩, im_X8_areCows, se_X8_areCows⟩
theorem cs_X8_fill_187 : CSS (xmN YX8_fill).cls (xmF YX8_fill) (xmW YX8_fill) 187 1 YX8_isWarm := ⟨⟨ml_X8_187, ini_X8, cd_X8_isWarm, by decide +kernel, by decide⟩, st_X8_isWarm⟩
theorem cs_X8_fill_190 : CSV (xmN YX8_fill).cls (xmF YX8_fill) (xmW YX8_fill) 190 0 YX8_awake := ⟨⟨ml_X8_190, ini_X8, cd_X8_awake, by decide +kernel, by decide⟩, im_X8_awake, se_X8_awake⟩
theorem cs_X8_fill_145 : CSV (xmN YX8_fill).cls (xmF YX8_fill) (xmW YX8_fill) 145 3 YX8_fills := ⟨⟨ml_X8_145, ini_X8, cd_X8_fills, by decide +kernel, by decide⟩, im_X8_fills, se_X8_fills⟩
set_option maxRecDepth 100000 in
theorem c_X8_fill {l : Launch} {g : XG} {M : Mem} {K : Mem} {n : Nat} (hB : RB K M n) {c : Nat → Int32} {T : Nat} (hC : RC c (K 2 1) M T) {b v0 : Int32} : Call l g YX8_fill [.ref (ad g 38), .int b, .int v0] M (PI (fun v M' => v = (if (!sHasCows (K 1 4) b || outB v0 0 400) = true then -1 else sLitN (K 4) b 8) ∧ RC (if (!sHasCows (K 1 4) b || outB v0 0 400) = true then c else sRowB K b v0) (K 2 1) M' T ∧ frB M M')) := by
  refine call_of (by decide +kernel) (Nat.le_of_ble_eq_true rfl) (fun x hxl F R => ?_)
  subst hxl
  have hw : M 47 1 = K 2 1 := hB.ru 1 (by decide)
  refine ex_aload_n F dX8_fill_0 rfl rfl ?_
  refine ex_iload_n F dX8_fill_1 rfl rfl ?_
  refine ex_callVi F (c_X8_areCows) dX8_fill_2 cs_X8_fill_184 ob_8 rfl rfl rfl rfl (Nat.le_of_ble_eq_true rfl) (fun v2 M2 h2 => ?_)
  rw [hB.mn, ← hB.kn] at h2
  obtain ⟨rfl, q2⟩ := h2
  rw [q2]
  clear q2
  refine ex_if_eq (t := 15) F dX8_fill_5 (by decide) (fun c5 => ?_) (fun c5 => ?_)
  · refine ex_iconst (v := -1) F dX8_fill_15 (by decide) ?_
    exact ex_iret F R dX8_fill_16 rfl (⟨by rw [ift (or_l (by simpa using b2i_0.mp c5))], by rw [ift (or_l (by simpa using b2i_0.mp c5))]; exact hC, frB_rf M⟩)
  · refine ex_iload_n F dX8_fill_8 rfl rfl ?_
    refine ex_callSi F (c_X8_isWarm) dX8_fill_9 cs_X8_fill_187 rfl rfl (Nat.le_of_ble_eq_true rfl) (fun v9 M9 h9 => ?_)
    obtain ⟨rfl, q9⟩ := h9
    rw [q9]
    clear q9
    refine ex_if_ne (t := 17) F dX8_fill_12 (by decide) (fun c12 => ?_) (fun c12 => ?_)
    · have hb : sHasCows (K 1 4) b = true := b2i_1.mp c5
      have hv : outB v0 0 400 = false := by simpa using b2i_1.mp c12
      refine ex_aload_n F dX8_fill_17 rfl rfl ?_
      refine ex_callVv F (c_X8_awake) dX8_fill_18 cs_X8_fill_190 ob_8 rfl rfl rfl rfl (Nat.le_of_ble_eq_true rfl) (fun M18 h18 => ?_)
      obtain ⟨w1, w2, w3, w4⟩ := wake_ok hC hw h18
      refine ex_aload_n F dX8_fill_21 rfl rfl ?_
      refine ex_iconst (v := 0) F dX8_fill_22 (by decide) ?_
      refine ex_iload_n F dX8_fill_23 rfl rfl ?_
      refine ex_iload_n F dX8_fill_24 rfl rfl ?_
      refine ex_callVv F (c_X8_fills (A := 0) (n := n) (by decide) ((w4.2.1 18 (by decide)).trans hB.mn) hB.n8) dX8_fill_25 cs_X8_fill_145 ob_8 rfl rfl rfl rfl (Nat.le_of_ble_eq_true rfl) (fun M25 h25 => ?_)
      obtain ⟨k1, k2, k3⟩ := h25
      rw [row_eq (frB_RB hB w4) hb] at k1
      refine ex_aload_n F dX8_fill_28 rfl rfl ?_
      refine gf_8_23 F dX8_fill_29 fl_X8_46 ?_
      refine ex_iconst (v := 0) F dX8_fill_32 (by decide) ?_
      refine ex_iald (n := 80) F dX8_fill_33 (by decide) (vpd (by decide)) (j := 0) (by decide) ?_
      exact ex_iret F R dX8_fill_34 rfl (by
          have hbad : (!sHasCows (K 1 4) b || outB v0 0 400) = false := or_n (by rw [hb]; rfl) hv
          refine ⟨by rw [ifn hbad, show sLitN (K 4) b 8 = sRowB K b v0 0 from rfl, ← k1, cM_o (by decide) (by decide)], ?_, frB_tr w4 (frB_T k2 (by decide))⟩
          rw [ifn hbad]
          exact RC_mk (okC_mono (row_okC hB hb hv) (Nat.zero_le T)) (okM_zero k3) (by rw [k2.1 38 (by decide) (by decide)]; exact w3) k1)
    · refine ex_iconst (v := -1) F dX8_fill_15 (by decide) ?_
      exact ex_iret F R dX8_fill_16 rfl (⟨by rw [ift (or_r (by simpa using b2i_0.mp c12))], by rw [ift (or_r (by simpa using b2i_0.mp c12))]; exact hC, frB_rf M⟩)
theorem cs_X8_turn_190 : CSV (xmN YX8_turn).cls (xmF YX8_turn) (xmW YX8_turn) 190 0 YX8_awake := ⟨⟨ml_X8_190, ini_X8, cd_X8_awake, by decide +kernel, by decide⟩, im_X8_awake, se_X8_awake⟩
theorem cs_X8_turn_78 : CSS (xmN YX8_turn).cls (xmF YX8_turn) (xmW YX8_turn) 78 3 YX8_in := ⟨⟨ml_X8_78, ini_X8, cd_X8_in, by decide +kernel, by decide⟩, st_X8_in⟩
theorem cs_X8_turn_193 : CSS (xmN YX8_turn).cls (xmF YX8_turn) (xmW YX8_turn) 193 1 YX8_isPace := ⟨⟨ml_X8_193, ini_X8, cd_X8_isPace, by decide +kernel, by decide⟩, st_X8_isPace⟩
theorem cs_X8_turn_196 : CSV (xmN YX8_turn).cls (xmF YX8_turn) (xmW YX8_turn) 196 2 YX8_turns := ⟨⟨ml_X8_196, ini_X8, cd_X8_turns, by decide +kernel, by decide⟩, im_X8_turns, se_X8_turns⟩
set_option maxRecDepth 100000 in
theorem c_X8_turn {l : Launch} {g : XG} {M : Mem} {c r : Nat → Int32} {T : Nat} (hR : okR r) (hr : mR M r) (hC : RC c (r 1) M T) (hT : T + 402 < 2 ^ 31) {n p : Int32} : Call l g YX8_turn [.ref (ad g 38), .int n, .int p] M (PI (fun v M' => v = (if badT n p = true then -1 else sFalls r p c n.toNatClampNeg) ∧ RC (if badT n p = true then c else itT r p n.toNatClampNeg c) (r 1) M' (T + 400) ∧ frB M M')) := by
  refine call_of (by decide +kernel) (Nat.le_of_ble_eq_true rfl) (fun x hxl F R => ?_)
  subst hxl
  have hw : M 47 1 = r 1 := hr 1 (by decide)
  refine ex_aload_n F dX8_turn_0 rfl rfl ?_
  refine ex_callVv F (c_X8_awake) dX8_turn_1 cs_X8_turn_190 ob_8 rfl rfl rfl rfl (Nat.le_of_ble_eq_true rfl) (fun M1 h1 => ?_)
  obtain ⟨w1, w2, w3, w4⟩ := wake_ok hC hw h1
  have hr1 := frB_mR hr w4
  refine ex_iload_n F dX8_turn_4 rfl rfl ?_
  refine ex_i2l F dX8_turn_5 ?_
  refine ex_lconst (v := 1) F dX8_turn_6 (by decide) ?_
  refine ex_ldc2 F dX8_turn_7 kc_X8_182 ?_
  refine ex_callSi F (c_X8_in) dX8_turn_10 cs_X8_turn_78 rfl rfl (Nat.le_of_ble_eq_true rfl) (fun v10 M10 h10 => ?_)
  obtain ⟨e10, q10⟩ := h10
  rw [q10]
  clear q10
  rw [in_out (lo := 1) (hi := 400) (by decide) (by decide)] at e10
  subst e10
  refine ex_if_eq (t := 23) F dX8_turn_13 (by decide) (fun c13 => ?_) (fun c13 => ?_)
  · refine ex_iconst (v := -1) F dX8_turn_23 (by decide) ?_
    exact ex_iret F R dX8_turn_24 rfl (⟨by rw [ift (show badT n p = true from or_l (by simpa using b2i_0.mp c13))], by rw [ift (show badT n p = true from or_l (by simpa using b2i_0.mp c13))]; exact RC_mk (okC_mono hC.okc (by omega)) w2 w3 w1, w4⟩)
  · refine ex_iload_n F dX8_turn_16 rfl rfl ?_
    refine ex_callSi F (c_X8_isPace) dX8_turn_17 cs_X8_turn_193 rfl rfl (Nat.le_of_ble_eq_true rfl) (fun v17 M17 h17 => ?_)
    obtain ⟨rfl, q17⟩ := h17
    rw [q17]
    clear q17
    refine ex_if_ne (t := 25) F dX8_turn_20 (by decide) (fun c20 => ?_) (fun c20 => ?_)
    · have hn0 : outB n 1 400 = false := by simpa using b2i_1.mp c13
      have hp0 : outB p 1 9 = false := by simpa using b2i_1.mp c20
      refine ex_iconst (v := 0) F dX8_turn_25 (by decide) ?_
      refine ex_istore_n F dX8_turn_26 rfl (by decide) ?_
      refine ex_iconst (v := 0) F dX8_turn_27 (by decide) ?_
      refine ex_istore F dX8_turn_28 (by decide) ?_
      obtain ⟨nn, h1n, h400, rfl⟩ := outB_n (a := 1) (b := 400) (by decide) hn0 (by decide)
      obtain ⟨pp, -, lp, hp⟩ := outB_n (a := 1) (b := 9) (by decide) hp0 (by decide)
      have hbad : badT (nI nn) p = false := or_n hn0 hp0
      rw [ifn hbad, nI_clamp (show nn < 2 ^ 31 by omega)] at R
      have key : ∀ (m i : Nat) (a u : Int32) (N : Mem), i + m = nn → u = nI i → a = sFalls r p c i → cM N 0 = itT r p i c → okM N 0 → N 38 24 = 1 → frB M N → EX x g (xmL YX8_turn) N 30 [(0, .ref (ad g 38)), (1, .int (nI nn)), (2, .int p), (3, .int a), (4, .int u)] [] := by
        intro m
        induction m with
        | zero =>
          intro i a u N hi hu ha h1 h2 h3 h4
          obtain rfl : i = nn := by omega
          subst hu
          refine ex_iload F dX8_turn_30 rfl ?_
          refine ex_iload_n F dX8_turn_32 rfl rfl ?_
          refine ex_icmp_ge (t := 59) F dX8_turn_33 (by decide) (fun _ => ?_) (fun c => absurd (Int32.le_refl _) c)
          refine ex_iload_n F dX8_turn_59 rfl rfl ?_
          exact ex_iret F R dX8_turn_60 rfl (⟨ha, by rw [ifn hbad]; exact RC_mk (okC_mono (okC_it hC.okc hp lp i) (by omega)) h2 h3 h1, h4⟩)
        | succ m ih =>
          intro i a u N hi hu ha h1 h2 h3 h4
          subst hu
          refine ex_iload F dX8_turn_30 rfl ?_
          refine ex_iload_n F dX8_turn_32 rfl rfl ?_
          refine ex_icmp_ge (t := 59) F dX8_turn_33 (by decide) (fun c => absurd c (nI_ge (by omega) (by omega))) (fun _ => ?_)
          refine ex_iload_n F dX8_turn_36 rfl rfl ?_
          refine ex_aload_n F dX8_turn_37 rfl rfl ?_
          refine ex_iconst (v := 0) F dX8_turn_38 (by decide) ?_
          refine ex_iload_n F dX8_turn_39 rfl rfl ?_
          refine ex_callVi F (c_X8_turns (A := 0) (T := T + i) (by decide) hR (frB_mR hr h4) (by rw [h1]; exact okC_it hC.okc hp lp i) h2 (by omega)) dX8_turn_40 cs_X8_turn_196 ob_8 rfl rfl rfl rfl (Nat.le_of_ble_eq_true rfl) (fun v40 M40 h40 => ?_)
          obtain ⟨rfl, t1, t2, t3⟩ := h40
          rw [h1] at t1
          rw [h1]
          refine ex_if_eq (t := 50) F dX8_turn_43 (by decide) (fun c43 => ?_) (fun c43 => ?_)
          · refine ex_iconst (v := 0) F dX8_turn_50 (by decide) ?_
            refine ex_iadd F dX8_turn_51 ?_
            refine ex_istore_n F dX8_turn_52 rfl (by decide) ?_
            refine ex_iinc (w := _ + 1) F dX8_turn_53 rfl rfl (by decide) ?_
            refine ex_goto (t := 30) F dX8_turn_56 (by decide) ?_
            refine ex_weak2 (ih (i + 1) _ _ _ (by omega) (nI_1 i) ?_ t1 t3 (by rw [t2.1 38 (by decide) (by decide)]; exact h3) (frB_tr h4 (frB_S t2 (by decide)))) ⟨rfl, rfl, rfl, rfl, rfl, trivial⟩
            rw [falls_S, ← ha, b2i_0.mp c43]
            rfl
          · refine ex_iconst (v := 1) F dX8_turn_46 (by decide) ?_
            refine ex_goto (t := 51) F dX8_turn_47 (by decide) ?_
            refine ex_iadd F dX8_turn_51 ?_
            refine ex_istore_n F dX8_turn_52 rfl (by decide) ?_
            refine ex_iinc (w := _ + 1) F dX8_turn_53 rfl rfl (by decide) ?_
            refine ex_goto (t := 30) F dX8_turn_56 (by decide) ?_
            refine ex_weak2 (ih (i + 1) _ _ _ (by omega) (nI_1 i) ?_ t1 t3 (by rw [t2.1 38 (by decide) (by decide)]; exact h3) (frB_tr h4 (frB_S t2 (by decide)))) ⟨rfl, rfl, rfl, rfl, rfl, trivial⟩
            rw [falls_S, ← ha, b2i_1.mp c43]
            rfl
      exact ex_weak2 (key nn 0 _ _ _ (by omega) rfl rfl w1 w2 w3 w4) ⟨rfl, rfl, rfl, rfl, rfl, trivial⟩
    · refine ex_iconst (v := -1) F dX8_turn_23 (by decide) ?_
      exact ex_iret F R dX8_turn_24 rfl (⟨by rw [ift (show badT n p = true from or_r (by simpa using b2i_0.mp c20))], by rw [ift (show badT n p = true from or_r (by simpa using b2i_0.mp c20))]; exact RC_mk (okC_mono hC.okc (by omega)) w2 w3 w1, w4⟩)
theorem cs_X8_run_184 : CSV (xmN YX8_run).cls (xmF YX8_run) (xmW YX8_run) 184 1 YX8_areCows := ⟨⟨ml_X8_184, ini_X8, cd_X8_areCows, by decide +kernel, by decide⟩, im_X8_areCows, se_X8_areCows⟩
theorem cs_X8_run_187 : CSS (xmN YX8_run).cls (xmF YX8_run) (xmW YX8_run) 187 1 YX8_isWarm := ⟨⟨ml_X8_187, ini_X8, cd_X8_isWarm, by decide +kernel, by decide⟩, st_X8_isWarm⟩
theorem cs_X8_run_193 : CSS (xmN YX8_run).cls (xmF YX8_run) (xmW YX8_run) 193 1 YX8_isPace := ⟨⟨ml_X8_193, ini_X8, cd_X8_isPace, by decide +kernel, by decide⟩, st_X8_isPace⟩
theorem cs_X8_run_78 : CSS (xmN YX8_run).cls (xmF YX8_run) (xmW YX8_run) 78 3 YX8_in := ⟨⟨ml_X8_78, ini_X8, cd_X8_in, by decide +kernel, by decide⟩, st_X8_in⟩
theorem cs_X8_run_145 : CSV (xmN YX8_run).cls (xmF YX8_run) (xmW YX8_run) 145 3 YX8_fills := ⟨⟨ml_X8_145, ini_X8, cd_X8_fills, by decide +kernel, by decide⟩, im_X8_fills, se_X8_fills⟩
theorem cs_X8_run_196 : CSV (xmN YX8_run).cls (xmF YX8_run) (xmW YX8_run) 196 2 YX8_turns := ⟨⟨ml_X8_196, ini_X8, cd_X8_turns, by decide +kernel, by decide⟩, im_X8_turns, se_X8_turns⟩
theorem cs_X8_run_214 : CSV (xmN YX8_run).cls (xmF YX8_run) (xmW YX8_run) 214 2 YX8_told := ⟨⟨ml_X8_214, ini_X8, cd_X8_told, by decide +kernel, by decide⟩, im_X8_told, se_X8_told⟩
set_option maxRecDepth 100000 in
theorem c_X8_run {l : Launch} {g : XG} {M : Mem} {K : Mem} {n : Nat} (hB : RB K M n) {b v0 p n0 wh : Int32} : Call l g YX8_run [.ref (ad g 38), .int b, .int v0, .int p, .int n0, .int wh] M (PI (fun v M' => v = (if (badR (K 1 4) b v0 p || (outB n0 0 400 || outB wh 0 16)) = true then -1 else sRunV (K 2) (itT (K 2) p n0.toNatClampNeg (sRowB K b v0)) wh) ∧ frT M M' 16)) := by
  refine call_of (by decide +kernel) (Nat.le_of_ble_eq_true rfl) (fun x hxl F R => ?_)
  subst hxl
  refine ex_aload_n F dX8_run_0 rfl rfl ?_
  refine ex_iload_n F dX8_run_1 rfl rfl ?_
  refine ex_callVi F (c_X8_areCows) dX8_run_2 cs_X8_run_184 ob_8 rfl rfl rfl rfl (Nat.le_of_ble_eq_true rfl) (fun v2 M2 h2 => ?_)
  rw [hB.mn, ← hB.kn] at h2
  obtain ⟨rfl, q2⟩ := h2
  rw [q2]
  clear q2
  refine ex_if_eq (t := 35) F dX8_run_5 (by decide) (fun c5 => ?_) (fun c5 => ?_)
  · refine ex_iconst (v := -1) F dX8_run_35 (by decide) ?_
    exact ex_iret F R dX8_run_36 rfl (⟨by rw [ift (or_l (show badR (K 1 4) b v0 p = true from or_l (by simpa using b2i_0.mp c5)))], frT_rf M 16⟩)
  · refine ex_iload_n F dX8_run_8 rfl rfl ?_
    refine ex_callSi F (c_X8_isWarm) dX8_run_9 cs_X8_run_187 rfl rfl (Nat.le_of_ble_eq_true rfl) (fun v9 M9 h9 => ?_)
    obtain ⟨rfl, q9⟩ := h9
    rw [q9]
    clear q9
    refine ex_if_eq (t := 35) F dX8_run_12 (by decide) (fun c12 => ?_) (fun c12 => ?_)
    · refine ex_iconst (v := -1) F dX8_run_35 (by decide) ?_
      exact ex_iret F R dX8_run_36 rfl (⟨by rw [ift (or_l (show badR (K 1 4) b v0 p = true from or_r (or_l (by simpa using b2i_0.mp c12))))], frT_rf M 16⟩)
    · refine ex_iload_n F dX8_run_15 rfl rfl ?_
      refine ex_callSi F (c_X8_isPace) dX8_run_16 cs_X8_run_193 rfl rfl (Nat.le_of_ble_eq_true rfl) (fun v16 M16 h16 => ?_)
      obtain ⟨rfl, q16⟩ := h16
      rw [q16]
      clear q16
      refine ex_if_eq (t := 35) F dX8_run_19 (by decide) (fun c19 => ?_) (fun c19 => ?_)
      · refine ex_iconst (v := -1) F dX8_run_35 (by decide) ?_
        exact ex_iret F R dX8_run_36 rfl (⟨by rw [ift (or_l (show badR (K 1 4) b v0 p = true from or_r (or_r (by simpa using b2i_0.mp c19))))], frT_rf M 16⟩)
      · refine ex_iload F dX8_run_22 rfl ?_
        refine ex_i2l F dX8_run_24 ?_
        refine ex_lconst (v := 0) F dX8_run_25 (by decide) ?_
        refine ex_ldc2 F dX8_run_26 kc_X8_182 ?_
        refine ex_callSi F (c_X8_in) dX8_run_29 cs_X8_run_78 rfl rfl (Nat.le_of_ble_eq_true rfl) (fun v29 M29 h29 => ?_)
        obtain ⟨e29, q29⟩ := h29
        rw [q29]
        clear q29
        rw [in_out (lo := 0) (hi := 400) (by decide) (by decide)] at e29
        subst e29
        refine ex_if_ne (t := 37) F dX8_run_32 (by decide) (fun c32 => ?_) (fun c32 => ?_)
        · refine ex_aload_n F dX8_run_37 rfl rfl ?_
          refine ex_bipush (v := 16) F dX8_run_38 (by decide) ?_
          refine ex_iload_n F dX8_run_40 rfl rfl ?_
          refine ex_iload_n F dX8_run_41 rfl rfl ?_
          refine ex_callVv F (c_X8_fills (A := 16) (n := n) (by decide) hB.mn hB.n8) dX8_run_42 cs_X8_run_145 ob_8 rfl rfl rfl rfl (Nat.le_of_ble_eq_true rfl) (fun M42 h42 => ?_)
          obtain ⟨k1, k2, k3⟩ := h42
          refine ex_iconst (v := 0) F dX8_run_45 (by decide) ?_
          refine ex_istore F dX8_run_46 (by decide) ?_
          have hb : sHasCows (K 1 4) b = true := b2i_1.mp c5
          have hv : outB v0 0 400 = false := by simpa using b2i_1.mp c12
          have hp0 : outB p 1 9 = false := by simpa using b2i_1.mp c19
          have hn0 : outB n0 0 400 = false := by simpa using b2i_1.mp c32
          obtain ⟨nn, -, h400, rfl⟩ := outB_n (a := 0) (b := 400) (by decide) hn0 (by decide)
          obtain ⟨pp, -, lp, hp⟩ := outB_n (a := 1) (b := 9) (by decide) hp0 (by decide)
          have hbad : badR (K 1 4) b v0 p = false := or_n (by rw [hb]; rfl) (or_n hv hp0)
          rw [row_eq hB hb] at k1
          have hC0 := row_okC hB hb hv
          have key : ∀ (m i : Nat) (u : Int32) (N : Mem), i + m = nn → u = nI i → cM N 16 = itT (K 2) p i (sRowB K b v0) → okM N 16 → frT M N 16 → EX x g (xmL YX8_run) N 48 [(0, .ref (ad g 38)), (3, .int p), (4, .int (nI nn)), (5, .int wh), (6, .int u)] [] := by
            intro m
            induction m with
            | zero =>
              intro i u N hi hu h1 h2 h4
              obtain rfl : i = nn := by omega
              subst hu
              refine ex_iload F dX8_run_48 rfl ?_
              refine ex_iload F dX8_run_50 rfl ?_
              refine ex_icmp_ge (t := 69) F dX8_run_52 (by decide) (fun _ => ?_) (fun c => absurd (Int32.le_refl _) c)
              refine ex_aload_n F dX8_run_69 rfl rfl ?_
              refine ex_bipush (v := 16) F dX8_run_70 (by decide) ?_
              refine ex_iload F dX8_run_72 rfl ?_
              refine ex_callVi F (c_X8_told (A := 16) (T := 0 + i) (by decide) hB.ok (mR_frT hB.ru h4) (by rw [h1]; exact okC_it hC0 hp lp i) h2) dX8_run_74 cs_X8_run_214 ob_8 rfl rfl rfl rfl (Nat.le_of_ble_eq_true rfl) (fun v74 M74 h74 => ?_)
              obtain ⟨rfl, q74⟩ := h74
              rw [q74]
              clear q74
              exact ex_iret F R dX8_run_77 rfl (by
                        refine ⟨?_, h4⟩
                        rw [h1, told_run, nI_clamp (by omega)]
                        by_cases h : outB wh 0 16 = true
                        · rw [if_pos h, ift (or_r (or_r h))]
                        · rw [if_neg h, ifn (or_n hbad (or_n hn0 (Bool.not_eq_true _ ▸ h)))])
            | succ m ih =>
              intro i u N hi hu h1 h2 h4
              subst hu
              refine ex_iload F dX8_run_48 rfl ?_
              refine ex_iload F dX8_run_50 rfl ?_
              refine ex_icmp_ge (t := 69) F dX8_run_52 (by decide) (fun c => absurd c (nI_ge (by omega) (by omega))) (fun _ => ?_)
              refine ex_aload_n F dX8_run_55 rfl rfl ?_
              refine ex_bipush (v := 16) F dX8_run_56 (by decide) ?_
              refine ex_iload_n F dX8_run_58 rfl rfl ?_
              refine ex_callVi F (c_X8_turns (A := 16) (T := 0 + i) (by decide) hB.ok (mR_frT hB.ru h4) (by rw [h1]; exact okC_it hC0 hp lp i) h2 (by omega)) dX8_run_59 cs_X8_run_196 ob_8 rfl rfl rfl rfl (Nat.le_of_ble_eq_true rfl) (fun v59 M59 h59 => ?_)
              obtain ⟨-, t1, t2, t3⟩ := h59
              rw [h1] at t1
              refine ex_pop F dX8_run_62 rfl ?_
              refine ex_iinc (w := _ + 1) F dX8_run_63 rfl rfl (by decide) ?_
              refine ex_goto (t := 48) F dX8_run_66 (by decide) ?_
              exact ex_weak2 (ih (i + 1) _ _ (by omega) (nI_1 i) t1 t3 (frT_tr h4 (frT_of t2))) ⟨rfl, rfl, rfl, rfl, rfl, trivial⟩
          exact ex_weak2 (key nn 0 _ _ (by omega) rfl k1 (okM_zero k3) k2) ⟨rfl, rfl, rfl, rfl, rfl, trivial⟩
        · refine ex_iconst (v := -1) F dX8_run_35 (by decide) ?_
          exact ex_iret F R dX8_run_36 rfl (⟨by rw [ift (or_r (or_l (by simpa using b2i_0.mp c32)))], frT_rf M 16⟩)
theorem cs_X8_comes_184 : CSV (xmN YX8_comes).cls (xmF YX8_comes) (xmW YX8_comes) 184 1 YX8_areCows := ⟨⟨ml_X8_184, ini_X8, cd_X8_areCows, by decide +kernel, by decide⟩, im_X8_areCows, se_X8_areCows⟩
theorem cs_X8_comes_187 : CSS (xmN YX8_comes).cls (xmF YX8_comes) (xmW YX8_comes) 187 1 YX8_isWarm := ⟨⟨ml_X8_187, ini_X8, cd_X8_isWarm, by decide +kernel, by decide⟩, st_X8_isWarm⟩
theorem cs_X8_comes_193 : CSS (xmN YX8_comes).cls (xmF YX8_comes) (xmW YX8_comes) 193 1 YX8_isPace := ⟨⟨ml_X8_193, ini_X8, cd_X8_isPace, by decide +kernel, by decide⟩, st_X8_isPace⟩
theorem cs_X8_comes_145 : CSV (xmN YX8_comes).cls (xmF YX8_comes) (xmW YX8_comes) 145 3 YX8_fills := ⟨⟨ml_X8_145, ini_X8, cd_X8_fills, by decide +kernel, by decide⟩, im_X8_fills, se_X8_fills⟩
theorem cs_X8_comes_217 : CSV (xmN YX8_comes).cls (xmF YX8_comes) (xmW YX8_comes) 217 2 YX8_tillCome := ⟨⟨ml_X8_217, ini_X8, cd_X8_tillCome, by decide +kernel, by decide⟩, im_X8_tillCome, se_X8_tillCome⟩
set_option maxRecDepth 100000 in
theorem c_X8_comes {l : Launch} {g : XG} {M : Mem} {K : Mem} {n : Nat} (hB : RB K M n) {b v0 p : Int32} : Call l g YX8_comes [.ref (ad g 38), .int b, .int v0, .int p] M (PI (fun v M' => v = (if badR (K 1 4) b v0 p = true then -1 else sTillN (K 2) p (sRowB K b v0) 400 1) ∧ frT M M' 16)) := by
  refine call_of (by decide +kernel) (Nat.le_of_ble_eq_true rfl) (fun x hxl F R => ?_)
  subst hxl
  refine ex_aload_n F dX8_comes_0 rfl rfl ?_
  refine ex_iload_n F dX8_comes_1 rfl rfl ?_
  refine ex_callVi F (c_X8_areCows) dX8_comes_2 cs_X8_comes_184 ob_8 rfl rfl rfl rfl (Nat.le_of_ble_eq_true rfl) (fun v2 M2 h2 => ?_)
  rw [hB.mn, ← hB.kn] at h2
  obtain ⟨rfl, q2⟩ := h2
  rw [q2]
  clear q2
  refine ex_if_eq (t := 22) F dX8_comes_5 (by decide) (fun c5 => ?_) (fun c5 => ?_)
  · refine ex_iconst (v := -1) F dX8_comes_22 (by decide) ?_
    exact ex_iret F R dX8_comes_23 rfl (⟨by rw [ift (show badR (K 1 4) b v0 p = true from or_l (by simpa using b2i_0.mp c5))], frT_rf M 16⟩)
  · refine ex_iload_n F dX8_comes_8 rfl rfl ?_
    refine ex_callSi F (c_X8_isWarm) dX8_comes_9 cs_X8_comes_187 rfl rfl (Nat.le_of_ble_eq_true rfl) (fun v9 M9 h9 => ?_)
    obtain ⟨rfl, q9⟩ := h9
    rw [q9]
    clear q9
    refine ex_if_eq (t := 22) F dX8_comes_12 (by decide) (fun c12 => ?_) (fun c12 => ?_)
    · refine ex_iconst (v := -1) F dX8_comes_22 (by decide) ?_
      exact ex_iret F R dX8_comes_23 rfl (⟨by rw [ift (show badR (K 1 4) b v0 p = true from or_r (or_l (by simpa using b2i_0.mp c12)))], frT_rf M 16⟩)
    · refine ex_iload_n F dX8_comes_15 rfl rfl ?_
      refine ex_callSi F (c_X8_isPace) dX8_comes_16 cs_X8_comes_193 rfl rfl (Nat.le_of_ble_eq_true rfl) (fun v16 M16 h16 => ?_)
      obtain ⟨rfl, q16⟩ := h16
      rw [q16]
      clear q16
      refine ex_if_ne (t := 24) F dX8_comes_19 (by decide) (fun c19 => ?_) (fun c19 => ?_)
      · refine ex_aload_n F dX8_comes_24 rfl rfl ?_
        refine ex_bipush (v := 16) F dX8_comes_25 (by decide) ?_
        refine ex_iload_n F dX8_comes_27 rfl rfl ?_
        refine ex_iload_n F dX8_comes_28 rfl rfl ?_
        refine ex_callVv F (c_X8_fills (A := 16) (n := n) (by decide) hB.mn hB.n8) dX8_comes_29 cs_X8_comes_145 ob_8 rfl rfl rfl rfl (Nat.le_of_ble_eq_true rfl) (fun M29 h29 => ?_)
        obtain ⟨k1, k2, k3⟩ := h29
        have hb : sHasCows (K 1 4) b = true := b2i_1.mp c5
        have hv : outB v0 0 400 = false := by simpa using b2i_1.mp c12
        have hp0 : outB p 1 9 = false := by simpa using b2i_1.mp c19
        obtain ⟨pp, -, lp, hp⟩ := outB_n (a := 1) (b := 9) (by decide) hp0 (by decide)
        have hbad : badR (K 1 4) b v0 p = false := or_n (by rw [hb]; rfl) (or_n hv hp0)
        rw [row_eq hB hb] at k1
        have hC0 := row_okC hB hb hv
        refine ex_aload_n F dX8_comes_32 rfl rfl ?_
        refine ex_bipush (v := 16) F dX8_comes_33 (by decide) ?_
        refine ex_iload_n F dX8_comes_35 rfl rfl ?_
        refine ex_callVi F (c_X8_tillCome (A := 16) (T := 0) (by decide) hB.ok (mR_frT hB.ru k2) (by rw [k1]; exact hC0) (okM_zero k3) (by decide) hp lp (by rw [k1]; rfl)) dX8_comes_36 cs_X8_comes_217 ob_8 rfl rfl rfl rfl (Nat.le_of_ble_eq_true rfl) (fun v36 M36 h36 => ?_)
        obtain ⟨rfl, n36, -, t1, t2, -⟩ := h36
        exact ex_iret F R dX8_comes_39 rfl (⟨by rw [k1, ifn hbad], frT_tr k2 (frT_of t2)⟩)
      · refine ex_iconst (v := -1) F dX8_comes_22 (by decide) ?_
        exact ex_iret F R dX8_comes_23 rfl (⟨by rw [ift (show badR (K 1 4) b v0 p = true from or_r (or_r (by simpa using b2i_0.mp c19)))], frT_rf M 16⟩)
theorem cs_X8_over_190 : CSV (xmN YX8_over).cls (xmF YX8_over) (xmW YX8_over) 190 0 YX8_awake := ⟨⟨ml_X8_190, ini_X8, cd_X8_awake, by decide +kernel, by decide⟩, im_X8_awake, se_X8_awake⟩
theorem cs_X8_over_193 : CSS (xmN YX8_over).cls (xmF YX8_over) (xmW YX8_over) 193 1 YX8_isPace := ⟨⟨ml_X8_193, ini_X8, cd_X8_isPace, by decide +kernel, by decide⟩, st_X8_isPace⟩
theorem cs_X8_over_233 : CSV (xmN YX8_over).cls (xmF YX8_over) (xmW YX8_over) 233 2 YX8_copies := ⟨⟨ml_X8_233, ini_X8, cd_X8_copies, by decide +kernel, by decide⟩, im_X8_copies, se_X8_copies⟩
theorem cs_X8_over_203 : CSV (xmN YX8_over).cls (xmF YX8_over) (xmW YX8_over) 203 1 YX8_isOver := ⟨⟨ml_X8_203, ini_X8, cd_X8_isOver, by decide +kernel, by decide⟩, im_X8_isOver, se_X8_isOver⟩
theorem cs_X8_over_196 : CSV (xmN YX8_over).cls (xmF YX8_over) (xmW YX8_over) 196 2 YX8_turns := ⟨⟨ml_X8_196, ini_X8, cd_X8_turns, by decide +kernel, by decide⟩, im_X8_turns, se_X8_turns⟩
set_option maxRecDepth 100000 in
theorem c_X8_over {l : Launch} {g : XG} {M : Mem} {c r : Nat → Int32} {T : Nat} (hR : okR r) (hr : mR M r) (hC : RC c (r 1) M T) (hT : T + 402 < 2 ^ 31) {p : Int32} : Call l g YX8_over [.ref (ad g 38), .int p] M (PI (fun v M' => v = (if outB p 1 9 = true then -1 else if (!sCome c) = true then -2 else sOverN r p c 401 0) ∧ RC c (r 1) M' T ∧ frB M M')) := by
  refine call_of (by decide +kernel) (Nat.le_of_ble_eq_true rfl) (fun x hxl F R => ?_)
  subst hxl
  have hw : M 47 1 = r 1 := hr 1 (by decide)
  refine ex_aload_n F dX8_over_0 rfl rfl ?_
  refine ex_callVv F (c_X8_awake) dX8_over_1 cs_X8_over_190 ob_8 rfl rfl rfl rfl (Nat.le_of_ble_eq_true rfl) (fun M1 h1 => ?_)
  obtain ⟨w1, w2, w3, w4⟩ := wake_ok hC hw h1
  have hr1 := frB_mR hr w4
  have hsc := cM_come w2
  rw [w1] at hsc
  refine ex_iload_n F dX8_over_4 rfl rfl ?_
  refine ex_callSi F (c_X8_isPace) dX8_over_5 cs_X8_over_193 rfl rfl (Nat.le_of_ble_eq_true rfl) (fun v5 M5 h5 => ?_)
  obtain ⟨rfl, q5⟩ := h5
  rw [q5]
  clear q5
  refine ex_if_ne (t := 13) F dX8_over_8 (by decide) (fun c8 => ?_) (fun c8 => ?_)
  · refine ex_aload_n F dX8_over_13 rfl rfl ?_
    refine gf_8_23 F dX8_over_14 fl_X8_46 ?_
    refine ex_iconst (v := 5) F dX8_over_17 (by decide) ?_
    refine ex_iald (n := 80) F dX8_over_18 (by decide) (vpd (by decide)) (j := 5) (by decide) ?_
    refine ex_if_ne (t := 25) F dX8_over_19 (by decide) (fun c19 => ?_) (fun c19 => ?_)
    · refine ex_aload_n F dX8_over_25 rfl rfl ?_
      refine ex_iconst (v := 0) F dX8_over_26 (by decide) ?_
      refine ex_bipush (v := 64) F dX8_over_27 (by decide) ?_
      refine ex_callVv F (c_X8_copies (A := 0) (B := 64) (by decide) (by decide) (by decide)) dX8_over_29 cs_X8_over_233 ob_8 rfl rfl rfl rfl (Nat.le_of_ble_eq_true rfl) (fun M29 h29 => ?_)
      obtain ⟨k1, k2⟩ := h29
      have hco : sCome c = true := by rw [hsc, decide_eq_false c19]; rfl
      refine ex_iconst (v := 0) F dX8_over_32 (by decide) ?_
      refine ex_istore_n F dX8_over_33 rfl (by decide) ?_
      have hp0 : outB p 1 9 = false := by simpa using b2i_1.mp c8
      obtain ⟨pp, -, lp, hp⟩ := outB_n (a := 1) (b := 9) (by decide) hp0 (by decide)
      have ko := cM_eq (A := 0) (B := 64) (fun i hi => k1 i (by omega))
      rw [w1] at ko
      have kr : RC c (r 1) M29 T := RC_out (RC_mk hC.okc w2 w3 w1) k2 (by decide)
      have kb : frB M M29 := frB_tr w4 (frB_T k2 (by decide))
      have hOo : okM M29 64 := by
        obtain ⟨t, lt, e⟩ := w2
        exact ⟨t, lt, (k1 5 (by decide)).trans e⟩
      rw [ifn hp0, ifn (show (!sCome c) = false by rw [hco]; rfl)] at R
      generalize hso : sOverN r p c 401 0 = so at R
      have key : ∀ (m i : Nat) (u : Int32) (N : Mem), i + m = 401 → u = nI i → sOverN r p c m i = so → cM N 64 = itT r p i c → okM N 64 → frT M29 N 64 → EX x g (xmL YX8_over) N 34 [(0, .ref (ad g 38)), (1, .int p), (2, .int u)] [] := by
        intro m
        induction m with
        | zero =>
          intro i u N hi hu hs h1 h2 h4
          obtain rfl : i = 401 := by omega
          subst hu
          refine ex_iload_n F dX8_over_34 rfl rfl ?_
          refine ex_sipush (v := 400) F dX8_over_35 (by decide) ?_
          refine ex_icmp_gt (t := 66) F dX8_over_38 (by decide) (fun _ => ?_) (fun c => absurd (by decide) c)
          refine ex_bipush (v := -4) F dX8_over_66 (by decide) ?_
          exact ex_iret F R dX8_over_68 rfl (⟨hs, RC_out kr h4 (by decide), frB_tr kb (frB_T h4 (by decide))⟩)
        | succ m ih =>
          intro i u N hi hu hs h1 h2 h4
          subst hu
          refine ex_iload_n F dX8_over_34 rfl rfl ?_
          refine ex_sipush (v := 400) F dX8_over_35 (by decide) ?_
          refine ex_icmp_gt (t := 66) F dX8_over_38 (by decide) (fun c => absurd c (Int32.not_lt.mpr (nI_le (b := 400) (by omega) (by decide)))) (fun _ => ?_)
          refine ex_aload_n F dX8_over_41 rfl rfl ?_
          refine ex_bipush (v := 64) F dX8_over_42 (by decide) ?_
          refine ex_callVi F (c_X8_isOver (A := 64) (by decide)) dX8_over_44 cs_X8_over_203 ob_8 rfl rfl rfl rfl (Nat.le_of_ble_eq_true rfl) (fun v44 M44 h44 => ?_)
          obtain ⟨rfl, q44⟩ := h44
          rw [q44]
          clear q44
          refine ex_if_eq (t := 52) F dX8_over_47 (by decide) (fun c47 => ?_) (fun c47 => ?_)
          · refine ex_aload_n F dX8_over_52 rfl rfl ?_
            refine ex_bipush (v := 64) F dX8_over_53 (by decide) ?_
            refine ex_iload_n F dX8_over_55 rfl rfl ?_
            refine ex_callVi F (c_X8_turns (A := 64) (T := T + i) (by decide) hR (mR_frT (frB_mR hr kb) h4) (by rw [h1]; exact okC_it hC.okc hp lp i) h2 (by omega)) dX8_over_56 cs_X8_over_196 ob_8 rfl rfl rfl rfl (Nat.le_of_ble_eq_true rfl) (fun v56 M56 h56 => ?_)
            obtain ⟨-, t1, t2, t3⟩ := h56
            rw [h1] at t1
            refine ex_pop F dX8_over_59 rfl ?_
            refine ex_iinc (w := _ + 1) F dX8_over_60 rfl rfl (by decide) ?_
            refine ex_goto (t := 34) F dX8_over_63 (by decide) ?_
            exact ex_weak2 (ih (i + 1) _ _ (by omega) (nI_1 i) (by rw [← hs, sOverN, ifn (by rw [← h1]; exact b2i_0.mp c47)]) t1 t3 (frT_tr h4 (frT_of t2))) ⟨rfl, rfl, rfl, trivial⟩
          · refine ex_iload_n F dX8_over_50 rfl rfl ?_
            exact ex_iret F R dX8_over_51 rfl (⟨by rw [← hs, sOverN, ift (by rw [← h1]; exact b2i_1.mp c47)], RC_out kr h4 (by decide), frB_tr kb (frB_T h4 (by decide))⟩)
      exact ex_weak2 (key 401 0 _ _ (by omega) rfl hso ko hOo (frT_rf M29 64)) ⟨rfl, rfl, rfl, trivial⟩
    · refine ex_bipush (v := -2) F dX8_over_22 (by decide) ?_
      exact ex_iret F R dX8_over_24 rfl (⟨by rw [ifn (by simpa using b2i_1.mp c8), ift (by rw [hsc, decide_eq_true c19]; rfl)], RC_mk hC.okc w2 w3 w1, w4⟩)
  · refine ex_iconst (v := -1) F dX8_over_11 (by decide) ?_
    exact ex_iret F R dX8_over_12 rfl (⟨by rw [ift (by simpa using b2i_0.mp c8)], RC_mk hC.okc w2 w3 w1, w4⟩)
