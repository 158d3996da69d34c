-- the reference: its row of state at place A, as a churn's row
def cM (M : Mem) (A : Nat) : Nat → Int32 := fun j => if j = 5 then (if M 51 (A + 5) = 0 then -4 else M 51 (A + 5) - 1) else if j < 13 then M 51 (A + j) else 0
def okM (M : Mem) (A : Nat) : Prop := ∃ t, t < 2 ^ 31 ∧ M 51 (A + 5) = nI t
def mR (M : Mem) (r : Nat → Int32) : Prop := ∀ j, j < 9 → M 47 j = r j
theorem ixA {A k : Nat} (hA : A ≤ 64) (hk : k < 16) : vp_in (nI A + nI k) 80 := by rw [nI_add]; exact vp_in_nI (by omega) (by decide)
theorem ixB {A k : Nat} (hA : A ≤ 64) (hk : k < 16) : (nI A + nI k).toNatClampNeg = A + k := by rw [nI_add]; exact nI_clamp (by omega)
theorem ixA2 {A k i : Nat} (hA : A ≤ 64) (hk : k + i < 16) : vp_in (nI A + nI k + nI i) 80 := by rw [nI_add, nI_add]; exact vp_in_nI (by omega) (by decide)
theorem ixB2 {A k i : Nat} (hA : A ≤ 64) (hk : k + i < 16) : (nI A + nI k + nI i).toNatClampNeg = A + (k + i) := by rw [nI_add, nI_add]; rw [nI_clamp (by omega)]; omega
theorem ixA3 {A k i : Nat} (hA : A ≤ 64) (hk : k + i + 1 < 16) : vp_in (nI A + nI k + nI i + 1) 80 := by rw [nI_add, nI_add, nI_1]; exact vp_in_nI (by omega) (by decide)
theorem ixB3 {A k i : Nat} (hA : A ≤ 64) (hk : k + i + 1 < 16) : (nI A + nI k + nI i + 1).toNatClampNeg = A + (k + (i + 1)) := by rw [nI_add, nI_add, nI_1]; rw [nI_clamp (by omega)]; omega
theorem cM_o {M : Mem} {A j : Nat} (h5 : j ≠ 5) (h : j < 13) : cM M A j = M 51 (A + j) := by simp [cM, h5, h]
theorem cM_5 {M : Mem} {A : Nat} : cM M A 5 = if M 51 (A + 5) = 0 then -4 else M 51 (A + 5) - 1 := by simp [cM]
theorem cM_come {M : Mem} {A : Nat} (h : okM M A) : sCome (cM M A) = !decide (M 51 (A + 5) = 0) := by
  obtain ⟨t, lt, e⟩ := h
  unfold sCome
  rw [cM_5, e]
  by_cases h0 : nI t = 0
  · rw [if_pos h0]; simp [h0]
  · rw [if_neg h0]
    have ht : 0 < t := by
      rcases Nat.eq_zero_or_pos t with q | q
      · subst q; exact absurd rfl h0
      · exact q
    have e1 : nI t - 1 = nI (t - 1) := pk_sub (b := 1) ht
    have : ¬ nI (t - 1) = -4 := by
      intro q
      have q1 := congrArg Int32.toInt q
      rw [nI_toInt (by omega)] at q1
      have e4 : (-4 : Int32).toInt = -4 := by decide
      rw [e4] at q1
      omega
    rw [e1]
    simp [h0, this]
theorem cM_z (M : Mem) (A : Nat) : zC (cM M A) := fun j hj => by simp [cM, show ¬ j = 5 by omega, show ¬ j < 13 by omega]
theorem cM_mu {M : Mem} {A j : Nat} {y : Int32} (h5 : j ≠ 5) (h : j < 13) : cM (mu M 51 (A + j) y) A = upd (cM M A) j y := by
  funext i
  by_cases hi : i = j
  · subst hi
    rw [pk_us, cM_o h5 h, mu_same]
  · rw [pk_un hi]
    unfold cM
    by_cases hi5 : i = 5
    · subst hi5
      simp [mu_j _ _ _ _ _ (show A + 5 ≠ A + j by omega)]
    · by_cases h13 : i < 13
      · simp [hi5, h13, mu_j _ _ _ _ _ (show A + i ≠ A + j by omega)]
      · simp [hi5, h13]
theorem cM_mu5 {M : Mem} {A t : Nat} (lt : t + 1 < 2 ^ 31) : cM (mu M 51 (A + 5) (nI (t + 1))) A = upd (cM M A) 5 (nI t) := by
  funext i
  by_cases hi : i = 5
  · subst hi
    rw [pk_us, cM_5, mu_same, if_neg (nI_ne0 (by omega) lt), nI_succ]
    simp
  · rw [pk_un hi]
    unfold cM
    by_cases h13 : i < 13
    · simp [hi, h13, mu_j _ _ _ _ _ (show A + i ≠ A + 5 by omega)]
    · simp [hi, h13]
def inB (a b c : Int64) : Bool := decide (b ≤ a) && decide (a ≤ c)
theorem cmp_lt {x y : Int64} : lg_cmp x y < 0 ↔ x < y := by
  unfold lg_cmp
  split
  · rename_i h
    exact ⟨fun q => absurd q (by decide), fun q => absurd q (Int64.not_lt.mpr (Int64.le_of_lt h))⟩
  · rename_i h
    split
    · rename_i h2; subst h2; exact ⟨fun q => absurd q (by decide), fun q => absurd q Int64.lt_irrefl⟩
    · rename_i h2
      refine ⟨fun _ => ?_, fun _ => by decide⟩
      rcases Int64.lt_or_eq_of_le (Int64.not_lt.mp h) with q | q
      · exact q
      · exact absurd q h2
theorem w_le (a b : Int32) : a.toInt64 ≤ b.toInt64 ↔ a ≤ b := by rw [Int64.le_iff_toInt_le, Int32.le_iff_toInt_le, Int32.toInt_toInt64, Int32.toInt_toInt64]
theorem in_out {x lo hi : Int32} {a b : Int64} (ha : lo.toInt64 = a) (hb : hi.toInt64 = b) : inB x.toInt64 a b = !outB x lo hi := by
  unfold inB outB
  rw [← ha, ← hb]
  simp only [w_le]
  by_cases h1 : lo ≤ x
  · by_cases h2 : x ≤ hi
    · simp [h1, h2, lt_nle, -Int32.not_le, -Int32.not_lt]
    · simp [h1, h2, lt_nle, -Int32.not_le, -Int32.not_lt]
  · simp [h1, lt_nle, -Int32.not_le, -Int32.not_lt]
theorem out_has (n z : Int32) : (!outB z 0 (sAll n)) = sHasCows n z := by
  unfold outB sHasCows
  by_cases h1 : 0 ≤ z
  · by_cases h2 : z ≤ sAll n
    · simp [h1, h2, lt_nle, -Int32.not_le, -Int32.not_lt]
    · simp [h1, h2, lt_nle, -Int32.not_le, -Int32.not_lt]
  · simp [h1, lt_nle, -Int32.not_le, -Int32.not_lt]
def refHard (off h : Int32) : Int32 := if h - (if off < 0 then -((99 - off) / 100) else off / 100) < 0 then 0 else if 100 < h - (if off < 0 then -((99 - off) / 100) else off / 100) then 100 else h - (if off < 0 then -((99 - off) / 100) else off / 100)
theorem less_int {a : Int32} (h1 : -40000 ≤ a.toInt) (h2 : a.toInt ≤ 40000) : (if a < 0 then -((99 - a) / 100) else a / 100).toInt = a.toInt / 100 := by
  have h100 : (100 : Int32).toInt = 100 := by decide
  have h99 : (99 : Int32).toInt = 99 := by decide
  have h0 : (0 : Int32).toInt = 0 := by decide
  by_cases h : a < 0
  · have hn := Int32.lt_iff_toInt_lt.mp h
    rw [h0] at hn
    have e1 : (99 - a).toInt = 99 - a.toInt := by rw [Jvm.Kit.i32_sub (by rw [h99]; omega) (by rw [h99]; omega), h99]
    have e2 : ((99 - a) / 100).toInt = (99 - a.toInt) / 100 := by
      rw [Jvm.Kit.i32_div (by rw [h100]; omega), e1, h100, Int.tdiv_eq_ediv_of_nonneg (by omega)]
    rw [if_pos h, Jvm.Kit.i32_neg (by rw [e2]; omega), e2]
    omega
  · have hn := Int32.le_iff_toInt_le.mp (Int32.not_lt.mp h)
    rw [h0] at hn
    rw [if_neg h, Jvm.Kit.i32_div (by rw [h100]; omega), h100, Int.tdiv_eq_ediv_of_nonneg hn]
theorem refHard_ok {T : Nat} {r c : Nat → Int32} (hR : okR r) (hC : okC T c) : sHard r c = refHard ((c 1 - r 1) * r 2) (c 2) := by
  obtain ⟨f, hf, -, f1, f2, -⟩ := hR
  obtain ⟨⟨w, lw, hw⟩, ⟨h, lh, hh⟩, -⟩ := hC
  have hb := hf 1 (by decide)
  have hs := hf 2 (by decide)
  obtain ⟨p1, p2⟩ := prod_in f1 f2.2 lw
  apply Int32.toInt_inj.mp
  rw [sHard_int hb hs hw hh f1 f2.2 lw lh]
  have e1 : (c 1 - r 1).toInt = (w : Int) - (f 1 : Nat) := by rw [hw, hb]; exact pk_sub_toInt (by omega) (by omega)
  have e2 : ((c 1 - r 1) * r 2).toInt = ((w : Int) - (f 1 : Nat)) * (f 2 : Nat) := by
    rw [Jvm.Kit.i32_mul (by rw [e1, hs, nI_toInt (by omega)]; omega) (by rw [e1, hs, nI_toInt (by omega)]; omega), e1, hs, nI_toInt (by omega)]
  have e3 := less_int (a := (c 1 - r 1) * r 2) (by rw [e2]; omega) (by rw [e2]; omega)
  rw [e2] at e3
  unfold refHard hardI
  generalize (if (c 1 - r 1) * r 2 < 0 then -((99 - (c 1 - r 1) * r 2) / 100) else (c 1 - r 1) * r 2 / 100) = z at e3 ⊢
  have e4 : (c 2 - z).toInt = (h : Int) - ((w : Int) - (f 1 : Nat)) * (f 2 : Nat) / 100 := by
    rw [Jvm.Kit.i32_sub (by rw [e3, hh, nI_toInt (by omega)]; omega) (by rw [e3, hh, nI_toInt (by omega)]; omega), e3, hh, nI_toInt (by omega)]
  have h100 : (100 : Int32).toInt = 100 := by decide
  have h0 : (0 : Int32).toInt = 0 := by decide
  simp only [Int32.lt_iff_toInt_lt, ite_toInt, e4, h100, h0]
  generalize ((w : Int) - (f 1 : Nat)) * (f 2 : Nat) / 100 = y
  split <;> split <;> (try split) <;> (try split) <;> omega
/-- what the reference's turning may change -/
def frS (M M' : Mem) (A : Nat) : Prop := (∀ q, q ≠ 51 → q ≠ 52 → M' q = M q) ∧ ∀ i, (i < A ∨ A + 13 ≤ i) → M' 51 i = M 51 i
theorem frS_rf (M : Mem) (A : Nat) : frS M M A := ⟨fun _ _ _ => rfl, fun _ _ => rfl⟩
theorem frS_tr {M M1 M2 : Mem} {A : Nat} (h1 : frS M M1 A) (h2 : frS M1 M2 A) : frS M M2 A := ⟨fun q a b => (h2.1 q a b).trans (h1.1 q a b), fun i h => (h2.2 i h).trans (h1.2 i h)⟩
theorem frS_mu {M : Mem} {A j : Nat} (y : Int32) (h : j < 13) : frS M (mu M 51 (A + j) y) A := ⟨fun q a _ => mu_k _ _ _ _ _ a, fun i hi => mu_j _ _ _ _ _ (by omega)⟩
theorem frS_52 {M : Mem} {A j : Nat} (y : Int32) : frS M (mu M 52 j y) A := ⟨fun q _ b => mu_k _ _ _ _ _ b, fun i _ => by rw [mu_k M 52 j 51 y (by decide)]⟩
theorem cM_52 {M : Mem} {A j : Nat} {y : Int32} : cM (mu M 52 j y) A = cM M A := by
  have e : mu M 52 j y 51 = M 51 := mu_k M 52 j 51 y (by decide)
  unfold cM
  rw [e]
theorem mR_fr {M M' : Mem} {A : Nat} {r : Nat → Int32} (h : mR M r) (hf : frS M M' A) : mR M' r := fun j hj => by rw [hf.1 47 (by decide) (by decide)]; exact h j hj

set_option maxRecDepth 100000 in
theorem c_X8_in {l : Launch} {g : XG} {M : Mem} {a b c : Int64} : Call l g YX8_in [.long a, .long b, .long c] M (PI (fun v M' => v = b2i (inB a b c) ∧ M' = M)) := by
  refine call_of (by decide +kernel) (Nat.le_of_ble_eq_true rfl) (fun x hxl F R => ?_)
  subst hxl
  refine ex_lload_n F dX8_in_0 rfl rfl ?_
  refine ex_lload_n F dX8_in_1 rfl rfl ?_
  refine ex_lcmp F dX8_in_2 ?_
  refine ex_if_lt (t := 17) F dX8_in_3 (by decide) (fun c3 => ?_) (fun c3 => ?_)
  · refine ex_iconst (v := 0) F dX8_in_17 (by decide) ?_
    exact ex_zret (ty := .boolean) F R dX8_in_18 rfl (rfl) (⟨by unfold inB; rw [decide_eq_false (Int64.not_le.mpr (cmp_lt.mp c3)), Bool.false_and]; rfl, rfl⟩)
  · refine ex_lload_n F dX8_in_6 rfl rfl ?_
    refine ex_lload F dX8_in_7 rfl ?_
    refine ex_lcmp F dX8_in_9 ?_
    refine ex_if_gt (t := 17) F dX8_in_10 (by decide) (fun c10 => ?_) (fun c10 => ?_)
    · refine ex_iconst (v := 0) F dX8_in_17 (by decide) ?_
      exact ex_zret (ty := .boolean) F R dX8_in_18 rfl (rfl) (⟨by unfold inB; rw [decide_eq_false (Int64.not_le.mpr (cmp_gt.mp c10)), Bool.and_false]; rfl, rfl⟩)
    · refine ex_iconst (v := 1) F dX8_in_13 (by decide) ?_
      refine ex_goto (t := 18) F dX8_in_14 (by decide) ?_
      exact ex_zret (ty := .boolean) F R dX8_in_18 rfl (rfl) (⟨by unfold inB; rw [decide_eq_true (Int64.not_lt.mp (fun q => c3 (cmp_lt.mpr q))), decide_eq_true (Int64.not_lt.mp (fun q => c10 (cmp_gt.mpr q)))]; rfl, rfl⟩)
theorem cs_X8_isWarm_78 : CSS (xmN YX8_isWarm).cls (xmF YX8_isWarm) (xmW YX8_isWarm) 78 3 YX8_in := ⟨⟨ml_X8_78, ini_X8, cd_X8_in, by decide +kernel, by decide⟩, st_X8_in⟩
set_option maxRecDepth 100000 in
theorem c_X8_isWarm {l : Launch} {g : XG} {M : Mem} {z : Int32} : Call l g YX8_isWarm [.int z] M (PI (fun v M' => v = b2i (!outB z 0 400) ∧ M' = M)) := by
  refine call_of (by decide +kernel) (Nat.le_of_ble_eq_true rfl) (fun x hxl F R => ?_)
  subst hxl
  refine ex_iload_n F dX8_isWarm_0 rfl rfl ?_
  refine ex_i2l F dX8_isWarm_1 ?_
  refine ex_lconst (v := 0) F dX8_isWarm_2 (by decide) ?_
  refine ex_ldc2 F dX8_isWarm_3 kc_X8_182 ?_
  refine ex_callSi F (c_X8_in) dX8_isWarm_6 cs_X8_isWarm_78 rfl rfl (Nat.le_of_ble_eq_true rfl) (fun v6 M6 h6 => ?_)
  obtain ⟨e6, q6⟩ := h6
  rw [q6]
  clear q6
  rw [in_out (lo := 0) (hi := 400) (by decide) (by decide)] at e6
  subst e6
  exact ex_zret (ty := .boolean) F R dX8_isWarm_9 rfl (narrow_b2i _) (⟨rfl, rfl⟩)
theorem cs_X8_isPace_78 : CSS (xmN YX8_isPace).cls (xmF YX8_isPace) (xmW YX8_isPace) 78 3 YX8_in := ⟨⟨ml_X8_78, ini_X8, cd_X8_in, by decide +kernel, by decide⟩, st_X8_in⟩
set_option maxRecDepth 100000 in
theorem c_X8_isPace {l : Launch} {g : XG} {M : Mem} {z : Int32} : Call l g YX8_isPace [.int z] M (PI (fun v M' => v = b2i (!outB z 1 9) ∧ M' = M)) := by
  refine call_of (by decide +kernel) (Nat.le_of_ble_eq_true rfl) (fun x hxl F R => ?_)
  subst hxl
  refine ex_iload_n F dX8_isPace_0 rfl rfl ?_
  refine ex_i2l F dX8_isPace_1 ?_
  refine ex_lconst (v := 1) F dX8_isPace_2 (by decide) ?_
  refine ex_ldc2 F dX8_isPace_3 kc_X8_167 ?_
  refine ex_callSi F (c_X8_in) dX8_isPace_6 cs_X8_isPace_78 rfl rfl (Nat.le_of_ble_eq_true rfl) (fun v6 M6 h6 => ?_)
  obtain ⟨e6, q6⟩ := h6
  rw [q6]
  clear q6
  rw [in_out (lo := 1) (hi := 9) (by decide) (by decide)] at e6
  subst e6
  exact ex_zret (ty := .boolean) F R dX8_isPace_9 rfl (narrow_b2i _) (⟨rfl, rfl⟩)
theorem cs_X8_areCows_78 : CSS (xmN YX8_areCows).cls (xmF YX8_areCows) (xmW YX8_areCows) 78 3 YX8_in := ⟨⟨ml_X8_78, ini_X8, cd_X8_in, by decide +kernel, by decide⟩, st_X8_in⟩
set_option maxRecDepth 100000 in
theorem c_X8_areCows {l : Launch} {g : XG} {M : Mem} {z : Int32} : Call l g YX8_areCows [.ref (ad g 38), .int z] M (PI (fun v M' => v = b2i (sHasCows (M 38 18) z) ∧ M' = M)) := by
  refine call_of (by decide +kernel) (Nat.le_of_ble_eq_true rfl) (fun x hxl F R => ?_)
  subst hxl
  refine ex_iload_n F dX8_areCows_0 rfl rfl ?_
  refine ex_i2l F dX8_areCows_1 ?_
  refine ex_lconst (v := 0) F dX8_areCows_2 (by decide) ?_
  refine ex_iconst (v := 1) F dX8_areCows_3 (by decide) ?_
  refine ex_aload_n F dX8_areCows_4 rfl rfl ?_
  refine gf_8_18 F dX8_areCows_5 fl_X8_139 ?_
  refine ex_ishl F dX8_areCows_8 ?_
  refine ex_iconst (v := 1) F dX8_areCows_9 (by decide) ?_
  refine ex_isub F dX8_areCows_10 ?_
  refine ex_i2l F dX8_areCows_11 ?_
  refine ex_callSi F (c_X8_in) dX8_areCows_12 cs_X8_areCows_78 rfl rfl (Nat.le_of_ble_eq_true rfl) (fun v12 M12 h12 => ?_)
  obtain ⟨e12, q12⟩ := h12
  rw [q12]
  clear q12
  rw [in_out (lo := 0) (hi := 1 <<< (M 38 18 &&& 31) - 1) (by decide) rfl] at e12
  subst e12
  exact ex_zret (ty := .boolean) F R dX8_areCows_15 rfl (narrow_b2i _) (⟨by rw [← out_has]; rfl, rfl⟩)
set_option maxRecDepth 100000 in
theorem c_X8_hardness {l : Launch} {g : XG} {M : Mem} {A T : Nat} {r : Nat → Int32} (hA : A ≤ 64) (hR : okR r) (hr : mR M r) (hC : okC T (cM M A)) : Call l g YX8_hardness [.ref (ad g 38), .int (nI A)] M (PI (fun v M' => v = sHard r (cM M A) ∧ M' = M)) := by
  refine call_of (by decide +kernel) (Nat.le_of_ble_eq_true rfl) (fun x hxl F R => ?_)
  subst hxl
  have e0 : sHard r (cM M A) = refHard ((M 51 (A + 1) - M 47 1) * M 47 2) (M 51 (A + 2)) := by rw [refHard_ok hR hC, cM_o (by decide) (by decide), cM_o (by decide) (by decide), hr 1 (by decide), hr 2 (by decide)]
  refine ex_aload_n F dX8_hardness_0 rfl rfl ?_
  refine gf_8_23 F dX8_hardness_1 fl_X8_46 ?_
  refine ex_iload_n F dX8_hardness_4 rfl rfl ?_
  refine ex_iconst (v := 1) F dX8_hardness_5 (by decide) ?_
  refine ex_iadd F dX8_hardness_6 ?_
  refine ex_iald (n := 80) F dX8_hardness_7 (by decide) (ixA (k := 1) hA (by decide)) (j := A + 1) (ixB (k := 1) hA (by decide)) ?_
  refine ex_aload_n F dX8_hardness_8 rfl rfl ?_
  refine gf_8_16 F dX8_hardness_9 fl_X8_34 ?_
  refine ex_iconst (v := 1) F dX8_hardness_12 (by decide) ?_
  refine ex_iald (n := 13) F dX8_hardness_13 (by decide) (vpd (by decide)) (j := 1) (by decide) ?_
  refine ex_isub F dX8_hardness_14 ?_
  refine ex_aload_n F dX8_hardness_15 rfl rfl ?_
  refine gf_8_16 F dX8_hardness_16 fl_X8_34 ?_
  refine ex_iconst (v := 2) F dX8_hardness_19 (by decide) ?_
  refine ex_iald (n := 13) F dX8_hardness_20 (by decide) (vpd (by decide)) (j := 2) (by decide) ?_
  refine ex_imul F dX8_hardness_21 ?_
  refine ex_istore_n F dX8_hardness_22 rfl (by decide) ?_
  refine ex_iload_n F dX8_hardness_23 rfl rfl ?_
  refine ex_if_lt (t := 34) F dX8_hardness_24 (by decide) (fun c24 => ?_) (fun c24 => ?_)
  · refine ex_bipush (v := 99) F dX8_hardness_34 (by decide) ?_
    refine ex_iload_n F dX8_hardness_36 rfl rfl ?_
    refine ex_isub F dX8_hardness_37 ?_
    refine ex_bipush (v := 100) F dX8_hardness_38 (by decide) ?_
    refine ex_idiv F dX8_hardness_40 (by decide) ?_
    refine ex_ineg F dX8_hardness_41 ?_
    refine ex_istore_n F dX8_hardness_42 rfl (by decide) ?_
    refine ex_aload_n F dX8_hardness_43 rfl rfl ?_
    refine gf_8_23 F dX8_hardness_44 fl_X8_46 ?_
    refine ex_iload_n F dX8_hardness_47 rfl rfl ?_
    refine ex_iconst (v := 2) F dX8_hardness_48 (by decide) ?_
    refine ex_iadd F dX8_hardness_49 ?_
    refine ex_iald (n := 80) F dX8_hardness_50 (by decide) (ixA (k := 2) hA (by decide)) (j := A + 2) (ixB (k := 2) hA (by decide)) ?_
    refine ex_iload_n F dX8_hardness_51 rfl rfl ?_
    refine ex_isub F dX8_hardness_52 ?_
    refine ex_istore F dX8_hardness_53 (by decide) ?_
    refine ex_iload F dX8_hardness_55 rfl ?_
    refine ex_if_ge (t := 64) F dX8_hardness_57 (by decide) (fun c57 => ?_) (fun c57 => ?_)
    · refine ex_iload F dX8_hardness_64 rfl ?_
      refine ex_bipush (v := 100) F dX8_hardness_66 (by decide) ?_
      refine ex_icmp_le (t := 76) F dX8_hardness_68 (by decide) (fun c68 => ?_) (fun c68 => ?_)
      · refine ex_iload F dX8_hardness_76 rfl ?_
        exact ex_iret F R dX8_hardness_78 rfl (⟨by rw [e0, refHard, if_pos c24, if_neg (Int32.not_lt.mpr c57), if_neg (Int32.not_lt.mpr c68)], rfl⟩)
      · refine ex_bipush (v := 100) F dX8_hardness_71 (by decide) ?_
        refine ex_goto (t := 78) F dX8_hardness_73 (by decide) ?_
        exact ex_iret F R dX8_hardness_78 rfl (⟨by rw [e0, refHard, if_pos c24, if_neg (Int32.not_lt.mpr c57), if_pos (Int32.not_le.mp c68)], rfl⟩)
    · refine ex_iconst (v := 0) F dX8_hardness_60 (by decide) ?_
      refine ex_goto (t := 78) F dX8_hardness_61 (by decide) ?_
      exact ex_iret F R dX8_hardness_78 rfl (⟨by rw [e0, refHard, if_pos c24, if_pos (Int32.not_le.mp c57)], rfl⟩)
  · refine ex_iload_n F dX8_hardness_27 rfl rfl ?_
    refine ex_bipush (v := 100) F dX8_hardness_28 (by decide) ?_
    refine ex_idiv F dX8_hardness_30 (by decide) ?_
    refine ex_goto (t := 42) F dX8_hardness_31 (by decide) ?_
    refine ex_istore_n F dX8_hardness_42 rfl (by decide) ?_
    refine ex_aload_n F dX8_hardness_43 rfl rfl ?_
    refine gf_8_23 F dX8_hardness_44 fl_X8_46 ?_
    refine ex_iload_n F dX8_hardness_47 rfl rfl ?_
    refine ex_iconst (v := 2) F dX8_hardness_48 (by decide) ?_
    refine ex_iadd F dX8_hardness_49 ?_
    refine ex_iald (n := 80) F dX8_hardness_50 (by decide) (ixA (k := 2) hA (by decide)) (j := A + 2) (ixB (k := 2) hA (by decide)) ?_
    refine ex_iload_n F dX8_hardness_51 rfl rfl ?_
    refine ex_isub F dX8_hardness_52 ?_
    refine ex_istore F dX8_hardness_53 (by decide) ?_
    refine ex_iload F dX8_hardness_55 rfl ?_
    refine ex_if_ge (t := 64) F dX8_hardness_57 (by decide) (fun c57 => ?_) (fun c57 => ?_)
    · refine ex_iload F dX8_hardness_64 rfl ?_
      refine ex_bipush (v := 100) F dX8_hardness_66 (by decide) ?_
      refine ex_icmp_le (t := 76) F dX8_hardness_68 (by decide) (fun c68 => ?_) (fun c68 => ?_)
      · refine ex_iload F dX8_hardness_76 rfl ?_
        exact ex_iret F R dX8_hardness_78 rfl (⟨by rw [e0, refHard, if_neg c24, if_neg (Int32.not_lt.mpr c57), if_neg (Int32.not_lt.mpr c68)], rfl⟩)
      · refine ex_bipush (v := 100) F dX8_hardness_71 (by decide) ?_
        refine ex_goto (t := 78) F dX8_hardness_73 (by decide) ?_
        exact ex_iret F R dX8_hardness_78 rfl (⟨by rw [e0, refHard, if_neg c24, if_neg (Int32.not_lt.mpr c57), if_pos (Int32.not_le.mp c68)], rfl⟩)
    · refine ex_iconst (v := 0) F dX8_hardness_60 (by decide) ?_
      refine ex_goto (t := 78) F dX8_hardness_61 (by decide) ?_
      exact ex_iret F R dX8_hardness_78 rfl (⟨by rw [e0, refHard, if_neg c24, if_pos (Int32.not_le.mp c57)], rfl⟩)
set_option maxRecDepth 100000 in
theorem c_X8_fatFrom {l : Launch} {g : XG} {M : Mem} {A i0 : Nat} (hA : A ≤ 64) (hi : i0 ≤ 7) : Call l g YX8_fatFrom [.ref (ad g 38), .int (nI A), .int (nI i0)] M (PI (fun v M' => v = sFat (cM M A) i0 ∧ M' = M)) := by
  refine call_of (by decide +kernel) (Nat.le_of_ble_eq_true rfl) (fun x hxl F R => ?_)
  subst hxl
  refine ex_iconst (v := 0) F dX8_fatFrom_0 (by decide) ?_
  refine ex_istore_n F dX8_fatFrom_1 rfl (by decide) ?_
  refine ex_iload_n F dX8_fatFrom_2 rfl rfl ?_
  refine ex_istore F dX8_fatFrom_3 (by decide) ?_
  have key : ∀ (n i : Nat) (a : Int32), i + n = 7 → sFatN (cM M A) n a = sFat (cM M A) i0 → EX x g (xmL YX8_fatFrom) M 5 [(0, .ref (ad g 38)), (1, .int (nI A)), (3, .int a), (4, .int (nI i))] [] := by
    intro n
    induction n with
    | zero =>
      intro i a hi ha
      obtain rfl : i = 7 := by omega
      refine ex_iload F dX8_fatFrom_5 rfl ?_
      refine ex_bipush (v := 7) F dX8_fatFrom_7 (by decide) ?_
      refine ex_icmp_ge (t := 36) F dX8_fatFrom_9 (by decide) (fun _ => ?_) (fun c => absurd (by decide) c)
      refine ex_iload_n F dX8_fatFrom_36 rfl rfl ?_
      exact ex_iret F R dX8_fatFrom_37 rfl (⟨ha, rfl⟩)
    | succ n ih =>
      intro i a hi ha
      obtain rfl : i = 6 - n := by omega
      refine ex_iload F dX8_fatFrom_5 rfl ?_
      refine ex_bipush (v := 7) F dX8_fatFrom_7 (by decide) ?_
      refine ex_icmp_ge (t := 36) F dX8_fatFrom_9 (by decide) (fun c => absurd c (nI_ge (b := 7) (by omega) (by decide))) (fun _ => ?_)
      refine ex_iload_n F dX8_fatFrom_12 rfl rfl ?_
      refine ex_aload_n F dX8_fatFrom_13 rfl rfl ?_
      refine gf_8_23 F dX8_fatFrom_14 fl_X8_46 ?_
      refine ex_iload_n F dX8_fatFrom_17 rfl rfl ?_
      refine ex_bipush (v := 6) F dX8_fatFrom_18 (by decide) ?_
      refine ex_iadd F dX8_fatFrom_20 ?_
      refine ex_iload F dX8_fatFrom_21 rfl ?_
      refine ex_iadd F dX8_fatFrom_23 ?_
      refine ex_iald (n := 80) F dX8_fatFrom_24 (by decide) (ixA2 (k := 6) hA (by omega)) (j := A + (6 + (6 - n))) (ixB2 (k := 6) hA (by omega)) ?_
      refine ex_iload F dX8_fatFrom_25 rfl ?_
      refine ex_ishl F dX8_fatFrom_27 ?_
      refine ex_iadd F dX8_fatFrom_28 ?_
      refine ex_istore_n F dX8_fatFrom_29 rfl (by decide) ?_
      refine ex_iinc (w := _ + 1) F dX8_fatFrom_30 rfl rfl (by decide) ?_
      refine ex_goto (t := 5) F dX8_fatFrom_33 (by decide) ?_
      refine ex_weak2 (L1 := [(0, .ref (ad g 38)), (1, .int (nI A)), (3, .int (a + M 51 (A + (6 + (6 - n))) <<< (nI (6 - n) &&& 31))), (4, .int (nI (6 - n) + 1))]) ?_ ⟨rfl, rfl, rfl, rfl, trivial⟩
      rw [nI_1]
      exact ih (6 - n + 1) _ (by omega) (by rw [← ha]; show _ = sFatN _ n _; rw [cM_o (show 6 - n + 6 ≠ 5 by omega) (by omega), show 6 - n + 6 = 6 + (6 - n) by omega])
  exact ex_weak2 (key (7 - i0) i0 0 (by omega) rfl) ⟨rfl, rfl, rfl, rfl, trivial⟩
