def bitI (b : Int32) (i : Nat) : Bool := !decide ((b >>> (nI i &&& 31)) &&& 1 = 0)
def sLitN (li : Nat → Int32) (b : Int32) : Nat → Int32
  | 0 => 0
  | n + 1 => if bitI b n = true then sLitN li b n + li n else sLitN li b n
def sSumN (li ha : Nat → Int32) (b : Int32) : Nat → Int32
  | 0 => 0
  | n + 1 => if bitI b n = true then sSumN li ha b n + li n * ha n else sSumN li ha b n
def sHardOf (li ha : Nat → Int32) (b : Int32) : Int32 := if 0 < sLitN li b 8 then sSumN li ha b 8 / sLitN li b 8 else 0
def sGood (r : Nat → Int32) (h : Int32) : Bool := decide (r 7 ≤ h) && decide (h ≤ r 8)
def sAll (n : Int32) : Int32 := 1 <<< (n &&& 31) - 1
def sHasCows (n b : Int32) : Bool := decide (0 ≤ b) && decide (b ≤ sAll n)
def sHasCow (n c : Int32) : Bool := decide (0 ≤ c) && decide (c < n) && decide (c < 8)
def sHalfN (n : Nat) (c : Nat → Int32) : Nat → Int32 := fun j => if j = 0 ∨ j = 3 ∨ (6 ≤ j ∧ j < 6 + n) then c j / 2 else c j
def sFillN (n : Nat) (li ha : Int32) (w : Int32) (dr c : Nat → Int32) : Nat → Int32 := fun j => if j = 0 then li else if j = 1 then w else if j = 2 then ha else if j = 3 then 0 else if j = 4 then 0 else if j = 5 then -4 else if j < 6 + n then (if j < 10 then li * dr (j - 6) else 0) else c j
def cpC (a b : Nat → Int32) : Nat → Int32 := fun j => if j < 13 then a j else b j

set_option maxRecDepth 100000 in
theorem c_X6_litresOf {l : Launch} {g : XG} {M : Mem} {b : Int32} : Call l g YX6_litresOf [.ref (ad g 1), .int b] M (PI (fun v M' => v = sLitN (M 4) b 8 ∧ M' = M)) := by
  refine call_of (by decide +kernel) (Nat.le_of_ble_eq_true rfl) (fun x hxl F R => ?_)
  subst hxl
  refine ex_iconst (v := 0) F dX6_litresOf_0 (by decide) ?_
  refine ex_istore_n F dX6_litresOf_1 rfl (by decide) ?_
  refine ex_iconst (v := 0) F dX6_litresOf_2 (by decide) ?_
  refine ex_istore_n F dX6_litresOf_3 rfl (by decide) ?_
  have key : ∀ (m i : Nat) (a v : Int32), i + m = 8 → v = nI i → a = sLitN (M 4) b i → EX x g (xmL YX6_litresOf) M 4 [(0, .ref (ad g 1)), (1, .int b), (2, .int a), (3, .int v)] [] := by
    intro m
    induction m with
    | zero =>
      intro i a v hi hv ha
      obtain rfl : i = 8 := by omega
      subst hv
      refine ex_iload_n F dX6_litresOf_4 rfl rfl ?_
      refine ex_aload_n F dX6_litresOf_5 rfl rfl ?_
      refine gf_6_2 (by decide) (q9 := 4) rfl F dX6_litresOf_6 fl_X6_27 ?_
      refine ex_ilen (n := 8) (v := 8) F dX6_litresOf_9 (by decide) (by decide) ?_
      refine ex_icmp_ge (t := 36) F dX6_litresOf_10 (by decide) (fun _ => ?_) (fun c => absurd (by decide) c)
      refine ex_iload_n F dX6_litresOf_36 rfl rfl ?_
      exact ex_iret F R dX6_litresOf_37 rfl (⟨ha, rfl⟩)
    | succ m ih =>
      intro i a v hi hv ha
      subst hv
      refine ex_iload_n F dX6_litresOf_4 rfl rfl ?_
      refine ex_aload_n F dX6_litresOf_5 rfl rfl ?_
      refine gf_6_2 (by decide) (q9 := 4) rfl F dX6_litresOf_6 fl_X6_27 ?_
      refine ex_ilen (n := 8) (v := 8) F dX6_litresOf_9 (by decide) (by decide) ?_
      refine ex_icmp_ge (t := 36) F dX6_litresOf_10 (by decide) (fun c => absurd c (nI_ge (b := 8) (by omega) (by decide))) (fun _ => ?_)
      refine ex_iload_n F dX6_litresOf_13 rfl rfl ?_
      refine ex_iload_n F dX6_litresOf_14 rfl rfl ?_
      refine ex_ishr F dX6_litresOf_15 ?_
      refine ex_iconst (v := 1) F dX6_litresOf_16 (by decide) ?_
      refine ex_iand F dX6_litresOf_17 ?_
      refine ex_if_eq (t := 30) F dX6_litresOf_18 (by decide) (fun c18 => ?_) (fun c18 => ?_)
      · refine ex_iinc (w := _ + 1) F dX6_litresOf_30 rfl rfl (by decide) ?_
        refine ex_goto (t := 4) F dX6_litresOf_33 (by decide) ?_
        have e : ¬ bitI b i = true := by simp [bitI, c18]
        exact ex_weak2 (ih (i + 1) _ _ (by omega) (nI_1 i) (by rw [sLitN, if_neg e]; exact ha)) ⟨rfl, rfl, rfl, rfl, trivial⟩
      · refine ex_iload_n F dX6_litresOf_21 rfl rfl ?_
        refine ex_aload_n F dX6_litresOf_22 rfl rfl ?_
        refine gf_6_2 (by decide) (q9 := 4) rfl F dX6_litresOf_23 fl_X6_27 ?_
        refine ex_iload_n F dX6_litresOf_26 rfl rfl ?_
        refine ex_iald (n := 8) F dX6_litresOf_27 (by decide) (vp_in_nI (by omega) (by decide)) (j := i) (nI_clamp (by omega)) ?_
        refine ex_iadd F dX6_litresOf_28 ?_
        refine ex_istore_n F dX6_litresOf_29 rfl (by decide) ?_
        refine ex_iinc (w := _ + 1) F dX6_litresOf_30 rfl rfl (by decide) ?_
        refine ex_goto (t := 4) F dX6_litresOf_33 (by decide) ?_
        have e : bitI b i = true := by simp [bitI, c18]
        exact ex_weak2 (ih (i + 1) _ _ (by omega) (nI_1 i) (by rw [sLitN, if_pos e, ha])) ⟨rfl, rfl, rfl, rfl, trivial⟩
  exact ex_weak2 (key 8 0 _ _ (by omega) rfl rfl) ⟨rfl, rfl, rfl, rfl, trivial⟩
theorem cs_X6_hardOf_47 : CSV (xmN YX6_hardOf).cls (xmF YX6_hardOf) (xmW YX6_hardOf) 47 1 YX6_litresOf := ⟨⟨ml_X6_47, ini_X6, cd_X6_litresOf, by decide +kernel, by decide⟩, im_X6_litresOf, se_X6_litresOf⟩
set_option maxRecDepth 100000 in
theorem c_X6_hardOf {l : Launch} {g : XG} {M : Mem} {b : Int32} : Call l g YX6_hardOf [.ref (ad g 1), .int b] M (PI (fun v M' => v = sHardOf (M 4) (M 5) b ∧ M' = M)) := by
  refine call_of (by decide +kernel) (Nat.le_of_ble_eq_true rfl) (fun x hxl F R => ?_)
  subst hxl
  refine ex_iconst (v := 0) F dX6_hardOf_0 (by decide) ?_
  refine ex_istore_n F dX6_hardOf_1 rfl (by decide) ?_
  refine ex_iconst (v := 0) F dX6_hardOf_2 (by decide) ?_
  refine ex_istore_n F dX6_hardOf_3 rfl (by decide) ?_
  have key : ∀ (m i : Nat) (a v : Int32), i + m = 8 → v = nI i → a = sSumN (M 4) (M 5) b i → EX x g (xmL YX6_hardOf) M 4 [(0, .ref (ad g 1)), (1, .int b), (2, .int a), (3, .int v)] [] := by
    intro m
    induction m with
    | zero =>
      intro i a v hi hv ha
      obtain rfl : i = 8 := by omega
      subst hv
      refine ex_iload_n F dX6_hardOf_4 rfl rfl ?_
      refine ex_aload_n F dX6_hardOf_5 rfl rfl ?_
      refine gf_6_2 (by decide) (q9 := 4) rfl F dX6_hardOf_6 fl_X6_27 ?_
      refine ex_ilen (n := 8) (v := 8) F dX6_hardOf_9 (by decide) (by decide) ?_
      refine ex_icmp_ge (t := 52) F dX6_hardOf_10 (by decide) (fun _ => ?_) (fun c => absurd (by decide) c)
      refine ex_aload_n F dX6_hardOf_52 rfl rfl ?_
      refine ex_iload_n F dX6_hardOf_53 rfl rfl ?_
      refine ex_callVi F (c_X6_litresOf) dX6_hardOf_54 cs_X6_hardOf_47 (ob_6 (by decide)) rfl rfl rfl rfl (Nat.le_of_ble_eq_true rfl) (fun v54 M54 h54 => ?_)
      obtain ⟨rfl, q54⟩ := h54
      rw [q54]
      clear q54
      refine ex_istore_n F dX6_hardOf_57 rfl (by decide) ?_
      refine ex_iload_n F dX6_hardOf_58 rfl rfl ?_
      refine ex_if_le (t := 68) F dX6_hardOf_59 (by decide) (fun c59 => ?_) (fun c59 => ?_)
      · refine ex_iconst (v := 0) F dX6_hardOf_68 (by decide) ?_
        exact ex_iret F R dX6_hardOf_69 rfl (⟨by first | (rw [sHardOf, if_pos (Int32.not_le.mp c59), ha]) | (rw [sHardOf, if_neg (Int32.not_lt.mpr c59)]), rfl⟩)
      · refine ex_iload_n F dX6_hardOf_62 rfl rfl ?_
        refine ex_iload_n F dX6_hardOf_63 rfl rfl ?_
        refine ex_idiv F dX6_hardOf_64 (fun h => c59 (by rw [h]; decide)) ?_
        refine ex_goto (t := 69) F dX6_hardOf_65 (by decide) ?_
        exact ex_iret F R dX6_hardOf_69 rfl (⟨by first | (rw [sHardOf, if_pos (Int32.not_le.mp c59), ha]) | (rw [sHardOf, if_neg (Int32.not_lt.mpr c59)]), rfl⟩)
    | succ m ih =>
      intro i a v hi hv ha
      subst hv
      refine ex_iload_n F dX6_hardOf_4 rfl rfl ?_
      refine ex_aload_n F dX6_hardOf_5 rfl rfl ?_
      refine gf_6_2 (by decide) (q9 := 4) rfl F dX6_hardOf_6 fl_X6_27 ?_
      refine ex_ilen (n := 8) (v := 8) F dX6_hardOf_9 (by decide) (by decide) ?_
      refine ex_icmp_ge (t := 52) F dX6_hardOf_10 (by decide) (fun c => absurd c (nI_ge (b := 8) (by omega) (by decide))) (fun _ => ?_)
      refine ex_iload_n F dX6_hardOf_13 rfl rfl ?_
      refine ex_aload_n F dX6_hardOf_14 rfl rfl ?_
      refine gf_6_3 (by decide) (q9 := 5) rfl F dX6_hardOf_15 fl_X6_30 ?_
      refine ex_ilen (n := 8) (v := 8) F dX6_hardOf_18 (by decide) (by decide) ?_
      refine ex_icmp_ge (t := 52) F dX6_hardOf_19 (by decide) (fun c => absurd c (nI_ge (b := 8) (by omega) (by decide))) (fun _ => ?_)
      refine ex_iload_n F dX6_hardOf_22 rfl rfl ?_
      refine ex_iload_n F dX6_hardOf_23 rfl rfl ?_
      refine ex_ishr F dX6_hardOf_24 ?_
      refine ex_iconst (v := 1) F dX6_hardOf_25 (by decide) ?_
      refine ex_iand F dX6_hardOf_26 ?_
      refine ex_if_eq (t := 46) F dX6_hardOf_27 (by decide) (fun c27 => ?_) (fun c27 => ?_)
      · refine ex_iinc (w := _ + 1) F dX6_hardOf_46 rfl rfl (by decide) ?_
        refine ex_goto (t := 4) F dX6_hardOf_49 (by decide) ?_
        have e : ¬ bitI b i = true := by simp [bitI, c27]
        exact ex_weak2 (ih (i + 1) _ _ (by omega) (nI_1 i) (by rw [sSumN, if_neg e]; exact ha)) ⟨rfl, rfl, rfl, rfl, trivial⟩
      · refine ex_iload_n F dX6_hardOf_30 rfl rfl ?_
        refine ex_aload_n F dX6_hardOf_31 rfl rfl ?_
        refine gf_6_2 (by decide) (q9 := 4) rfl F dX6_hardOf_32 fl_X6_27 ?_
        refine ex_iload_n F dX6_hardOf_35 rfl rfl ?_
        refine ex_iald (n := 8) F dX6_hardOf_36 (by decide) (vp_in_nI (by omega) (by decide)) (j := i) (nI_clamp (by omega)) ?_
        refine ex_aload_n F dX6_hardOf_37 rfl rfl ?_
        refine gf_6_3 (by decide) (q9 := 5) rfl F dX6_hardOf_38 fl_X6_30 ?_
        refine ex_iload_n F dX6_hardOf_41 rfl rfl ?_
        refine ex_iald (n := 8) F dX6_hardOf_42 (by decide) (vp_in_nI (by omega) (by decide)) (j := i) (nI_clamp (by omega)) ?_
        refine ex_imul F dX6_hardOf_43 ?_
        refine ex_iadd F dX6_hardOf_44 ?_
        refine ex_istore_n F dX6_hardOf_45 rfl (by decide) ?_
        refine ex_iinc (w := _ + 1) F dX6_hardOf_46 rfl rfl (by decide) ?_
        refine ex_goto (t := 4) F dX6_hardOf_49 (by decide) ?_
        have e : bitI b i = true := by simp [bitI, c27]
        exact ex_weak2 (ih (i + 1) _ _ (by omega) (nI_1 i) (by rw [sSumN, if_pos e, ha])) ⟨rfl, rfl, rfl, rfl, trivial⟩
  exact ex_weak2 (key 8 0 _ _ (by omega) rfl rfl) ⟨rfl, rfl, rfl, rfl, trivial⟩
set_option maxRecDepth 100000 in
theorem c_X6_isGood {l : Launch} {g : XG} {M : Mem} {h : Int32} : Call l g YX6_isGood [.ref (ad g 1), .int h] M (PI (fun v M' => v = b2i (sGood (M 2) h) ∧ M' = M)) := by
  refine call_of (by decide +kernel) (Nat.le_of_ble_eq_true rfl) (fun x hxl F R => ?_)
  subst hxl
  refine ex_iload_n F dX6_isGood_0 rfl rfl ?_
  refine ex_aload_n F dX6_isGood_1 rfl rfl ?_
  refine gf_6_0 (by decide) (q9 := 2) rfl F dX6_isGood_2 fl_X6_18 ?_
  refine ex_bipush (v := 7) F dX6_isGood_5 (by decide) ?_
  refine ex_iald (n := 9) F dX6_isGood_7 (by decide) (vpd (by decide)) (j := 7) (by decide) ?_
  refine ex_icmp_lt (t := 26) F dX6_isGood_8 (by decide) (fun c8 => ?_) (fun c8 => ?_)
  · refine ex_iconst (v := 0) F dX6_isGood_26 (by decide) ?_
    exact ex_zret (ty := .boolean) F R dX6_isGood_27 rfl (rfl) (⟨by simp_all [b2i_0, b2i_1, b2i, lt_nle, -Int32.not_le, -Int32.not_lt, sGood], rfl⟩)
  · refine ex_iload_n F dX6_isGood_11 rfl rfl ?_
    refine ex_aload_n F dX6_isGood_12 rfl rfl ?_
    refine gf_6_0 (by decide) (q9 := 2) rfl F dX6_isGood_13 fl_X6_18 ?_
    refine ex_bipush (v := 8) F dX6_isGood_16 (by decide) ?_
    refine ex_iald (n := 9) F dX6_isGood_18 (by decide) (vpd (by decide)) (j := 8) (by decide) ?_
    refine ex_icmp_gt (t := 26) F dX6_isGood_19 (by decide) (fun c19 => ?_) (fun c19 => ?_)
    · refine ex_iconst (v := 0) F dX6_isGood_26 (by decide) ?_
      exact ex_zret (ty := .boolean) F R dX6_isGood_27 rfl (rfl) (⟨by simp_all [b2i_0, b2i_1, b2i, lt_nle, -Int32.not_le, -Int32.not_lt, sGood], rfl⟩)
    · refine ex_iconst (v := 1) F dX6_isGood_22 (by decide) ?_
      refine ex_goto (t := 27) F dX6_isGood_23 (by decide) ?_
      exact ex_zret (ty := .boolean) F R dX6_isGood_27 rfl (rfl) (⟨by simp_all [b2i_0, b2i_1, b2i, lt_nle, -Int32.not_le, -Int32.not_lt, sGood], rfl⟩)
set_option maxRecDepth 100000 in
theorem c_X6_allCows {l : Launch} {g : XG} {M : Mem}  : Call l g YX6_allCows [.ref (ad g 1)] M (PI (fun v M' => v = sAll (M 1 4) ∧ M' = M)) := by
  refine call_of (by decide +kernel) (Nat.le_of_ble_eq_true rfl) (fun x hxl F R => ?_)
  subst hxl
  refine ex_iconst (v := 1) F dX6_allCows_0 (by decide) ?_
  refine ex_aload_n F dX6_allCows_1 rfl rfl ?_
  refine gf_6_4 (by decide) F dX6_allCows_2 fl_X6_39 ?_
  refine ex_ishl F dX6_allCows_5 ?_
  refine ex_iconst (v := 1) F dX6_allCows_6 (by decide) ?_
  refine ex_isub F dX6_allCows_7 ?_
  exact ex_iret F R dX6_allCows_8 rfl (⟨rfl, rfl⟩)
theorem cs_X6_hasCows_43 : CSV (xmN YX6_hasCows).cls (xmF YX6_hasCows) (xmW YX6_hasCows) 43 0 YX6_allCows := ⟨⟨ml_X6_43, ini_X6, cd_X6_allCows, by decide +kernel, by decide⟩, im_X6_allCows, se_X6_allCows⟩
set_option maxRecDepth 100000 in
theorem c_X6_hasCows {l : Launch} {g : XG} {M : Mem} {b : Int32} : Call l g YX6_hasCows [.ref (ad g 1), .int b] M (PI (fun v M' => v = b2i (sHasCows (M 1 4) b) ∧ M' = M)) := by
  refine call_of (by decide +kernel) (Nat.le_of_ble_eq_true rfl) (fun x hxl F R => ?_)
  subst hxl
  refine ex_iload_n F dX6_hasCows_0 rfl rfl ?_
  refine ex_if_lt (t := 16) F dX6_hasCows_1 (by decide) (fun c1 => ?_) (fun c1 => ?_)
  · refine ex_iconst (v := 0) F dX6_hasCows_16 (by decide) ?_
    exact ex_zret (ty := .boolean) F R dX6_hasCows_17 rfl (rfl) (⟨by simp_all [b2i_0, b2i_1, b2i, lt_nle, -Int32.not_le, -Int32.not_lt, sHasCows], rfl⟩)
  · refine ex_iload_n F dX6_hasCows_4 rfl rfl ?_
    refine ex_aload_n F dX6_hasCows_5 rfl rfl ?_
    refine ex_callVi F (c_X6_allCows) dX6_hasCows_6 cs_X6_hasCows_43 (ob_6 (by decide)) rfl rfl rfl rfl (Nat.le_of_ble_eq_true rfl) (fun v6 M6 h6 => ?_)
    obtain ⟨rfl, q6⟩ := h6
    rw [q6]
    clear q6
    refine ex_icmp_gt (t := 16) F dX6_hasCows_9 (by decide) (fun c9 => ?_) (fun c9 => ?_)
    · refine ex_iconst (v := 0) F dX6_hasCows_16 (by decide) ?_
      exact ex_zret (ty := .boolean) F R dX6_hasCows_17 rfl (rfl) (⟨by simp_all [b2i_0, b2i_1, b2i, lt_nle, -Int32.not_le, -Int32.not_lt, sHasCows], rfl⟩)
    · refine ex_iconst (v := 1) F dX6_hasCows_12 (by decide) ?_
      refine ex_goto (t := 17) F dX6_hasCows_13 (by decide) ?_
      exact ex_zret (ty := .boolean) F R dX6_hasCows_17 rfl (rfl) (⟨by simp_all [b2i_0, b2i_1, b2i, lt_nle, -Int32.not_le, -Int32.not_lt, sHasCows], rfl⟩)
set_option maxRecDepth 100000 in
theorem c_X6_hasCow {l : Launch} {g : XG} {M : Mem} {c : Int32} : Call l g YX6_hasCow [.ref (ad g 1), .int c] M (PI (fun v M' => v = b2i (sHasCow (M 1 4) c) ∧ M' = M)) := by
  refine call_of (by decide +kernel) (Nat.le_of_ble_eq_true rfl) (fun x hxl F R => ?_)
  subst hxl
  refine ex_iload_n F dX6_hasCow_0 rfl rfl ?_
  refine ex_if_lt (t := 34) F dX6_hasCow_1 (by decide) (fun c1 => ?_) (fun c1 => ?_)
  · refine ex_iconst (v := 0) F dX6_hasCow_34 (by decide) ?_
    exact ex_zret (ty := .boolean) F R dX6_hasCow_35 rfl (rfl) (⟨by simp_all [b2i_0, b2i_1, b2i, lt_nle, -Int32.not_le, -Int32.not_lt, sHasCow], rfl⟩)
  · refine ex_iload_n F dX6_hasCow_4 rfl rfl ?_
    refine ex_aload_n F dX6_hasCow_5 rfl rfl ?_
    refine gf_6_4 (by decide) F dX6_hasCow_6 fl_X6_39 ?_
    refine ex_icmp_ge (t := 34) F dX6_hasCow_9 (by decide) (fun c9 => ?_) (fun c9 => ?_)
    · refine ex_iconst (v := 0) F dX6_hasCow_34 (by decide) ?_
      exact ex_zret (ty := .boolean) F R dX6_hasCow_35 rfl (rfl) (⟨by simp_all [b2i_0, b2i_1, b2i, lt_nle, -Int32.not_le, -Int32.not_lt, sHasCow], rfl⟩)
    · refine ex_iload_n F dX6_hasCow_12 rfl rfl ?_
      refine ex_aload_n F dX6_hasCow_13 rfl rfl ?_
      refine gf_6_2 (by decide) (q9 := 4) rfl F dX6_hasCow_14 fl_X6_27 ?_
      refine ex_ilen (n := 8) (v := 8) F dX6_hasCow_17 (by decide) (by decide) ?_
      refine ex_icmp_ge (t := 34) F dX6_hasCow_18 (by decide) (fun c18 => ?_) (fun c18 => ?_)
      · refine ex_iconst (v := 0) F dX6_hasCow_34 (by decide) ?_
        exact ex_zret (ty := .boolean) F R dX6_hasCow_35 rfl (rfl) (⟨by simp_all [b2i_0, b2i_1, b2i, lt_nle, -Int32.not_le, -Int32.not_lt, sHasCow], rfl⟩)
      · refine ex_iload_n F dX6_hasCow_21 rfl rfl ?_
        refine ex_aload_n F dX6_hasCow_22 rfl rfl ?_
        refine gf_6_3 (by decide) (q9 := 5) rfl F dX6_hasCow_23 fl_X6_30 ?_
        refine ex_ilen (n := 8) (v := 8) F dX6_hasCow_26 (by decide) (by decide) ?_
        refine ex_icmp_ge (t := 34) F dX6_hasCow_27 (by decide) (fun c27 => ?_) (fun c27 => ?_)
        · refine ex_iconst (v := 0) F dX6_hasCow_34 (by decide) ?_
          exact ex_zret (ty := .boolean) F R dX6_hasCow_35 rfl (rfl) (⟨by simp_all [b2i_0, b2i_1, b2i, lt_nle, -Int32.not_le, -Int32.not_lt, sHasCow], rfl⟩)
        · refine ex_iconst (v := 1) F dX6_hasCow_30 (by decide) ?_
          refine ex_goto (t := 35) F dX6_hasCow_31 (by decide) ?_
          exact ex_zret (ty := .boolean) F R dX6_hasCow_35 rfl (rfl) (⟨by simp_all [b2i_0, b2i_1, b2i, lt_nle, -Int32.not_le, -Int32.not_lt, sHasCow], rfl⟩)
theorem cs_X1_breakIfDue_55 : CSV (xmN YX1_breakIfDue).cls (xmF YX1_breakIfDue) (xmW YX1_breakIfDue) 55 0 YX1_hasCome := ⟨⟨ml_X1_55, ini_X1, cd_X1_hasCome, by decide +kernel, by decide⟩, im_X1_hasCome, se_X1_hasCome⟩
theorem cs_X1_breakIfDue_99 : CSV (xmN YX1_breakIfDue).cls (xmF YX1_breakIfDue) (xmW YX1_breakIfDue) 99 1 YX1_fatFrom := ⟨⟨ml_X1_99, ini_X1, cd_X1_fatFrom, by decide +kernel, by decide⟩, im_X1_fatFrom, se_X1_fatFrom⟩
set_option maxRecDepth 100000 in
theorem c_X1_breakIfDue {l : Launch} {g : XG} {M : Mem} {k : Nat} (hk : isO 1 k) (hR : okR (M 2)) : Call l g YX1_breakIfDue [.ref (ad g k), .ref (ad g 1)] M (PV (fun M' => M' = putC M k (sBreak (M 2) (cX M k)))) := by
  refine call_of (by decide +kernel) (Nat.le_of_ble_eq_true rfl) (fun x hxl F R => ?_)
  subst hxl
  obtain ⟨gr, hgr, hg3, hg6⟩ := okR_grain hR
  have hsg : sGrain (M 2) = gr := by rw [sGrain, hgr]; exact nI_clamp (by omega)
  refine ex_aload_n F dX1_breakIfDue_0 rfl rfl ?_
  refine ex_callVi F (c_X1_hasCome hk) dX1_breakIfDue_1 cs_X1_breakIfDue_55 (ob_1 hk) rfl rfl rfl rfl (Nat.le_of_ble_eq_true rfl) (fun v1 M1 h1 => ?_)
  obtain ⟨rfl, q1⟩ := h1
  rw [q1]
  clear q1
  refine ex_if_eq (t := 8) F dX1_breakIfDue_4 (by decide) (fun c4 => ?_) (fun c4 => ?_)
  · refine ex_aload_n F dX1_breakIfDue_8 rfl rfl ?_
    refine ex_iconst (v := 0) F dX1_breakIfDue_9 (by decide) ?_
    refine ex_callVi F (c_X1_fatFrom hk (i0 := 0) rfl (by decide)) dX1_breakIfDue_10 cs_X1_breakIfDue_99 (ob_1 hk) rfl rfl rfl rfl (Nat.le_of_ble_eq_true rfl) (fun v10 M10 h10 => ?_)
    obtain ⟨rfl, q10⟩ := h10
    rw [q10]
    clear q10
    refine ex_istore_n F dX1_breakIfDue_13 rfl (by decide) ?_
    refine ex_iload_n F dX1_breakIfDue_14 rfl rfl ?_
    refine ex_if_le (t := 47) F dX1_breakIfDue_15 (by decide) (fun c15 => ?_) (fun c15 => ?_)
    · exact ex_vret F R dX1_breakIfDue_47 rfl (by first | (rw [sBreak, if_neg (by rw [b2i_0.mp c4]; decide), if_neg (by simp only [sDue, hsg, Bool.and_eq_true, decide_eq_true_eq]; exact fun q => absurd q.1 (Int32.not_lt.mpr c15)), putC_cX]) | (rw [sBreak, if_neg (by rw [b2i_0.mp c4]; decide), if_neg (by simp only [sDue, hsg, Bool.and_eq_true, decide_eq_true_eq]; exact fun q => absurd q.2 (Int32.not_le.mpr c31)), putC_cX]) | (rw [sBreak, if_neg (by rw [b2i_0.mp c4]; decide), if_pos (by simp only [sDue, hsg, Bool.and_eq_true, decide_eq_true_eq]; exact ⟨Int32.not_le.mp c15, Int32.not_lt.mp c31⟩)]; simp [mu_c1, mu_c2, mu_c3, mu_c4, mu_c5, mu_c6, mu_cd, putC_putC, cX_putC, putC_cX, rd_1, rd_2, rd_3, rd_4, rd_5, rd_6, rd_d]; rfl))
    · refine ex_iconst (v := 2) F dX1_breakIfDue_18 (by decide) ?_
      refine ex_aload_n F dX1_breakIfDue_19 rfl rfl ?_
      refine ex_aload_n F dX1_breakIfDue_20 rfl rfl ?_
      refine gf_6_0 (by decide) (q9 := 2) rfl F dX1_breakIfDue_21 fl_X1_52 ?_
      refine ex_iconst (v := 5) F dX1_breakIfDue_24 (by decide) ?_
      refine ex_iald (n := 9) F dX1_breakIfDue_25 (by decide) (vpd (by decide)) (j := 5) (by decide) ?_
      refine ex_callVi F (c_X1_fatFrom hk hgr (by omega)) dX1_breakIfDue_26 cs_X1_breakIfDue_99 (ob_1 hk) rfl rfl rfl rfl (Nat.le_of_ble_eq_true rfl) (fun v26 M26 h26 => ?_)
      obtain ⟨rfl, q26⟩ := h26
      rw [q26]
      clear q26
      refine ex_imul F dX1_breakIfDue_29 ?_
      refine ex_iload_n F dX1_breakIfDue_30 rfl rfl ?_
      refine ex_icmp_lt (t := 47) F dX1_breakIfDue_31 (by decide) (fun c31 => ?_) (fun c31 => ?_)
      · exact ex_vret F R dX1_breakIfDue_47 rfl (by first | (rw [sBreak, if_neg (by rw [b2i_0.mp c4]; decide), if_neg (by simp only [sDue, hsg, Bool.and_eq_true, decide_eq_true_eq]; exact fun q => absurd q.1 (Int32.not_lt.mpr c15)), putC_cX]) | (rw [sBreak, if_neg (by rw [b2i_0.mp c4]; decide), if_neg (by simp only [sDue, hsg, Bool.and_eq_true, decide_eq_true_eq]; exact fun q => absurd q.2 (Int32.not_le.mpr c31)), putC_cX]) | (rw [sBreak, if_neg (by rw [b2i_0.mp c4]; decide), if_pos (by simp only [sDue, hsg, Bool.and_eq_true, decide_eq_true_eq]; exact ⟨Int32.not_le.mp c15, Int32.not_lt.mp c31⟩)]; simp [mu_c1, mu_c2, mu_c3, mu_c4, mu_c5, mu_c6, mu_cd, putC_putC, cX_putC, putC_cX, rd_1, rd_2, rd_3, rd_4, rd_5, rd_6, rd_d]; rfl))
      · refine ex_aload_n F dX1_breakIfDue_34 rfl rfl ?_
        refine ex_aload_n F dX1_breakIfDue_35 rfl rfl ?_
        refine gf_1_5 hk F dX1_breakIfDue_36 fl_X1_40 ?_
        refine pf_1_6 hk F dX1_breakIfDue_39 fl_X1_15 ?_
        refine ex_aload_n F dX1_breakIfDue_42 rfl rfl ?_
        refine ex_iconst (v := 0) F dX1_breakIfDue_43 (by decide) ?_
        refine pf_1_4 hk F dX1_breakIfDue_44 fl_X1_37 ?_
        exact ex_vret F R dX1_breakIfDue_47 rfl (by first | (rw [sBreak, if_neg (by rw [b2i_0.mp c4]; decide), if_neg (by simp only [sDue, hsg, Bool.and_eq_true, decide_eq_true_eq]; exact fun q => absurd q.1 (Int32.not_lt.mpr c15)), putC_cX]) | (rw [sBreak, if_neg (by rw [b2i_0.mp c4]; decide), if_neg (by simp only [sDue, hsg, Bool.and_eq_true, decide_eq_true_eq]; exact fun q => absurd q.2 (Int32.not_le.mpr c31)), putC_cX]) | (rw [sBreak, if_neg (by rw [b2i_0.mp c4]; decide), if_pos (by simp only [sDue, hsg, Bool.and_eq_true, decide_eq_true_eq]; exact ⟨Int32.not_le.mp c15, Int32.not_lt.mp c31⟩)]; simp [mu_c1, mu_c2, mu_c3, mu_c4, mu_c5, mu_c6, mu_cd, putC_putC, cX_putC, putC_cX, rd_1, rd_2, rd_3, rd_4, rd_5, rd_6, rd_d]; rfl))
  · exact ex_vret F R dX1_breakIfDue_7 rfl (by rw [sBreak, if_pos (b2i_1.mp c4), putC_cX])
theorem cs_X1_turnOnce_75 : CSV (xmN YX1_turnOnce).cls (xmF YX1_turnOnce) (xmW YX1_turnOnce) 75 1 YX1_isSwollen := ⟨⟨ml_X1_75, ini_X1, cd_X1_isSwollen, by decide +kernel, by decide⟩, im_X1_isSwollen, se_X1_isSwollen⟩
theorem cs_X1_turnOnce_79 : CSV (xmN YX1_turnOnce).cls (xmF YX1_turnOnce) (xmW YX1_turnOnce) 79 2 YX1_beatIn := ⟨⟨ml_X1_79, ini_X1, cd_X1_beatIn, by decide +kernel, by decide⟩, im_X1_beatIn, se_X1_beatIn⟩
theorem cs_X1_turnOnce_83 : CSV (xmN YX1_turnOnce).cls (xmF YX1_turnOnce) (xmW YX1_turnOnce) 83 2 YX1_rate := ⟨⟨ml_X1_83, ini_X1, cd_X1_rate, by decide +kernel, by decide⟩, im_X1_rate, se_X1_rate⟩
theorem cs_X1_turnOnce_87 : CSV (xmN YX1_turnOnce).cls (xmF YX1_turnOnce) (xmW YX1_turnOnce) 87 1 YX1_joinDrops := ⟨⟨ml_X1_87, ini_X1, cd_X1_joinDrops, by decide +kernel, by decide⟩, im_X1_joinDrops, se_X1_joinDrops⟩
theorem cs_X1_turnOnce_91 : CSV (xmN YX1_turnOnce).cls (xmF YX1_turnOnce) (xmW YX1_turnOnce) 91 1 YX1_breakIfDue := ⟨⟨ml_X1_91, ini_X1, cd_X1_breakIfDue, by decide +kernel, by decide⟩, im_X1_breakIfDue, se_X1_breakIfDue⟩
set_option maxRecDepth 100000 in
theorem c_X1_turnOnce {l : Launch} {g : XG} {M : Mem} {k : Nat} (hk : isO 1 k) (hR : okR (M 2)) {p : Int32} : Call l g YX1_turnOnce [.ref (ad g k), .ref (ad g 1), .int p] M (PI (fun v M' => v = b2i (!sSwell (M 2) (cX M k)) ∧ M' = putC M k (sTurn (M 2) p (cX M k)))) := by
  refine call_of (by decide +kernel) (Nat.le_of_ble_eq_true rfl) (fun x hxl F R => ?_)
  subst hxl
  obtain ⟨hf, hh, hh1, hh2⟩ : ∃ n, M 2 6 = nI n ∧ 1 ≤ n ∧ n ≤ 99 := by
    obtain ⟨f, h1, h2⟩ := hR
    exact ⟨f 6, h1 6 (by decide), h2.2.2.2.2.2.2.1.1, h2.2.2.2.2.2.2.1.2⟩
  have tail : ∀ v : Int32, v = b2i (!sSwell (M 2) (cX M k)) → EX x g (xmL YX1_turnOnce) (putC M k (sTurn1 (M 2) p (cX M k))) 39 [(0, .ref (ad g k)), (1, .ref (ad g 1)), (2, .int p), (3, .int v)] [] := by
    intro v hv
    generalize hc : sTurn1 (M 2) p (cX M k) = c
    refine ex_aload_n F dX1_turnOnce_39 rfl rfl ?_
    refine ex_dup F dX1_turnOnce_40 rfl ?_
    refine gf_1_5 hk F dX1_turnOnce_41 fl_X1_40 ?_
    refine ex_iconst (v := 1) F dX1_turnOnce_44 (by decide) ?_
    refine ex_iadd F dX1_turnOnce_45 ?_
    refine pf_1_5 hk F dX1_turnOnce_46 fl_X1_40 ?_
    refine ex_M (M1 := putC M k (upd c 4 (c 4 + 1))) (by simp [mu_c1, mu_c2, mu_c3, mu_c4, mu_c5, mu_c6, mu_cd, putC_putC, cX_putC, putC_cX, rd_1, rd_2, rd_3, rd_4, rd_5, rd_6, rd_d]) ?_
    refine ex_aload_n F dX1_turnOnce_49 rfl rfl ?_
    refine gf_6_0 (by decide) (q9 := 2) rfl F dX1_turnOnce_50 fl_X1_52 ?_
    refine ex_bipush (v := 6) F dX1_turnOnce_53 (by decide) ?_
    refine ex_iald (n := 9) F dX1_turnOnce_55 (by decide) (vpd (by decide)) (j := 6) (by decide) ?_
    rw [rd_lo hk 2 (by decide)]
    refine ex_istore F dX1_turnOnce_56 (by decide) ?_
    refine ex_iload F dX1_turnOnce_58 rfl ?_
    refine ex_if_le (t := 89) F dX1_turnOnce_60 (by decide) (fun c => absurd c (by rw [hh]; exact nI_nle (by omega) (by omega))) (fun _ => ?_)
    refine ex_aload_n F dX1_turnOnce_63 rfl rfl ?_
    refine gf_1_5 hk F dX1_turnOnce_64 fl_X1_40 ?_
    rw [rd_5]
    rw [show upd c 4 (c 4 + 1) 4 = c 4 + 1 from rfl]
    refine ex_iload F dX1_turnOnce_67 rfl ?_
    refine ex_irem F dX1_turnOnce_69 (by rw [hh]; exact nI_ne0 (by omega) (by omega)) ?_
    refine ex_if_ne (t := 89) F dX1_turnOnce_70 (by decide) (fun c70 => ?_) (fun c70 => ?_)
    · refine ex_iload_n F dX1_turnOnce_89 rfl rfl ?_
      exact ex_zret (ty := .boolean) F R dX1_turnOnce_90 rfl (by rw [hv]; exact narrow_b2i _) (⟨hv, by rw [sTurn, hc]; simp_all [sTick, mu_c1, mu_c2, mu_c3, mu_c4, mu_c5, mu_c6, mu_cd, putC_putC, cX_putC, putC_cX, rd_1, rd_2, rd_3, rd_4, rd_5, rd_6, rd_d, upd]⟩)
    · refine ex_aload_n F dX1_turnOnce_73 rfl rfl ?_
      refine ex_sipush (v := 400) F dX1_turnOnce_74 (by decide) ?_
      refine ex_aload_n F dX1_turnOnce_77 rfl rfl ?_
      refine gf_1_2 hk F dX1_turnOnce_78 fl_X1_34 ?_
      refine ex_iload_n F dX1_turnOnce_81 rfl rfl ?_
      refine ex_iadd F dX1_turnOnce_82 ?_
      refine ex_mmin F dX1_turnOnce_83 ml_X1_69 st_min ini_math cd_min (by decide) (Nat.le_of_ble_eq_true rfl) ?_
      refine pf_1_2 hk F dX1_turnOnce_86 fl_X1_34 ?_
      refine ex_iload_n F dX1_turnOnce_89 rfl rfl ?_
      exact ex_zret (ty := .boolean) F R dX1_turnOnce_90 rfl (by rw [hv]; exact narrow_b2i _) (⟨hv, by rw [sTurn, hc]; simp_all [sTick, mu_c1, mu_c2, mu_c3, mu_c4, mu_c5, mu_c6, mu_cd, putC_putC, cX_putC, putC_cX, rd_1, rd_2, rd_3, rd_4, rd_5, rd_6, rd_d, upd]⟩)
  refine ex_aload_n F dX1_turnOnce_0 rfl rfl ?_
  refine ex_aload_n F dX1_turnOnce_1 rfl rfl ?_
  refine ex_callVi F (c_X1_isSwollen hk) dX1_turnOnce_2 cs_X1_turnOnce_75 (ob_1 hk) rfl rfl rfl rfl (Nat.le_of_ble_eq_true rfl) (fun v2 M2 h2 => ?_)
  obtain ⟨rfl, q2⟩ := h2
  rw [q2]
  clear q2
  refine ex_if_ne (t := 12) F dX1_turnOnce_5 (by decide) (fun c5 => ?_) (fun c5 => ?_)
  · refine ex_iconst (v := 0) F dX1_turnOnce_12 (by decide) ?_
    refine ex_istore_n F dX1_turnOnce_13 rfl (by decide) ?_
    refine ex_iload_n F dX1_turnOnce_14 rfl rfl ?_
    refine ex_if_eq (t := 39) F dX1_turnOnce_15 (by decide) (fun _ => ?_) (fun c => absurd (by decide) c)
    refine ex_M (M1 := putC M k (sTurn1 (M 2) p (cX M k))) ?_ (ex_weak2 (tail _ ?_) ⟨rfl, rfl, rfl, rfl, trivial⟩)
    · rw [sTurn1, if_pos (b2i_1.mp c5)]
      exact (putC_cX M k).symm
    · rw [b2i_1.mp c5]
      rfl
  · refine ex_iconst (v := 1) F dX1_turnOnce_8 (by decide) ?_
    refine ex_goto (t := 13) F dX1_turnOnce_9 (by decide) ?_
    refine ex_istore_n F dX1_turnOnce_13 rfl (by decide) ?_
    refine ex_iload_n F dX1_turnOnce_14 rfl rfl ?_
    refine ex_if_eq (t := 39) F dX1_turnOnce_15 (by decide) (fun c => absurd c (by decide)) (fun _ => ?_)
    refine ex_aload_n F dX1_turnOnce_18 rfl rfl ?_
    refine ex_aload_n F dX1_turnOnce_19 rfl rfl ?_
    refine ex_iload_n F dX1_turnOnce_20 rfl rfl ?_
    refine ex_callVv F (c_X1_beatIn hk) dX1_turnOnce_21 cs_X1_turnOnce_79 (ob_1 hk) rfl rfl rfl rfl (Nat.le_of_ble_eq_true rfl) (fun M21 h21 => ?_)
    rw [h21]
    refine ex_aload_n F dX1_turnOnce_24 rfl rfl ?_
    refine ex_aload_n F dX1_turnOnce_25 rfl rfl ?_
    refine ex_aload_n F dX1_turnOnce_26 rfl rfl ?_
    refine ex_iload_n F dX1_turnOnce_27 rfl rfl ?_
    refine ex_callVi F (c_X1_rate hk) dX1_turnOnce_28 cs_X1_turnOnce_83 (ob_1 hk) rfl rfl rfl rfl (Nat.le_of_ble_eq_true rfl) (fun v28 M28 h28 => ?_)
    obtain ⟨hr28, q28⟩ := h28
    rw [q28]
    clear q28
    rw [rd_lo hk 2 (by decide), cX_putC] at hr28
    refine ex_callVv F (c_X1_joinDrops hk) dX1_turnOnce_31 cs_X1_turnOnce_87 (ob_1 hk) rfl rfl rfl rfl (Nat.le_of_ble_eq_true rfl) (fun M31 h31 => ?_)
    rw [putC_putC, cX_putC] at h31
    obtain rfl := h31
    refine ex_aload_n F dX1_turnOnce_34 rfl rfl ?_
    refine ex_aload_n F dX1_turnOnce_35 rfl rfl ?_
    refine ex_callVv F (c_X1_breakIfDue hk (by rw [rd_lo hk 2 (by decide)]; exact hR)) dX1_turnOnce_36 cs_X1_turnOnce_91 (ob_1 hk) rfl rfl rfl rfl (Nat.le_of_ble_eq_true rfl) (fun M36 h36 => ?_)
    rw [putC_putC, cX_putC, rd_lo hk 2 (by decide)] at h36
    obtain rfl := h36
    refine ex_M (M1 := putC M k (sTurn1 (M 2) p (cX M k))) ?_ (ex_weak2 (tail _ ?_) ⟨rfl, rfl, rfl, rfl, trivial⟩)
    · have e : ¬ sSwell (M 2) (cX M k) = true := by rw [b2i_0.mp c5]; decide
      rw [sTurn1, if_neg e, hr28]
    · rw [b2i_0.mp c5]
      rfl
