set_option maxRecDepth 100000 in
theorem c_X8_power {l : Launch} {g : XG} {M : Mem} {z : Int64} {n0 : Int32} {n : Nat} (hn : n0 = nI n) (hn2 : n < 2 ^ 31) : Call l g YX8_power [.long z, .int n0] M (PL (fun v M' => v = sPow z n ∧ M' = M)) := by
  refine call_of (by decide +kernel) (Nat.le_of_ble_eq_true rfl) (fun x hxl F R => ?_)
  subst hxl
  refine ex_lconst (v := 1) F dX8_power_0 (by decide) ?_
  refine ex_lstore_n F dX8_power_1 rfl (by decide) ?_
  refine ex_iconst (v := 0) F dX8_power_2 (by decide) ?_
  refine ex_istore F dX8_power_3 (by decide) ?_
  have key : ∀ (m i : Nat) (v : Int32) (q : Int64), i + m = n → v = nI i → q = sPow z i → EX x g (xmL YX8_power) M 5 [(0, .long z), (2, .int n0), (3, .long q), (5, .int v)] [] := by
    intro m
    induction m with
    | zero =>
      intro i v q hi hv hq
      obtain rfl : i = n := by omega
      subst hv
      refine ex_iload F dX8_power_5 rfl ?_
      refine ex_iload_n F dX8_power_7 rfl rfl ?_
      refine ex_icmp_ge (t := 21) F dX8_power_8 (by decide) (fun _ => ?_) (fun c => absurd (by rw [hn]; exact Int32.le_refl _) c)
      refine ex_lload_n F dX8_power_21 rfl rfl ?_
      exact ex_lret F R dX8_power_22 rfl (⟨hq, rfl⟩)
    | succ m ih =>
      intro i v q hi hv hq
      subst hv
      refine ex_iload F dX8_power_5 rfl ?_
      refine ex_iload_n F dX8_power_7 rfl rfl ?_
      refine ex_icmp_ge (t := 21) F dX8_power_8 (by decide) (fun c => absurd c (by rw [hn]; exact nI_ge (by omega) (by omega))) (fun _ => ?_)
      refine ex_lload_n F dX8_power_11 rfl rfl ?_
      refine ex_lload_n F dX8_power_12 rfl rfl ?_
      refine ex_lmul F dX8_power_13 ?_
      refine ex_lstore_n F dX8_power_14 rfl (by decide) ?_
      refine ex_iinc (w := _ + 1) F dX8_power_15 rfl rfl (by decide) ?_
      refine ex_goto (t := 5) F dX8_power_18 (by decide) ?_
      exact ex_weak2 (ih (i + 1) _ _ (by omega) (nI_1 i) (by rw [sPow, hq])) ⟨rfl, rfl, rfl, rfl, trivial⟩
  exact ex_weak2 (key n 0 _ _ (by omega) rfl rfl) ⟨rfl, rfl, rfl, rfl, trivial⟩
set_option maxRecDepth 100000 in
theorem c_X8_lowest {l : Launch} {g : XG} {M : Mem} {X Y : Nat} {wh : Int32} (lX : X < 2 ^ 63) (hY : 0 < Y) (lY : Y < 2 ^ 63) : Call l g YX8_lowest [.long (lN X), .long (lN Y), .int wh] M (PL (fun v M' => v = sLow X Y wh ∧ M' = M)) := by
  refine call_of (by decide +kernel) (Nat.le_of_ble_eq_true rfl) (fun x hxl F R => ?_)
  subst hxl
  refine ex_lload_n F dX8_lowest_0 rfl rfl ?_
  refine ex_lstore F dX8_lowest_1 (by decide) ?_
  refine ex_lload_n F dX8_lowest_3 rfl rfl ?_
  refine ex_lstore F dX8_lowest_4 (by decide) ?_
  have zero : ∀ (A : Nat), A = Nat.gcd X Y → EX x g (xmL YX8_lowest) M 6 [(0, .long (lN X)), (2, .long (lN Y)), (4, .int wh), (5, .long (lN A)), (7, .long (lN 0))] [] := by
    intro A hA
    have hA0 : 0 < A := by rw [hA]; exact Nat.gcd_pos_of_pos_right X hY
    have hAle : A ≤ Y := by rw [hA]; exact Nat.gcd_le_right X hY
    refine ex_lload F dX8_lowest_6 rfl ?_
    refine ex_lconst (v := 0) F dX8_lowest_8 (by decide) ?_
    refine ex_lcmp F dX8_lowest_9 ?_
    refine ex_if_eq (t := 31) F dX8_lowest_10 (by decide) (fun _ => ?_) (fun c => absurd (cmp_eq.mpr rfl) c)
    refine ex_iload F dX8_lowest_31 rfl ?_
    refine ex_if_ne (t := 40) F dX8_lowest_33 (by decide) (fun c33 => ?_) (fun c33 => ?_)
    · refine ex_lload_n F dX8_lowest_40 rfl rfl ?_
      refine ex_lload F dX8_lowest_41 rfl ?_
      refine ex_ldiv F dX8_lowest_43 (fun q => absurd ((pk_lEQ (b := 0) (by omega) (by decide)).mp q) (by omega)) ?_
      exact ex_lret F R dX8_lowest_44 rfl (⟨by rw [sLow, ← hA, if_neg c33, pk_lDiv (by omega) hA0 (by omega)], rfl⟩)
    · refine ex_lload_n F dX8_lowest_36 rfl rfl ?_
      refine ex_goto (t := 41) F dX8_lowest_37 (by decide) ?_
      refine ex_lload F dX8_lowest_41 rfl ?_
      refine ex_ldiv F dX8_lowest_43 (fun q => absurd ((pk_lEQ (b := 0) (by omega) (by decide)).mp q) (by omega)) ?_
      exact ex_lret F R dX8_lowest_44 rfl (⟨by rw [sLow, ← hA, if_pos c33, pk_lDiv (by omega) hA0 (by omega)], rfl⟩)
  have one : ∀ (A B : Nat), A < 2 ^ 63 → B < 2 ^ 63 → 0 < B → EX x g (xmL YX8_lowest) M 6 [(0, .long (lN X)), (2, .long (lN Y)), (4, .int wh), (5, .long (lN B)), (7, .long (lN (A % B)))] [] → EX x g (xmL YX8_lowest) M 6 [(0, .long (lN X)), (2, .long (lN Y)), (4, .int wh), (5, .long (lN A)), (7, .long (lN B))] [] := by
    intro A B lA lB hB K
    have hB0 : ¬ lN B = 0 := fun q => absurd ((pk_lEQ (b := 0) lB (by decide)).mp q) (by omega)
    refine ex_lload F dX8_lowest_6 rfl ?_
    refine ex_lconst (v := 0) F dX8_lowest_8 (by decide) ?_
    refine ex_lcmp F dX8_lowest_9 ?_
    refine ex_if_eq (t := 31) F dX8_lowest_10 (by decide) (fun c => absurd c (fun q => hB0 (cmp_eq.mp q))) (fun _ => ?_)
    refine ex_lload F dX8_lowest_13 rfl ?_
    refine ex_lload F dX8_lowest_15 rfl ?_
    refine ex_lrem F dX8_lowest_17 hB0 ?_
    refine ex_lstore F dX8_lowest_18 (by decide) ?_
    refine ex_lload F dX8_lowest_20 rfl ?_
    refine ex_lstore F dX8_lowest_22 (by decide) ?_
    refine ex_lload F dX8_lowest_24 rfl ?_
    refine ex_lstore F dX8_lowest_26 (by decide) ?_
    refine ex_goto (t := 6) F dX8_lowest_28 (by decide) ?_
    rw [pk_lRem lA hB lB]
    exact ex_weak2 K ⟨rfl, rfl, rfl, rfl, rfl, trivial⟩
  have key : ∀ (n A B : Nat), B < n → A < 2 ^ 63 → B < 2 ^ 63 → Nat.gcd A B = Nat.gcd X Y → EX x g (xmL YX8_lowest) M 6 [(0, .long (lN X)), (2, .long (lN Y)), (4, .int wh), (5, .long (lN A)), (7, .long (lN B))] [] := by
    intro n
    induction n with
    | zero => intro A B hB; exact absurd hB (Nat.not_lt_zero B)
    | succ n ih =>
      intro A B hB lA lB hg
      by_cases hB0 : B = 0
      · subst hB0
        exact zero A (by rw [← hg, Nat.gcd_zero_right])
      · have hB1 : 0 < B := Nat.pos_of_ne_zero hB0
        have hAB := Nat.mod_lt A hB1
        exact one A B lA lB hB1 (ih B (A % B) (by omega) lB (by omega) (by rw [← hg, Nat.gcd_comm A B, Nat.gcd_rec B A, Nat.gcd_comm]))
  exact ex_weak2 (key (Y + 1) X Y (by omega) (by omega) (by omega) rfl) ⟨rfl, rfl, rfl, rfl, rfl, trivial⟩
set_option maxRecDepth 100000 in
theorem c_X8_above {l : Launch} {g : XG} {M : Mem} {r a b c : Int32} : Call l g YX8_above [.int r, .int a, .int b, .int c] M (PI (fun v M' => v = sAbove r a b c ∧ M' = M)) := by
  refine call_of (by decide +kernel) (Nat.le_of_ble_eq_true rfl) (fun x hxl F R => ?_)
  subst hxl
  refine ex_iload_n F dX8_above_0 rfl rfl ?_
  refine ex_iconst (v := 1) F dX8_above_1 (by decide) ?_
  refine ex_iadd F dX8_above_2 ?_
  refine ex_bipush (v := 16) F dX8_above_3 (by decide) ?_
  refine ex_icmp_le (t := 12) F dX8_above_5 (by decide) (fun c5 => ?_) (fun c5 => ?_)
  · refine ex_iconst (v := 0) F dX8_above_12 (by decide) ?_
    refine ex_iload_n F dX8_above_13 rfl rfl ?_
    refine ex_bipush (v := 16) F dX8_above_14 (by decide) ?_
    refine ex_icmp_le (t := 23) F dX8_above_16 (by decide) (fun c16 => ?_) (fun c16 => ?_)
    · refine ex_iconst (v := 0) F dX8_above_23 (by decide) ?_
      refine ex_iadd F dX8_above_24 ?_
      refine ex_iload_n F dX8_above_25 rfl rfl ?_
      refine ex_iconst (v := 1) F dX8_above_26 (by decide) ?_
      refine ex_isub F dX8_above_27 ?_
      refine ex_bipush (v := 16) F dX8_above_28 (by decide) ?_
      refine ex_icmp_le (t := 37) F dX8_above_30 (by decide) (fun c30 => ?_) (fun c30 => ?_)
      · refine ex_iconst (v := 0) F dX8_above_37 (by decide) ?_
        refine ex_iadd F dX8_above_38 ?_
        exact ex_iret F R dX8_above_39 rfl (⟨by rw [sAbove, if_neg (Int32.not_lt.mpr c5), if_neg (Int32.not_lt.mpr c16), if_neg (Int32.not_lt.mpr c30)], rfl⟩)
      · refine ex_iload_n F dX8_above_33 rfl rfl ?_
        refine ex_goto (t := 38) F dX8_above_34 (by decide) ?_
        refine ex_iadd F dX8_above_38 ?_
        exact ex_iret F R dX8_above_39 rfl (⟨by rw [sAbove, if_neg (Int32.not_lt.mpr c5), if_neg (Int32.not_lt.mpr c16), if_pos (Int32.not_le.mp c30)], rfl⟩)
    · refine ex_iload_n F dX8_above_19 rfl rfl ?_
      refine ex_goto (t := 24) F dX8_above_20 (by decide) ?_
      refine ex_iadd F dX8_above_24 ?_
      refine ex_iload_n F dX8_above_25 rfl rfl ?_
      refine ex_iconst (v := 1) F dX8_above_26 (by decide) ?_
      refine ex_isub F dX8_above_27 ?_
      refine ex_bipush (v := 16) F dX8_above_28 (by decide) ?_
      refine ex_icmp_le (t := 37) F dX8_above_30 (by decide) (fun c30 => ?_) (fun c30 => ?_)
      · refine ex_iconst (v := 0) F dX8_above_37 (by decide) ?_
        refine ex_iadd F dX8_above_38 ?_
        exact ex_iret F R dX8_above_39 rfl (⟨by rw [sAbove, if_neg (Int32.not_lt.mpr c5), if_pos (Int32.not_le.mp c16), if_neg (Int32.not_lt.mpr c30)], rfl⟩)
      · refine ex_iload_n F dX8_above_33 rfl rfl ?_
        refine ex_goto (t := 38) F dX8_above_34 (by decide) ?_
        refine ex_iadd F dX8_above_38 ?_
        exact ex_iret F R dX8_above_39 rfl (⟨by rw [sAbove, if_neg (Int32.not_lt.mpr c5), if_pos (Int32.not_le.mp c16), if_pos (Int32.not_le.mp c30)], rfl⟩)
  · refine ex_iload_n F dX8_above_8 rfl rfl ?_
    refine ex_goto (t := 13) F dX8_above_9 (by decide) ?_
    refine ex_iload_n F dX8_above_13 rfl rfl ?_
    refine ex_bipush (v := 16) F dX8_above_14 (by decide) ?_
    refine ex_icmp_le (t := 23) F dX8_above_16 (by decide) (fun c16 => ?_) (fun c16 => ?_)
    · refine ex_iconst (v := 0) F dX8_above_23 (by decide) ?_
      refine ex_iadd F dX8_above_24 ?_
      refine ex_iload_n F dX8_above_25 rfl rfl ?_
      refine ex_iconst (v := 1) F dX8_above_26 (by decide) ?_
      refine ex_isub F dX8_above_27 ?_
      refine ex_bipush (v := 16) F dX8_above_28 (by decide) ?_
      refine ex_icmp_le (t := 37) F dX8_above_30 (by decide) (fun c30 => ?_) (fun c30 => ?_)
      · refine ex_iconst (v := 0) F dX8_above_37 (by decide) ?_
        refine ex_iadd F dX8_above_38 ?_
        exact ex_iret F R dX8_above_39 rfl (⟨by rw [sAbove, if_pos (Int32.not_le.mp c5), if_neg (Int32.not_lt.mpr c16), if_neg (Int32.not_lt.mpr c30)], rfl⟩)
      · refine ex_iload_n F dX8_above_33 rfl rfl ?_
        refine ex_goto (t := 38) F dX8_above_34 (by decide) ?_
        refine ex_iadd F dX8_above_38 ?_
        exact ex_iret F R dX8_above_39 rfl (⟨by rw [sAbove, if_pos (Int32.not_le.mp c5), if_neg (Int32.not_lt.mpr c16), if_pos (Int32.not_le.mp c30)], rfl⟩)
    · refine ex_iload_n F dX8_above_19 rfl rfl ?_
      refine ex_goto (t := 24) F dX8_above_20 (by decide) ?_
      refine ex_iadd F dX8_above_24 ?_
      refine ex_iload_n F dX8_above_25 rfl rfl ?_
      refine ex_iconst (v := 1) F dX8_above_26 (by decide) ?_
      refine ex_isub F dX8_above_27 ?_
      refine ex_bipush (v := 16) F dX8_above_28 (by decide) ?_
      refine ex_icmp_le (t := 37) F dX8_above_30 (by decide) (fun c30 => ?_) (fun c30 => ?_)
      · refine ex_iconst (v := 0) F dX8_above_37 (by decide) ?_
        refine ex_iadd F dX8_above_38 ?_
        exact ex_iret F R dX8_above_39 rfl (⟨by rw [sAbove, if_pos (Int32.not_le.mp c5), if_pos (Int32.not_le.mp c16), if_neg (Int32.not_lt.mpr c30)], rfl⟩)
      · refine ex_iload_n F dX8_above_33 rfl rfl ?_
        refine ex_goto (t := 38) F dX8_above_34 (by decide) ?_
        refine ex_iadd F dX8_above_38 ?_
        exact ex_iret F R dX8_above_39 rfl (⟨by rw [sAbove, if_pos (Int32.not_le.mp c5), if_pos (Int32.not_le.mp c16), if_pos (Int32.not_le.mp c30)], rfl⟩)
theorem cs_X8_isWash_78 : CSS (xmN YX8_isWash).cls (xmF YX8_isWash) (xmW YX8_isWash) 78 3 YX8_in := ⟨⟨ml_X8_78, ini_X8, cd_X8_in, by decide +kernel, by decide⟩, st_X8_in⟩
set_option maxRecDepth 100000 in
theorem c_X8_isWash {l : Launch} {g : XG} {M : Mem} {m w0 : Int32} : Call l g YX8_isWash [.int m, .int w0] M (PI (fun v M' => v = b2i (!badWash m w0) ∧ M' = M)) := by
  refine call_of (by decide +kernel) (Nat.le_of_ble_eq_true rfl) (fun x hxl F R => ?_)
  subst hxl
  refine ex_iload_n F dX8_isWash_0 rfl rfl ?_
  refine ex_i2l F dX8_isWash_1 ?_
  refine ex_lconst (v := 1) F dX8_isWash_2 (by decide) ?_
  refine ex_ldc2 F dX8_isWash_3 kc_X8_236 ?_
  refine ex_callSi F (c_X8_in) dX8_isWash_6 cs_X8_isWash_78 rfl rfl (Nat.le_of_ble_eq_true rfl) (fun v6 M6 h6 => ?_)
  obtain ⟨e6, q6⟩ := h6
  rw [q6]
  clear q6
  rw [in_out (lo := 1) (hi := 99) (by decide) (by decide)] at e6
  subst e6
  refine ex_if_eq (t := 28) F dX8_isWash_9 (by decide) (fun c9 => ?_) (fun c9 => ?_)
  · refine ex_iconst (v := 0) F dX8_isWash_28 (by decide) ?_
    exact ex_zret (ty := .boolean) F R dX8_isWash_29 rfl (rfl) (⟨by have z9 := b2i_0.mp c9; simp_all [badWash, b2i], rfl⟩)
  · refine ex_iload_n F dX8_isWash_12 rfl rfl ?_
    refine ex_i2l F dX8_isWash_13 ?_
    refine ex_lconst (v := 0) F dX8_isWash_14 (by decide) ?_
    refine ex_ldc2 F dX8_isWash_15 kc_X8_236 ?_
    refine ex_callSi F (c_X8_in) dX8_isWash_18 cs_X8_isWash_78 rfl rfl (Nat.le_of_ble_eq_true rfl) (fun v18 M18 h18 => ?_)
    obtain ⟨e18, q18⟩ := h18
    rw [q18]
    clear q18
    rw [in_out (lo := 0) (hi := 99) (by decide) (by decide)] at e18
    subst e18
    refine ex_if_eq (t := 28) F dX8_isWash_21 (by decide) (fun c21 => ?_) (fun c21 => ?_)
    · refine ex_iconst (v := 0) F dX8_isWash_28 (by decide) ?_
      exact ex_zret (ty := .boolean) F R dX8_isWash_29 rfl (rfl) (⟨by have z9 := b2i_1.mp c9; have z21 := b2i_0.mp c21; simp_all [badWash, b2i], rfl⟩)
    · refine ex_iconst (v := 1) F dX8_isWash_24 (by decide) ?_
      refine ex_goto (t := 29) F dX8_isWash_25 (by decide) ?_
      exact ex_zret (ty := .boolean) F R dX8_isWash_29 rfl (rfl) (⟨by have z9 := b2i_1.mp c9; have z21 := b2i_1.mp c21; simp_all [badWash, b2i], rfl⟩)
theorem rod_sum {a b c : Int32} (h1 : outB a 0 9 = false) (h2 : outB b 0 9 = false) (h3 : outB c 0 9 = false) : (a + b + c ≤ 0) ↔ a + b + c = 0 := by
  obtain ⟨x, -, lx, ex⟩ := outB_n (a := 0) (b := 9) (by decide) h1 (by decide)
  obtain ⟨y, -, ly, ey⟩ := outB_n (a := 0) (b := 9) (by decide) h2 (by decide)
  obtain ⟨z, -, lz, ez⟩ := outB_n (a := 0) (b := 9) (by decide) h3 (by decide)
  rw [ex, ey, ez, nI_add, nI_add]
  constructor
  · intro q
    rcases Nat.eq_zero_or_pos (x + y + z) with k | k
    · rw [k]; rfl
    · exact absurd q (nI_nle k (by omega))
  · intro q; rw [q]; exact Int32.le_refl _
theorem cs_X8_isRod_78 : CSS (xmN YX8_isRod).cls (xmF YX8_isRod) (xmW YX8_isRod) 78 3 YX8_in := ⟨⟨ml_X8_78, ini_X8, cd_X8_in, by decide +kernel, by decide⟩, st_X8_in⟩
set_option maxRecDepth 100000 in
theorem c_X8_isRod {l : Launch} {g : XG} {M : Mem} {a b c : Int32} : Call l g YX8_isRod [.int a, .int b, .int c] M (PI (fun v M' => v = b2i (!badRod a b c) ∧ M' = M)) := by
  refine call_of (by decide +kernel) (Nat.le_of_ble_eq_true rfl) (fun x hxl F R => ?_)
  subst hxl
  refine ex_iload_n F dX8_isRod_0 rfl rfl ?_
  refine ex_i2l F dX8_isRod_1 ?_
  refine ex_lconst (v := 0) F dX8_isRod_2 (by decide) ?_
  refine ex_ldc2 F dX8_isRod_3 kc_X8_167 ?_
  refine ex_callSi F (c_X8_in) dX8_isRod_6 cs_X8_isRod_78 rfl rfl (Nat.le_of_ble_eq_true rfl) (fun v6 M6 h6 => ?_)
  obtain ⟨e6, q6⟩ := h6
  rw [q6]
  clear q6
  rw [in_out (lo := 0) (hi := 9) (by decide) (by decide)] at e6
  subst e6
  refine ex_if_eq (t := 48) F dX8_isRod_9 (by decide) (fun c9 => ?_) (fun c9 => ?_)
  · refine ex_iconst (v := 0) F dX8_isRod_48 (by decide) ?_
    exact ex_zret (ty := .boolean) F R dX8_isRod_49 rfl (rfl) (⟨by have z9 : outB a 0 9 = true := (by simpa using b2i_0.mp c9); simp_all [badRod, b2i], rfl⟩)
  · refine ex_iload_n F dX8_isRod_12 rfl rfl ?_
    refine ex_i2l F dX8_isRod_13 ?_
    refine ex_lconst (v := 0) F dX8_isRod_14 (by decide) ?_
    refine ex_ldc2 F dX8_isRod_15 kc_X8_167 ?_
    refine ex_callSi F (c_X8_in) dX8_isRod_18 cs_X8_isRod_78 rfl rfl (Nat.le_of_ble_eq_true rfl) (fun v18 M18 h18 => ?_)
    obtain ⟨e18, q18⟩ := h18
    rw [q18]
    clear q18
    rw [in_out (lo := 0) (hi := 9) (by decide) (by decide)] at e18
    subst e18
    refine ex_if_eq (t := 48) F dX8_isRod_21 (by decide) (fun c21 => ?_) (fun c21 => ?_)
    · refine ex_iconst (v := 0) F dX8_isRod_48 (by decide) ?_
      exact ex_zret (ty := .boolean) F R dX8_isRod_49 rfl (rfl) (⟨by have z9 : outB a 0 9 = false := (by simpa using b2i_1.mp c9); have z21 : outB b 0 9 = true := (by simpa using b2i_0.mp c21); simp_all [badRod, b2i], rfl⟩)
    · refine ex_iload_n F dX8_isRod_24 rfl rfl ?_
      refine ex_i2l F dX8_isRod_25 ?_
      refine ex_lconst (v := 0) F dX8_isRod_26 (by decide) ?_
      refine ex_ldc2 F dX8_isRod_27 kc_X8_167 ?_
      refine ex_callSi F (c_X8_in) dX8_isRod_30 cs_X8_isRod_78 rfl rfl (Nat.le_of_ble_eq_true rfl) (fun v30 M30 h30 => ?_)
      obtain ⟨e30, q30⟩ := h30
      rw [q30]
      clear q30
      rw [in_out (lo := 0) (hi := 9) (by decide) (by decide)] at e30
      subst e30
      refine ex_if_eq (t := 48) F dX8_isRod_33 (by decide) (fun c33 => ?_) (fun c33 => ?_)
      · refine ex_iconst (v := 0) F dX8_isRod_48 (by decide) ?_
        exact ex_zret (ty := .boolean) F R dX8_isRod_49 rfl (rfl) (⟨by have z9 : outB a 0 9 = false := (by simpa using b2i_1.mp c9); have z21 : outB b 0 9 = false := (by simpa using b2i_1.mp c21); have z33 : outB c 0 9 = true := (by simpa using b2i_0.mp c33); simp_all [badRod, b2i], rfl⟩)
      · refine ex_iload_n F dX8_isRod_36 rfl rfl ?_
        refine ex_iload_n F dX8_isRod_37 rfl rfl ?_
        refine ex_iadd F dX8_isRod_38 ?_
        refine ex_iload_n F dX8_isRod_39 rfl rfl ?_
        refine ex_iadd F dX8_isRod_40 ?_
        refine ex_if_le (t := 48) F dX8_isRod_41 (by decide) (fun c41 => ?_) (fun c41 => ?_)
        · refine ex_iconst (v := 0) F dX8_isRod_48 (by decide) ?_
          exact ex_zret (ty := .boolean) F R dX8_isRod_49 rfl (rfl) (⟨by have z9 : outB a 0 9 = false := (by simpa using b2i_1.mp c9); have z21 : outB b 0 9 = false := (by simpa using b2i_1.mp c21); have z33 : outB c 0 9 = false := (by simpa using b2i_1.mp c33); rw [rod_sum z9 z21 z33] at c41; simp_all [badRod, b2i], rfl⟩)
        · refine ex_iconst (v := 1) F dX8_isRod_44 (by decide) ?_
          refine ex_goto (t := 49) F dX8_isRod_45 (by decide) ?_
          exact ex_zret (ty := .boolean) F R dX8_isRod_49 rfl (rfl) (⟨by have z9 : outB a 0 9 = false := (by simpa using b2i_1.mp c9); have z21 : outB b 0 9 = false := (by simpa using b2i_1.mp c21); have z33 : outB c 0 9 = false := (by simpa using b2i_1.mp c33); rw [rod_sum z9 z21 z33] at c41; simp_all [badRod, b2i], rfl⟩)
theorem cs_X8_wash_238 : CSS (xmN YX8_wash).cls (xmF YX8_wash) (xmW YX8_wash) 238 2 YX8_isWash := ⟨⟨ml_X8_238, ini_X8, cd_X8_isWash, by decide +kernel, by decide⟩, st_X8_isWash⟩
theorem cs_X8_wash_78 : CSS (xmN YX8_wash).cls (xmF YX8_wash) (xmW YX8_wash) 78 3 YX8_in := ⟨⟨ml_X8_78, ini_X8, cd_X8_in, by decide +kernel, by decide⟩, st_X8_in⟩
theorem cs_X8_wash_243 : CSS (xmN YX8_wash).cls (xmF YX8_wash) (xmW YX8_wash) 243 2 YX8_power := ⟨⟨ml_X8_243, ini_X8, cd_X8_power, by decide +kernel, by decide⟩, st_X8_power⟩
theorem cs_X8_wash_247 : CSS (xmN YX8_wash).cls (xmF YX8_wash) (xmW YX8_wash) 247 3 YX8_lowest := ⟨⟨ml_X8_247, ini_X8, cd_X8_lowest, by decide +kernel, by decide⟩, st_X8_lowest⟩
set_option maxRecDepth 100000 in
theorem c_X8_wash {l : Launch} {g : XG} {M : Mem} {m w0 k0 wh : Int32} : Call l g YX8_wash [.ref (ad g 38), .int m, .int w0, .int k0, .int wh] M (PL (fun v M' => v = (if (badWash m w0 || (outB k0 0 5 || outB wh 0 1)) = true then -1 else sLow (m.toNatClampNeg ^ (k0.toNatClampNeg + 1)) ((m.toNatClampNeg + w0.toNatClampNeg) ^ k0.toNatClampNeg) wh) ∧ M' = M)) := by
  refine call_of (by decide +kernel) (Nat.le_of_ble_eq_true rfl) (fun x hxl F R => ?_)
  subst hxl
  refine ex_iload_n F dX8_wash_0 rfl rfl ?_
  refine ex_iload_n F dX8_wash_1 rfl rfl ?_
  refine ex_callSi F (c_X8_isWash) dX8_wash_2 cs_X8_wash_238 rfl rfl (Nat.le_of_ble_eq_true rfl) (fun v2 M2 h2 => ?_)
  obtain ⟨rfl, q2⟩ := h2
  rw [q2]
  clear q2
  refine ex_if_eq (t := 55) F dX8_wash_5 (by decide) (fun c5 => ?_) (fun c5 => ?_)
  · refine ex_ldc2 F dX8_wash_55 kc_X8_251 ?_
    exact ex_lret F R dX8_wash_58 rfl (⟨by rw [if_pos (by have z5 := b2i_0.mp c5; simp_all)], rfl⟩)
  · refine ex_iload_n F dX8_wash_8 rfl rfl ?_
    refine ex_i2l F dX8_wash_9 ?_
    refine ex_lconst (v := 0) F dX8_wash_10 (by decide) ?_
    refine ex_ldc2 F dX8_wash_11 kc_X8_241 ?_
    refine ex_callSi F (c_X8_in) dX8_wash_14 cs_X8_wash_78 rfl rfl (Nat.le_of_ble_eq_true rfl) (fun v14 M14 h14 => ?_)
    obtain ⟨e14, q14⟩ := h14
    rw [q14]
    clear q14
    rw [in_out (lo := 0) (hi := 5) (by decide) (by decide)] at e14
    subst e14
    refine ex_if_eq (t := 55) F dX8_wash_17 (by decide) (fun c17 => ?_) (fun c17 => ?_)
    · refine ex_ldc2 F dX8_wash_55 kc_X8_251 ?_
      exact ex_lret F R dX8_wash_58 rfl (⟨by rw [if_pos (by have z5 := b2i_1.mp c5; have z17 := b2i_0.mp c17; simp_all)], rfl⟩)
    · refine ex_iload F dX8_wash_20 rfl ?_
      refine ex_i2l F dX8_wash_22 ?_
      refine ex_lconst (v := 0) F dX8_wash_23 (by decide) ?_
      refine ex_lconst (v := 1) F dX8_wash_24 (by decide) ?_
      refine ex_callSi F (c_X8_in) dX8_wash_25 cs_X8_wash_78 rfl rfl (Nat.le_of_ble_eq_true rfl) (fun v25 M25 h25 => ?_)
      obtain ⟨e25, q25⟩ := h25
      rw [q25]
      clear q25
      rw [in_out (lo := 0) (hi := 1) (by decide) (by decide)] at e25
      subst e25
      refine ex_if_eq (t := 55) F dX8_wash_28 (by decide) (fun c28 => ?_) (fun c28 => ?_)
      · refine ex_ldc2 F dX8_wash_55 kc_X8_251 ?_
        exact ex_lret F R dX8_wash_58 rfl (⟨by rw [if_pos (by have z5 := b2i_1.mp c5; have z17 := b2i_1.mp c17; have z28 := b2i_0.mp c28; simp_all)], rfl⟩)
      · have z1 : badWash m w0 = false := by simpa using b2i_1.mp c5
        have z2 : outB k0 0 5 = false := by simpa using b2i_1.mp c17
        have z3 : outB wh 0 1 = false := by simpa using b2i_1.mp c28
        have hw0 := z1
        simp only [badWash, Bool.or_eq_false_iff] at hw0
        obtain ⟨mm, m1, m2, em⟩ := outB_n (a := 1) (b := 99) (by decide) hw0.1 (by decide)
        obtain ⟨ww, -, w2, ew⟩ := outB_n (a := 0) (b := 99) (by decide) hw0.2 (by decide)
        obtain ⟨kk, -, k2, ek⟩ := outB_n (a := 0) (b := 5) (by decide) z2 (by decide)
        have nm : m.toNatClampNeg = mm := by rw [em]; exact nI_clamp (by omega)
        have nw : w0.toNatClampNeg = ww := by rw [ew]; exact nI_clamp (by omega)
        have nk : k0.toNatClampNeg = kk := by rw [ek]; exact nI_clamp (by omega)
        have b1 : mm ^ (kk + 1) < 2 ^ 63 := Nat.lt_of_le_of_lt (Nat.le_trans (Nat.pow_le_pow_left m2 _) (Nat.pow_le_pow_right (by decide) (show kk + 1 ≤ 6 by omega))) (by decide)
        have b2 : (mm + ww) ^ kk < 2 ^ 63 := Nat.lt_of_le_of_lt (Nat.le_trans (Nat.pow_le_pow_left (show mm + ww ≤ 198 by omega) _) (Nat.pow_le_pow_right (by decide) k2)) (by decide)
        have b3 : 0 < (mm + ww) ^ kk := Nat.pow_pos (by omega)
        refine ex_iload_n F dX8_wash_31 rfl rfl ?_
        refine ex_i2l F dX8_wash_32 ?_
        refine ex_iload_n F dX8_wash_33 rfl rfl ?_
        refine ex_iconst (v := 1) F dX8_wash_34 (by decide) ?_
        refine ex_iadd F dX8_wash_35 ?_
        refine ex_callSl F (c_X8_power (n := kk + 1) (by rw [ek, nI_1]) (by omega)) dX8_wash_36 cs_X8_wash_243 rfl rfl (Nat.le_of_ble_eq_true rfl) (fun v36 M36 h36 => ?_)
        obtain ⟨e36, q36⟩ := h36
        rw [q36]
        clear q36
        rw [em, nI_l (by omega), sPow_n] at e36
        subst e36
        refine ex_iload_n F dX8_wash_39 rfl rfl ?_
        refine ex_iload_n F dX8_wash_40 rfl rfl ?_
        refine ex_iadd F dX8_wash_41 ?_
        refine ex_i2l F dX8_wash_42 ?_
        refine ex_iload_n F dX8_wash_43 rfl rfl ?_
        refine ex_callSl F (c_X8_power (n := kk) ek (by omega)) dX8_wash_44 cs_X8_wash_243 rfl rfl (Nat.le_of_ble_eq_true rfl) (fun v44 M44 h44 => ?_)
        obtain ⟨e44, q44⟩ := h44
        rw [q44]
        clear q44
        rw [em, ew, nI_add, nI_l (by omega), sPow_n] at e44
        subst e44
        refine ex_iload F dX8_wash_47 rfl ?_
        refine ex_callSl F (c_X8_lowest b1 b3 b2) dX8_wash_49 cs_X8_wash_247 rfl rfl (Nat.le_of_ble_eq_true rfl) (fun v49 M49 h49 => ?_)
        obtain ⟨rfl, q49⟩ := h49
        rw [q49]
        clear q49
        refine ex_goto (t := 58) F dX8_wash_52 (by decide) ?_
        exact ex_lret F R dX8_wash_58 rfl (⟨by rw [if_neg (by rw [z1, z2, z3]; decide), nm, nw, nk], rfl⟩)
theorem cs_X8_washes_238 : CSS (xmN YX8_washes).cls (xmF YX8_washes) (xmW YX8_washes) 238 2 YX8_isWash := ⟨⟨ml_X8_238, ini_X8, cd_X8_isWash, by decide +kernel, by decide⟩, st_X8_isWash⟩
theorem cs_X8_washes_78 : CSS (xmN YX8_washes).cls (xmF YX8_washes) (xmW YX8_washes) 78 3 YX8_in := ⟨⟨ml_X8_78, ini_X8, cd_X8_in, by decide +kernel, by decide⟩, st_X8_in⟩
theorem cs_X8_washes_243 : CSS (xmN YX8_washes).cls (xmF YX8_washes) (xmW YX8_washes) 243 2 YX8_power := ⟨⟨ml_X8_243, ini_X8, cd_X8_power, by decide +kernel, by decide⟩, st_X8_power⟩
set_option maxRecDepth 100000 in
theorem c_X8_washes {l : Launch} {g : XG} {M : Mem} {m0 w0 a b : Int32} : Call l g YX8_washes [.ref (ad g 38), .int m0, .int w0, .int a, .int b] M (PI (fun v M' => v = (if (badWash m0 w0 || badShare a b) = true then -1 else sWashN m0 w0 a b 6 0) ∧ M' = M)) := by
  refine call_of (by decide +kernel) (Nat.le_of_ble_eq_true rfl) (fun x hxl F R => ?_)
  subst hxl
  refine ex_iload_n F dX8_washes_0 rfl rfl ?_
  refine ex_iload_n F dX8_washes_1 rfl rfl ?_
  refine ex_callSi F (c_X8_isWash) dX8_washes_2 cs_X8_washes_238 rfl rfl (Nat.le_of_ble_eq_true rfl) (fun v2 M2 h2 => ?_)
  obtain ⟨rfl, q2⟩ := h2
  rw [q2]
  clear q2
  refine ex_if_eq (t := 33) F dX8_washes_5 (by decide) (fun c5 => ?_) (fun c5 => ?_)
  · refine ex_iconst (v := -1) F dX8_washes_33 (by decide) ?_
    exact ex_iret F R dX8_washes_34 rfl (⟨by rw [if_pos (by have z5 := b2i_0.mp c5; simp_all [badShare])], rfl⟩)
  · refine ex_iload_n F dX8_washes_8 rfl rfl ?_
    refine ex_i2l F dX8_washes_9 ?_
    refine ex_lconst (v := 0) F dX8_washes_10 (by decide) ?_
    refine ex_ldc2 F dX8_washes_11 kc_X8_236 ?_
    refine ex_callSi F (c_X8_in) dX8_washes_14 cs_X8_washes_78 rfl rfl (Nat.le_of_ble_eq_true rfl) (fun v14 M14 h14 => ?_)
    obtain ⟨e14, q14⟩ := h14
    rw [q14]
    clear q14
    rw [in_out (lo := 0) (hi := 99) (by decide) (by decide)] at e14
    subst e14
    refine ex_if_eq (t := 33) F dX8_washes_17 (by decide) (fun c17 => ?_) (fun c17 => ?_)
    · refine ex_iconst (v := -1) F dX8_washes_33 (by decide) ?_
      exact ex_iret F R dX8_washes_34 rfl (⟨by rw [if_pos (by have z5 := b2i_1.mp c5; have z17 := b2i_0.mp c17; simp_all [badShare])], rfl⟩)
    · refine ex_iload F dX8_washes_20 rfl ?_
      refine ex_i2l F dX8_washes_22 ?_
      refine ex_lconst (v := 1) F dX8_washes_23 (by decide) ?_
      refine ex_ldc2 F dX8_washes_24 kc_X8_236 ?_
      refine ex_callSi F (c_X8_in) dX8_washes_27 cs_X8_washes_78 rfl rfl (Nat.le_of_ble_eq_true rfl) (fun v27 M27 h27 => ?_)
      obtain ⟨e27, q27⟩ := h27
      rw [q27]
      clear q27
      rw [in_out (lo := 1) (hi := 99) (by decide) (by decide)] at e27
      subst e27
      refine ex_if_ne (t := 35) F dX8_washes_30 (by decide) (fun c30 => ?_) (fun c30 => ?_)
      · have z1 : badWash m0 w0 = false := by simpa using b2i_1.mp c5
        have z2 : outB a 0 99 = false := by simpa using b2i_1.mp c17
        have z3 : outB b 1 99 = false := by simpa using b2i_1.mp c30
        have z4 : (badWash m0 w0 || badShare a b) = false := by rw [z1, badShare, z2, z3]; rfl
        refine ex_iconst (v := 0) F dX8_washes_35 (by decide) ?_
        refine ex_istore F dX8_washes_36 (by decide) ?_
        have key : ∀ (m k : Nat) (v : Int32), k + m = 6 → v = nI k → sWashN m0 w0 a b m k = sWashN m0 w0 a b 6 0 → EX x g (xmL YX8_washes) M 38 [(0, .ref (ad g 38)), (1, .int m0), (2, .int w0), (3, .int a), (4, .int b), (5, .int v)] [] := by
          intro m
          induction m with
          | zero =>
            intro k v hi hv hs
            obtain rfl : k = 6 := by omega
            subst hv
            refine ex_iload F dX8_washes_38 rfl ?_
            refine ex_iconst (v := 5) F dX8_washes_40 (by decide) ?_
            refine ex_icmp_gt (t := 82) F dX8_washes_41 (by decide) (fun _ => ?_) (fun c => absurd (by decide) c)
            refine ex_bipush (v := -4) F dX8_washes_82 (by decide) ?_
            exact ex_iret F R dX8_washes_84 rfl (⟨by rw [ifn z4, ← hs, sWashN], rfl⟩)
          | succ m ih =>
            intro k v hi hv hs
            subst hv
            refine ex_iload F dX8_washes_38 rfl ?_
            refine ex_iconst (v := 5) F dX8_washes_40 (by decide) ?_
            refine ex_icmp_gt (t := 82) F dX8_washes_41 (by decide) (fun c => absurd c (nI_nlt (b := k) (a := 5) (by omega) (by decide))) (fun _ => ?_)
            refine ex_iload_n F dX8_washes_44 rfl rfl ?_
            refine ex_i2l F dX8_washes_45 ?_
            refine ex_iload F dX8_washes_46 rfl ?_
            refine ex_iconst (v := 1) F dX8_washes_48 (by decide) ?_
            refine ex_iadd F dX8_washes_49 ?_
            refine ex_callSl F (c_X8_power (n := k + 1) (nI_1 k) (by omega)) dX8_washes_50 cs_X8_washes_243 rfl rfl (Nat.le_of_ble_eq_true rfl) (fun v50 M50 h50 => ?_)
            obtain ⟨rfl, q50⟩ := h50
            rw [q50]
            clear q50
            refine ex_iload F dX8_washes_53 rfl ?_
            refine ex_i2l F dX8_washes_55 ?_
            refine ex_lmul F dX8_washes_56 ?_
            refine ex_iload_n F dX8_washes_57 rfl rfl ?_
            refine ex_i2l F dX8_washes_58 ?_
            refine ex_iload_n F dX8_washes_59 rfl rfl ?_
            refine ex_iload_n F dX8_washes_60 rfl rfl ?_
            refine ex_iadd F dX8_washes_61 ?_
            refine ex_i2l F dX8_washes_62 ?_
            refine ex_iload F dX8_washes_63 rfl ?_
            refine ex_callSl F (c_X8_power (n := k) rfl (by omega)) dX8_washes_65 cs_X8_washes_243 rfl rfl (Nat.le_of_ble_eq_true rfl) (fun v65 M65 h65 => ?_)
            obtain ⟨rfl, q65⟩ := h65
            rw [q65]
            clear q65
            refine ex_lmul F dX8_washes_68 ?_
            refine ex_lcmp F dX8_washes_69 ?_
            refine ex_if_gt (t := 76) F dX8_washes_70 (by decide) (fun c70 => ?_) (fun c70 => ?_)
            · refine ex_iinc (w := _ + 1) F dX8_washes_76 rfl rfl (by decide) ?_
              refine ex_goto (t := 38) F dX8_washes_79 (by decide) ?_
              refine ex_weak2 (ih (k + 1) _ (by omega) (nI_1 k) ?_) ⟨rfl, rfl, rfl, rfl, rfl, rfl, trivial⟩
              rw [← hs, sWashN, if_neg (fun q => absurd q (Int64.not_le.mpr (cmp_gt.mp c70)))]
            · refine ex_iload F dX8_washes_73 rfl ?_
              exact ex_iret F R dX8_washes_75 rfl (⟨by rw [ifn z4, ← hs, sWashN, if_pos (Int64.not_lt.mp (fun q => c70 (cmp_gt.mpr q)))], rfl⟩)
        exact ex_weak2 (key 6 0 _ (by omega) rfl rfl) ⟨rfl, rfl, rfl, rfl, rfl, rfl, trivial⟩
      · refine ex_iconst (v := -1) F dX8_washes_33 (by decide) ?_
        exact ex_iret F R dX8_washes_34 rfl (⟨by rw [if_pos (by have z5 := b2i_1.mp c5; have z17 := b2i_1.mp c17; have z30 := b2i_0.mp c30; simp_all [badShare])], rfl⟩)
theorem cs_X8_split_238 : CSS (xmN YX8_split).cls (xmF YX8_split) (xmW YX8_split) 238 2 YX8_isWash := ⟨⟨ml_X8_238, ini_X8, cd_X8_isWash, by decide +kernel, by decide⟩, st_X8_isWash⟩
set_option maxRecDepth 100000 in
theorem c_X8_split {l : Launch} {g : XG} {M : Mem} {m w0 : Int32} : Call l g YX8_split [.ref (ad g 38), .int m, .int w0] M (PI (fun v M' => v = (if badWash m w0 = true then -1 else sSpl m w0 w0.toNatClampNeg) ∧ M' = M)) := by
  refine call_of (by decide +kernel) (Nat.le_of_ble_eq_true rfl) (fun x hxl F R => ?_)
  subst hxl
  refine ex_iload_n F dX8_split_0 rfl rfl ?_
  refine ex_iload_n F dX8_split_1 rfl rfl ?_
  refine ex_callSi F (c_X8_isWash) dX8_split_2 cs_X8_split_238 rfl rfl (Nat.le_of_ble_eq_true rfl) (fun v2 M2 h2 => ?_)
  obtain ⟨rfl, q2⟩ := h2
  rw [q2]
  clear q2
  refine ex_if_ne (t := 10) F dX8_split_5 (by decide) (fun c5 => ?_) (fun c5 => ?_)
  · have z1 : badWash m w0 = false := by simpa using b2i_1.mp c5
    have hw0 := z1
    simp only [badWash, Bool.or_eq_false_iff] at hw0
    obtain ⟨ww, -, w2, ew⟩ := outB_n (a := 0) (b := 99) (by decide) hw0.2 (by decide)
    have nw : w0.toNatClampNeg = ww := by rw [ew]; exact nI_clamp (by omega)
    refine ex_iconst (v := 0) F dX8_split_10 (by decide) ?_
    refine ex_istore_n F dX8_split_11 rfl (by decide) ?_
    refine ex_iconst (v := 1) F dX8_split_12 (by decide) ?_
    refine ex_istore F dX8_split_13 (by decide) ?_
    have key : ∀ (k i : Nat) (v : Int32), i + 1 + k = ww + 1 → v = nI (i + 1) → EX x g (xmL YX8_split) M 15 [(0, .ref (ad g 38)), (1, .int m), (2, .int w0), (3, .int (sSpl m w0 i)), (4, .int v)] [] := by
      intro k
      induction k with
      | zero =>
        intro i v hi hv
        obtain rfl : i = ww := by omega
        subst hv
        refine ex_iload F dX8_split_15 rfl ?_
        refine ex_iload_n F dX8_split_17 rfl rfl ?_
        refine ex_icmp_gt (t := 57) F dX8_split_18 (by decide) (fun _ => ?_) (fun c => absurd (by rw [ew]; exact nI_lt (by omega) (by omega)) c)
        refine ex_iload_n F dX8_split_57 rfl rfl ?_
        exact ex_iret F R dX8_split_58 rfl (⟨by rw [ifn z1, nw], rfl⟩)
      | succ k ih =>
        intro i v hi hv
        subst hv
        refine ex_iload F dX8_split_15 rfl ?_
        refine ex_iload_n F dX8_split_17 rfl rfl ?_
        refine ex_icmp_gt (t := 57) F dX8_split_18 (by decide) (fun c => absurd c (by rw [ew]; exact nI_nlt (by omega) (by omega))) (fun _ => ?_)
        refine ex_iload_n F dX8_split_21 rfl rfl ?_
        refine ex_iload F dX8_split_22 rfl ?_
        refine ex_iadd F dX8_split_24 ?_
        refine ex_iload_n F dX8_split_25 rfl rfl ?_
        refine ex_iload_n F dX8_split_26 rfl rfl ?_
        refine ex_iadd F dX8_split_27 ?_
        refine ex_iload F dX8_split_28 rfl ?_
        refine ex_isub F dX8_split_30 ?_
        refine ex_imul F dX8_split_31 ?_
        refine ex_iload_n F dX8_split_32 rfl rfl ?_
        refine ex_iload_n F dX8_split_33 rfl rfl ?_
        refine ex_iadd F dX8_split_34 ?_
        refine ex_iload_n F dX8_split_35 rfl rfl ?_
        refine ex_iload_n F dX8_split_36 rfl rfl ?_
        refine ex_iadd F dX8_split_37 ?_
        refine ex_iload_n F dX8_split_38 rfl rfl ?_
        refine ex_isub F dX8_split_39 ?_
        refine ex_imul F dX8_split_40 ?_
        refine ex_icmp_le (t := 49) F dX8_split_41 (by decide) (fun c41 => ?_) (fun c41 => ?_)
        · refine ex_iload_n F dX8_split_49 rfl rfl ?_
          refine ex_istore_n F dX8_split_50 rfl (by decide) ?_
          refine ex_iinc (w := _ + 1) F dX8_split_51 rfl rfl (by decide) ?_
          refine ex_goto (t := 15) F dX8_split_54 (by decide) ?_
          have en : sSpl m w0 (i + 1) = sSpl m w0 i := by rw [sSpl, if_neg (show ¬ sPr m w0 (sSpl m w0 i) < sPr m w0 (nI (i + 1)) from Int32.not_lt.mpr c41)]
          refine ex_weak2 (ih (i + 1) _ (by omega) (nI_1 (i + 1))) ⟨rfl, rfl, rfl, ?_, rfl, trivial⟩
          rw [en]; rfl
        · refine ex_iload F dX8_split_44 rfl ?_
          refine ex_goto (t := 50) F dX8_split_46 (by decide) ?_
          refine ex_istore_n F dX8_split_50 rfl (by decide) ?_
          refine ex_iinc (w := _ + 1) F dX8_split_51 rfl rfl (by decide) ?_
          refine ex_goto (t := 15) F dX8_split_54 (by decide) ?_
          have en : sSpl m w0 (i + 1) = nI (i + 1) := by rw [sSpl, if_pos (show sPr m w0 (sSpl m w0 i) < sPr m w0 (nI (i + 1)) from Int32.not_le.mp c41)]
          refine ex_weak2 (ih (i + 1) _ (by omega) (nI_1 (i + 1))) ⟨rfl, rfl, rfl, ?_, rfl, trivial⟩
          rw [en]; rfl
    exact ex_weak2 (key ww 0 _ (by omega) rfl) ⟨rfl, rfl, rfl, rfl, rfl, trivial⟩
  · refine ex_iconst (v := -1) F dX8_split_8 (by decide) ?_
    exact ex_iret F R dX8_split_9 rfl (⟨by rw [ift (by simpa using b2i_0.mp c5)], rfl⟩)
theorem near_0 {a b c xx y : Int32} (h : badRod a b c = false) (hx : outB xx 0 99 = false) : ∀ r, sNear a b c xx y (-4) (r + 1) = sNear a b c xx y 0 (r + 1) := by
  obtain ⟨p, q, z, lp, lq, lz, l0, ea, eb, ec⟩ := rod_n h
  obtain ⟨n, -, ln, en⟩ := outB_n (a := 0) (b := 99) (by decide) hx (by decide)
  intro r
  induction r with
  | zero =>
    have e : sAbove (nI 0) a b c * y ≤ xx * (a + b + c) := by
      rw [show sAbove (nI 0) a b c = 0 from rfl, Int32.zero_mul, ea, eb, ec, en, nI_add, nI_add, pk_mul]
      have : n * (p + q + z) ≤ 99 * 27 := Nat.mul_le_mul ln (by omega)
      exact nI_le (a := 0) (Nat.zero_le _) (by omega)
    have g : ∀ i, sNear a b c xx y i (0 + 1) = nI 0 := fun i => by rw [sNear, if_pos e]
    rw [g, g]
  | succ r ih => rw [sNear, ih, ← sNear]
theorem cs_X8_near_260 : CSS (xmN YX8_near).cls (xmF YX8_near) (xmW YX8_near) 260 3 YX8_isRod := ⟨⟨ml_X8_260, ini_X8, cd_X8_isRod, by decide +kernel, by decide⟩, st_X8_isRod⟩
theorem cs_X8_near_78 : CSS (xmN YX8_near).cls (xmF YX8_near) (xmW YX8_near) 78 3 YX8_in := ⟨⟨ml_X8_78, ini_X8, cd_X8_in, by decide +kernel, by decide⟩, st_X8_in⟩
theorem cs_X8_near_264 : CSS (xmN YX8_near).cls (xmF YX8_near) (xmW YX8_near) 264 4 YX8_above := ⟨⟨ml_X8_264, ini_X8, cd_X8_above, by decide +kernel, by decide⟩, st_X8_above⟩
set_option maxRecDepth 100000 in
theorem c_X8_near {l : Launch} {g : XG} {M : Mem} {a b c xx y : Int32} : Call l g YX8_near [.ref (ad g 38), .int a, .int b, .int c, .int xx, .int y] M (PI (fun v M' => v = (if (badRod a b c || badShare xx y) = true then -1 else sNear a b c xx y (-4) 31) ∧ M' = M)) := by
  refine call_of (by decide +kernel) (Nat.le_of_ble_eq_true rfl) (fun x hxl F R => ?_)
  subst hxl
  refine ex_iload_n F dX8_near_0 rfl rfl ?_
  refine ex_iload_n F dX8_near_1 rfl rfl ?_
  refine ex_iload_n F dX8_near_2 rfl rfl ?_
  refine ex_callSi F (c_X8_isRod) dX8_near_3 cs_X8_near_260 rfl rfl (Nat.le_of_ble_eq_true rfl) (fun v3 M3 h3 => ?_)
  obtain ⟨rfl, q3⟩ := h3
  rw [q3]
  clear q3
  refine ex_if_eq (t := 35) F dX8_near_6 (by decide) (fun c6 => ?_) (fun c6 => ?_)
  · refine ex_iconst (v := -1) F dX8_near_35 (by decide) ?_
    exact ex_iret F R dX8_near_36 rfl (⟨by rw [if_pos (by have z6 := b2i_0.mp c6; simp_all [badShare])], rfl⟩)
  · refine ex_iload F dX8_near_9 rfl ?_
    refine ex_i2l F dX8_near_11 ?_
    refine ex_lconst (v := 0) F dX8_near_12 (by decide) ?_
    refine ex_ldc2 F dX8_near_13 kc_X8_236 ?_
    refine ex_callSi F (c_X8_in) dX8_near_16 cs_X8_near_78 rfl rfl (Nat.le_of_ble_eq_true rfl) (fun v16 M16 h16 => ?_)
    obtain ⟨e16, q16⟩ := h16
    rw [q16]
    clear q16
    rw [in_out (lo := 0) (hi := 99) (by decide) (by decide)] at e16
    subst e16
    refine ex_if_eq (t := 35) F dX8_near_19 (by decide) (fun c19 => ?_) (fun c19 => ?_)
    · refine ex_iconst (v := -1) F dX8_near_35 (by decide) ?_
      exact ex_iret F R dX8_near_36 rfl (⟨by rw [if_pos (by have z6 := b2i_1.mp c6; have z19 := b2i_0.mp c19; simp_all [badShare])], rfl⟩)
    · refine ex_iload F dX8_near_22 rfl ?_
      refine ex_i2l F dX8_near_24 ?_
      refine ex_lconst (v := 1) F dX8_near_25 (by decide) ?_
      refine ex_ldc2 F dX8_near_26 kc_X8_236 ?_
      refine ex_callSi F (c_X8_in) dX8_near_29 cs_X8_near_78 rfl rfl (Nat.le_of_ble_eq_true rfl) (fun v29 M29 h29 => ?_)
      obtain ⟨e29, q29⟩ := h29
      rw [q29]
      clear q29
      rw [in_out (lo := 1) (hi := 99) (by decide) (by decide)] at e29
      subst e29
      refine ex_if_ne (t := 37) F dX8_near_32 (by decide) (fun c32 => ?_) (fun c32 => ?_)
      · have z1 : badRod a b c = false := by simpa using b2i_1.mp c6
        have z2 : outB xx 0 99 = false := by simpa using b2i_1.mp c19
        have z3 : outB y 1 99 = false := by simpa using b2i_1.mp c32
        have z4 : (badRod a b c || badShare xx y) = false := by rw [z1, badShare, z2, z3]; rfl
        rw [ifn z4, near_0 z1 z2 30] at R
        refine ex_iconst (v := 0) F dX8_near_37 (by decide) ?_
        refine ex_istore F dX8_near_38 (by decide) ?_
        refine ex_iconst (v := 0) F dX8_near_40 (by decide) ?_
        refine ex_istore F dX8_near_41 (by decide) ?_
        have key : ∀ (k r : Nat) (v o : Int32), r + k = 31 → v = nI r → o = sNear a b c xx y 0 r → EX x g (xmL YX8_near) M 43 [(0, .ref (ad g 38)), (1, .int a), (2, .int b), (3, .int c), (4, .int xx), (5, .int y), (6, .int o), (7, .int v)] [] := by
          intro k
          induction k with
          | zero =>
            intro r v o hi hv ho
            obtain rfl : r = 31 := by omega
            subst hv
            refine ex_iload F dX8_near_43 rfl ?_
            refine ex_bipush (v := 30) F dX8_near_45 (by decide) ?_
            refine ex_icmp_gt (t := 87) F dX8_near_47 (by decide) (fun _ => ?_) (fun c => absurd (by decide) c)
            refine ex_iload F dX8_near_87 rfl ?_
            exact ex_iret F R dX8_near_89 rfl (⟨ho, rfl⟩)
          | succ k ih =>
            intro r v o hi hv ho
            subst hv
            refine ex_iload F dX8_near_43 rfl ?_
            refine ex_bipush (v := 30) F dX8_near_45 (by decide) ?_
            refine ex_icmp_gt (t := 87) F dX8_near_47 (by decide) (fun c => absurd c (nI_nlt (b := r) (a := 30) (by omega) (by decide))) (fun _ => ?_)
            refine ex_iload F dX8_near_50 rfl ?_
            refine ex_iload_n F dX8_near_52 rfl rfl ?_
            refine ex_iload_n F dX8_near_53 rfl rfl ?_
            refine ex_iload_n F dX8_near_54 rfl rfl ?_
            refine ex_callSi F (c_X8_above) dX8_near_55 cs_X8_near_264 rfl rfl (Nat.le_of_ble_eq_true rfl) (fun v55 M55 h55 => ?_)
            obtain ⟨rfl, q55⟩ := h55
            rw [q55]
            clear q55
            refine ex_iload F dX8_near_58 rfl ?_
            refine ex_imul F dX8_near_60 ?_
            refine ex_iload F dX8_near_61 rfl ?_
            refine ex_iload_n F dX8_near_63 rfl rfl ?_
            refine ex_iload_n F dX8_near_64 rfl rfl ?_
            refine ex_iadd F dX8_near_65 ?_
            refine ex_iload_n F dX8_near_66 rfl rfl ?_
            refine ex_iadd F dX8_near_67 ?_
            refine ex_imul F dX8_near_68 ?_
            refine ex_icmp_gt (t := 77) F dX8_near_69 (by decide) (fun c69 => ?_) (fun c69 => ?_)
            · refine ex_iload F dX8_near_77 rfl ?_
              refine ex_istore F dX8_near_79 (by decide) ?_
              refine ex_iinc (w := _ + 1) F dX8_near_81 rfl rfl (by decide) ?_
              refine ex_goto (t := 43) F dX8_near_84 (by decide) ?_
              exact ex_weak2 (ih (r + 1) _ _ (by omega) (nI_1 r) (by rw [sNear, if_neg (Int32.not_le.mpr c69), ho])) ⟨rfl, rfl, rfl, rfl, rfl, rfl, rfl, rfl, trivial⟩
            · refine ex_iload F dX8_near_72 rfl ?_
              refine ex_goto (t := 79) F dX8_near_74 (by decide) ?_
              refine ex_istore F dX8_near_79 (by decide) ?_
              refine ex_iinc (w := _ + 1) F dX8_near_81 rfl rfl (by decide) ?_
              refine ex_goto (t := 43) F dX8_near_84 (by decide) ?_
              exact ex_weak2 (ih (r + 1) _ _ (by omega) (nI_1 r) (by rw [sNear, if_pos (Int32.not_lt.mp c69)])) ⟨rfl, rfl, rfl, rfl, rfl, rfl, rfl, rfl, trivial⟩
        exact ex_weak2 (key 31 0 _ _ (by omega) rfl rfl) ⟨rfl, rfl, rfl, rfl, rfl, rfl, rfl, rfl, trivial⟩
      · refine ex_iconst (v := -1) F dX8_near_35 (by decide) ?_
        exact ex_iret F R dX8_near_36 rfl (⟨by rw [if_pos (by have z6 := b2i_1.mp c6; have z19 := b2i_1.mp c19; have z32 := b2i_0.mp c32; simp_all [badShare])], rfl⟩)
theorem cs_X8_rod_78 : CSS (xmN YX8_rod).cls (xmF YX8_rod) (xmW YX8_rod) 78 3 YX8_in := ⟨⟨ml_X8_78, ini_X8, cd_X8_in, by decide +kernel, by decide⟩, st_X8_in⟩
theorem cs_X8_rod_260 : CSS (xmN YX8_rod).cls (xmF YX8_rod) (xmW YX8_rod) 260 3 YX8_isRod := ⟨⟨ml_X8_260, ini_X8, cd_X8_isRod, by decide +kernel, by decide⟩, st_X8_isRod⟩
theorem cs_X8_rod_264 : CSS (xmN YX8_rod).cls (xmF YX8_rod) (xmW YX8_rod) 264 4 YX8_above := ⟨⟨ml_X8_264, ini_X8, cd_X8_above, by decide +kernel, by decide⟩, st_X8_above⟩
theorem cs_X8_rod_247 : CSS (xmN YX8_rod).cls (xmF YX8_rod) (xmW YX8_rod) 247 3 YX8_lowest := ⟨⟨ml_X8_247, ini_X8, cd_X8_lowest, by decide +kernel, by decide⟩, st_X8_lowest⟩
set_option maxRecDepth 100000 in
theorem c_X8_rod {l : Launch} {g : XG} {M : Mem} {r a b c wh : Int32} : Call l g YX8_rod [.ref (ad g 38), .int r, .int a, .int b, .int c, .int wh] M (PI (fun v M' => v = (if (outB r 0 30 || (badRod a b c || outB wh 0 1)) = true then -1 else (sLow (sAbove r a b c).toNatClampNeg (a + b + c).toNatClampNeg wh).toInt32) ∧ M' = M)) := by
  refine call_of (by decide +kernel) (Nat.le_of_ble_eq_true rfl) (fun x hxl F R => ?_)
  subst hxl
  refine ex_iload_n F dX8_rod_0 rfl rfl ?_
  refine ex_i2l F dX8_rod_1 ?_
  refine ex_lconst (v := 0) F dX8_rod_2 (by decide) ?_
  refine ex_ldc2 F dX8_rod_3 kc_X8_258 ?_
  refine ex_callSi F (c_X8_in) dX8_rod_6 cs_X8_rod_78 rfl rfl (Nat.le_of_ble_eq_true rfl) (fun v6 M6 h6 => ?_)
  obtain ⟨e6, q6⟩ := h6
  rw [q6]
  clear q6
  rw [in_out (lo := 0) (hi := 30) (by decide) (by decide)] at e6
  subst e6
  refine ex_if_eq (t := 58) F dX8_rod_9 (by decide) (fun c9 => ?_) (fun c9 => ?_)
  · refine ex_iconst (v := -1) F dX8_rod_58 (by decide) ?_
    exact ex_iret F R dX8_rod_59 rfl (⟨by rw [if_pos (by have z9 := b2i_0.mp c9; simp_all)], rfl⟩)
  · refine ex_iload_n F dX8_rod_12 rfl rfl ?_
    refine ex_iload_n F dX8_rod_13 rfl rfl ?_
    refine ex_iload F dX8_rod_14 rfl ?_
    refine ex_callSi F (c_X8_isRod) dX8_rod_16 cs_X8_rod_260 rfl rfl (Nat.le_of_ble_eq_true rfl) (fun v16 M16 h16 => ?_)
    obtain ⟨rfl, q16⟩ := h16
    rw [q16]
    clear q16
    refine ex_if_eq (t := 58) F dX8_rod_19 (by decide) (fun c19 => ?_) (fun c19 => ?_)
    · refine ex_iconst (v := -1) F dX8_rod_58 (by decide) ?_
      exact ex_iret F R dX8_rod_59 rfl (⟨by rw [if_pos (by have z9 := b2i_1.mp c9; have z19 := b2i_0.mp c19; simp_all)], rfl⟩)
    · refine ex_iload F dX8_rod_22 rfl ?_
      refine ex_i2l F dX8_rod_24 ?_
      refine ex_lconst (v := 0) F dX8_rod_25 (by decide) ?_
      refine ex_lconst (v := 1) F dX8_rod_26 (by decide) ?_
      refine ex_callSi F (c_X8_in) dX8_rod_27 cs_X8_rod_78 rfl rfl (Nat.le_of_ble_eq_true rfl) (fun v27 M27 h27 => ?_)
      obtain ⟨e27, q27⟩ := h27
      rw [q27]
      clear q27
      rw [in_out (lo := 0) (hi := 1) (by decide) (by decide)] at e27
      subst e27
      refine ex_if_eq (t := 58) F dX8_rod_30 (by decide) (fun c30 => ?_) (fun c30 => ?_)
      · refine ex_iconst (v := -1) F dX8_rod_58 (by decide) ?_
        exact ex_iret F R dX8_rod_59 rfl (⟨by rw [if_pos (by have z9 := b2i_1.mp c9; have z19 := b2i_1.mp c19; have z30 := b2i_0.mp c30; simp_all)], rfl⟩)
      · have z1 : outB r 0 30 = false := by simpa using b2i_1.mp c9
        have z2 : badRod a b c = false := by simpa using b2i_1.mp c19
        have z3 : outB wh 0 1 = false := by simpa using b2i_1.mp c30
        obtain ⟨xa, xb, xc, la, lb, lc, l0, ea, eb, ec⟩ := rod_n z2
        obtain ⟨ab, lab, eab⟩ := above_n (r := r) ea eb ec
        have es : a + b + c = nI (xa + xb + xc) := by rw [ea, eb, ec, nI_add, nI_add]
        have n1 : (sAbove r a b c).toNatClampNeg = ab := by rw [eab]; exact nI_clamp (by omega)
        have n2 : (a + b + c).toNatClampNeg = xa + xb + xc := by rw [es]; exact nI_clamp (by omega)
        refine ex_iload_n F dX8_rod_33 rfl rfl ?_
        refine ex_iload_n F dX8_rod_34 rfl rfl ?_
        refine ex_iload_n F dX8_rod_35 rfl rfl ?_
        refine ex_iload F dX8_rod_36 rfl ?_
        refine ex_callSi F (c_X8_above) dX8_rod_38 cs_X8_rod_264 rfl rfl (Nat.le_of_ble_eq_true rfl) (fun v38 M38 h38 => ?_)
        obtain ⟨rfl, q38⟩ := h38
        rw [q38]
        clear q38
        refine ex_i2l F dX8_rod_41 ?_
        refine ex_iload_n F dX8_rod_42 rfl rfl ?_
        refine ex_iload_n F dX8_rod_43 rfl rfl ?_
        refine ex_iadd F dX8_rod_44 ?_
        refine ex_iload F dX8_rod_45 rfl ?_
        refine ex_iadd F dX8_rod_47 ?_
        refine ex_i2l F dX8_rod_48 ?_
        refine ex_iload F dX8_rod_49 rfl ?_
        rw [eab, es, nI_l (by omega), nI_l (by omega)]
        refine ex_callSl F (c_X8_lowest (X := ab) (Y := xa + xb + xc) (by omega) l0 (by omega)) dX8_rod_51 cs_X8_rod_247 rfl rfl (Nat.le_of_ble_eq_true rfl) (fun v51 M51 h51 => ?_)
        obtain ⟨rfl, q51⟩ := h51
        rw [q51]
        clear q51
        refine ex_l2i F dX8_rod_54 ?_
        refine ex_goto (t := 59) F dX8_rod_55 (by decide) ?_
        exact ex_iret F R dX8_rod_59 rfl (⟨by rw [if_neg (by rw [z1, z2, z3]; decide), n1, n2], rfl⟩)
