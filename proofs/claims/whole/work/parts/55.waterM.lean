theorem cs_X8_witch_78 : CSS (xmN YX8_witch).cls (xmF YX8_witch) (xmW YX8_witch) 78 3 YX8_in := ⟨⟨ml_X8_78, ini_X8, cd_X8_in, by decide +kernel, by decide⟩, st_X8_in⟩
theorem cs_X8_witch_243 : CSS (xmN YX8_witch).cls (xmF YX8_witch) (xmW YX8_witch) 243 2 YX8_power := ⟨⟨ml_X8_243, ini_X8, cd_X8_power, by decide +kernel, by decide⟩, st_X8_power⟩
theorem cs_X8_witch_247 : CSS (xmN YX8_witch).cls (xmF YX8_witch) (xmW YX8_witch) 247 3 YX8_lowest := ⟨⟨ml_X8_247, ini_X8, cd_X8_lowest, by decide +kernel, by decide⟩, st_X8_lowest⟩
set_option maxRecDepth 100000 in
theorem c_X8_witch {l : Launch} {g : XG} {M : Mem} {n0 k0 a0 b0 wh : Int32} : Call l g YX8_witch [.ref (ad g 38), .int n0, .int k0, .int a0, .int b0, .int wh] M (PL (fun v M' => v = (if badWitch n0 k0 a0 b0 wh = true then -1 else sLow (sumW n0.toNatClampNeg k0.toNatClampNeg a0.toNatClampNeg b0.toNatClampNeg (n0.toNatClampNeg + 1)) (b0.toNatClampNeg ^ n0.toNatClampNeg) wh) ∧ M' = M)) := by
  refine call_of (by decide +kernel) (Nat.le_of_ble_eq_true rfl) (fun x hxl F R => ?_)
  subst hxl
  refine ex_iload_n F dX8_witch_0 rfl rfl ?_
  refine ex_i2l F dX8_witch_1 ?_
  refine ex_lconst (v := 1) F dX8_witch_2 (by decide) ?_
  refine ex_ldc2 F dX8_witch_3 kc_X8_268 ?_
  refine ex_callSi F (c_X8_in) dX8_witch_6 cs_X8_witch_78 rfl rfl (Nat.le_of_ble_eq_true rfl) (fun v6 M6 h6 => ?_)
  obtain ⟨e6, q6⟩ := h6
  rw [q6]
  clear q6
  rw [in_out (lo := 1) (hi := 12) (by decide) (by decide)] at e6
  subst e6
  refine ex_if_eq (t := 59) F dX8_witch_9 (by decide) (fun c9 => ?_) (fun c9 => ?_)
  · refine ex_ldc2 F dX8_witch_59 kc_X8_251 ?_
    exact ex_lret F R dX8_witch_62 rfl (⟨by rw [if_pos (by have z9 := b2i_0.mp c9; simp_all [badWitch])], rfl⟩)
  · refine ex_iload_n F dX8_witch_12 rfl rfl ?_
    refine ex_i2l F dX8_witch_13 ?_
    refine ex_lconst (v := 0) F dX8_witch_14 (by decide) ?_
    refine ex_iload_n F dX8_witch_15 rfl rfl ?_
    refine ex_i2l F dX8_witch_16 ?_
    refine ex_callSi F (c_X8_in) dX8_witch_17 cs_X8_witch_78 rfl rfl (Nat.le_of_ble_eq_true rfl) (fun v17 M17 h17 => ?_)
    obtain ⟨e17, q17⟩ := h17
    rw [q17]
    clear q17
    rw [in_out (lo := 0) (hi := n0) (by decide) rfl] at e17
    subst e17
    refine ex_if_eq (t := 59) F dX8_witch_20 (by decide) (fun c20 => ?_) (fun c20 => ?_)
    · refine ex_ldc2 F dX8_witch_59 kc_X8_251 ?_
      exact ex_lret F R dX8_witch_62 rfl (⟨by rw [if_pos (by have z9 := b2i_1.mp c9; have z20 := b2i_0.mp c20; simp_all [badWitch])], rfl⟩)
    · refine ex_iload F dX8_witch_23 rfl ?_
      refine ex_i2l F dX8_witch_25 ?_
      refine ex_lconst (v := 1) F dX8_witch_26 (by decide) ?_
      refine ex_ldc2 F dX8_witch_27 kc_X8_167 ?_
      refine ex_callSi F (c_X8_in) dX8_witch_30 cs_X8_witch_78 rfl rfl (Nat.le_of_ble_eq_true rfl) (fun v30 M30 h30 => ?_)
      obtain ⟨e30, q30⟩ := h30
      rw [q30]
      clear q30
      rw [in_out (lo := 1) (hi := 9) (by decide) (by decide)] at e30
      subst e30
      refine ex_if_eq (t := 59) F dX8_witch_33 (by decide) (fun c33 => ?_) (fun c33 => ?_)
      · refine ex_ldc2 F dX8_witch_59 kc_X8_251 ?_
        exact ex_lret F R dX8_witch_62 rfl (⟨by rw [if_pos (by have z9 := b2i_1.mp c9; have z20 := b2i_1.mp c20; have z33 := b2i_0.mp c33; simp_all [badWitch])], rfl⟩)
      · refine ex_iload_n F dX8_witch_36 rfl rfl ?_
        refine ex_i2l F dX8_witch_37 ?_
        refine ex_lconst (v := 0) F dX8_witch_38 (by decide) ?_
        refine ex_iload F dX8_witch_39 rfl ?_
        refine ex_i2l F dX8_witch_41 ?_
        refine ex_callSi F (c_X8_in) dX8_witch_42 cs_X8_witch_78 rfl rfl (Nat.le_of_ble_eq_true rfl) (fun v42 M42 h42 => ?_)
        obtain ⟨e42, q42⟩ := h42
        rw [q42]
        clear q42
        rw [in_out (lo := 0) (hi := b0) (by decide) rfl] at e42
        subst e42
        refine ex_if_eq (t := 59) F dX8_witch_45 (by decide) (fun c45 => ?_) (fun c45 => ?_)
        · refine ex_ldc2 F dX8_witch_59 kc_X8_251 ?_
          exact ex_lret F R dX8_witch_62 rfl (⟨by rw [if_pos (by have z9 := b2i_1.mp c9; have z20 := b2i_1.mp c20; have z33 := b2i_1.mp c33; have z45 := b2i_0.mp c45; simp_all [badWitch])], rfl⟩)
        · refine ex_iload F dX8_witch_48 rfl ?_
          refine ex_i2l F dX8_witch_50 ?_
          refine ex_lconst (v := 0) F dX8_witch_51 (by decide) ?_
          refine ex_lconst (v := 1) F dX8_witch_52 (by decide) ?_
          refine ex_callSi F (c_X8_in) dX8_witch_53 cs_X8_witch_78 rfl rfl (Nat.le_of_ble_eq_true rfl) (fun v53 M53 h53 => ?_)
          obtain ⟨e53, q53⟩ := h53
          rw [q53]
          clear q53
          rw [in_out (lo := 0) (hi := 1) (by decide) (by decide)] at e53
          subst e53
          refine ex_if_ne (t := 63) F dX8_witch_56 (by decide) (fun c56 => ?_) (fun c56 => ?_)
          · have z1 : outB n0 1 12 = false := by simpa using b2i_1.mp c9
            have hk0 : outB k0 0 n0 = false := by simpa using b2i_1.mp c20
            have z3 : outB b0 1 9 = false := by simpa using b2i_1.mp c33
            have ha0 : outB a0 0 b0 = false := by simpa using b2i_1.mp c45
            have z5 : outB wh 0 1 = false := by simpa using b2i_1.mp c56
            have hbad : ¬ badWitch n0 k0 a0 b0 wh = true := by simp [badWitch, z1, hk0, z3, ha0, z5]
            obtain ⟨n, n1, n2, en⟩ := outB_n (a := 1) (b := 12) (by decide) z1 (by decide)
            obtain ⟨b, b1, b2, eb⟩ := outB_n (a := 1) (b := 9) (by decide) z3 (by decide)
            rw [en] at hk0
            rw [eb] at ha0
            obtain ⟨k, -, k2, ek⟩ := outB_n (a := 0) (b := n) (by omega) hk0 (by decide)
            obtain ⟨a, -, a2, ea⟩ := outB_n (a := 0) (b := b) (by omega) ha0 (by decide)
            have e1 : n0.toNatClampNeg = n := by rw [en]; exact nI_clamp (by omega)
            have e2 : k0.toNatClampNeg = k := by rw [ek]; exact nI_clamp (by omega)
            have e3 : a0.toNatClampNeg = a := by rw [ea]; exact nI_clamp (by omega)
            have e4 : b0.toNatClampNeg = b := by rw [eb]; exact nI_clamp (by omega)
            simp only [if_neg hbad, e1, e2, e3, e4] at R
            clear hbad e1 e2 e3 e4 c9 c20 c33 c45 z1 z3 hk0 ha0
            subst en; subst eb; subst ek; subst ea
            refine ex_lconst (v := 0) F dX8_witch_63 (by decide) ?_
            refine ex_lstore F dX8_witch_64 (by decide) ?_
            refine ex_lconst (v := 1) F dX8_witch_66 (by decide) ?_
            refine ex_lstore F dX8_witch_67 (by decide) ?_
            refine ex_iconst (v := 0) F dX8_witch_69 (by decide) ?_
            refine ex_istore F dX8_witch_70 (by decide) ?_
            have key : ∀ (m i : Nat) (v : Int32), i + m = n + 1 → v = nI i → EX x g (xmL YX8_witch) M 72 [(0, .ref (ad g 38)), (1, .int (nI n)), (2, .int (nI k)), (3, .int (nI a)), (4, .int (nI b)), (5, .int wh), (6, .long (lN (sumW n k a b i))), (8, .long (lN (wayN n i))), (10, .int v)] [] := by
              intro m
              induction m with
              | zero =>
                intro i v hi hv
                obtain rfl : i = n + 1 := by omega
                subst hv
                refine ex_iload F dX8_witch_72 rfl ?_
                refine ex_iload_n F dX8_witch_74 rfl rfl ?_
                refine ex_icmp_gt (t := 138) F dX8_witch_75 (by decide) (fun _ => ?_) (fun c => absurd (nI_lt (by omega) (by omega)) c)
                refine ex_lload F dX8_witch_138 rfl ?_
                refine ex_iload F dX8_witch_140 rfl ?_
                refine ex_i2l F dX8_witch_142 ?_
                refine ex_iload_n F dX8_witch_143 rfl rfl ?_
                refine ex_callSl F (c_X8_power (n := n) rfl (by omega)) dX8_witch_144 cs_X8_witch_243 rfl rfl (Nat.le_of_ble_eq_true rfl) (fun v144 M144 h144 => ?_)
                obtain ⟨e144, q144⟩ := h144
                rw [q144]
                clear q144
                rw [nI_l (by omega), sPow_n] at e144
                subst e144
                refine ex_iload F dX8_witch_147 rfl ?_
                refine ex_callSl F (c_X8_lowest (sumW_lt n2 b2 a2) (Nat.pow_pos (by omega)) (Nat.lt_of_le_of_lt (Nat.le_trans (Nat.pow_le_pow_left b2 _) (Nat.pow_le_pow_right (by decide) n2)) (by decide))) dX8_witch_149 cs_X8_witch_247 rfl rfl (Nat.le_of_ble_eq_true rfl) (fun v149 M149 h149 => ?_)
                obtain ⟨rfl, q149⟩ := h149
                rw [q149]
                clear q149
                exact ex_lret F R dX8_witch_152 rfl (⟨rfl, rfl⟩)
              | succ m ih =>
                intro i v hi hv
                subst hv
                have hw := way_le n (by omega) i (by omega)
                have h13 := pow13 (show i ≤ 13 by omega)
                have hwn : wayN n i * (n - i) ≤ 106993205379072 * 12 := Nat.mul_le_mul (Nat.le_trans hw h13) (by omega)
                refine ex_iload F dX8_witch_72 rfl ?_
                refine ex_iload_n F dX8_witch_74 rfl rfl ?_
                refine ex_icmp_gt (t := 138) F dX8_witch_75 (by decide) (fun c => absurd c (nI_nlt (by omega) (by omega))) (fun _ => ?_)
                refine ex_lload F dX8_witch_78 rfl ?_
                refine ex_iload F dX8_witch_80 rfl ?_
                refine ex_iload_n F dX8_witch_82 rfl rfl ?_
                refine ex_icmp_ge (t := 90) F dX8_witch_83 (by decide) (fun c83 => ?_) (fun c83 => ?_)
                · refine ex_lload F dX8_witch_90 rfl ?_
                  refine ex_iload_n F dX8_witch_92 rfl rfl ?_
                  refine ex_i2l F dX8_witch_93 ?_
                  refine ex_iload F dX8_witch_94 rfl ?_
                  refine ex_callSl F (c_X8_power (n := i) rfl (by omega)) dX8_witch_96 cs_X8_witch_243 rfl rfl (Nat.le_of_ble_eq_true rfl) (fun v96 M96 h96 => ?_)
                  obtain ⟨e96, q96⟩ := h96
                  rw [q96]
                  clear q96
                  rw [nI_l (by omega), sPow_n] at e96
                  subst e96
                  refine ex_lmul F dX8_witch_99 ?_
                  rw [lN_mul]
                  refine ex_iload F dX8_witch_100 rfl ?_
                  refine ex_iload_n F dX8_witch_102 rfl rfl ?_
                  refine ex_isub F dX8_witch_103 ?_
                  refine ex_i2l F dX8_witch_104 ?_
                  refine ex_iload_n F dX8_witch_105 rfl rfl ?_
                  refine ex_iload F dX8_witch_106 rfl ?_
                  refine ex_isub F dX8_witch_108 ?_
                  refine ex_callSl F (c_X8_power (n := n - i) (pk_sub (by omega)) (by omega)) dX8_witch_109 cs_X8_witch_243 rfl rfl (Nat.le_of_ble_eq_true rfl) (fun v109 M109 h109 => ?_)
                  obtain ⟨e109, q109⟩ := h109
                  rw [q109]
                  clear q109
                  rw [pk_sub (by omega), nI_l (by omega), sPow_n] at e109
                  subst e109
                  refine ex_lmul F dX8_witch_112 ?_
                  refine ex_ladd F dX8_witch_113 ?_
                  first | rw [lN_mul, lN_add] | rw [Int64.add_zero]
                  refine ex_lstore F dX8_witch_114 (by decide) ?_
                  refine ex_lload F dX8_witch_116 rfl ?_
                  refine ex_iload_n F dX8_witch_118 rfl rfl ?_
                  refine ex_iload F dX8_witch_119 rfl ?_
                  refine ex_isub F dX8_witch_121 ?_
                  refine ex_i2l F dX8_witch_122 ?_
                  refine ex_lmul F dX8_witch_123 ?_
                  refine ex_iload F dX8_witch_124 rfl ?_
                  refine ex_iconst (v := 1) F dX8_witch_126 (by decide) ?_
                  refine ex_iadd F dX8_witch_127 ?_
                  refine ex_i2l F dX8_witch_128 ?_
                  refine ex_ldiv F dX8_witch_129 (by rw [nI_1, nI_l (by omega)]; exact fun q => absurd ((pk_lEQ (b := 0) (by omega) (by decide)).mp q) (by omega)) ?_
                  refine ex_lstore F dX8_witch_130 (by decide) ?_
                  refine ex_iinc (w := _ + 1) F dX8_witch_132 rfl rfl (by decide) ?_
                  refine ex_goto (t := 72) F dX8_witch_135 (by decide) ?_
                  refine ex_weak2 (ih (i + 1) _ (by omega) (nI_1 i)) ⟨rfl, rfl, rfl, rfl, rfl, rfl, ?_, ?_, rfl, trivial⟩
                  · rw [sumW, if_pos ((nI_leI (by omega) (by omega)).mp c83)]; rfl
                  · refine congrArg (fun z => some (Value.long z)) ?_
                    rw [pk_sub (by omega), nI_l (by omega), nI_1, nI_l (by omega), lN_mul, pk_lDiv (by omega) (by omega) (by omega)]
                    rfl
                · refine ex_lconst (v := 0) F dX8_witch_86 (by decide) ?_
                  refine ex_goto (t := 113) F dX8_witch_87 (by decide) ?_
                  refine ex_ladd F dX8_witch_113 ?_
                  first | rw [lN_mul, lN_add] | rw [Int64.add_zero]
                  refine ex_lstore F dX8_witch_114 (by decide) ?_
                  refine ex_lload F dX8_witch_116 rfl ?_
                  refine ex_iload_n F dX8_witch_118 rfl rfl ?_
                  refine ex_iload F dX8_witch_119 rfl ?_
                  refine ex_isub F dX8_witch_121 ?_
                  refine ex_i2l F dX8_witch_122 ?_
                  refine ex_lmul F dX8_witch_123 ?_
                  refine ex_iload F dX8_witch_124 rfl ?_
                  refine ex_iconst (v := 1) F dX8_witch_126 (by decide) ?_
                  refine ex_iadd F dX8_witch_127 ?_
                  refine ex_i2l F dX8_witch_128 ?_
                  refine ex_ldiv F dX8_witch_129 (by rw [nI_1, nI_l (by omega)]; exact fun q => absurd ((pk_lEQ (b := 0) (by omega) (by decide)).mp q) (by omega)) ?_
                  refine ex_lstore F dX8_witch_130 (by decide) ?_
                  refine ex_iinc (w := _ + 1) F dX8_witch_132 rfl rfl (by decide) ?_
                  refine ex_goto (t := 72) F dX8_witch_135 (by decide) ?_
                  refine ex_weak2 (ih (i + 1) _ (by omega) (nI_1 i)) ⟨rfl, rfl, rfl, rfl, rfl, rfl, ?_, ?_, rfl, trivial⟩
                  · rw [sumW, if_neg (fun q => absurd (nI_le q (by omega)) c83)]; rfl
                  · refine congrArg (fun z => some (Value.long z)) ?_
                    rw [pk_sub (by omega), nI_l (by omega), nI_1, nI_l (by omega), lN_mul, pk_lDiv (by omega) (by omega) (by omega)]
                    rfl
            exact ex_weak2 (key (n + 1) 0 _ (by omega) rfl) ⟨rfl, rfl, rfl, rfl, rfl, rfl, rfl, rfl, rfl, trivial⟩
          · refine ex_ldc2 F dX8_witch_59 kc_X8_251 ?_
            exact ex_lret F R dX8_witch_62 rfl (⟨by rw [if_pos (by have z9 := b2i_1.mp c9; have z20 := b2i_1.mp c20; have z33 := b2i_1.mp c33; have z45 := b2i_1.mp c45; have z56 := b2i_0.mp c56; simp_all [badWitch])], rfl⟩)
theorem pass_6 {f : Nat → Int32} {i : Nat} (h1 : 1 ≤ i) (h7 : i < 7) : 2 * (if i + 1 < 7 then f (i + 1) else 0) = sPass f i := by
  unfold sPass
  rw [if_neg (show ¬ i = 0 by omega)]
  by_cases h : i < 6
  · rw [if_pos h, if_pos (show i + 1 < 7 by omega)]
  · rw [if_neg h, if_neg (show ¬ i + 1 < 7 by omega)]; rfl
theorem cs_X8_layWet_78 : CSS (xmN YX8_layWet).cls (xmF YX8_layWet) (xmW YX8_layWet) 78 3 YX8_in := ⟨⟨ml_X8_78, ini_X8, cd_X8_in, by decide +kernel, by decide⟩, st_X8_in⟩
set_option maxRecDepth 100000 in
theorem c_X8_layWet {l : Launch} {g : XG} {M : Mem} {v0 p : Int32} : Call l g YX8_layWet [.ref (ad g 38), .int v0, .int p] M (PI (fun v M' => v = b2i (!badWater v0 p) ∧ jM M M' ∧ (badWater v0 p = false → ∀ k, k < 7 → M' 55 k = sWat v0 p.toNatClampNeg k))) := by
  refine call_of (by decide +kernel) (Nat.le_of_ble_eq_true rfl) (fun x hxl F R => ?_)
  subst hxl
  refine ex_iload_n F dX8_layWet_0 rfl rfl ?_
  refine ex_i2l F dX8_layWet_1 ?_
  refine ex_lconst (v := 0) F dX8_layWet_2 (by decide) ?_
  refine ex_ldc2 F dX8_layWet_3 kc_X8_253 ?_
  refine ex_callSi F (c_X8_in) dX8_layWet_6 cs_X8_layWet_78 rfl rfl (Nat.le_of_ble_eq_true rfl) (fun v6 M6 h6 => ?_)
  obtain ⟨e6, q6⟩ := h6
  rw [q6]
  clear q6
  rw [in_out (lo := 0) (hi := 9999999) (by decide) (by decide)] at e6
  subst e6
  refine ex_if_eq (t := 24) F dX8_layWet_9 (by decide) (fun c9 => ?_) (fun c9 => ?_)
  · refine ex_iconst (v := 0) F dX8_layWet_24 (by decide) ?_
    exact ex_zret (ty := .boolean) F R dX8_layWet_25 rfl (rfl) (⟨by rw [show badWater v0 p = true from or_l (by simpa using b2i_0.mp c9)]; rfl, jM_rf M, fun q => by rw [show badWater v0 p = true from or_l (by simpa using b2i_0.mp c9)] at q; exact absurd q (by decide)⟩)
  · refine ex_iload_n F dX8_layWet_12 rfl rfl ?_
    refine ex_i2l F dX8_layWet_13 ?_
    refine ex_lconst (v := 0) F dX8_layWet_14 (by decide) ?_
    refine ex_ldc2 F dX8_layWet_15 kc_X8_165 ?_
    refine ex_callSi F (c_X8_in) dX8_layWet_18 cs_X8_layWet_78 rfl rfl (Nat.le_of_ble_eq_true rfl) (fun v18 M18 h18 => ?_)
    obtain ⟨e18, q18⟩ := h18
    rw [q18]
    clear q18
    rw [in_out (lo := 0) (hi := 6) (by decide) (by decide)] at e18
    subst e18
    refine ex_if_ne (t := 26) F dX8_layWet_21 (by decide) (fun c21 => ?_) (fun c21 => ?_)
    · refine ex_iload_n F dX8_layWet_26 rfl rfl ?_
      refine ex_istore_n F dX8_layWet_27 rfl (by decide) ?_
      refine ex_iconst (v := 0) F dX8_layWet_28 (by decide) ?_
      refine ex_istore F dX8_layWet_29 (by decide) ?_
      have z1 : outB v0 0 9999999 = false := by simpa using b2i_1.mp c9
      have z2 : outB p 0 6 = false := by simpa using b2i_1.mp c21
      have hbad : badWater v0 p = false := or_n z1 z2
      obtain ⟨pp, -, lp, rfl⟩ := outB_n (a := 0) (b := 6) (by decide) z2 (by decide)
      rw [nI_clamp (show pp < 2 ^ 31 by omega)] at R
      have key2 : ∀ (m j : Nat) (u z : Int32) (N : Mem), j + m = pp → u = nI j → jM M N → (∀ k, k < 8 → N 55 k = if k < 7 then sWat v0 j k else 0) → EX x g (xmL YX8_layWet) N 71 [(0, .ref (ad g 38)), (1, .int v0), (2, .int (nI pp)), (3, .int z), (4, .int u)] [] := by
        intro m
        induction m with
        | zero =>
          intro j u z N hj hu h1 h2
          obtain rfl : j = pp := by omega
          subst hu
          refine ex_iload F dX8_layWet_71 rfl ?_
          refine ex_iload_n F dX8_layWet_73 rfl rfl ?_
          refine ex_icmp_ge (t := 134) F dX8_layWet_74 (by decide) (fun _ => ?_) (fun c => absurd (Int32.le_refl _) c)
          refine ex_iconst (v := 1) F dX8_layWet_134 (by decide) ?_
          exact ex_zret (ty := .boolean) F R dX8_layWet_135 rfl (rfl) (⟨by rw [hbad]; rfl, h1, fun _ k hk => by rw [h2 k (by omega), if_pos hk]⟩)
        | succ m ih =>
          intro j u z N hj hu h1 h2
          subst hu
          have inner : ∀ (d i : Nat) (t : Int32) (N1 : Mem), i + d = 7 → 1 ≤ i → t = nI i → jM M N1 → (∀ k, k < 8 → N1 55 k = if k < i then sPass (sWat v0 j) k else if k < 7 then sWat v0 j k else 0) → EX x g (xmL YX8_layWet) N1 97 [(0, .ref (ad g 38)), (1, .int v0), (2, .int (nI pp)), (3, .int z), (4, .int (nI j)), (5, .int t)] [] := by
            intro d
            induction d with
            | zero =>
              intro i t N1 hi h1i ht g1 g2
              obtain rfl : i = 7 := by omega
              subst ht
              refine ex_iload F dX8_layWet_97 rfl ?_
              refine ex_bipush (v := 7) F dX8_layWet_99 (by decide) ?_
              refine ex_icmp_ge (t := 128) F dX8_layWet_101 (by decide) (fun _ => ?_) (fun c => absurd (by decide) c)
              refine ex_iinc (w := _ + 1) F dX8_layWet_128 rfl rfl (by decide) ?_
              refine ex_goto (t := 71) F dX8_layWet_131 (by decide) ?_
              refine ex_weak2 (ih (j + 1) _ z N1 (by omega) (nI_1 j) g1 (fun k hk => ?_)) ⟨rfl, rfl, rfl, rfl, rfl, trivial⟩
              rw [g2 k hk]
              by_cases e : k < 7
              · rw [if_pos e, if_pos e]; rfl
              · rw [if_neg e, if_neg e, if_neg e]
            | succ d ih2 =>
              intro i t N1 hi h1i ht g1 g2
              subst ht
              refine ex_iload F dX8_layWet_97 rfl ?_
              refine ex_bipush (v := 7) F dX8_layWet_99 (by decide) ?_
              refine ex_icmp_ge (t := 128) F dX8_layWet_101 (by decide) (fun c => absurd c (nI_ge (b := 7) (by omega) (by decide))) (fun _ => ?_)
              refine ex_aload_n F dX8_layWet_104 rfl rfl ?_
              refine gf_8_29 F dX8_layWet_105 fl_X8_58 ?_
              refine ex_iload F dX8_layWet_108 rfl ?_
              refine ex_iconst (v := 2) F dX8_layWet_110 (by decide) ?_
              refine ex_aload_n F dX8_layWet_111 rfl rfl ?_
              refine gf_8_29 F dX8_layWet_112 fl_X8_58 ?_
              refine ex_iload F dX8_layWet_115 rfl ?_
              refine ex_iconst (v := 1) F dX8_layWet_117 (by decide) ?_
              refine ex_iadd F dX8_layWet_118 ?_
              refine ex_iald (n := 8) F dX8_layWet_119 (by decide) (by rw [nI_1]; exact vp_in_nI (by omega) (by decide)) (j := i + 1) (by rw [nI_1]; exact nI_clamp (by omega)) ?_
              refine ex_imul F dX8_layWet_120 ?_
              refine ex_iast (n := 8) F dX8_layWet_121 (by decide) (vp_in_nI (by omega) (by decide)) (j := i) (nI_clamp (by omega)) ?_
              refine ex_iinc (w := _ + 1) F dX8_layWet_122 rfl rfl (by decide) ?_
              refine ex_goto (t := 97) F dX8_layWet_125 (by decide) ?_
              refine ex_weak2 (ih2 (i + 1) _ _ (by omega) (by omega) (nI_1 i) (jM_tr g1 (jM_55 _ _)) (fun k hk => ?_)) ⟨rfl, rfl, rfl, rfl, rfl, rfl, trivial⟩
              by_cases e : k = i
              · subst e
                rw [mu_same, if_pos (by omega), g2 (k + 1) (by omega), if_neg (show ¬ k + 1 < k by omega), pass_6 h1i (by omega)]
              · rw [mu_j _ _ _ _ _ e, g2 k hk]
                by_cases e2 : k < i
                · rw [if_pos e2, if_pos (show k < i + 1 by omega)]
                · rw [if_neg e2, if_neg (show ¬ k < i + 1 by omega)]
          refine ex_iload F dX8_layWet_71 rfl ?_
          refine ex_iload_n F dX8_layWet_73 rfl rfl ?_
          refine ex_icmp_ge (t := 134) F dX8_layWet_74 (by decide) (fun c => absurd c (nI_ge (by omega) (by omega))) (fun _ => ?_)
          refine ex_aload_n F dX8_layWet_77 rfl rfl ?_
          refine gf_8_29 F dX8_layWet_78 fl_X8_58 ?_
          refine ex_iconst (v := 0) F dX8_layWet_81 (by decide) ?_
          refine ex_dup2 F dX8_layWet_82 rfl rfl ?_
          refine ex_iald (n := 8) F dX8_layWet_83 (by decide) (vpd (by decide)) (j := 0) (by decide) ?_
          refine ex_iconst (v := 2) F dX8_layWet_84 (by decide) ?_
          refine ex_aload_n F dX8_layWet_85 rfl rfl ?_
          refine gf_8_29 F dX8_layWet_86 fl_X8_58 ?_
          refine ex_iconst (v := 1) F dX8_layWet_89 (by decide) ?_
          refine ex_iald (n := 8) F dX8_layWet_90 (by decide) (vpd (by decide)) (j := 1) (by decide) ?_
          refine ex_imul F dX8_layWet_91 ?_
          refine ex_iadd F dX8_layWet_92 ?_
          refine ex_iast (n := 8) F dX8_layWet_93 (by decide) (vpd (by decide)) (j := 0) (by decide) ?_
          refine ex_iconst (v := 1) F dX8_layWet_94 (by decide) ?_
          refine ex_istore F dX8_layWet_95 (by decide) ?_
          refine ex_weak2 (inner 6 1 _ _ (by omega) (by omega) rfl (jM_tr h1 (jM_55 _ _)) (fun k hk => ?_)) ⟨rfl, rfl, rfl, rfl, rfl, rfl, trivial⟩
          by_cases e : k = 0
          · subst e
            rw [mu_same, h2 0 (by decide), h2 1 (by decide)]; rfl
          · rw [mu_j _ _ _ _ _ e, h2 k hk, if_neg (show ¬ k < 1 by omega)]
      have key1 : ∀ (m i : Nat) (u z : Int32) (N : Mem), i + m = 7 → u = nI i → z = figN v0 i → jM M N → (∀ k, k < i → N 55 k = sDig v0 k) → EX x g (xmL YX8_layWet) N 31 [(0, .ref (ad g 38)), (1, .int v0), (2, .int (nI pp)), (3, .int z), (4, .int u)] [] := by
        intro m
        induction m with
        | zero =>
          intro i u z N hi hu hz h1 h2
          obtain rfl : i = 7 := by omega
          subst hu
          refine ex_iload F dX8_layWet_31 rfl ?_
          refine ex_bipush (v := 7) F dX8_layWet_33 (by decide) ?_
          refine ex_icmp_ge (t := 60) F dX8_layWet_35 (by decide) (fun _ => ?_) (fun c => absurd (by decide) c)
          refine ex_aload_n F dX8_layWet_60 rfl rfl ?_
          refine gf_8_29 F dX8_layWet_61 fl_X8_58 ?_
          refine ex_bipush (v := 7) F dX8_layWet_64 (by decide) ?_
          refine ex_iconst (v := 0) F dX8_layWet_66 (by decide) ?_
          refine ex_iast (n := 8) F dX8_layWet_67 (by decide) (vpd (by decide)) (j := 7) (by decide) ?_
          refine ex_iconst (v := 0) F dX8_layWet_68 (by decide) ?_
          refine ex_istore F dX8_layWet_69 (by decide) ?_
          refine ex_weak2 (key2 pp 0 _ z _ (by omega) rfl (jM_tr h1 (jM_55 _ _)) (fun k hk => ?_)) ⟨rfl, rfl, rfl, rfl, rfl, trivial⟩
          by_cases e : k = 7
          · subst e; rw [mu_same, if_neg (by decide)]
          · rw [mu_j _ _ _ _ _ e, h2 k (by omega), if_pos (by omega)]; rfl
        | succ m ih =>
          intro i u z N hi hu hz h1 h2
          subst hu
          refine ex_iload F dX8_layWet_31 rfl ?_
          refine ex_bipush (v := 7) F dX8_layWet_33 (by decide) ?_
          refine ex_icmp_ge (t := 60) F dX8_layWet_35 (by decide) (fun c => absurd c (nI_ge (b := 7) (by omega) (by decide))) (fun _ => ?_)
          refine ex_aload_n F dX8_layWet_38 rfl rfl ?_
          refine gf_8_29 F dX8_layWet_39 fl_X8_58 ?_
          refine ex_iload F dX8_layWet_42 rfl ?_
          refine ex_iload_n F dX8_layWet_44 rfl rfl ?_
          refine ex_bipush (v := 10) F dX8_layWet_45 (by decide) ?_
          refine ex_irem F dX8_layWet_47 (by decide) ?_
          refine ex_iast (n := 8) F dX8_layWet_48 (by decide) (vp_in_nI (by omega) (by decide)) (j := i) (nI_clamp (by omega)) ?_
          refine ex_iload_n F dX8_layWet_49 rfl rfl ?_
          refine ex_bipush (v := 10) F dX8_layWet_50 (by decide) ?_
          refine ex_idiv F dX8_layWet_52 (by decide) ?_
          refine ex_istore_n F dX8_layWet_53 rfl (by decide) ?_
          refine ex_iinc (w := _ + 1) F dX8_layWet_54 rfl rfl (by decide) ?_
          refine ex_goto (t := 31) F dX8_layWet_57 (by decide) ?_
          refine ex_weak2 (ih (i + 1) _ _ _ (by omega) (nI_1 i) (by rw [hz]; rfl) (jM_tr h1 (jM_55 _ _)) (fun k hk => ?_)) ⟨rfl, rfl, rfl, rfl, rfl, trivial⟩
          by_cases e : k = i
          · subst e; rw [mu_same, hz]; rfl
          · rw [mu_j _ _ _ _ _ e]; exact h2 k (by omega)
      exact ex_weak2 (key1 7 0 _ _ M (by omega) rfl rfl (jM_rf M) (fun k hk => absurd hk (Nat.not_lt_zero k))) ⟨rfl, rfl, rfl, rfl, rfl, trivial⟩
    · refine ex_iconst (v := 0) F dX8_layWet_24 (by decide) ?_
      exact ex_zret (ty := .boolean) F R dX8_layWet_25 rfl (rfl) (⟨by rw [show badWater v0 p = true from or_r (by simpa using b2i_0.mp c21)]; rfl, jM_rf M, fun q => by rw [show badWater v0 p = true from or_r (by simpa using b2i_0.mp c21)] at q; exact absurd q (by decide)⟩)
theorem cs_X8_worked_255 : CSV (xmN YX8_worked).cls (xmF YX8_worked) (xmW YX8_worked) 255 2 YX8_layWet := ⟨⟨ml_X8_255, ini_X8, cd_X8_layWet, by decide +kernel, by decide⟩, im_X8_layWet, se_X8_layWet⟩
theorem cs_X8_worked_78 : CSS (xmN YX8_worked).cls (xmF YX8_worked) (xmW YX8_worked) 78 3 YX8_in := ⟨⟨ml_X8_78, ini_X8, cd_X8_in, by decide +kernel, by decide⟩, st_X8_in⟩
set_option maxRecDepth 100000 in
theorem c_X8_worked {l : Launch} {g : XG} {M : Mem} {v0 p k0 : Int32} : Call l g YX8_worked [.ref (ad g 38), .int v0, .int p, .int k0] M (PI (fun v M' => v = (if (badWater v0 p || outB k0 0 6) = true then -1 else sWat v0 p.toNatClampNeg k0.toNatClampNeg) ∧ jM M M')) := by
  refine call_of (by decide +kernel) (Nat.le_of_ble_eq_true rfl) (fun x hxl F R => ?_)
  subst hxl
  refine ex_aload_n F dX8_worked_0 rfl rfl ?_
  refine ex_iload_n F dX8_worked_1 rfl rfl ?_
  refine ex_iload_n F dX8_worked_2 rfl rfl ?_
  refine ex_callVi F (c_X8_layWet) dX8_worked_3 cs_X8_worked_255 ob_8 rfl rfl rfl rfl (Nat.le_of_ble_eq_true rfl) (fun v3 M3 h3 => ?_)
  obtain ⟨rfl, w2, w3⟩ := h3
  refine ex_if_eq (t := 30) F dX8_worked_6 (by decide) (fun c6 => ?_) (fun c6 => ?_)
  · refine ex_iconst (v := -1) F dX8_worked_30 (by decide) ?_
    exact ex_iret F R dX8_worked_31 rfl (⟨by rw [ift (or_l (by simpa using b2i_0.mp c6))], w2⟩)
  · refine ex_iload_n F dX8_worked_9 rfl rfl ?_
    refine ex_i2l F dX8_worked_10 ?_
    refine ex_lconst (v := 0) F dX8_worked_11 (by decide) ?_
    refine ex_ldc2 F dX8_worked_12 kc_X8_165 ?_
    refine ex_callSi F (c_X8_in) dX8_worked_15 cs_X8_worked_78 rfl rfl (Nat.le_of_ble_eq_true rfl) (fun v15 M15 h15 => ?_)
    obtain ⟨e15, q15⟩ := h15
    rw [q15]
    clear q15
    rw [in_out (lo := 0) (hi := 6) (by decide) (by decide)] at e15
    subst e15
    refine ex_if_eq (t := 30) F dX8_worked_18 (by decide) (fun c18 => ?_) (fun c18 => ?_)
    · refine ex_iconst (v := -1) F dX8_worked_30 (by decide) ?_
      exact ex_iret F R dX8_worked_31 rfl (⟨by rw [ift (or_r (by simpa using b2i_0.mp c18))], w2⟩)
    · have hb : badWater v0 p = false := by simpa using b2i_1.mp c6
      have z2 : outB k0 0 6 = false := by simpa using b2i_1.mp c18
      obtain ⟨kk, -, lk, rfl⟩ := outB_n (a := 0) (b := 6) (by decide) z2 (by decide)
      refine ex_aload_n F dX8_worked_21 rfl rfl ?_
      refine gf_8_29 F dX8_worked_22 fl_X8_58 ?_
      refine ex_iload_n F dX8_worked_25 rfl rfl ?_
      refine ex_iald (n := 8) F dX8_worked_26 (by decide) (vp_in_nI (by omega) (by decide)) (j := kk) (nI_clamp (by omega)) ?_
      refine ex_goto (t := 31) F dX8_worked_27 (by decide) ?_
      exact ex_iret F R dX8_worked_31 rfl (⟨by rw [ifn (or_n hb z2), nI_clamp (by omega)]; exact w3 hb kk (by omega), w2⟩)
theorem cs_X8_keeps_255 : CSV (xmN YX8_keeps).cls (xmF YX8_keeps) (xmW YX8_keeps) 255 2 YX8_layWet := ⟨⟨ml_X8_255, ini_X8, cd_X8_layWet, by decide +kernel, by decide⟩, im_X8_layWet, se_X8_layWet⟩
set_option maxRecDepth 100000 in
theorem c_X8_keeps {l : Launch} {g : XG} {M : Mem} {v0 p : Int32} : Call l g YX8_keeps [.ref (ad g 38), .int v0, .int p] M (PI (fun v M' => v = (if badWater v0 p = true then -1 else (64 : Int32) >>> (sGreat (sWat v0 p.toNatClampNeg) 7 &&& 31)) ∧ jM M M')) := by
  refine call_of (by decide +kernel) (Nat.le_of_ble_eq_true rfl) (fun x hxl F R => ?_)
  subst hxl
  refine ex_aload_n F dX8_keeps_0 rfl rfl ?_
  refine ex_iload_n F dX8_keeps_1 rfl rfl ?_
  refine ex_iload_n F dX8_keeps_2 rfl rfl ?_
  refine ex_callVi F (c_X8_layWet) dX8_keeps_3 cs_X8_keeps_255 ob_8 rfl rfl rfl rfl (Nat.le_of_ble_eq_true rfl) (fun v3 M3 h3 => ?_)
  obtain ⟨rfl, w2, w3⟩ := h3
  refine ex_if_ne (t := 11) F dX8_keeps_6 (by decide) (fun c6 => ?_) (fun c6 => ?_)
  · refine ex_iconst (v := 0) F dX8_keeps_11 (by decide) ?_
    refine ex_istore_n F dX8_keeps_12 rfl (by decide) ?_
    refine ex_iconst (v := 0) F dX8_keeps_13 (by decide) ?_
    refine ex_istore F dX8_keeps_14 (by decide) ?_
    have hb : badWater v0 p = false := by simpa using b2i_1.mp c6
    have w4 := w3 hb
    rw [ifn hb] at R
    have key : ∀ (m i : Nat) (o u : Int32), i + m = 7 → u = nI i → o = sGreat (sWat v0 p.toNatClampNeg) i → EX x g (xmL YX8_keeps) M3 16 [(0, .ref (ad g 38)), (1, .int v0), (2, .int p), (3, .int o), (4, .int u)] [] := by
      intro m
      induction m with
      | zero =>
        intro i o u hi hu ho
        obtain rfl : i = 7 := by omega
        subst hu
        refine ex_iload F dX8_keeps_16 rfl ?_
        refine ex_bipush (v := 7) F dX8_keeps_18 (by decide) ?_
        refine ex_icmp_ge (t := 46) F dX8_keeps_20 (by decide) (fun _ => ?_) (fun c => absurd (by decide) c)
        refine ex_bipush (v := 64) F dX8_keeps_46 (by decide) ?_
        refine ex_iload_n F dX8_keeps_48 rfl rfl ?_
        refine ex_ishr F dX8_keeps_49 ?_
        exact ex_iret F R dX8_keeps_50 rfl (⟨by rw [← ho], w2⟩)
      | succ m ih =>
        intro i o u hi hu ho
        subst hu
        refine ex_iload F dX8_keeps_16 rfl ?_
        refine ex_bipush (v := 7) F dX8_keeps_18 (by decide) ?_
        refine ex_icmp_ge (t := 46) F dX8_keeps_20 (by decide) (fun c => absurd c (nI_ge (b := 7) (by omega) (by decide))) (fun _ => ?_)
        refine ex_aload_n F dX8_keeps_23 rfl rfl ?_
        refine gf_8_29 F dX8_keeps_24 fl_X8_58 ?_
        refine ex_iload F dX8_keeps_27 rfl ?_
        refine ex_iald (n := 8) F dX8_keeps_29 (by decide) (vp_in_nI (by omega) (by decide)) (j := i) (nI_clamp (by omega)) ?_
        refine ex_if_le (t := 38) F dX8_keeps_30 (by decide) (fun c30 => ?_) (fun c30 => ?_)
        · refine ex_iload_n F dX8_keeps_38 rfl rfl ?_
          refine ex_istore_n F dX8_keeps_39 rfl (by decide) ?_
          refine ex_iinc (w := _ + 1) F dX8_keeps_40 rfl rfl (by decide) ?_
          refine ex_goto (t := 16) F dX8_keeps_43 (by decide) ?_
          exact ex_weak2 (ih (i + 1) _ _ (by omega) (nI_1 i) (by rw [w4 i (by omega)] at c30; rw [sGreat, if_neg (Int32.not_lt.mpr c30), ho])) ⟨rfl, rfl, rfl, rfl, rfl, trivial⟩
        · refine ex_iload F dX8_keeps_33 rfl ?_
          refine ex_goto (t := 39) F dX8_keeps_35 (by decide) ?_
          refine ex_istore_n F dX8_keeps_39 rfl (by decide) ?_
          refine ex_iinc (w := _ + 1) F dX8_keeps_40 rfl rfl (by decide) ?_
          refine ex_goto (t := 16) F dX8_keeps_43 (by decide) ?_
          exact ex_weak2 (ih (i + 1) _ _ (by omega) (nI_1 i) (by rw [w4 i (by omega)] at c30; rw [sGreat, if_pos (Int32.not_le.mp c30)])) ⟨rfl, rfl, rfl, rfl, rfl, trivial⟩
    exact ex_weak2 (key 7 0 _ _ (by omega) rfl rfl) ⟨rfl, rfl, rfl, rfl, rfl, trivial⟩
  · refine ex_iconst (v := -1) F dX8_keeps_9 (by decide) ?_
    exact ex_iret F R dX8_keeps_10 rfl (⟨by rw [ift (by simpa using b2i_0.mp c6)], w2⟩)
