theorem sh8n (m : Nat) (h : m < 256) : (if 2 * (m * 16777216) < 4294967296 then ((m * 16777216 : Nat) : Int) else ((m * 16777216 : Nat) : Int) - 4294967296) / 16777216 = (if 2 * m < 256 then (m : Int) else (m : Int) - 256) := by
  split <;> split <;> omega
theorem sh8t (x : Int32) : x.toInt8.toInt32.toInt = (x.toBitVec.setWidth 8).toInt := by
  rw [Int8.toInt_toInt32]
  show (x.toBitVec.signExtend 8).toInt = _
  rw [BitVec.signExtend_eq_setWidth_of_le _ (by decide)]
theorem sh16n (m : Nat) (h : m < 65536) : (if 2 * (m * 65536) < 4294967296 then ((m * 65536 : Nat) : Int) else ((m * 65536 : Nat) : Int) - 4294967296) / 65536 = (if 2 * m < 65536 then (m : Int) else (m : Int) - 65536) := by
  split <;> split <;> omega
theorem sh8k (y : BitVec 32) (b : BitVec 32) (h1 : y.toNat = b.toNat * 2 ^ 24 % 2 ^ 32) : y.toInt >>> (24:Nat) = (b.setWidth 8).toInt := by
  rw [BitVec.toInt_eq_toNat_cond, BitVec.toInt_eq_toNat_cond, h1, BitVec.toNat_setWidth, Int.shiftRight_eq_div_pow]
  rw [show b.toNat * 2 ^ 24 % 2 ^ 32 = (b.toNat % 256) * 16777216 from Nat.mul_mod_mul_right 16777216 b.toNat 256]
  exact sh8n _ (Nat.mod_lt _ (by decide))
theorem sh16k (y : BitVec 32) (b : BitVec 32) (h1 : y.toNat = b.toNat * 2 ^ 16 % 2 ^ 32) : y.toInt >>> (16:Nat) = (b.setWidth 16).toInt := by
  rw [BitVec.toInt_eq_toNat_cond, BitVec.toInt_eq_toNat_cond, h1, BitVec.toNat_setWidth, Int.shiftRight_eq_div_pow]
  rw [show b.toNat * 2 ^ 16 % 2 ^ 32 = (b.toNat % 65536) * 65536 from Nat.mul_mod_mul_right 65536 b.toNat 65536]
  exact sh16n _ (Nat.mod_lt _ (by decide))
theorem sh16t (x : Int32) : x.toInt16.toInt32.toInt = (x.toBitVec.setWidth 16).toInt := by
  rw [Int16.toInt_toInt32]
  show (x.toBitVec.signExtend 16).toInt = _
  rw [BitVec.signExtend_eq_setWidth_of_le _ (by decide)]
theorem sh8 (x : Int32) : (x <<< ((24 : Int32) &&& 31)) >>> ((24 : Int32) &&& 31) = x.toInt8.toInt32 := by
  apply Int32.toInt_inj.mp
  rw [pk_shr _ _ 24 (by decide), sh8t]
  exact sh8k _ _ (pk_shl x ((24 : Int32) &&& 31) 24 (by decide))
theorem sh16 (x : Int32) : (x <<< ((16 : Int32) &&& 31)) >>> ((16 : Int32) &&& 31) = x.toInt16.toInt32 := by
  apply Int32.toInt_inj.mp
  rw [pk_shr _ _ 16 (by decide), sh16t]
  exact sh16k _ _ (pk_shl x ((16 : Int32) &&& 31) 16 (by decide))
theorem sm_not {K M : Mem} {k : Nat} (h : SM K M k) (e : M 57 k = -4) : sThere K (27 + 2 * k) = false := by
  rcases h with ⟨-, q⟩ | ⟨la, z, h1, -, h2, -⟩
  · rw [sThere, q]; rfl
  · rw [h2] at e; exact absurd e (nI_m4 (by omega))
theorem sm_is {K M : Mem} {k : Nat} (h : SM K M k) (e : ¬ M 57 k = -4) : sThere K (27 + 2 * k) = true ∧ ∃ la z, la ≤ 2 ∧ z ≤ 40 ∧ M 57 k = nI la ∧ K (27 + 2 * k) 1 = nI la ∧ K (27 + 2 * k) 2 = nI z ∧ M 58 k = nI z ∧ ∀ j, j < 40 → M 59 (40 * k + j) = K (27 + 2 * k + 1) j := by
  rcases h with ⟨q, -⟩ | h
  · exact absurd q e
  · refine ⟨?_, h⟩
    obtain ⟨la, z, h1, h2, h3, h4, h5, -⟩ := h
    rw [sThere, h5, decide_eq_false (show ¬ nI z = -1 from fun q => by
      have q1 := congrArg Int32.toInt q
      rw [nI_toInt (by omega), show (-1 : Int32).toInt = -1 by decide] at q1
      omega)]; rfl
theorem out_len {z : Nat} (hz : z ≤ 40) (i : Int32) : outB i 0 (nI z - 1) = (decide (i < 0) || (decide (nI z ≤ i) || decide (40 ≤ i))) := by
  by_cases h0 : i < 0
  · rw [outB, decide_eq_true h0]; rfl
  · obtain ⟨j, hj, rfl⟩ := nI_of h0
    rw [outB, decide_eq_false h0, Bool.false_or, Bool.false_or]
    have e1 : decide (nI z - 1 < nI j) = decide (z ≤ j) := by
      rcases Nat.eq_zero_or_pos z with q | q
      · subst q
        rw [show nI 0 - 1 = -1 from rfl, decide_eq_true (show (-1 : Int32) < nI j from Int32.lt_of_lt_of_le (by decide) (Int32.not_lt.mp h0)), decide_eq_true (Nat.zero_le j)]
      · have e : nI z - 1 = nI (z - 1) := pk_sub (b := 1) q
        rw [e]
        exact decide_eq_decide.mpr ((nI_ltI (by omega) hj).trans ⟨fun h => by omega, fun h => by omega⟩)
    rw [e1, decide_eq_decide.mpr (nI_leI (show z < 2 ^ 31 by omega) hj), decide_eq_decide.mpr (show (40 : Int32) ≤ nI j ↔ 40 ≤ j from nI_leI (a := 40) (by decide) hj)]
    by_cases q : z ≤ j
    · rw [decide_eq_true q]; rfl
    · rw [decide_eq_false q, decide_eq_false (show ¬ 40 ≤ j by omega)]; rfl
theorem put_SM {K M : Mem} {kk j : Nat} {y : Int32} (h : RSh K M) (hk : kk < 4) (hj : j < 40) : RSh (mu K (27 + 2 * kk + 1) j y) (mu M 59 (40 * kk + j) y) := by
  intro k lk
  unfold SM
  rw [mu_k _ _ _ 57 _ (by decide), mu_k _ _ _ 58 _ (by decide), mu_k _ _ _ (27 + 2 * k) _ (by omega)]
  rcases h k lk with g | ⟨a, b, g1, g2, g3, g4, g5, g6, g7⟩
  · exact Or.inl g
  · refine Or.inr ⟨a, b, g1, g2, g3, g4, g5, g6, fun i hi => ?_⟩
    by_cases e : k = kk
    · subst e
      by_cases e2 : i = j
      · subst e2; rw [mu_same, mu_same]
      · rw [mu_j _ _ _ _ _ (by omega), mu_j _ _ _ _ _ e2]; exact g7 i hi
    · rw [mu_j _ _ _ _ _ (by omega), mu_k _ _ _ (27 + 2 * k + 1) _ (by omega)]; exact g7 i hi
theorem lane0 {K M : Mem} {q k : Nat} {la : Nat} {v : Int32} (h : M 57 k = nI la ∧ K q 1 = nI la) (c : M 57 k = 0) : sLane (K q 1) v = (v <<< ((24 : Int32) &&& 31)) >>> ((24 : Int32) &&& 31) := by rw [sLane, h.2, ← h.1, if_pos c, sh8]
theorem lane1 {K M : Mem} {q k : Nat} {la : Nat} {v : Int32} (h : M 57 k = nI la ∧ K q 1 = nI la) (c : M 57 k = 1) : sLane (K q 1) v = (v <<< ((16 : Int32) &&& 31)) >>> ((16 : Int32) &&& 31) := by rw [sLane, h.2, ← h.1, if_neg (by rw [c]; decide), if_pos c, sh16]
theorem lane2 {K M : Mem} {q k : Nat} {la : Nat} {v : Int32} (h : M 57 k = nI la ∧ K q 1 = nI la) (c : ¬ M 57 k = 0) (c2 : ¬ M 57 k = 1) : sLane (K q 1) v = v := by rw [sLane, h.2, ← h.1, if_neg c, if_neg c2]
theorem cs_X8_lay_78 : CSS (xmN YX8_lay).cls (xmF YX8_lay) (xmW YX8_lay) 78 3 YX8_in := ⟨⟨ml_X8_78, ini_X8, cd_X8_in, by decide +kernel, by decide⟩, st_X8_in⟩
set_option maxRecDepth 100000 in
theorem c_X8_lay {l : Launch} {g : XG} {M : Mem} {K : Mem} (hS : RSh K M) {k0 i0 v0 : Int32} : Call l g YX8_lay [.ref (ad g 38), .int k0, .int i0, .int v0] M (PI (fun v M' => v = (if outN k0 4 = true then -1 else if sPutF K (27 + 2 * k0.toNatClampNeg) i0 = 0 then 1 else -10 - sPutF K (27 + 2 * k0.toNatClampNeg) i0) ∧ RSh (if outN k0 4 = true then K else if sPutF K (27 + 2 * k0.toNatClampNeg) i0 = 0 then mu K (27 + 2 * k0.toNatClampNeg + 1) i0.toNatClampNeg (sLane (K (27 + 2 * k0.toNatClampNeg) 1) v0) else K) M' ∧ frSh M M')) := by
  refine call_of (by decide +kernel) (Nat.le_of_ble_eq_true rfl) (fun x hxl F R => ?_)
  subst hxl
  refine ex_iload_n F dX8_lay_0 rfl rfl ?_
  refine ex_i2l F dX8_lay_1 ?_
  refine ex_lconst (v := 0) F dX8_lay_2 (by decide) ?_
  refine ex_ldc2 F dX8_lay_3 kc_X8_220 ?_
  refine ex_callSi F (c_X8_in) dX8_lay_6 cs_X8_lay_78 rfl rfl (Nat.le_of_ble_eq_true rfl) (fun v6 M6 h6 => ?_)
  obtain ⟨e6, q6⟩ := h6
  rw [q6]
  clear q6
  rw [in_out (lo := 0) (hi := 3) (by decide) (by decide)] at e6
  subst e6
  rw [out4]
  refine ex_if_ne (t := 14) F dX8_lay_9 (by decide) (fun c9 => ?_) (fun c9 => ?_)
  · have z1 : outN k0 4 = false := by simpa using b2i_1.mp c9
    obtain ⟨kk, lk, rfl⟩ := outN_n (m := 4) (by decide) z1
    simp only [ifn z1, nI_clamp (show kk < 2 ^ 31 by omega)] at R
    have hSM := hS kk lk
    refine ex_aload_n F dX8_lay_14 rfl rfl ?_
    refine gf_8_31 F dX8_lay_15 fl_X8_65 ?_
    refine ex_iload_n F dX8_lay_18 rfl rfl ?_
    refine ex_iald (n := 4) F dX8_lay_19 (by decide) (vp_in_nI (by omega) (by decide)) (j := kk) (nI_clamp (by omega)) ?_
    refine ex_bipush (v := -4) F dX8_lay_20 (by decide) ?_
    refine ex_icmp_ne (t := 28) F dX8_lay_22 (by decide) (fun c22 => ?_) (fun c22 => ?_)
    · obtain ⟨hth, la, z, l2, lz, g1, g2, g3, g4, g5⟩ := sm_is hSM c22
      have hla : M 57 kk = nI la ∧ K (27 + 2 * kk) 1 = nI la := ⟨g1, g2⟩
      refine ex_iload_n F dX8_lay_28 rfl rfl ?_
      refine ex_i2l F dX8_lay_29 ?_
      refine ex_lconst (v := 0) F dX8_lay_30 (by decide) ?_
      refine ex_aload_n F dX8_lay_31 rfl rfl ?_
      refine gf_8_32 F dX8_lay_32 fl_X8_68 ?_
      refine ex_iload_n F dX8_lay_35 rfl rfl ?_
      refine ex_iald (n := 4) F dX8_lay_36 (by decide) (vp_in_nI (by omega) (by decide)) (j := kk) (nI_clamp (by omega)) ?_
      refine ex_iconst (v := 1) F dX8_lay_37 (by decide) ?_
      refine ex_isub F dX8_lay_38 ?_
      refine ex_i2l F dX8_lay_39 ?_
      rw [g4]
      refine ex_callSi F (c_X8_in) dX8_lay_40 cs_X8_lay_78 rfl rfl (Nat.le_of_ble_eq_true rfl) (fun v40 M40 h40 => ?_)
      obtain ⟨e40, q40⟩ := h40
      rw [q40]
      clear q40
      rw [in_out (lo := 0) (hi := nI z - 1) (by decide) rfl] at e40
      subst e40
      refine ex_if_ne (t := 49) F dX8_lay_43 (by decide) (fun c43 => ?_) (fun c43 => ?_)
      · have z2 : outB i0 0 (nI z - 1) = false := by simpa using b2i_1.mp c43
        have hp : sPutF K (27 + 2 * kk) i0 = 0 := by rw [sPutF, ift hth, g3, ← out_len lz, ifn z2]
        rw [out_len lz] at z2
        simp only [Bool.or_eq_false_iff, decide_eq_false_iff_not] at z2
        obtain ⟨ii, li, rfl⟩ := nI_of z2.1
        have lii : ii < 40 := nI_ltof li z2.2.2
        simp only [if_pos hp, nI_clamp li] at R
        refine ex_aload_n F dX8_lay_49 rfl rfl ?_
        refine gf_8_33 F dX8_lay_50 fl_X8_71 ?_
        refine ex_bipush (v := 40) F dX8_lay_53 (by decide) ?_
        refine ex_iload_n F dX8_lay_55 rfl rfl ?_
        refine ex_imul F dX8_lay_56 ?_
        refine ex_iload_n F dX8_lay_57 rfl rfl ?_
        refine ex_iadd F dX8_lay_58 ?_
        refine ex_aload_n F dX8_lay_59 rfl rfl ?_
        refine gf_8_31 F dX8_lay_60 fl_X8_65 ?_
        refine ex_iload_n F dX8_lay_63 rfl rfl ?_
        refine ex_iald (n := 4) F dX8_lay_64 (by decide) (vp_in_nI (by omega) (by decide)) (j := kk) (nI_clamp (by omega)) ?_
        refine ex_if_ne (t := 78) F dX8_lay_65 (by decide) (fun c65 => ?_) (fun c65 => ?_)
        · refine ex_aload_n F dX8_lay_78 rfl rfl ?_
          refine gf_8_31 F dX8_lay_79 fl_X8_65 ?_
          refine ex_iload_n F dX8_lay_82 rfl rfl ?_
          refine ex_iald (n := 4) F dX8_lay_83 (by decide) (vp_in_nI (by omega) (by decide)) (j := kk) (nI_clamp (by omega)) ?_
          refine ex_iconst (v := 1) F dX8_lay_84 (by decide) ?_
          refine ex_icmp_ne (t := 98) F dX8_lay_85 (by decide) (fun c85 => ?_) (fun c85 => ?_)
          · refine ex_iload_n F dX8_lay_98 rfl rfl ?_
            refine ex_iast (n := 160) F dX8_lay_99 (by decide) (by rw [at40, nI_add]; exact vp_in_nI (by omega) (by decide)) (j := 40 * kk + ii) (by rw [at40, nI_add]; exact nI_clamp (by omega)) ?_
            refine ex_iconst (v := 1) F dX8_lay_100 (by decide) ?_
            exact ex_iret F R dX8_lay_101 rfl (⟨rfl, by rw [lane2 hla c65 c85]; exact put_SM hS lk (by omega), fun q _ _ c => mu_k _ _ _ _ _ c⟩)
          · refine ex_iload_n F dX8_lay_88 rfl rfl ?_
            refine ex_bipush (v := 16) F dX8_lay_89 (by decide) ?_
            refine ex_ishl F dX8_lay_91 ?_
            refine ex_bipush (v := 16) F dX8_lay_92 (by decide) ?_
            refine ex_ishr F dX8_lay_94 ?_
            refine ex_goto (t := 99) F dX8_lay_95 (by decide) ?_
            refine ex_iast (n := 160) F dX8_lay_99 (by decide) (by rw [at40, nI_add]; exact vp_in_nI (by omega) (by decide)) (j := 40 * kk + ii) (by rw [at40, nI_add]; exact nI_clamp (by omega)) ?_
            refine ex_iconst (v := 1) F dX8_lay_100 (by decide) ?_
            exact ex_iret F R dX8_lay_101 rfl (⟨rfl, by rw [lane1 hla c85]; exact put_SM hS lk (by omega), fun q _ _ c => mu_k _ _ _ _ _ c⟩)
        · refine ex_iload_n F dX8_lay_68 rfl rfl ?_
          refine ex_bipush (v := 24) F dX8_lay_69 (by decide) ?_
          refine ex_ishl F dX8_lay_71 ?_
          refine ex_bipush (v := 24) F dX8_lay_72 (by decide) ?_
          refine ex_ishr F dX8_lay_74 ?_
          refine ex_goto (t := 99) F dX8_lay_75 (by decide) ?_
          refine ex_iast (n := 160) F dX8_lay_99 (by decide) (by rw [at40, nI_add]; exact vp_in_nI (by omega) (by decide)) (j := 40 * kk + ii) (by rw [at40, nI_add]; exact nI_clamp (by omega)) ?_
          refine ex_iconst (v := 1) F dX8_lay_100 (by decide) ?_
          exact ex_iret F R dX8_lay_101 rfl (⟨rfl, by rw [lane0 hla c65]; exact put_SM hS lk (by omega), fun q _ _ c => mu_k _ _ _ _ _ c⟩)
      · refine ex_bipush (v := -12) F dX8_lay_46 (by decide) ?_
        exact ex_iret F R dX8_lay_48 rfl (⟨by rw [sPutF, ift hth, g3, ← out_len lz, ift (by simpa using b2i_0.mp c43)]; rfl, by rw [sPutF, ift hth, g3, ← out_len lz, ift (by simpa using b2i_0.mp c43)]; exact hS, fun _ _ _ _ => rfl⟩)
    · refine ex_bipush (v := -11) F dX8_lay_25 (by decide) ?_
      exact ex_iret F R dX8_lay_27 rfl (⟨by rw [sPutF, ifn (sm_not hSM c22)]; rfl, by rw [sPutF, ifn (sm_not hSM c22)]; exact hS, fun _ _ _ _ => rfl⟩)
  · refine ex_iconst (v := -1) F dX8_lay_12 (by decide) ?_
    exact ex_iret F R dX8_lay_13 rfl (⟨by rw [ift (by simpa using b2i_0.mp c9)], by rw [ift (by simpa using b2i_0.mp c9)]; exact hS, fun _ _ _ _ => rfl⟩)
