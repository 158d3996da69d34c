theorem back_RC {M N : Mem} {K : Mem} {w0 : Int32} {T kk : Nat} (h : IM K M T kk) (q : M 56 kk = 1) (lk : kk < 2) (k1 : ∀ i, i < 16 → N 51 (0 + i) = M 51 (32 + 16 * kk + i)) (k2 : frT M N 0) : RC (cX K (20 + 3 * kk + 1)) w0 N T ∧ N 51 4 = cX K (20 + 3 * kk + 1) 4 ∧ N 38 24 = 1 := by
  obtain ⟨f1, f2, f3, f4⟩ := h.2.2 q
  have e : cM N 0 = cX K (20 + 3 * kk + 1) := (cM_eq (A := 32 + 16 * kk) (B := 0) (fun i hi => k1 i (by omega))).trans f1
  have ea : N 38 24 = 1 := by rw [k2.1 38 (by decide) (by decide)]; exact f4
  obtain ⟨t, lt, g⟩ := f2
  refine ⟨RC_mk f3 ⟨t, lt, (k1 5 (by decide)).trans g⟩ ea e, ?_, ea⟩
  rw [← e, cM_o (by decide) (by decide)]
theorem cs_X8_back_78 : CSS (xmN YX8_back).cls (xmF YX8_back) (xmW YX8_back) 78 3 YX8_in := ⟨⟨ml_X8_78, ini_X8, cd_X8_in, by decide +kernel, by decide⟩, st_X8_in⟩
theorem cs_X8_back_233 : CSV (xmN YX8_back).cls (xmF YX8_back) (xmW YX8_back) 233 2 YX8_copies := ⟨⟨ml_X8_233, ini_X8, cd_X8_copies, by decide +kernel, by decide⟩, im_X8_copies, se_X8_copies⟩
set_option maxRecDepth 100000 in
theorem c_X8_back {l : Launch} {g : XG} {M : Mem} {c r : Nat → Int32} {T : Nat} {K : Mem} (hC : RC c (r 1) M T) (hI : RI K M T) {k0 : Int32} : Call l g YX8_back [.ref (ad g 38), .int k0] M (PI (fun v M' => v = (if outN k0 2 = true then -1 else if K (20 + 3 * k0.toNatClampNeg) 1 = 0 then -2 else cX K ((20 + 3 * k0.toNatClampNeg) + 1) 4) ∧ RC (if outN k0 2 = true then c else if K (20 + 3 * k0.toNatClampNeg) 1 = 0 then c else cX K ((20 + 3 * k0.toNatClampNeg) + 1)) (r 1) M' T ∧ RI K M' T ∧ frB M M')) := by
  refine call_of (by decide +kernel) (Nat.le_of_ble_eq_true rfl) (fun x hxl F R => ?_)
  subst hxl
  refine ex_iload_n F dX8_back_0 rfl rfl ?_
  refine ex_i2l F dX8_back_1 ?_
  refine ex_lconst (v := 0) F dX8_back_2 (by decide) ?_
  refine ex_lconst (v := 1) F dX8_back_3 (by decide) ?_
  refine ex_callSi F (c_X8_in) dX8_back_4 cs_X8_back_78 rfl rfl (Nat.le_of_ble_eq_true rfl) (fun v4 M4 h4 => ?_)
  obtain ⟨e4, q4⟩ := h4
  rw [q4]
  clear q4
  rw [in_out (lo := 0) (hi := 1) (by decide) (by decide)] at e4
  subst e4
  rw [out2]
  refine ex_if_ne (t := 12) F dX8_back_7 (by decide) (fun c7 => ?_) (fun c7 => ?_)
  · have z : outN k0 2 = false := by simpa using b2i_1.mp c7
    obtain ⟨kk, lk, rfl⟩ := outN_n (m := 2) (by decide) z
    simp only [ifn z, nI_clamp (show kk < 2 ^ 31 by omega)] at R
    have hIM := hI kk lk
    refine ex_aload_n F dX8_back_12 rfl rfl ?_
    refine gf_8_30 F dX8_back_13 fl_X8_61 ?_
    refine ex_iload_n F dX8_back_16 rfl rfl ?_
    refine ex_zald (n := 2) F dX8_back_17 (by decide) (vp_in_nI (by omega) (by decide)) (j := kk) (nI_clamp (by omega)) ?_
    refine ex_if_ne (t := 24) F dX8_back_18 (by decide) (fun c18 => ?_) (fun c18 => ?_)
    · refine ex_aload_n F dX8_back_24 rfl rfl ?_
      refine ex_bipush (v := 32) F dX8_back_25 (by decide) ?_
      refine ex_bipush (v := 16) F dX8_back_27 (by decide) ?_
      refine ex_iload_n F dX8_back_29 rfl rfl ?_
      refine ex_imul F dX8_back_30 ?_
      refine ex_iadd F dX8_back_31 ?_
      refine ex_iconst (v := 0) F dX8_back_32 (by decide) ?_
      rw [at32]
      refine ex_callVv F (c_X8_copies (A := 32 + 16 * kk) (B := 0) (by omega) (by decide) (by omega)) dX8_back_33 cs_X8_back_233 ob_8 rfl rfl rfl rfl (Nat.le_of_ble_eq_true rfl) (fun M33 h33 => ?_)
      obtain ⟨k1, k2⟩ := h33
      have h56 : M 56 kk = 1 := hIM.1.resolve_left c18
      obtain ⟨b1, b2, b3⟩ := back_RC (w0 := r 1) hIM h56 lk k1 k2
      refine ex_aload_n F dX8_back_36 rfl rfl ?_
      refine gf_8_23 F dX8_back_37 fl_X8_46 ?_
      refine ex_iconst (v := 4) F dX8_back_40 (by decide) ?_
      refine ex_iald (n := 80) F dX8_back_41 (by decide) (vpd (by decide)) (j := 4) (by decide) ?_
      exact ex_iret F R dX8_back_42 rfl (⟨by rw [if_neg (fun q => c18 (hIM.2.1.symm.trans q))]; exact b2, by rw [if_neg (fun q => c18 (hIM.2.1.symm.trans q))]; exact b1, RI_fr hI (frB_T k2 (by decide)) (fun _ => b3), frB_T k2 (by decide)⟩)
    · refine ex_bipush (v := -2) F dX8_back_21 (by decide) ?_
      exact ex_iret F R dX8_back_23 rfl (⟨by rw [if_pos (hIM.2.1.trans c18)], by rw [if_pos (hIM.2.1.trans c18)]; exact hC, hI, frB_rf M⟩)
  · refine ex_iconst (v := -1) F dX8_back_10 (by decide) ?_
    exact ex_iret F R dX8_back_11 rfl (⟨by rw [ift (by simpa using b2i_0.mp c7)], by rw [ift (by simpa using b2i_0.mp c7)]; exact hC, hI, frB_rf M⟩)
def SM (K M : Mem) (k : Nat) : Prop := (M 57 k = -4 ∧ K (27 + 2 * k) 2 = -1) ∨ ∃ la z, la ≤ 2 ∧ z ≤ 40 ∧ M 57 k = nI la ∧ K (27 + 2 * k) 1 = nI la ∧ K (27 + 2 * k) 2 = nI z ∧ M 58 k = nI z ∧ ∀ j, j < 40 → M 59 (40 * k + j) = K (27 + 2 * k + 1) j
def RSh (K M : Mem) : Prop := ∀ k, k < 4 → SM K M k
def frSh (M M' : Mem) : Prop := ∀ q, q ≠ 57 → q ≠ 58 → q ≠ 59 → M' q = M q
theorem RSh_fr {K M M' : Mem} (h : RSh K M) (e7 : M' 57 = M 57) (e8 : M' 58 = M 58) (e9 : M' 59 = M 59) : RSh K M' := by
  intro k hk
  unfold SM
  rw [e7, e8, e9]
  exact h k hk
theorem at40 {k : Nat} : (40 : Int32) * nI k = nI (40 * k) := pk_mul 40 k
theorem sheet_RSh {K M N : Mem} {kk la z : Nat} (h : RSh K M) (hk : kk < 4) (hla : la ≤ 2) (hz : z ≤ 40) (h7 : N 57 = upd (M 57) kk (nI la)) (h8 : N 58 = upd (M 58) kk (nI z)) (h9 : ∀ y, N 59 y = if 40 * kk ≤ y ∧ y < 40 * kk + 40 then 0 else M 59 y) : RSh (sRenew K (27 + 2 * kk) (nI la) (nI z)) N := by
  intro k lk
  by_cases e : k = kk
  · subst e
    refine Or.inr ⟨la, z, hla, hz, by rw [h7, pk_us], ?_, ?_, by rw [h8, pk_us], fun j hj => ?_⟩
    · rw [sRenew, if_neg (by omega)]; simp [mu, upd]
    · rw [sRenew, if_neg (by omega)]; simp [mu, upd]
    · rw [h9, if_pos (by omega), sRenew, if_pos rfl, if_pos hj]
  · have hK : ∀ q, q ≠ 27 + 2 * kk → q ≠ 27 + 2 * kk + 1 → sRenew K (27 + 2 * kk) (nI la) (nI z) q = K q := fun q a b => by
      unfold sRenew
      rw [if_neg b, mu_k _ _ _ _ _ a, mu_k _ _ _ _ _ a]
    unfold SM
    rw [h7, h8, pk_un e, pk_un e, hK (27 + 2 * k) (by omega) (by omega), hK (27 + 2 * k + 1) (by omega) (by omega)]
    rcases h k lk with g | ⟨a, b, g1, g2, g3, g4, g5, g6, g7⟩
    · exact Or.inl g
    · exact Or.inr ⟨a, b, g1, g2, g3, g4, g5, g6, fun j hj => by rw [h9, if_neg (by omega)]; exact g7 j hj⟩
theorem mu_u (M : Mem) (k j : Nat) (y : Int32) : mu M k j y k = upd (M k) j y := by
  funext i
  by_cases h : i = j
  · subst h; rw [mu_same, pk_us]
  · rw [mu_j _ _ _ _ _ h, pk_un h]
theorem cs_X8_sheet_78 : CSS (xmN YX8_sheet).cls (xmF YX8_sheet) (xmW YX8_sheet) 78 3 YX8_in := ⟨⟨ml_X8_78, ini_X8, cd_X8_in, by decide +kernel, by decide⟩, st_X8_in⟩
set_option maxRecDepth 100000 in
theorem c_X8_sheet {l : Launch} {g : XG} {M : Mem} {K : Mem} (hS : RSh K M) {k0 la n : Int32} : Call l g YX8_sheet [.ref (ad g 38), .int k0, .int la, .int n] M (PI (fun v M' => v = (if (outN k0 4 || (outB la 0 2 || decide (40 < n))) = true then -1 else if n < 0 then -14 else 1) ∧ RSh (if (outN k0 4 || (outB la 0 2 || decide (40 < n))) = true then K else if n < 0 then K else sRenew K (27 + 2 * k0.toNatClampNeg) la n) M' ∧ frSh M M')) := by
  refine call_of (by decide +kernel) (Nat.le_of_ble_eq_true rfl) (fun x hxl F R => ?_)
  subst hxl
  refine ex_iload_n F dX8_sheet_0 rfl rfl ?_
  refine ex_i2l F dX8_sheet_1 ?_
  refine ex_lconst (v := 0) F dX8_sheet_2 (by decide) ?_
  refine ex_ldc2 F dX8_sheet_3 kc_X8_220 ?_
  refine ex_callSi F (c_X8_in) dX8_sheet_6 cs_X8_sheet_78 rfl rfl (Nat.le_of_ble_eq_true rfl) (fun v6 M6 h6 => ?_)
  obtain ⟨e6, q6⟩ := h6
  rw [q6]
  clear q6
  rw [in_out (lo := 0) (hi := 3) (by decide) (by decide)] at e6
  subst e6
  rw [out4]
  refine ex_if_eq (t := 30) F dX8_sheet_9 (by decide) (fun c9 => ?_) (fun c9 => ?_)
  · refine ex_iconst (v := -1) F dX8_sheet_30 (by decide) ?_
    exact ex_iret F R dX8_sheet_31 rfl (⟨by rw [ift (or_l (by simpa using b2i_0.mp c9))], by rw [ift (or_l (by simpa using b2i_0.mp c9))]; exact hS, fun _ _ _ _ => rfl⟩)
  · refine ex_iload_n F dX8_sheet_12 rfl rfl ?_
    refine ex_i2l F dX8_sheet_13 ?_
    refine ex_lconst (v := 0) F dX8_sheet_14 (by decide) ?_
    refine ex_ldc2 F dX8_sheet_15 kc_X8_228 ?_
    refine ex_callSi F (c_X8_in) dX8_sheet_18 cs_X8_sheet_78 rfl rfl (Nat.le_of_ble_eq_true rfl) (fun v18 M18 h18 => ?_)
    obtain ⟨e18, q18⟩ := h18
    rw [q18]
    clear q18
    rw [in_out (lo := 0) (hi := 2) (by decide) (by decide)] at e18
    subst e18
    refine ex_if_eq (t := 30) F dX8_sheet_21 (by decide) (fun c21 => ?_) (fun c21 => ?_)
    · refine ex_iconst (v := -1) F dX8_sheet_30 (by decide) ?_
      exact ex_iret F R dX8_sheet_31 rfl (⟨by rw [ift (or_r (or_l (by simpa using b2i_0.mp c21)))], by rw [ift (or_r (or_l (by simpa using b2i_0.mp c21)))]; exact hS, fun _ _ _ _ => rfl⟩)
    · refine ex_iload_n F dX8_sheet_24 rfl rfl ?_
      refine ex_bipush (v := 40) F dX8_sheet_25 (by decide) ?_
      refine ex_icmp_le (t := 32) F dX8_sheet_27 (by decide) (fun c27 => ?_) (fun c27 => ?_)
      · have z1 : outN k0 4 = false := by simpa using b2i_1.mp c9
        have z2 : outB la 0 2 = false := by simpa using b2i_1.mp c21
        have hbad : (outN k0 4 || (outB la 0 2 || decide (40 < n))) = false := or_n z1 (or_n z2 (decide_eq_false (Int32.not_lt.mpr c27)))
        simp only [ifn hbad] at R
        refine ex_iload_n F dX8_sheet_32 rfl rfl ?_
        refine ex_if_ge (t := 39) F dX8_sheet_33 (by decide) (fun c33 => ?_) (fun c33 => ?_)
        · obtain ⟨kk, lk, rfl⟩ := outN_n (m := 4) (by decide) z1
          obtain ⟨aa, -, l2, rfl⟩ := outB_n (a := 0) (b := 2) (by decide) z2 (by decide)
          have hn0 : ¬ n < 0 := Int32.not_lt.mpr c33
          obtain ⟨z, lz, rfl⟩ := nI_of hn0
          have lz2 : z ≤ 40 := (nI_leI (b := 40) lz (by decide)).mp c27
          simp only [if_neg hn0, nI_clamp (show kk < 2 ^ 31 by omega)] at R
          refine ex_aload_n F dX8_sheet_39 rfl rfl ?_
          refine gf_8_31 F dX8_sheet_40 fl_X8_65 ?_
          refine ex_iload_n F dX8_sheet_43 rfl rfl ?_
          refine ex_iload_n F dX8_sheet_44 rfl rfl ?_
          refine ex_iast (n := 4) F dX8_sheet_45 (by decide) (vp_in_nI (by omega) (by decide)) (j := kk) (nI_clamp (by omega)) ?_
          refine ex_aload_n F dX8_sheet_46 rfl rfl ?_
          refine gf_8_32 F dX8_sheet_47 fl_X8_68 ?_
          refine ex_iload_n F dX8_sheet_50 rfl rfl ?_
          refine ex_iload_n F dX8_sheet_51 rfl rfl ?_
          refine ex_iast (n := 4) F dX8_sheet_52 (by decide) (vp_in_nI (by omega) (by decide)) (j := kk) (nI_clamp (by omega)) ?_
          refine ex_iconst (v := 0) F dX8_sheet_53 (by decide) ?_
          refine ex_istore F dX8_sheet_54 (by decide) ?_
          have key : ∀ (m i : Nat) (u : Int32) (N : Mem), i + m = 40 → u = nI i → N 57 = upd (M 57) kk (nI aa) → N 58 = upd (M 58) kk (nI z) → (∀ y, N 59 y = if 40 * kk ≤ y ∧ y < 40 * kk + i then 0 else M 59 y) → frSh M N → EX x g (xmL YX8_sheet) N 56 [(0, .ref (ad g 38)), (1, .int (nI kk)), (2, .int (nI aa)), (3, .int (nI z)), (4, .int u)] [] := by
            intro m
            induction m with
            | zero =>
              intro i u N hi hu h7 h8 h9 hf
              obtain rfl : i = 40 := by omega
              subst hu
              refine ex_iload F dX8_sheet_56 rfl ?_
              refine ex_bipush (v := 40) F dX8_sheet_58 (by decide) ?_
              refine ex_icmp_ge (t := 82) F dX8_sheet_60 (by decide) (fun _ => ?_) (fun c => absurd (by decide) c)
              refine ex_iconst (v := 1) F dX8_sheet_82 (by decide) ?_
              exact ex_iret F R dX8_sheet_83 rfl (⟨rfl, sheet_RSh hS lk l2 lz2 h7 h8 h9, hf⟩)
            | succ m ih =>
              intro i u N hi hu h7 h8 h9 hf
              subst hu
              refine ex_iload F dX8_sheet_56 rfl ?_
              refine ex_bipush (v := 40) F dX8_sheet_58 (by decide) ?_
              refine ex_icmp_ge (t := 82) F dX8_sheet_60 (by decide) (fun c => absurd c (nI_ge (b := 40) (by omega) (by decide))) (fun _ => ?_)
              refine ex_aload_n F dX8_sheet_63 rfl rfl ?_
              refine gf_8_33 F dX8_sheet_64 fl_X8_71 ?_
              refine ex_bipush (v := 40) F dX8_sheet_67 (by decide) ?_
              refine ex_iload_n F dX8_sheet_69 rfl rfl ?_
              refine ex_imul F dX8_sheet_70 ?_
              refine ex_iload F dX8_sheet_71 rfl ?_
              refine ex_iadd F dX8_sheet_73 ?_
              refine ex_iconst (v := 0) F dX8_sheet_74 (by decide) ?_
              refine ex_iast (n := 160) F dX8_sheet_75 (by decide) (by rw [at40, nI_add]; exact vp_in_nI (by omega) (by decide)) (j := 40 * kk + i) (by rw [at40, nI_add]; exact nI_clamp (by omega)) ?_
              refine ex_iinc (w := _ + 1) F dX8_sheet_76 rfl rfl (by decide) ?_
              refine ex_goto (t := 56) F dX8_sheet_79 (by decide) ?_
              refine ex_weak2 (ih (i + 1) _ _ (by omega) (nI_1 i) (by rw [mu_k _ _ _ 57 _ (by decide)]; exact h7) (by rw [mu_k _ _ _ 58 _ (by decide)]; exact h8) (fun y => ?_) (fun q a b c => by rw [mu_k _ _ _ _ _ c]; exact hf q a b c)) ⟨rfl, rfl, rfl, rfl, rfl, trivial⟩
              by_cases e : y = 40 * kk + i
              · subst e; rw [mu_same, if_pos (by omega)]
              · rw [mu_j _ _ _ _ _ e, h9 y]
                by_cases e2 : 40 * kk ≤ y ∧ y < 40 * kk + i
                · rw [if_pos e2, if_pos (show 40 * kk ≤ y ∧ y < 40 * kk + (i + 1) by omega)]
                · rw [if_neg e2, if_neg (show ¬ (40 * kk ≤ y ∧ y < 40 * kk + (i + 1)) by omega)]
          refine ex_weak2 (key 40 0 _ _ (by omega) rfl ?_ ?_ (fun y => ?_) (fun q a b c => by rw [mu_k _ _ _ _ _ b, mu_k _ _ _ _ _ a])) ⟨rfl, rfl, rfl, rfl, rfl, trivial⟩
          · rw [mu_k _ _ _ 57 _ (by decide)]; exact mu_u _ _ _ _
          · rw [mu_u, mu_k _ _ _ 58 _ (by decide)]
          · rw [mu_k _ _ _ 59 _ (by decide), mu_k _ _ _ 59 _ (by decide), if_neg (by omega)]
        · refine ex_bipush (v := -14) F dX8_sheet_36 (by decide) ?_
          exact ex_iret F R dX8_sheet_38 rfl (⟨by rw [if_pos (Int32.not_le.mp c33)], by rw [if_pos (Int32.not_le.mp c33)]; exact hS, fun _ _ _ _ => rfl⟩)
      · refine ex_iconst (v := -1) F dX8_sheet_30 (by decide) ?_
        exact ex_iret F R dX8_sheet_31 rfl (⟨by rw [ift (or_r (or_r (decide_eq_true (Int32.not_le.mp c27))))], by rw [ift (or_r (or_r (decide_eq_true (Int32.not_le.mp c27))))]; exact hS, fun _ _ _ _ => rfl⟩)
