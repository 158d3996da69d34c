theorem b255n (Y m : Nat) (hm : m < 256) (hY : Y < 4294967296) (h : (if 2 * Y < 4294967296 then (Y : Int) else (Y : Int) - 4294967296) = if 2 * m < 256 then (m : Int) else (m : Int) - 256) : Y % 256 = m := by
  split at h <;> split at h <;> omega
theorem b255 (x : Int32) (hx : x.toInt8.toInt32.toInt = (x.toBitVec.setWidth 8).toInt) : x.toInt8.toInt32.toBitVec.toNat % 256 = x.toBitVec.toNat % 256 := by
  refine b255n _ _ (Nat.mod_lt _ (by decide)) (BitVec.isLt _) ?_
  have e : x.toInt8.toInt32.toInt = x.toInt8.toInt32.toBitVec.toInt := rfl
  rw [e, BitVec.toInt_eq_toNat_cond, BitVec.toInt_eq_toNat_cond, BitVec.toNat_setWidth] at hx
  exact hx
theorem and255 (x : Int32) : x.toInt8.toInt32 &&& 255 = x &&& 255 := by
  rw [pk_and x.toInt8.toInt32 (m := 255) 8 (by decide), pk_and x (m := 255) 8 (by decide)]
  exact congrArg nI (b255 x (sh8t x))
def RT (K M : Mem) (t : Nat) : Prop := t ≤ 320 ∧ K 7 1 = nI t ∧ M 38 1 = nI t ∧ ∀ i, i < t → M 39 i = K 8 i &&& 255
def frTp (M M' : Mem) : Prop := (∀ q, q ≠ 38 → q ≠ 39 → M' q = M q) ∧ ∀ j, j ≠ 1 → M' 38 j = M 38 j
theorem frTp_rf (M : Mem) : frTp M M := ⟨fun _ _ _ => rfl, fun _ _ => rfl⟩
theorem imgs_eq {K M : Mem} {T : Nat} (h : RI K M T) : sImgs K = (if M 56 0 = 0 then 0 else 1) + (if M 56 1 = 0 then 0 else 1) := by
  have h0 := (h 0 (by decide)).2.1
  have h1 := (h 1 (by decide)).2.1
  rw [sImgs, ← h0, ← h1]
theorem len_eq {K M : Mem} (h : RSh K M) : (if sThere K 27 = true then K 27 2 else -4) = if M 57 0 = -4 then -4 else M 58 0 := by
  by_cases e : M 57 0 = -4
  · rw [if_pos e, ifn (sm_not (h 0 (by decide)) e)]
  · obtain ⟨g, la, z, -, -, -, -, g3, g4, -⟩ := sm_is (h 0 (by decide)) e
    rw [if_neg e, ift g, g3.trans g4.symm]
set_option maxRecDepth 100000 in
theorem c_X8_count {l : Launch} {g : XG} {M : Mem} {K : Mem} {n k T t : Nat} (hB : RB K M n) (hS : RS K M k) (hI : RI K M T) (hT : RT K M t) (hSh : RSh K M) {w0 : Int32} : Call l g YX8_count [.ref (ad g 38), .int w0] M (PI (fun v M' => v = sCount K w0 ∧ M' = M)) := by
  refine call_of (by decide +kernel) (Nat.le_of_ble_eq_true rfl) (fun x hxl F R => ?_)
  subst hxl
  refine ex_iload_n F dX8_count_0 rfl rfl ?_
  by_cases w1_0 : w0 = 0
  · rw [w1_0]
    refine ex_tswIn (t := 36) F dX8_count_1 (by decide) (by decide) rfl (by decide) ?_
    refine ex_aload_n F dX8_count_36 rfl rfl ?_
    refine gf_8_18 F dX8_count_37 fl_X8_139 ?_
    exact ex_iret F R dX8_count_40 rfl (⟨by rw [w1_0, hB.mn]; exact hB.kn.symm, rfl⟩)
  by_cases w1_1 : w0 = 1
  · rw [w1_1]
    refine ex_tswIn (t := 41) F dX8_count_1 (by decide) (by decide) rfl (by decide) ?_
    refine ex_aload_n F dX8_count_41 rfl rfl ?_
    refine gf_8_28 F dX8_count_42 fl_X8_142 ?_
    exact ex_iret F R dX8_count_45 rfl (⟨by rw [w1_1, hS.2.1]; exact hS.1.2.1.symm, rfl⟩)
  by_cases w1_2 : w0 = 2
  · rw [w1_2]
    refine ex_tswIn (t := 46) F dX8_count_1 (by decide) (by decide) rfl (by decide) ?_
    refine ex_aload_n F dX8_count_46 rfl rfl ?_
    refine gf_8_30 F dX8_count_47 fl_X8_61 ?_
    refine ex_iconst (v := 0) F dX8_count_50 (by decide) ?_
    refine ex_zald (n := 2) F dX8_count_51 (by decide) (vpd (by decide)) (j := 0) (by decide) ?_
    refine ex_if_eq (t := 59) F dX8_count_52 (by decide) (fun c52 => ?_) (fun c52 => ?_)
    · refine ex_iconst (v := 0) F dX8_count_59 (by decide) ?_
      refine ex_aload_n F dX8_count_60 rfl rfl ?_
      refine gf_8_30 F dX8_count_61 fl_X8_61 ?_
      refine ex_iconst (v := 1) F dX8_count_64 (by decide) ?_
      refine ex_zald (n := 2) F dX8_count_65 (by decide) (vpd (by decide)) (j := 1) (by decide) ?_
      refine ex_if_eq (t := 73) F dX8_count_66 (by decide) (fun c66 => ?_) (fun c66 => ?_)
      · refine ex_iconst (v := 0) F dX8_count_73 (by decide) ?_
        refine ex_iadd F dX8_count_74 ?_
        exact ex_iret F R dX8_count_75 rfl (⟨by rw [w1_2]; show _ = sImgs K; rw [imgs_eq hI, if_pos c52, if_pos c66], rfl⟩)
      · refine ex_iconst (v := 1) F dX8_count_69 (by decide) ?_
        refine ex_goto (t := 74) F dX8_count_70 (by decide) ?_
        refine ex_iadd F dX8_count_74 ?_
        exact ex_iret F R dX8_count_75 rfl (⟨by rw [w1_2]; show _ = sImgs K; rw [imgs_eq hI, if_pos c52, if_neg c66], rfl⟩)
    · refine ex_iconst (v := 1) F dX8_count_55 (by decide) ?_
      refine ex_goto (t := 60) F dX8_count_56 (by decide) ?_
      refine ex_aload_n F dX8_count_60 rfl rfl ?_
      refine gf_8_30 F dX8_count_61 fl_X8_61 ?_
      refine ex_iconst (v := 1) F dX8_count_64 (by decide) ?_
      refine ex_zald (n := 2) F dX8_count_65 (by decide) (vpd (by decide)) (j := 1) (by decide) ?_
      refine ex_if_eq (t := 73) F dX8_count_66 (by decide) (fun c66 => ?_) (fun c66 => ?_)
      · refine ex_iconst (v := 0) F dX8_count_73 (by decide) ?_
        refine ex_iadd F dX8_count_74 ?_
        exact ex_iret F R dX8_count_75 rfl (⟨by rw [w1_2]; show _ = sImgs K; rw [imgs_eq hI, if_neg c52, if_pos c66], rfl⟩)
      · refine ex_iconst (v := 1) F dX8_count_69 (by decide) ?_
        refine ex_goto (t := 74) F dX8_count_70 (by decide) ?_
        refine ex_iadd F dX8_count_74 ?_
        exact ex_iret F R dX8_count_75 rfl (⟨by rw [w1_2]; show _ = sImgs K; rw [imgs_eq hI, if_neg c52, if_neg c66], rfl⟩)
  by_cases w1_3 : w0 = 3
  · rw [w1_3]
    refine ex_tswIn (t := 76) F dX8_count_1 (by decide) (by decide) rfl (by decide) ?_
    refine ex_aload_n F dX8_count_76 rfl rfl ?_
    refine gf_8_1 F dX8_count_77 fl_X8_74 ?_
    exact ex_iret F R dX8_count_80 rfl (⟨by rw [w1_3, hT.2.2.1]; exact hT.2.1.symm, rfl⟩)
  by_cases w1_4 : w0 = 4
  · rw [w1_4]
    refine ex_tswIn (t := 81) F dX8_count_1 (by decide) (by decide) rfl (by decide) ?_
    refine ex_aload_n F dX8_count_81 rfl rfl ?_
    refine gf_8_31 F dX8_count_82 fl_X8_65 ?_
    refine ex_iconst (v := 0) F dX8_count_85 (by decide) ?_
    refine ex_iald (n := 4) F dX8_count_86 (by decide) (vpd (by decide)) (j := 0) (by decide) ?_
    refine ex_bipush (v := -4) F dX8_count_87 (by decide) ?_
    refine ex_icmp_ne (t := 97) F dX8_count_89 (by decide) (fun c89 => ?_) (fun c89 => ?_)
    · refine ex_aload_n F dX8_count_97 rfl rfl ?_
      refine gf_8_32 F dX8_count_98 fl_X8_68 ?_
      refine ex_iconst (v := 0) F dX8_count_101 (by decide) ?_
      refine ex_iald (n := 4) F dX8_count_102 (by decide) (vpd (by decide)) (j := 0) (by decide) ?_
      exact ex_iret F R dX8_count_103 rfl (⟨by rw [w1_4]; show _ = (if sThere K 27 = true then K 27 2 else -4); rw [len_eq hSh, if_neg c89], rfl⟩)
    · refine ex_bipush (v := -4) F dX8_count_92 (by decide) ?_
      refine ex_goto (t := 103) F dX8_count_94 (by decide) ?_
      exact ex_iret F R dX8_count_103 rfl (⟨by rw [w1_4]; show _ = (if sThere K 27 = true then K 27 2 else -4); rw [len_eq hSh, if_pos c89], rfl⟩)
  refine ex_tswOut (t := 104) F dX8_count_1 (tsw_out 4 (by decide) (fun k hk => match k, hk with | 0, _ => w1_0 | 1, _ => w1_1 | 2, _ => w1_2 | 3, _ => w1_3 | 4, _ => w1_4 | n + 5, h => absurd h (by omega))) (by decide) ?_
  refine ex_iconst (v := -1) F dX8_count_104 (by decide) ?_
  exact ex_iret F R dX8_count_105 rfl (⟨by rw [sCount, if_neg w1_0, if_neg w1_1, if_neg w1_2, if_neg w1_3, if_neg w1_4], rfl⟩)
theorem end_RT {K M : Mem} {t j : Nat} (h : RT K M t) (hj : j ≤ t) : RT (mu K 7 1 (nI j)) (mu M 38 1 (nI j)) j := by
  obtain ⟨h1, h2, h3, h4⟩ := h
  exact ⟨by omega, mu_same _ _ _ _, mu_same _ _ _ _, fun i hi => by rw [mu_k _ _ _ 39 _ (by decide), mu_k _ _ _ 8 _ (by decide)]; exact h4 i (by omega)⟩
theorem frTp_1 {M : Mem} (y : Int32) : frTp M (mu M 38 1 y) := ⟨fun q a _ => mu_k _ _ _ _ _ a, fun j hj => mu_j _ _ _ _ _ hj⟩
theorem cs_X8_end_78 : CSS (xmN YX8_end).cls (xmF YX8_end) (xmW YX8_end) 78 3 YX8_in := ⟨⟨ml_X8_78, ini_X8, cd_X8_in, by decide +kernel, by decide⟩, st_X8_in⟩
set_option maxRecDepth 100000 in
theorem c_X8_end {l : Launch} {g : XG} {M : Mem} {K : Mem} {t : Nat} (hT : RT K M t) {n0 : Int32} : Call l g YX8_end [.ref (ad g 38), .int n0] M (PI (fun v M' => v = (if outB n0 0 (K 7 1) = true then -1 else K 7 1) ∧ (∃ t', RT (if outB n0 0 (K 7 1) = true then K else mu K 7 1 n0) M' t') ∧ frTp M M')) := by
  refine call_of (by decide +kernel) (Nat.le_of_ble_eq_true rfl) (fun x hxl F R => ?_)
  subst hxl
  have e71 : K 7 1 = M 38 1 := hT.2.1.trans hT.2.2.1.symm
  refine ex_iload_n F dX8_end_0 rfl rfl ?_
  refine ex_i2l F dX8_end_1 ?_
  refine ex_lconst (v := 0) F dX8_end_2 (by decide) ?_
  refine ex_aload_n F dX8_end_3 rfl rfl ?_
  refine gf_8_1 F dX8_end_4 fl_X8_74 ?_
  refine ex_i2l F dX8_end_7 ?_
  refine ex_callSi F (c_X8_in) dX8_end_8 cs_X8_end_78 rfl rfl (Nat.le_of_ble_eq_true rfl) (fun v8 M8 h8 => ?_)
  obtain ⟨e8, q8⟩ := h8
  rw [q8]
  clear q8
  rw [in_out (lo := 0) (hi := M 38 1) (by decide) rfl] at e8
  subst e8
  refine ex_if_ne (t := 16) F dX8_end_11 (by decide) (fun c11 => ?_) (fun c11 => ?_)
  · have z : outB n0 0 (M 38 1) = false := by simpa using b2i_1.mp c11
    have z2 := z
    rw [hT.2.2.1] at z2
    obtain ⟨j, -, lj, rfl⟩ := outB_n (a := 0) (b := t) (by have := hT.1; omega) z2 (by decide)
    refine ex_aload_n F dX8_end_16 rfl rfl ?_
    refine gf_8_1 F dX8_end_17 fl_X8_74 ?_
    refine ex_istore_n F dX8_end_20 rfl (by decide) ?_
    refine ex_aload_n F dX8_end_21 rfl rfl ?_
    refine ex_iload_n F dX8_end_22 rfl rfl ?_
    refine pf_8_1 F dX8_end_23 fl_X8_74 ?_
    refine ex_iload_n F dX8_end_26 rfl rfl ?_
    exact ex_iret F R dX8_end_27 rfl (⟨by rw [e71, ifn z], ⟨j, by rw [e71, ifn z]; exact end_RT hT lj⟩, frTp_1 _⟩)
  · refine ex_iconst (v := -1) F dX8_end_14 (by decide) ?_
    exact ex_iret F R dX8_end_15 rfl (⟨by rw [e71, ift (by simpa using b2i_0.mp c11)], ⟨t, by rw [e71, ift (by simpa using b2i_0.mp c11)]; exact hT⟩, frTp_rf M⟩)
theorem feed_le {M : Mem} {t : Nat} (h : M 38 1 = nI t) (ht : t ≤ 320) (c : M 38 1 + 8 ≤ 320) : t ≤ 312 := by
  rw [h, show nI t + 8 = nI (t + 8) from nI_add t 8] at c
  have := (nI_leI (b := 320) (by omega) (by decide)).mp c
  omega
theorem feed_gt {M : Mem} {t : Nat} (h : M 38 1 = nI t) (ht : t ≤ 320) (c : ¬ M 38 1 + 8 ≤ 320) : ¬ t ≤ 312 := by
  intro q
  refine c ?_
  rw [h, show nI t + 8 = nI (t + 8) from nI_add t 8]
  exact nI_le (b := 320) (by omega) (by decide)
def feedI (M N : Mem) (z : Int64) (t i : Nat) : Prop := (∀ y, N 39 y = if t ≤ y ∧ y < t + i then (z >>> ((nI (56 - 8 * (y - t))).toInt64 &&& 63)).toInt32 &&& 255 else M 39 y) ∧ N 38 1 = nI (t + i) ∧ frTp M N
theorem feed_S {M N : Mem} {z : Int64} {t i : Nat} (h : feedI M N z t i) : feedI M (mu (mu N 39 (t + i) ((z >>> ((nI (56 - 8 * i)).toInt64 &&& 63)).toInt32 &&& 255)) 38 1 (nI (t + i + 1))) z t (i + 1) := by
  obtain ⟨h1, h2, h3, h4⟩ := h
  refine ⟨fun y => ?_, mu_same _ _ _ _, fun q a b => by rw [mu_k _ _ _ _ _ a, mu_k _ _ _ _ _ b]; exact h3 q a b, fun j hj => by rw [mu_j _ _ _ _ _ hj, mu_k _ _ _ 38 _ (by decide)]; exact h4 j hj⟩
  rw [mu_k _ _ _ 39 _ (by decide)]
  by_cases e : y = t + i
  · subst e
    rw [mu_same, if_pos (by omega), show t + i - t = i by omega]
  · rw [mu_j _ _ _ _ _ e, h1 y]
    by_cases e2 : t ≤ y ∧ y < t + i
    · rw [if_pos e2, if_pos (show t ≤ y ∧ y < t + (i + 1) by omega)]
    · rw [if_neg e2, if_neg (show ¬ (t ≤ y ∧ y < t + (i + 1)) by omega)]
theorem feed_RT {K M N : Mem} {z : Int64} {t : Nat} (hT : RT K M t) (ht : t ≤ 312) (h : feedI M N z t 8) : RT (putT K t z 8) N (t + 8) := by
  obtain ⟨h1, h2, h3⟩ := h
  refine ⟨by omega, putT_71 _ _ _ _, h2, fun i hi => ?_⟩
  rw [h1]
  show _ = (if t ≤ i ∧ i < t + 8 then byB z (i - t) else K 8 i) &&& 255
  by_cases e : t ≤ i ∧ i < t + 8
  · rw [if_pos e, if_pos e, byB, and255]
  · rw [if_neg e, if_neg e]; exact hT.2.2.2 i (by omega)
set_option maxRecDepth 100000 in
theorem c_X8_feed {l : Launch} {g : XG} {M : Mem} {K : Mem} {t : Nat} (hT : RT K M t) {z : Int64} : Call l g YX8_feed [.ref (ad g 38), .long z] M (PI (fun v M' => v = (if t ≤ 312 then nI (t + 8) else -3) ∧ (∃ t', RT (if t ≤ 312 then putT K t z 8 else K) M' t') ∧ frTp M M')) := by
  refine call_of (by decide +kernel) (Nat.le_of_ble_eq_true rfl) (fun x hxl F R => ?_)
  subst hxl
  refine ex_aload_n F dX8_feed_0 rfl rfl ?_
  refine gf_8_1 F dX8_feed_1 fl_X8_74 ?_
  refine ex_bipush (v := 8) F dX8_feed_4 (by decide) ?_
  refine ex_iadd F dX8_feed_6 ?_
  refine ex_sipush (v := 320) F dX8_feed_7 (by decide) ?_
  refine ex_icmp_le (t := 16) F dX8_feed_10 (by decide) (fun c10 => ?_) (fun c10 => ?_)
  · refine ex_bipush (v := 56) F dX8_feed_16 (by decide) ?_
    refine ex_istore_n F dX8_feed_18 rfl (by decide) ?_
    have lt2 : t ≤ 312 := feed_le hT.2.2.1 hT.1 c10
    simp only [if_pos lt2] at R
    have key : ∀ (m i : Nat) (u : Int32) (N : Mem), i + m = 8 → u = nI (64 - 8 * i) + (-8) → feedI M N z t i → EX x g (xmL YX8_feed) N 19 [(0, .ref (ad g 38)), (1, .long z), (3, .int u)] [] := by
      intro m
      induction m with
      | zero =>
        intro i u N hi hu hf
        obtain rfl : i = 8 := by omega
        subst hu
        refine ex_iload_n F dX8_feed_19 rfl rfl ?_
        refine ex_if_lt (t := 56) F dX8_feed_20 (by decide) (fun _ => ?_) (fun c => absurd (by decide) c)
        refine ex_aload_n F dX8_feed_56 rfl rfl ?_
        refine gf_8_1 F dX8_feed_57 fl_X8_74 ?_
        exact ex_iret F R dX8_feed_60 rfl (⟨hf.2.1, ⟨t + 8, feed_RT hT lt2 hf⟩, hf.2.2⟩)
      | succ m ih =>
        intro i u N hi hu hf
        rw [sh_i i (by omega)] at hu
        subst hu
        have h38 := hf.2.1
        refine ex_iload_n F dX8_feed_19 rfl rfl ?_
        refine ex_if_lt (t := 56) F dX8_feed_20 (by decide) (fun c => absurd c (nI_pos (by omega))) (fun _ => ?_)
        refine ex_aload_n F dX8_feed_23 rfl rfl ?_
        refine gf_8_0 F dX8_feed_24 fl_X8_7 ?_
        refine ex_aload_n F dX8_feed_27 rfl rfl ?_
        refine gf_8_1 F dX8_feed_28 fl_X8_74 ?_
        rw [h38]
        refine ex_lload_n F dX8_feed_31 rfl rfl ?_
        refine ex_iload_n F dX8_feed_32 rfl rfl ?_
        refine ex_lshr F dX8_feed_33 ?_
        refine ex_l2i F dX8_feed_34 ?_
        refine ex_sipush (v := 255) F dX8_feed_35 (by decide) ?_
        refine ex_iand F dX8_feed_38 ?_
        refine ex_iast (n := 320) F dX8_feed_39 (by decide) (vp_in_nI (by omega) (by decide)) (j := t + i) (nI_clamp (by omega)) ?_
        refine ex_aload_n F dX8_feed_40 rfl rfl ?_
        refine ex_dup F dX8_feed_41 rfl ?_
        refine gf_8_1 F dX8_feed_42 fl_X8_74 ?_
        rw [mu_k _ _ _ 38 _ (by decide), h38]
        refine ex_iconst (v := 1) F dX8_feed_45 (by decide) ?_
        refine ex_iadd F dX8_feed_46 ?_
        rw [nI_1]
        refine pf_8_1 F dX8_feed_47 fl_X8_74 ?_
        refine ex_iinc (w := _ + (-8)) F dX8_feed_50 rfl rfl (by decide) ?_
        refine ex_goto (t := 19) F dX8_feed_53 (by decide) ?_
        exact ex_weak2 (ih (i + 1) _ _ (by omega) (by rw [show 64 - 8 * (i + 1) = 56 - 8 * i by omega]) (feed_S hf)) ⟨rfl, rfl, rfl, trivial⟩
    exact ex_weak2 (key 8 0 _ M (by omega) (by decide) ⟨fun y => by rw [if_neg (by omega)], hT.2.2.1, frTp_rf M⟩) ⟨rfl, rfl, rfl, trivial⟩
  · refine ex_bipush (v := -3) F dX8_feed_13 (by decide) ?_
    exact ex_iret F R dX8_feed_15 rfl (⟨by rw [if_neg (feed_gt hT.2.2.1 hT.1 c10)], ⟨t, by rw [if_neg (feed_gt hT.2.2.1 hT.1 c10)]; exact hT⟩, frTp_rf M⟩)
