theorem best_tell {N : Mem} {f : Nat → Int32} {fd : Int32} (h : bestIs N f fd) (h0 : ¬ fd = 0) {k : Nat} (hk : k < 4) : ¬ f 0 = 0 ∧ N 53 k = sBestTell f (nI k) := by
  rcases h with ⟨e, -⟩ | ⟨-, e0, e⟩
  · exact absurd e h0
  · refine ⟨by rw [e0]; decide, ?_⟩
    rw [e k hk]
    match k, hk with
    | 0, _ => rfl
    | 1, _ => rfl
    | 2, _ => rfl
    | 3, _ => rfl
theorem best_none {N : Mem} {f : Nat → Int32} {fd : Int32} (h : bestIs N f fd) (h0 : fd = 0) : f 0 = 0 := by
  rcases h with ⟨-, e⟩ | ⟨e, -⟩
  · exact e
  · rw [e] at h0; exact absurd h0 (by decide)
def bitsN (x : Int32) : Nat → Int32
  | 0 => 0
  | k + 1 => bitsN x k + ((x >>> (nI k &&& 31)) &&& 1)
theorem eq8 {k : Nat} (lk : k ≤ 8) (h : nI k = 8) : ¬ k < 8 := by
  intro q
  have := congrArg Int32.toNatClampNeg h
  rw [nI_clamp (by omega)] at this
  have e : Int32.toNatClampNeg 8 = 8 := by decide
  omega
theorem bits_bc : ∀ k, k < 256 → bitsN (nI k) 8 = bcX (nI k) := by decide +kernel
theorem cs_X8_plan_184 : CSV (xmN YX8_plan).cls (xmF YX8_plan) (xmW YX8_plan) 184 1 YX8_areCows := ⟨⟨ml_X8_184, ini_X8, cd_X8_areCows, by decide +kernel, by decide⟩, im_X8_areCows, se_X8_areCows⟩
theorem cs_X8_plan_78 : CSS (xmN YX8_plan).cls (xmF YX8_plan) (xmW YX8_plan) 78 3 YX8_in := ⟨⟨ml_X8_78, ini_X8, cd_X8_in, by decide +kernel, by decide⟩, st_X8_in⟩
theorem cs_X8_plan_222 : CSV (xmN YX8_plan).cls (xmF YX8_plan) (xmW YX8_plan) 222 1 YX8_layPlan := ⟨⟨ml_X8_222, ini_X8, cd_X8_layPlan, by decide +kernel, by decide⟩, im_X8_layPlan, se_X8_layPlan⟩
set_option maxRecDepth 100000 in
theorem c_X8_plan {l : Launch} {g : XG} {M : Mem} {K : Mem} {n : Nat} (hB : RB K M n) {b wh : Int32} : Call l g YX8_plan [.ref (ad g 38), .int b, .int wh] M (PI (fun v M' => v = (if (!sHasCows (K 1 4) b || outB wh 0 3) = true then -1 else if sBestN K b 189 0 = 0 then -4 else sBestTell (sBestN K b 189) wh) ∧ jM M M')) := by
  refine call_of (by decide +kernel) (Nat.le_of_ble_eq_true rfl) (fun x hxl F R => ?_)
  subst hxl
  refine ex_aload_n F dX8_plan_0 rfl rfl ?_
  refine ex_iload_n F dX8_plan_1 rfl rfl ?_
  refine ex_callVi F (c_X8_areCows) dX8_plan_2 cs_X8_plan_184 ob_8 rfl rfl rfl rfl (Nat.le_of_ble_eq_true rfl) (fun v2 M2 h2 => ?_)
  rw [hB.mn, ← hB.kn] at h2
  obtain ⟨rfl, q2⟩ := h2
  rw [q2]
  clear q2
  refine ex_if_eq (t := 20) F dX8_plan_5 (by decide) (fun c5 => ?_) (fun c5 => ?_)
  · refine ex_iconst (v := -1) F dX8_plan_20 (by decide) ?_
    exact ex_iret F R dX8_plan_21 rfl (⟨by rw [ift (or_l (by simpa using b2i_0.mp c5))], jM_rf M⟩)
  · refine ex_iload_n F dX8_plan_8 rfl rfl ?_
    refine ex_i2l F dX8_plan_9 ?_
    refine ex_lconst (v := 0) F dX8_plan_10 (by decide) ?_
    refine ex_ldc2 F dX8_plan_11 kc_X8_220 ?_
    refine ex_callSi F (c_X8_in) dX8_plan_14 cs_X8_plan_78 rfl rfl (Nat.le_of_ble_eq_true rfl) (fun v14 M14 h14 => ?_)
    obtain ⟨e14, q14⟩ := h14
    rw [q14]
    clear q14
    rw [in_out (lo := 0) (hi := 3) (by decide) (by decide)] at e14
    subst e14
    refine ex_if_ne (t := 22) F dX8_plan_17 (by decide) (fun c17 => ?_) (fun c17 => ?_)
    · have hb : sHasCows (K 1 4) b = true := b2i_1.mp c5
      have hw0 : outB wh 0 3 = false := by simpa using b2i_1.mp c17
      obtain ⟨ww, -, hw3, rfl⟩ := outB_n (a := 0) (b := 3) (by decide) hw0 (by decide)
      rw [ifn (or_n (by rw [hb]; rfl) hw0)] at R
      refine ex_aload_n F dX8_plan_22 rfl rfl ?_
      refine ex_iload_n F dX8_plan_23 rfl rfl ?_
      refine ex_callVi F (c_X8_layPlan hB hb) dX8_plan_24 cs_X8_plan_222 ob_8 rfl rfl rfl rfl (Nat.le_of_ble_eq_true rfl) (fun v24 M24 h24 => ?_)
      obtain ⟨b1, b2⟩ := h24
      refine ex_if_eq (t := 39) F dX8_plan_27 (by decide) (fun c27 => ?_) (fun c27 => ?_)
      · refine ex_bipush (v := -4) F dX8_plan_39 (by decide) ?_
        exact ex_iret F R dX8_plan_41 rfl (⟨by rw [if_pos (best_none b1 c27)], b2⟩)
      · refine ex_aload_n F dX8_plan_30 rfl rfl ?_
        refine gf_8_26 F dX8_plan_31 fl_X8_52 ?_
        refine ex_iload_n F dX8_plan_34 rfl rfl ?_
        refine ex_iald (n := 4) F dX8_plan_35 (by decide) (vp_in_nI (by omega) (by decide)) (j := ww) (nI_clamp (by omega)) ?_
        refine ex_goto (t := 41) F dX8_plan_36 (by decide) ?_
        exact ex_iret F R dX8_plan_41 rfl (⟨by rw [if_neg (best_tell b1 c27 (k := ww) (by omega)).1]; exact (best_tell b1 c27 (by omega)).2, b2⟩)
    · refine ex_iconst (v := -1) F dX8_plan_20 (by decide) ?_
      exact ex_iret F R dX8_plan_21 rfl (⟨by rw [ift (or_r (by simpa using b2i_0.mp c17))], jM_rf M⟩)
set_option maxRecDepth 100000 in
theorem c_X8_bitsOf {l : Launch} {g : XG} {M : Mem} {z : Int32} : Call l g YX8_bitsOf [.int z] M (PI (fun v M' => v = bitsN z 8 ∧ M' = M)) := by
  refine call_of (by decide +kernel) (Nat.le_of_ble_eq_true rfl) (fun x hxl F R => ?_)
  subst hxl
  refine ex_iconst (v := 0) F dX8_bitsOf_0 (by decide) ?_
  refine ex_istore_n F dX8_bitsOf_1 rfl (by decide) ?_
  refine ex_iconst (v := 0) F dX8_bitsOf_2 (by decide) ?_
  refine ex_istore_n F dX8_bitsOf_3 rfl (by decide) ?_
  have key : ∀ (m i : Nat) (a u : Int32), i + m = 8 → u = nI i → a = bitsN z i → EX x g (xmL YX8_bitsOf) M 4 [(0, .int z), (1, .int a), (2, .int u)] [] := by
    intro m
    induction m with
    | zero =>
      intro i a u hi hu ha
      obtain rfl : i = 8 := by omega
      subst hu
      refine ex_iload_n F dX8_bitsOf_4 rfl rfl ?_
      refine ex_bipush (v := 8) F dX8_bitsOf_5 (by decide) ?_
      refine ex_icmp_ge (t := 24) F dX8_bitsOf_7 (by decide) (fun _ => ?_) (fun c => absurd (by decide) c)
      refine ex_iload_n F dX8_bitsOf_24 rfl rfl ?_
      exact ex_iret F R dX8_bitsOf_25 rfl (⟨ha, rfl⟩)
    | succ m ih =>
      intro i a u hi hu ha
      subst hu
      refine ex_iload_n F dX8_bitsOf_4 rfl rfl ?_
      refine ex_bipush (v := 8) F dX8_bitsOf_5 (by decide) ?_
      refine ex_icmp_ge (t := 24) F dX8_bitsOf_7 (by decide) (fun c => absurd c (nI_ge (b := 8) (by omega) (by decide))) (fun _ => ?_)
      refine ex_iload_n F dX8_bitsOf_10 rfl rfl ?_
      refine ex_iload_n F dX8_bitsOf_11 rfl rfl ?_
      refine ex_iload_n F dX8_bitsOf_12 rfl rfl ?_
      refine ex_ishr F dX8_bitsOf_13 ?_
      refine ex_iconst (v := 1) F dX8_bitsOf_14 (by decide) ?_
      refine ex_iand F dX8_bitsOf_15 ?_
      refine ex_iadd F dX8_bitsOf_16 ?_
      refine ex_istore_n F dX8_bitsOf_17 rfl (by decide) ?_
      refine ex_iinc (w := _ + 1) F dX8_bitsOf_18 rfl rfl (by decide) ?_
      refine ex_goto (t := 4) F dX8_bitsOf_21 (by decide) ?_
      exact ex_weak2 (ih (i + 1) _ _ (by omega) (nI_1 i) (by rw [ha]; rfl)) ⟨rfl, rfl, rfl, trivial⟩
  exact ex_weak2 (key 8 0 _ _ (by omega) rfl rfl) ⟨rfl, rfl, rfl, trivial⟩
theorem cs_X8_saw_184 : CSV (xmN YX8_saw).cls (xmF YX8_saw) (xmW YX8_saw) 184 1 YX8_areCows := ⟨⟨ml_X8_184, ini_X8, cd_X8_areCows, by decide +kernel, by decide⟩, im_X8_areCows, se_X8_areCows⟩
theorem cs_X8_saw_78 : CSS (xmN YX8_saw).cls (xmF YX8_saw) (xmW YX8_saw) 78 3 YX8_in := ⟨⟨ml_X8_78, ini_X8, cd_X8_in, by decide +kernel, by decide⟩, st_X8_in⟩
set_option maxRecDepth 100000 in
theorem c_X8_saw {l : Launch} {g : XG} {M : Mem} {K : Mem} {n : Nat} (hB : RB K M n) {b t : Int32} {k : Nat} (hk : M 38 28 = nI k) (lk : k ≤ 8) : Call l g YX8_saw [.ref (ad g 38), .int b, .int t] M (PI (fun v M' => v = (if (!sHasCows (K 1 4) b || outB t 0 400) = true then -1 else if k < 8 then nI (k + 1) else -3) ∧ M' = (if (!sHasCows (K 1 4) b || outB t 0 400) = true then M else if k < 8 then mu (mu (mu M 54 (2 * k) b) 54 (2 * k + 1) t) 38 28 (nI (k + 1)) else M))) := by
  refine call_of (by decide +kernel) (Nat.le_of_ble_eq_true rfl) (fun x hxl F R => ?_)
  subst hxl
  refine ex_aload_n F dX8_saw_0 rfl rfl ?_
  refine ex_iload_n F dX8_saw_1 rfl rfl ?_
  refine ex_callVi F (c_X8_areCows) dX8_saw_2 cs_X8_saw_184 ob_8 rfl rfl rfl rfl (Nat.le_of_ble_eq_true rfl) (fun v2 M2 h2 => ?_)
  rw [hB.mn, ← hB.kn] at h2
  obtain ⟨rfl, q2⟩ := h2
  rw [q2]
  clear q2
  refine ex_if_eq (t := 20) F dX8_saw_5 (by decide) (fun c5 => ?_) (fun c5 => ?_)
  · refine ex_iconst (v := -1) F dX8_saw_20 (by decide) ?_
    exact ex_iret F R dX8_saw_21 rfl (⟨by rw [ift (or_l (by simpa using b2i_0.mp c5))], by rw [ift (or_l (by simpa using b2i_0.mp c5))]⟩)
  · refine ex_iload_n F dX8_saw_8 rfl rfl ?_
    refine ex_i2l F dX8_saw_9 ?_
    refine ex_lconst (v := 0) F dX8_saw_10 (by decide) ?_
    refine ex_ldc2 F dX8_saw_11 kc_X8_182 ?_
    refine ex_callSi F (c_X8_in) dX8_saw_14 cs_X8_saw_78 rfl rfl (Nat.le_of_ble_eq_true rfl) (fun v14 M14 h14 => ?_)
    obtain ⟨e14, q14⟩ := h14
    rw [q14]
    clear q14
    rw [in_out (lo := 0) (hi := 400) (by decide) (by decide)] at e14
    subst e14
    refine ex_if_ne (t := 22) F dX8_saw_17 (by decide) (fun c17 => ?_) (fun c17 => ?_)
    · have hbad : (!sHasCows (K 1 4) b || outB t 0 400) = false := or_n (by rw [b2i_1.mp c5]; rfl) (by simpa using b2i_1.mp c17)
      refine ex_aload_n F dX8_saw_22 rfl rfl ?_
      refine gf_8_28 F dX8_saw_23 fl_X8_142 ?_
      refine ex_bipush (v := 8) F dX8_saw_26 (by decide) ?_
      rw [hk]
      refine ex_icmp_ne (t := 34) F dX8_saw_28 (by decide) (fun c28 => ?_) (fun c28 => ?_)
      · have lk8 : k < 8 := by
          rcases Nat.lt_or_ge k 8 with q | q
          · exact q
          · exact absurd (show nI k = 8 by rw [show k = 8 by omega]; rfl) c28
        refine ex_aload_n F dX8_saw_34 rfl rfl ?_
        refine gf_8_27 F dX8_saw_35 fl_X8_55 ?_
        refine ex_iconst (v := 2) F dX8_saw_38 (by decide) ?_
        refine ex_aload_n F dX8_saw_39 rfl rfl ?_
        refine gf_8_28 F dX8_saw_40 fl_X8_142 ?_
        refine ex_imul F dX8_saw_43 ?_
        refine ex_iload_n F dX8_saw_44 rfl rfl ?_
        rw [hk]
        refine ex_iast (n := 16) F dX8_saw_45 (by decide) (by rw [ix2]; exact vp_in_nI (by omega) (by decide)) (j := 2 * k) (by rw [ix2]; exact nI_clamp (by omega)) ?_
        refine ex_aload_n F dX8_saw_46 rfl rfl ?_
        refine gf_8_27 F dX8_saw_47 fl_X8_55 ?_
        refine ex_iconst (v := 2) F dX8_saw_50 (by decide) ?_
        refine ex_aload_n F dX8_saw_51 rfl rfl ?_
        refine gf_8_28 F dX8_saw_52 fl_X8_142 ?_
        refine ex_imul F dX8_saw_55 ?_
        refine ex_iconst (v := 1) F dX8_saw_56 (by decide) ?_
        refine ex_iadd F dX8_saw_57 ?_
        refine ex_iload_n F dX8_saw_58 rfl rfl ?_
        rw [mu_k _ _ _ 38 _ (by decide), hk]
        refine ex_iast (n := 16) F dX8_saw_59 (by decide) (by rw [ix2, nI_1]; exact vp_in_nI (by omega) (by decide)) (j := 2 * k + 1) (by rw [ix2, nI_1]; exact nI_clamp (by omega)) ?_
        refine ex_aload_n F dX8_saw_60 rfl rfl ?_
        refine ex_dup F dX8_saw_61 rfl ?_
        refine gf_8_28 F dX8_saw_62 fl_X8_142 ?_
        rw [mu_k _ _ _ 38 _ (by decide), mu_k _ _ _ 38 _ (by decide), hk]
        refine ex_iconst (v := 1) F dX8_saw_65 (by decide) ?_
        refine ex_iadd F dX8_saw_66 ?_
        refine pf_8_28 F dX8_saw_67 fl_X8_142 ?_
        refine ex_aload_n F dX8_saw_70 rfl rfl ?_
        refine gf_8_28 F dX8_saw_71 fl_X8_142 ?_
        rw [mu_same]
        exact ex_iret F R dX8_saw_74 rfl (⟨by rw [ifn hbad, if_pos lk8, nI_1], by rw [ifn hbad, if_pos lk8, nI_1]⟩)
      · refine ex_bipush (v := -3) F dX8_saw_31 (by decide) ?_
        exact ex_iret F R dX8_saw_33 rfl (⟨by rw [ifn hbad, if_neg (eq8 lk c28)], by rw [ifn hbad, if_neg (eq8 lk c28)]⟩)
    · refine ex_iconst (v := -1) F dX8_saw_20 (by decide) ?_
      exact ex_iret F R dX8_saw_21 rfl (⟨by rw [ift (or_r (by simpa using b2i_0.mp c17))], by rw [ift (or_r (by simpa using b2i_0.mp c17))]⟩)
set_option maxRecDepth 100000 in
theorem c_X8_forget {l : Launch} {g : XG} {M : Mem}  : Call l g YX8_forget [.ref (ad g 38)] M (PI (fun v M' => v = M 38 28 ∧ M' = mu M 38 28 0)) := by
  refine call_of (by decide +kernel) (Nat.le_of_ble_eq_true rfl) (fun x hxl F R => ?_)
  subst hxl
  refine ex_aload_n F dX8_forget_0 rfl rfl ?_
  refine gf_8_28 F dX8_forget_1 fl_X8_142 ?_
  refine ex_istore_n F dX8_forget_4 rfl (by decide) ?_
  refine ex_aload_n F dX8_forget_5 rfl rfl ?_
  refine ex_iconst (v := 0) F dX8_forget_6 (by decide) ?_
  refine pf_8_28 F dX8_forget_7 fl_X8_142 ?_
  refine ex_iload_n F dX8_forget_10 rfl rfl ?_
  exact ex_iret F R dX8_forget_11 rfl (⟨rfl, rfl⟩)
