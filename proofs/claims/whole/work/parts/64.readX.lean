theorem ex_copyt {x : XC} {g : XG} {y0 : XM} {M : Mem} {pc : Nat} {L : List (Nat × Value)} {S : List Value} {idx i k1 n1 : Nat} {sp dp n : Int32} (F : XF x g y0) (d : decode (xmB y0) pc = .ok (.invokestatic idx, 3)) (hw : Cond.methodLink (xmN y0).cls idx arraycopyName ∈ TB) (hna : Cond.native arraycopyName ∈ TB) (hst : Cond.static arraycopyName ∈ TB) (hi9 : Cond.initialized "java/lang/System" ∈ TB) (hi : i < 6) (h1 : isI k1 n1) (q1 : ¬ sp < 0) (q2 : ¬ dp < 0) (q3 : ¬ n < 0) (q4 : sp.toNatClampNeg + n.toNatClampNeg ≤ stL i) (q5 : dp.toNatClampNeg + n.toNatClampNeg ≤ n1) (hf : 1 ≤ xmF y0) (hr : (S.map fun v => v.category).sum + 18 ≤ xmW y0)
    (k : EX x g (xmL y0) (fun c => if c = k1 then va_cpy (fun j => (stV i).getD j 0) (M k1) sp.toNatClampNeg dp.toNatClampNeg n.toNatClampNeg else M c) (pc + 3) L S) : EX x g (xmL y0) M pc L (.int n :: .int dp :: .ref (ad g k1) :: .int sp :: .ref (sa g i) :: S) := fun H locs ls hP hD hS hl => by
  have hl9 : (S.map fun v => v.category).sum + (nativeFrameWords "java/lang/System" "arraycopy" 5 + 11) ≤ (x_R x).locals := Nat.le_trans hr F.2.2.2.2.2.2.2.2.2.1
  intro T hT X
  obtain ⟨scr, s1, s2, s3, s4, -, s5, s6⟩ := (F.2.2.2.2.2.2.1.1 i hi).2
  obtain ⟨g1, k0, g2, g3, g4⟩ := s2
  obtain ⟨-, k2, e2, e3, e4⟩ := (F.2.2.2.2.2.1.2 0 _ (show (xty g)[0]? = some (cA g 0, FieldType.int) from rfl)).1 n1 (fun j => .int (M k1 j))
  have hc0 : H[sa g i]? = some scr := by rw [hS.2.1 _ (Array.getElem?_eq_some_iff.mp s1).1 s6]; exact s1
  have hc1 : H[ad g k1]? = some (vp_cell (cA g 0) (n1, .inl (M k1))) := hP k1 _ (al_I h1)
  have tn : ∀ z : Int32, ¬ z < 0 → z.toInt = (z.toNatClampNeg : Int) := fun z hz => by
    obtain ⟨j, hj, rfl⟩ := nI_of hz
    rw [nI_clamp hj, nI_toInt hj]
  obtain ⟨vm1, X1, st⟩ := X.arraycopy F.1 F.2.2.2.1 (F.2.2.2.2.1 _ hw) (F.2.2.2.2.1 _ hna) (F.2.2.2.2.1 _ hst) (F.2.2.2.2.1 _ hi9) (src := sa g i) (dst := ad g k1) (cs := scr) (cd := vp_cell (cA g 0) (n1, .inl (M k1))) (srcPos := sp) (destPos := dp) (n := n) (by rw [hT]; exact hc0) (by rw [hT]; exact hc1)
    g1 (fun _ h => by cases h) s3 (fun h => by cases h) g2 e2 g4 e4 (by simp [refKind]) q1 q2 q3 (by rw [tn sp q1, tn n q3]; omega)
    (by rw [tn dp q2, tn n q3]; show ¬ _ > ((arrV (cA g 0) n1 (fun j => .int (M k1 j))).slots.size : Int); rw [arrV_size]; omega)
    (fun vm1 _ j hj => by
      have e : scr.slots.getD (sp.toNatClampNeg + j) .null = .int ((stV i).getD (sp.toNatClampNeg + j) 0) := by
        rw [Array.getD_eq_getD_getElem?, s5 _ (by omega)]; rfl
      rw [e]
      exact ⟨rfl, trivial⟩)
    (g := F0 (x_m x) pc ls (.int n :: .int dp :: .ref (ad g k1) :: .int sp :: .ref (sa g i) :: S)) rfl (by show ls.size = _; rw [F.2.2.1]; exact hl.1) (rest := S) rfl (by show decode (x_c x).code pc = _; rw [F.2.1]; exact d) (Nat.le_trans hf F.2.2.2.2.2.2.2.2.1) (by show 2 * 0 + _ + _ ≤ _; omega)
  have e1 : copied scr (vp_cell (cA g 0) (n1, .inl (M k1))) sp dp n = vp_cell (cA g 0) (n1, .inl (va_cpy (fun j => (stV i).getD j 0) (M k1) sp.toNatClampNeg dp.toNatClampNeg n.toNatClampNeg)) := va_copiedX (fun z => .int z) scr (cA g 0) (fun j => (stV i).getD j 0) (M k1) s5 q4
  rw [e1] at X1 st
  obtain ⟨G, hG⟩ : ∃ G, va_cpy (fun j => (stV i).getD j 0) (M k1) sp.toNatClampNeg dp.toNatClampNeg n.toNatClampNeg = G := ⟨_, rfl⟩
  rw [hG] at X1 st k
  have hlt : ad g k1 < H.size := (Array.getElem?_eq_some_iff.mp hc1).1
  have oq : ∀ q : Nat, q ≠ ad g k1 → (H.setIfInBounds (ad g k1) (vp_cell (cA g 0) (n1, .inl G)))[q]? = H[q]? := fun q hq => by simp [Array.getElem?_setIfInBounds, Ne.symm hq]
  have hv1 : (H.setIfInBounds (ad g k1) (vp_cell (cA g 0) (n1, .inl G)))[ad g k1]? = some (vp_cell (cA g 0) (n1, .inl G)) := by simp [Array.getElem?_setIfInBounds, hlt]
  have hP1 : va_P g.1 vwCl ((WL g M).set k1 (ad g k1, .inl (cA g 0, n1, .inl G))) (H.setIfInBounds (ad g k1) (vp_cell (cA g 0) (n1, .inl G))) := hP.set hD (al_I h1) hv1 oq
  have hD1 : va_D (x_A x) ((WL g M).set k1 (ad g k1, .inl (cA g 0, n1, .inl G))) := hD.set (al_I h1)
  rw [as_I h1] at hP1 hD1
  obtain ⟨t, a1, b1⟩ := k _ _ ls hP1 hD1 ⟨by simp; exact hS.1, fun q g1 g2 => by
      rw [oq q (fun e => g2 (by rw [e]; exact hD.2 k1 _ (al_I h1)))]
      exact hS.2.1 q g1 g2, fun q hq => by
      rcases List.mem_append.mp hq with h | h
      · exact hS.2.2 q h
      · obtain ⟨z, -, hz⟩ := List.mem_map.mp h
        rw [← hz]
        exact hD.2 k1 _ (al_I h1)⟩ hl _ (by rw [← hT]; rfl) X1
  exact ⟨t, st t a1, b1⟩
def becF (K : Mem) : Mem := mu (fun c => if c = 10 then (fun j => if j < 9 then (stV 0).getD j 0 else K 10 j) else if c = 11 then (fun j => if j < 4 then (stV 1).getD j 0 else K 11 j) else K c) 9 4 0
theorem becF_ok (K : Mem) : mu (fun c => if c = 11 then va_cpy (fun j => (stV 1).getD j 0) ((fun c => if c = 10 then va_cpy (fun j => (stV 0).getD j 0) (K 10) 0 0 9 else K c) 11) 0 0 4 else (fun c => if c = 10 then va_cpy (fun j => (stV 0).getD j 0) (K 10) 0 0 9 else K c) c) 9 4 0 = becF K := by
  unfold becF
  congr 1
  funext c j
  by_cases h1 : c = 10
  · subst h1; simp [va_cpy]
  · by_cases h2 : c = 11
    · subst h2; simp [va_cpy]
    · simp [h1, h2]
set_option maxRecDepth 100000 in
theorem c_X6_becomeFirst {l : Launch} {g : XG} {M : Mem}  : Call l g YX6_becomeFirst [.ref (ad g 9)] M (PV (fun M' => M' = becF M)) := by
  refine call_of (by decide +kernel) (Nat.le_of_ble_eq_true rfl) (fun x hxl F R => ?_)
  subst hxl
  refine ex_gets (i := 0) F rfl dX6_becomeFirst_0 (by decide) fl_X6_7 ?_
  refine ex_iconst (v := 0) F dX6_becomeFirst_3 (by decide) ?_
  refine ex_aload_n F dX6_becomeFirst_4 rfl rfl ?_
  refine gf_6_0 (by decide) (q9 := 10) rfl F dX6_becomeFirst_5 fl_X6_18 ?_
  refine ex_iconst (v := 0) F dX6_becomeFirst_8 (by decide) ?_
  refine ex_aload_n F dX6_becomeFirst_9 rfl rfl ?_
  refine gf_6_0 (by decide) (q9 := 10) rfl F dX6_becomeFirst_10 fl_X6_18 ?_
  refine ex_ilen (n := 9) (v := 9) F dX6_becomeFirst_13 (by decide) (by decide) ?_
  refine ex_copyt (i := 0) (n1 := 9) F dX6_becomeFirst_14 ml_X6_33 na_copy st_copy ini_sys (by decide) (by decide) (by decide) (by decide) (by decide) (by decide) (by decide) (by decide) (Nat.le_of_ble_eq_true rfl) ?_
  refine ex_gets (i := 1) F rfl dX6_becomeFirst_17 (by decide) fl_X6_21 ?_
  refine ex_iconst (v := 0) F dX6_becomeFirst_20 (by decide) ?_
  refine ex_aload_n F dX6_becomeFirst_21 rfl rfl ?_
  refine gf_6_1 (by decide) (q9 := 11) rfl F dX6_becomeFirst_22 fl_X6_24 ?_
  refine ex_iconst (v := 0) F dX6_becomeFirst_25 (by decide) ?_
  refine ex_aload_n F dX6_becomeFirst_26 rfl rfl ?_
  refine gf_6_1 (by decide) (q9 := 11) rfl F dX6_becomeFirst_27 fl_X6_24 ?_
  refine ex_ilen (n := 4) (v := 4) F dX6_becomeFirst_30 (by decide) (by decide) ?_
  refine ex_copyt (i := 1) (n1 := 4) F dX6_becomeFirst_31 ml_X6_33 na_copy st_copy ini_sys (by decide) (by decide) (by decide) (by decide) (by decide) (by decide) (by decide) (by decide) (Nat.le_of_ble_eq_true rfl) ?_
  refine ex_aload_n F dX6_becomeFirst_34 rfl rfl ?_
  refine ex_iconst (v := 0) F dX6_becomeFirst_35 (by decide) ?_
  refine pf_6_4 (by decide) F dX6_becomeFirst_36 fl_X6_39 ?_
  exact ex_vret F R dX6_becomeFirst_39 rfl (becF_ok M)
def cpO (K : Mem) (a b n : Nat) : Nat → Int32 := fun j => if j < n then K a j else K b j
def becL (K : Mem) : Mem := mu (fun c => if c = 2 then cpO K 10 2 9 else if c = 3 then cpO K 11 3 4 else if c = 4 then cpO K 12 4 8 else if c = 5 then cpO K 13 5 8 else K c) 1 4 (K 9 4)
theorem cpy_O (f h : Nat → Int32) (n : Nat) : va_cpy f h 0 0 n = fun j => if j < n then f j else h j := by
  funext j
  simp [va_cpy]
def cpM (K : Mem) (a b n : Nat) : Mem := fun c => if c = b then va_cpy (K a) (K b) 0 0 n else K c
theorem becL_ok (K : Mem) : cpM (cpM (cpM (cpM K 10 2 9) 11 3 4) 12 4 8) 13 5 8 = (fun c => if c = 2 then cpO K 10 2 9 else if c = 3 then cpO K 11 3 4 else if c = 4 then cpO K 12 4 8 else if c = 5 then cpO K 13 5 8 else K c) := by
  funext c
  by_cases h5 : c = 5
  · subst h5; simp only [cpM, cpy_O]; rfl
  · by_cases h4 : c = 4
    · subst h4; simp only [cpM, cpy_O]; rfl
    · by_cases h3 : c = 3
      · subst h3; simp only [cpM, cpy_O]; rfl
      · by_cases h2 : c = 2
        · subst h2; simp only [cpM, cpy_O]; rfl
        · simp [cpM, h2, h3, h4, h5]
theorem becL_fin (K : Mem) : mu (cpM (cpM (cpM (cpM K 10 2 9) 11 3 4) 12 4 8) 13 5 8) 1 4 (K 9 4) = becL K := by rw [becL_ok]; rfl
def cl (v : Int32) : Nat := v.toNatClampNeg
theorem cl_n {n : Nat} (h : n < 2 ^ 31) : cl (nI n) = n := nI_clamp h
def putD (K : Mem) (W : Nat) (v : Int32) : Mem := if 6 ≤ W then mu K 10 (W - 6) v else if 2 ≤ W then mu K 11 (W - 2) v else if W = 1 then mu K 13 (cl (K 9 4)) v else mu K 12 (cl (K 9 4)) v
set_option maxRecDepth 100000 in
theorem c_X6_becomeLike {l : Launch} {g : XG} {M : Mem}  : Call l g YX6_becomeLike [.ref (ad g 1), .ref (ad g 9)] M (PV (fun M' => M' = becL M)) := by
  refine call_of (by decide +kernel) (Nat.le_of_ble_eq_true rfl) (fun x hxl F R => ?_)
  subst hxl
  refine ex_aload_n F dX6_becomeLike_0 rfl rfl ?_
  refine gf_6_0 (by decide) (q9 := 10) rfl F dX6_becomeLike_1 fl_X6_18 ?_
  refine ex_iconst (v := 0) F dX6_becomeLike_4 (by decide) ?_
  refine ex_aload_n F dX6_becomeLike_5 rfl rfl ?_
  refine gf_6_0 (by decide) (q9 := 2) rfl F dX6_becomeLike_6 fl_X6_18 ?_
  refine ex_iconst (v := 0) F dX6_becomeLike_9 (by decide) ?_
  refine ex_aload_n F dX6_becomeLike_10 rfl rfl ?_
  refine gf_6_0 (by decide) (q9 := 2) rfl F dX6_becomeLike_11 fl_X6_18 ?_
  refine ex_ilen (n := 9) (v := 9) F dX6_becomeLike_14 (by decide) (by decide) ?_
  refine ex_copyi (n0 := 9) (n1 := 9) F dX6_becomeLike_15 ml_X6_33 na_copy st_copy ini_sys (by decide) (by decide) (by decide) (by decide) (by decide) (by decide) (by decide) (by decide) (Nat.le_of_ble_eq_true rfl) ?_
  refine ex_M (M1 := cpM _ 10 2 9) rfl ?_
  refine ex_aload_n F dX6_becomeLike_18 rfl rfl ?_
  refine gf_6_1 (by decide) (q9 := 11) rfl F dX6_becomeLike_19 fl_X6_24 ?_
  refine ex_iconst (v := 0) F dX6_becomeLike_22 (by decide) ?_
  refine ex_aload_n F dX6_becomeLike_23 rfl rfl ?_
  refine gf_6_1 (by decide) (q9 := 3) rfl F dX6_becomeLike_24 fl_X6_24 ?_
  refine ex_iconst (v := 0) F dX6_becomeLike_27 (by decide) ?_
  refine ex_aload_n F dX6_becomeLike_28 rfl rfl ?_
  refine gf_6_1 (by decide) (q9 := 3) rfl F dX6_becomeLike_29 fl_X6_24 ?_
  refine ex_ilen (n := 4) (v := 4) F dX6_becomeLike_32 (by decide) (by decide) ?_
  refine ex_copyi (n0 := 4) (n1 := 4) F dX6_becomeLike_33 ml_X6_33 na_copy st_copy ini_sys (by decide) (by decide) (by decide) (by decide) (by decide) (by decide) (by decide) (by decide) (Nat.le_of_ble_eq_true rfl) ?_
  refine ex_M (M1 := cpM _ 11 3 4) rfl ?_
  refine ex_aload_n F dX6_becomeLike_36 rfl rfl ?_
  refine gf_6_2 (by decide) (q9 := 12) rfl F dX6_becomeLike_37 fl_X6_27 ?_
  refine ex_iconst (v := 0) F dX6_becomeLike_40 (by decide) ?_
  refine ex_aload_n F dX6_becomeLike_41 rfl rfl ?_
  refine gf_6_2 (by decide) (q9 := 4) rfl F dX6_becomeLike_42 fl_X6_27 ?_
  refine ex_iconst (v := 0) F dX6_becomeLike_45 (by decide) ?_
  refine ex_aload_n F dX6_becomeLike_46 rfl rfl ?_
  refine gf_6_2 (by decide) (q9 := 4) rfl F dX6_becomeLike_47 fl_X6_27 ?_
  refine ex_ilen (n := 8) (v := 8) F dX6_becomeLike_50 (by decide) (by decide) ?_
  refine ex_copyi (n0 := 8) (n1 := 8) F dX6_becomeLike_51 ml_X6_33 na_copy st_copy ini_sys (by decide) (by decide) (by decide) (by decide) (by decide) (by decide) (by decide) (by decide) (Nat.le_of_ble_eq_true rfl) ?_
  refine ex_M (M1 := cpM _ 12 4 8) rfl ?_
  refine ex_aload_n F dX6_becomeLike_54 rfl rfl ?_
  refine gf_6_3 (by decide) (q9 := 13) rfl F dX6_becomeLike_55 fl_X6_30 ?_
  refine ex_iconst (v := 0) F dX6_becomeLike_58 (by decide) ?_
  refine ex_aload_n F dX6_becomeLike_59 rfl rfl ?_
  refine gf_6_3 (by decide) (q9 := 5) rfl F dX6_becomeLike_60 fl_X6_30 ?_
  refine ex_iconst (v := 0) F dX6_becomeLike_63 (by decide) ?_
  refine ex_aload_n F dX6_becomeLike_64 rfl rfl ?_
  refine gf_6_3 (by decide) (q9 := 5) rfl F dX6_becomeLike_65 fl_X6_30 ?_
  refine ex_ilen (n := 8) (v := 8) F dX6_becomeLike_68 (by decide) (by decide) ?_
  refine ex_copyi (n0 := 8) (n1 := 8) F dX6_becomeLike_69 ml_X6_33 na_copy st_copy ini_sys (by decide) (by decide) (by decide) (by decide) (by decide) (by decide) (by decide) (by decide) (Nat.le_of_ble_eq_true rfl) ?_
  refine ex_M (M1 := cpM _ 13 5 8) rfl ?_
  refine ex_aload_n F dX6_becomeLike_72 rfl rfl ?_
  refine ex_aload_n F dX6_becomeLike_73 rfl rfl ?_
  refine gf_6_4 (by decide) F dX6_becomeLike_74 fl_X6_39 ?_
  refine pf_6_4 (by decide) F dX6_becomeLike_77 fl_X6_39 ?_
  exact ex_vret F R dX6_becomeLike_80 rfl (becL_fin M)
set_option maxRecDepth 100000 in
theorem c_X6_hasAllCows {l : Launch} {g : XG} {M : Mem}  : Call l g YX6_hasAllCows [.ref (ad g 9)] M (PI (fun v M' => v = b2i (decide (8 ≤ M 9 4)) ∧ M' = M)) := by
  refine call_of (by decide +kernel) (Nat.le_of_ble_eq_true rfl) (fun x hxl F R => ?_)
  subst hxl
  refine ex_aload_n F dX6_hasAllCows_0 rfl rfl ?_
  refine gf_6_4 (by decide) F dX6_hasAllCows_1 fl_X6_39 ?_
  refine ex_aload_n F dX6_hasAllCows_4 rfl rfl ?_
  refine gf_6_2 (by decide) (q9 := 12) rfl F dX6_hasAllCows_5 fl_X6_27 ?_
  refine ex_ilen (n := 8) (v := 8) F dX6_hasAllCows_8 (by decide) (by decide) ?_
  refine ex_icmp_ge (t := 24) F dX6_hasAllCows_9 (by decide) (fun c9 => ?_) (fun c9 => ?_)
  · refine ex_iconst (v := 1) F dX6_hasAllCows_24 (by decide) ?_
    refine ex_goto (t := 29) F dX6_hasAllCows_25 (by decide) ?_
    exact ex_zret (ty := .boolean) F R dX6_hasAllCows_29 rfl (rfl) (⟨by rw [decide_eq_true c9]; rfl, rfl⟩)
  · refine ex_aload_n F dX6_hasAllCows_12 rfl rfl ?_
    refine gf_6_4 (by decide) F dX6_hasAllCows_13 fl_X6_39 ?_
    refine ex_aload_n F dX6_hasAllCows_16 rfl rfl ?_
    refine gf_6_3 (by decide) (q9 := 13) rfl F dX6_hasAllCows_17 fl_X6_30 ?_
    refine ex_ilen (n := 8) (v := 8) F dX6_hasAllCows_20 (by decide) (by decide) ?_
    refine ex_icmp_lt (t := 28) F dX6_hasAllCows_21 (by decide) (fun c21 => ?_) (fun c21 => ?_)
    · refine ex_iconst (v := 0) F dX6_hasAllCows_28 (by decide) ?_
      exact ex_zret (ty := .boolean) F R dX6_hasAllCows_29 rfl (rfl) (⟨by rw [decide_eq_false c9]; rfl, rfl⟩)
    · refine ex_iconst (v := 1) F dX6_hasAllCows_24 (by decide) ?_
      refine ex_goto (t := 29) F dX6_hasAllCows_25 (by decide) ?_
      exact ex_zret (ty := .boolean) F R dX6_hasAllCows_29 rfl (rfl) (⟨by rw [decide_eq_true (Int32.not_lt.mp c21)]; rfl, rfl⟩)
set_option maxRecDepth 100000 in
theorem c_X6_put {l : Launch} {g : XG} {M : Mem} {W c : Nat} {v0 : Int32} (lW : W ≤ 14) (hc : M 9 4 = nI c) (lc : W < 2 → c < 8) : Call l g YX6_put [.ref (ad g 9), .int (nI W), .int v0] M (PV (fun M' => M' = putD M W v0)) := by
  refine call_of (by decide +kernel) (Nat.le_of_ble_eq_true rfl) (fun x hxl F R => ?_)
  subst hxl
  refine ex_iload_n F dX6_put_0 rfl rfl ?_
  refine ex_bipush (v := 6) F dX6_put_1 (by decide) ?_
  refine ex_icmp_lt (t := 31) F dX6_put_3 (by decide) (fun c3 => ?_) (fun c3 => ?_)
  · have l6 : W < 6 := (nI_ltI (b := 6) (by omega) (by decide)).mp c3
    refine ex_iload_n F dX6_put_31 rfl rfl ?_
    refine ex_iconst (v := 2) F dX6_put_32 (by decide) ?_
    refine ex_icmp_lt (t := 59) F dX6_put_33 (by decide) (fun c33 => ?_) (fun c33 => ?_)
    · have l2 : W < 2 := (nI_ltI (b := 2) (by omega) (by decide)).mp c33
      refine ex_iload_n F dX6_put_59 rfl rfl ?_
      refine ex_iconst (v := 1) F dX6_put_60 (by decide) ?_
      refine ex_icmp_ne (t := 89) F dX6_put_61 (by decide) (fun c61 => ?_) (fun c61 => ?_)
      · have l0 : ¬ W = 1 := fun q => c61 (by rw [q]; rfl)
        refine ex_iload_n F dX6_put_89 rfl rfl ?_
        refine ex_if_ne (t := 115) F dX6_put_90 (by decide) (fun c => absurd c (by intro q; refine q ?_; rw [show W = 0 by omega]; rfl)) (fun _ => ?_)
        refine ex_aload_n F dX6_put_93 rfl rfl ?_
        refine gf_6_4 (by decide) F dX6_put_94 fl_X6_39 ?_
        refine ex_aload_n F dX6_put_97 rfl rfl ?_
        refine gf_6_2 (by decide) (q9 := 12) rfl F dX6_put_98 fl_X6_27 ?_
        refine ex_ilen (n := 8) (v := 8) F dX6_put_101 (by decide) (by decide) ?_
        refine ex_icmp_ge (t := 115) F dX6_put_102 (by decide) (fun c => absurd c (by rw [hc]; exact nI_ge (b := 8) (lc (by omega)) (by decide))) (fun _ => ?_)
        refine ex_aload_n F dX6_put_105 rfl rfl ?_
        refine gf_6_2 (by decide) (q9 := 12) rfl F dX6_put_106 fl_X6_27 ?_
        refine ex_aload_n F dX6_put_109 rfl rfl ?_
        refine gf_6_4 (by decide) F dX6_put_110 fl_X6_39 ?_
        refine ex_iload_n F dX6_put_113 rfl rfl ?_
        refine ex_iast (n := 8) F dX6_put_114 (by decide) (by rw [hc]; exact vp_in_nI (lc (by omega)) (by decide)) rfl ?_
        exact ex_vret F R dX6_put_115 rfl (by rw [putD, if_neg (by omega), if_neg (by omega), if_neg l0]; rfl)
      · have l1 : W = 1 := nI_inj (j := 1) (by omega) (by decide) c61
        refine ex_aload_n F dX6_put_64 rfl rfl ?_
        refine gf_6_4 (by decide) F dX6_put_65 fl_X6_39 ?_
        refine ex_aload_n F dX6_put_68 rfl rfl ?_
        refine gf_6_3 (by decide) (q9 := 13) rfl F dX6_put_69 fl_X6_30 ?_
        refine ex_ilen (n := 8) (v := 8) F dX6_put_72 (by decide) (by decide) ?_
        refine ex_icmp_ge (t := 89) F dX6_put_73 (by decide) (fun c => absurd c (by rw [hc]; exact nI_ge (b := 8) (lc (by omega)) (by decide))) (fun _ => ?_)
        refine ex_aload_n F dX6_put_76 rfl rfl ?_
        refine gf_6_3 (by decide) (q9 := 13) rfl F dX6_put_77 fl_X6_30 ?_
        refine ex_aload_n F dX6_put_80 rfl rfl ?_
        refine gf_6_4 (by decide) F dX6_put_81 fl_X6_39 ?_
        refine ex_iload_n F dX6_put_84 rfl rfl ?_
        refine ex_iast (n := 8) F dX6_put_85 (by decide) (by rw [hc]; exact vp_in_nI (lc (by omega)) (by decide)) rfl ?_
        refine ex_goto (t := 115) F dX6_put_86 (by decide) ?_
        exact ex_vret F R dX6_put_115 rfl (by rw [putD, if_neg (by omega), if_neg (by omega), if_pos l1]; rfl)
    · have l2 : 2 ≤ W := Nat.not_lt.mp (fun q => c33 (nI_lt (b := 2) q (by decide)))
      refine ex_iload_n F dX6_put_36 rfl rfl ?_
      refine ex_iconst (v := 2) F dX6_put_37 (by decide) ?_
      refine ex_isub F dX6_put_38 ?_
      rw [show nI W - 2 = nI (W - 2) from nI_sub (b := 2) l2]
      refine ex_aload_n F dX6_put_39 rfl rfl ?_
      refine gf_6_1 (by decide) (q9 := 11) rfl F dX6_put_40 fl_X6_24 ?_
      refine ex_ilen (n := 4) (v := 4) F dX6_put_43 (by decide) (by decide) ?_
      refine ex_icmp_ge (t := 59) F dX6_put_44 (by decide) (fun c => absurd c (nI_ge (b := 4) (by omega) (by decide))) (fun _ => ?_)
      refine ex_aload_n F dX6_put_47 rfl rfl ?_
      refine gf_6_1 (by decide) (q9 := 11) rfl F dX6_put_48 fl_X6_24 ?_
      refine ex_iload_n F dX6_put_51 rfl rfl ?_
      refine ex_iconst (v := 2) F dX6_put_52 (by decide) ?_
      refine ex_isub F dX6_put_53 ?_
      rw [show nI W - 2 = nI (W - 2) from nI_sub (b := 2) l2]
      refine ex_iload_n F dX6_put_54 rfl rfl ?_
      refine ex_iast (n := 4) F dX6_put_55 (by decide) (vp_in_nI (by omega) (by decide)) (j := W - 2) (nI_clamp (by omega)) ?_
      refine ex_goto (t := 115) F dX6_put_56 (by decide) ?_
      exact ex_vret F R dX6_put_115 rfl (by rw [putD, if_neg (by omega), if_pos l2])
  · have l6 : 6 ≤ W := Nat.not_lt.mp (fun q => c3 (nI_lt (b := 6) q (by decide)))
    refine ex_iload_n F dX6_put_6 rfl rfl ?_
    refine ex_bipush (v := 6) F dX6_put_7 (by decide) ?_
    refine ex_isub F dX6_put_9 ?_
    rw [show nI W - 6 = nI (W - 6) from nI_sub (b := 6) l6]
    refine ex_aload_n F dX6_put_10 rfl rfl ?_
    refine gf_6_0 (by decide) (q9 := 10) rfl F dX6_put_11 fl_X6_18 ?_
    refine ex_ilen (n := 9) (v := 9) F dX6_put_14 (by decide) (by decide) ?_
    refine ex_icmp_ge (t := 31) F dX6_put_15 (by decide) (fun c => absurd c (nI_ge (b := 9) (by omega) (by decide))) (fun _ => ?_)
    refine ex_aload_n F dX6_put_18 rfl rfl ?_
    refine gf_6_0 (by decide) (q9 := 10) rfl F dX6_put_19 fl_X6_18 ?_
    refine ex_iload_n F dX6_put_22 rfl rfl ?_
    refine ex_bipush (v := 6) F dX6_put_23 (by decide) ?_
    refine ex_isub F dX6_put_25 ?_
    rw [show nI W - 6 = nI (W - 6) from nI_sub (b := 6) l6]
    refine ex_iload_n F dX6_put_26 rfl rfl ?_
    refine ex_iast (n := 9) F dX6_put_27 (by decide) (vp_in_nI (by omega) (by decide)) (j := W - 6) (nI_clamp (by omega)) ?_
    refine ex_goto (t := 115) F dX6_put_28 (by decide) ?_
    exact ex_vret F R dX6_put_115 rfl (by rw [putD, if_pos l6])
theorem csn_out : CSN (xmN YX3_takeNumber).cls (xmF YX3_takeNumber) (xmW YX3_takeNumber) 3 YX7_outside := ⟨⟨ini_X7, cd_X7_outside, by decide +kernel, by decide⟩, st_X7_outside⟩
def rfs (K : Mem) (v : Int32) : Mem := mu (mu K 6 6 v) 6 7 (K 7 3)
def spK (K : Mem) (i : Nat) : Bool := spl K (cl (K 7 1)) (cl (K 7 3)) (cl (K 7 4)) i
def lnm (K : Mem) : Int32 := if spK K 0 = true then 0 else if spK K 1 = true then 1 else if spK K 2 = true then 2 else if spK K 3 = true then 3 else if spK K 4 = true then 4 else if spK K 5 = true then 5 else if spK K 6 = true then 6 else if spK K 7 = true then 7 else -1
def TI (K : Mem) : Prop := ∃ n P Q, K 7 1 = nI n ∧ n ≤ 320 ∧ K 7 3 = nI P ∧ K 7 4 = nI Q ∧ P ≤ Q ∧ Q < 1000000000
def bgn (K : Mem) : Mem := if lnm K = -1 then rfs K 2 else if lnm K = 0 ∧ 8 ≤ K 9 4 then rfs K 5 else if ¬ lnm K = 0 ∧ ¬ (K 6 5 >>> (lnm K &&& 31)) &&& 1 = 0 then rfs K 4 else mu (mu (mu K 6 5 (K 6 5 ||| (1 <<< (lnm K &&& 31)))) 6 2 (lnm K)) 6 3 0
def enl (K : Mem) : Mem := if ¬ K 7 2 = 4 then rfs K 2 else if K 6 2 = 0 then mu (mu (mu K 9 4 (K 9 4 + 1)) 6 4 (K 6 4 + 1)) 6 2 (-1) else mu (mu K 6 4 (K 6 4 + 1)) 6 2 (-1)
theorem spK_of {K : Mem} {n P Q i : Nat} (hn : K 7 1 = nI n) (ln : n ≤ 320) (hP : K 7 3 = nI P) (hQ : K 7 4 = nI Q) (lP : P ≤ Q) (lQ : Q < 1000000000) : spl K n P Q i = spK K i := by
  rw [spK, hn, hP, hQ, cl_n (by omega), cl_n (by omega), cl_n (by omega)]
theorem c_spK {l : Launch} {g : XG} {M : Mem} {i : Nat} (hi : i < 8) (h : TI M) : Call l g YX5_spells [.ref (ad g 7), .ref (sk g i)] M (PI (fun v M' => v = b2i (spK M i) ∧ M' = M)) := by
  obtain ⟨n, P, Q, hn, ln, hP, hQ, lP, lQ⟩ := h
  have := c_X5_spells (l := l) (g := g) hi hn ln hP hQ lP lQ
  rw [spK_of hn ln hP hQ lP lQ] at this
  exact this
set_option maxRecDepth 100000 in
theorem c_X3_refuse {l : Launch} {g : XG} {M : Mem} {v0 : Int32} : Call l g YX3_refuse [.ref (ad g 6), .int v0] M (PV (fun M' => M' = rfs M v0)) := by
  refine call_of (by decide +kernel) (Nat.le_of_ble_eq_true rfl) (fun x hxl F R => ?_)
  subst hxl
  refine ex_aload_n F dX3_refuse_0 rfl rfl ?_
  refine ex_iload_n F dX3_refuse_1 rfl rfl ?_
  refine pf_3_6 F dX3_refuse_2 fl_X3_39 ?_
  refine ex_aload_n F dX3_refuse_5 rfl rfl ?_
  refine ex_aload_n F dX3_refuse_6 rfl rfl ?_
  refine gf_3_0 F dX3_refuse_7 fl_X3_10 ?_
  refine gf_5_3 F dX3_refuse_10 fl_X3_127 ?_
  refine pf_3_7 F dX3_refuse_13 fl_X3_130 ?_
  exact ex_vret F R dX3_refuse_16 rfl (rfl)
theorem cs_X3_lineNamed_81 : CSV (xmN YX3_lineNamed).cls (xmF YX3_lineNamed) (xmW YX3_lineNamed) 81 1 YX5_spells := ⟨⟨ml_X3_81, ini_X5, cd_X5_spells, by decide +kernel, by decide⟩, im_X5_spells, se_X5_spells⟩
set_option maxRecDepth 100000 in
theorem c_X3_lineNamed {l : Launch} {g : XG} {M : Mem} (hT : TI M) : Call l g YX3_lineNamed [.ref (ad g 6)] M (PI (fun v M' => v = lnm M ∧ M' = M)) := by
  refine call_of (by decide +kernel) (Nat.le_of_ble_eq_true rfl) (fun x hxl F R => ?_)
  subst hxl
  refine ex_aload_n F dX3_lineNamed_0 rfl rfl ?_
  refine gf_3_0 F dX3_lineNamed_1 fl_X3_10 ?_
  refine ex_ldcS (i := 0) (by decide) rfl F dX3_lineNamed_4 ?_
  refine ex_callVi F (c_spK (i := 0) (by decide) hT) dX3_lineNamed_6 cs_X3_lineNamed_81 ob_5 rfl rfl rfl rfl (Nat.le_of_ble_eq_true rfl) (fun v6 M6 h6 => ?_)
  obtain ⟨rfl, q6⟩ := h6
  rw [q6]
  clear q6
  refine ex_if_eq (t := 14) F dX3_lineNamed_9 (by decide) (fun c9 => ?_) (fun c9 => ?_)
  · refine ex_aload_n F dX3_lineNamed_14 rfl rfl ?_
    refine gf_3_0 F dX3_lineNamed_15 fl_X3_10 ?_
    refine ex_ldcS (i := 1) (by decide) rfl F dX3_lineNamed_18 ?_
    refine ex_callVi F (c_spK (i := 1) (by decide) hT) dX3_lineNamed_20 cs_X3_lineNamed_81 ob_5 rfl rfl rfl rfl (Nat.le_of_ble_eq_true rfl) (fun v20 M20 h20 => ?_)
    obtain ⟨rfl, q20⟩ := h20
    rw [q20]
    clear q20
    refine ex_if_eq (t := 28) F dX3_lineNamed_23 (by decide) (fun c23 => ?_) (fun c23 => ?_)
    · refine ex_aload_n F dX3_lineNamed_28 rfl rfl ?_
      refine gf_3_0 F dX3_lineNamed_29 fl_X3_10 ?_
      refine ex_ldcS (i := 2) (by decide) rfl F dX3_lineNamed_32 ?_
      refine ex_callVi F (c_spK (i := 2) (by decide) hT) dX3_lineNamed_34 cs_X3_lineNamed_81 ob_5 rfl rfl rfl rfl (Nat.le_of_ble_eq_true rfl) (fun v34 M34 h34 => ?_)
      obtain ⟨rfl, q34⟩ := h34
      rw [q34]
      clear q34
      refine ex_if_eq (t := 42) F dX3_lineNamed_37 (by decide) (fun c37 => ?_) (fun c37 => ?_)
      · refine ex_aload_n F dX3_lineNamed_42 rfl rfl ?_
        refine gf_3_0 F dX3_lineNamed_43 fl_X3_10 ?_
        refine ex_ldcS (i := 3) (by decide) rfl F dX3_lineNamed_46 ?_
        refine ex_callVi F (c_spK (i := 3) (by decide) hT) dX3_lineNamed_48 cs_X3_lineNamed_81 ob_5 rfl rfl rfl rfl (Nat.le_of_ble_eq_true rfl) (fun v48 M48 h48 => ?_)
        obtain ⟨rfl, q48⟩ := h48
        rw [q48]
        clear q48
        refine ex_if_eq (t := 56) F dX3_lineNamed_51 (by decide) (fun c51 => ?_) (fun c51 => ?_)
        · refine ex_aload_n F dX3_lineNamed_56 rfl rfl ?_
          refine gf_3_0 F dX3_lineNamed_57 fl_X3_10 ?_
          refine ex_ldcS (i := 4) (by decide) rfl F dX3_lineNamed_60 ?_
          refine ex_callVi F (c_spK (i := 4) (by decide) hT) dX3_lineNamed_62 cs_X3_lineNamed_81 ob_5 rfl rfl rfl rfl (Nat.le_of_ble_eq_true rfl) (fun v62 M62 h62 => ?_)
          obtain ⟨rfl, q62⟩ := h62
          rw [q62]
          clear q62
          refine ex_if_eq (t := 70) F dX3_lineNamed_65 (by decide) (fun c65 => ?_) (fun c65 => ?_)
          · refine ex_aload_n F dX3_lineNamed_70 rfl rfl ?_
            refine gf_3_0 F dX3_lineNamed_71 fl_X3_10 ?_
            refine ex_ldcS (i := 5) (by decide) rfl F dX3_lineNamed_74 ?_
            refine ex_callVi F (c_spK (i := 5) (by decide) hT) dX3_lineNamed_76 cs_X3_lineNamed_81 ob_5 rfl rfl rfl rfl (Nat.le_of_ble_eq_true rfl) (fun v76 M76 h76 => ?_)
            obtain ⟨rfl, q76⟩ := h76
            rw [q76]
            clear q76
            refine ex_if_eq (t := 84) F dX3_lineNamed_79 (by decide) (fun c79 => ?_) (fun c79 => ?_)
            · refine ex_aload_n F dX3_lineNamed_84 rfl rfl ?_
              refine gf_3_0 F dX3_lineNamed_85 fl_X3_10 ?_
              refine ex_ldcS (i := 6) (by decide) rfl F dX3_lineNamed_88 ?_
              refine ex_callVi F (c_spK (i := 6) (by decide) hT) dX3_lineNamed_90 cs_X3_lineNamed_81 ob_5 rfl rfl rfl rfl (Nat.le_of_ble_eq_true rfl) (fun v90 M90 h90 => ?_)
              obtain ⟨rfl, q90⟩ := h90
              rw [q90]
              clear q90
              refine ex_if_eq (t := 99) F dX3_lineNamed_93 (by decide) (fun c93 => ?_) (fun c93 => ?_)
              · refine ex_aload_n F dX3_lineNamed_99 rfl rfl ?_
                refine gf_3_0 F dX3_lineNamed_100 fl_X3_10 ?_
                refine ex_ldcS (i := 7) (by decide) rfl F dX3_lineNamed_103 ?_
                refine ex_callVi F (c_spK (i := 7) (by decide) hT) dX3_lineNamed_105 cs_X3_lineNamed_81 ob_5 rfl rfl rfl rfl (Nat.le_of_ble_eq_true rfl) (fun v105 M105 h105 => ?_)
                obtain ⟨rfl, q105⟩ := h105
                rw [q105]
                clear q105
                refine ex_if_eq (t := 116) F dX3_lineNamed_108 (by decide) (fun c108 => ?_) (fun c108 => ?_)
                · refine ex_iconst (v := -1) F dX3_lineNamed_116 (by decide) ?_
                  exact ex_iret F R dX3_lineNamed_117 rfl (⟨by rw [lnm, if_neg (by rw [b2i_0.mp c9]; decide), if_neg (by rw [b2i_0.mp c23]; decide), if_neg (by rw [b2i_0.mp c37]; decide), if_neg (by rw [b2i_0.mp c51]; decide), if_neg (by rw [b2i_0.mp c65]; decide), if_neg (by rw [b2i_0.mp c79]; decide), if_neg (by rw [b2i_0.mp c93]; decide), if_neg (by rw [b2i_0.mp c108]; decide)], rfl⟩)
                · refine ex_bipush (v := 7) F dX3_lineNamed_111 (by decide) ?_
                  refine ex_goto (t := 117) F dX3_lineNamed_113 (by decide) ?_
                  exact ex_iret F R dX3_lineNamed_117 rfl (⟨by rw [lnm, if_neg (by rw [b2i_0.mp c9]; decide), if_neg (by rw [b2i_0.mp c23]; decide), if_neg (by rw [b2i_0.mp c37]; decide), if_neg (by rw [b2i_0.mp c51]; decide), if_neg (by rw [b2i_0.mp c65]; decide), if_neg (by rw [b2i_0.mp c79]; decide), if_neg (by rw [b2i_0.mp c93]; decide), if_pos (b2i_1.mp c108)], rfl⟩)
              · refine ex_bipush (v := 6) F dX3_lineNamed_96 (by decide) ?_
                exact ex_iret F R dX3_lineNamed_98 rfl (⟨by rw [lnm, if_neg (by rw [b2i_0.mp c9]; decide), if_neg (by rw [b2i_0.mp c23]; decide), if_neg (by rw [b2i_0.mp c37]; decide), if_neg (by rw [b2i_0.mp c51]; decide), if_neg (by rw [b2i_0.mp c65]; decide), if_neg (by rw [b2i_0.mp c79]; decide), if_pos (b2i_1.mp c93)], rfl⟩)
            · refine ex_iconst (v := 5) F dX3_lineNamed_82 (by decide) ?_
              exact ex_iret F R dX3_lineNamed_83 rfl (⟨by rw [lnm, if_neg (by rw [b2i_0.mp c9]; decide), if_neg (by rw [b2i_0.mp c23]; decide), if_neg (by rw [b2i_0.mp c37]; decide), if_neg (by rw [b2i_0.mp c51]; decide), if_neg (by rw [b2i_0.mp c65]; decide), if_pos (b2i_1.mp c79)], rfl⟩)
          · refine ex_iconst (v := 4) F dX3_lineNamed_68 (by decide) ?_
            exact ex_iret F R dX3_lineNamed_69 rfl (⟨by rw [lnm, if_neg (by rw [b2i_0.mp c9]; decide), if_neg (by rw [b2i_0.mp c23]; decide), if_neg (by rw [b2i_0.mp c37]; decide), if_neg (by rw [b2i_0.mp c51]; decide), if_pos (b2i_1.mp c65)], rfl⟩)
        · refine ex_iconst (v := 3) F dX3_lineNamed_54 (by decide) ?_
          exact ex_iret F R dX3_lineNamed_55 rfl (⟨by rw [lnm, if_neg (by rw [b2i_0.mp c9]; decide), if_neg (by rw [b2i_0.mp c23]; decide), if_neg (by rw [b2i_0.mp c37]; decide), if_pos (b2i_1.mp c51)], rfl⟩)
      · refine ex_iconst (v := 2) F dX3_lineNamed_40 (by decide) ?_
        exact ex_iret F R dX3_lineNamed_41 rfl (⟨by rw [lnm, if_neg (by rw [b2i_0.mp c9]; decide), if_neg (by rw [b2i_0.mp c23]; decide), if_pos (b2i_1.mp c37)], rfl⟩)
    · refine ex_iconst (v := 1) F dX3_lineNamed_26 (by decide) ?_
      exact ex_iret F R dX3_lineNamed_27 rfl (⟨by rw [lnm, if_neg (by rw [b2i_0.mp c9]; decide), if_pos (b2i_1.mp c23)], rfl⟩)
  · refine ex_iconst (v := 0) F dX3_lineNamed_12 (by decide) ?_
    exact ex_iret F R dX3_lineNamed_13 rfl (⟨by rw [lnm, if_pos (b2i_1.mp c9)], rfl⟩)
theorem cs_X3_beginLine_71 : CSV (xmN YX3_beginLine).cls (xmF YX3_beginLine) (xmW YX3_beginLine) 71 0 YX3_lineNamed := ⟨⟨ml_X3_71, ini_X3, cd_X3_lineNamed, by decide +kernel, by decide⟩, im_X3_lineNamed, se_X3_lineNamed⟩
theorem cs_X3_beginLine_51 : CSV (xmN YX3_beginLine).cls (xmF YX3_beginLine) (xmW YX3_beginLine) 51 1 YX3_refuse := ⟨⟨ml_X3_51, ini_X3, cd_X3_refuse, by decide +kernel, by decide⟩, im_X3_refuse, se_X3_refuse⟩
theorem cs_X3_beginLine_75 : CSV (xmN YX3_beginLine).cls (xmF YX3_beginLine) (xmW YX3_beginLine) 75 0 YX6_hasAllCows := ⟨⟨ml_X3_75, ini_X6, cd_X6_hasAllCows, by decide +kernel, by decide⟩, im_X6_hasAllCows, se_X6_hasAllCows⟩
set_option maxRecDepth 100000 in
theorem c_X3_beginLine {l : Launch} {g : XG} {M : Mem} (hT : TI M) : Call l g YX3_beginLine [.ref (ad g 6)] M (PV (fun M' => M' = bgn M)) := by
  refine call_of (by decide +kernel) (Nat.le_of_ble_eq_true rfl) (fun x hxl F R => ?_)
  subst hxl
  refine ex_aload_n F dX3_beginLine_0 rfl rfl ?_
  refine ex_callVi F (c_X3_lineNamed hT) dX3_beginLine_1 cs_X3_beginLine_71 ob_3 rfl rfl rfl rfl (Nat.le_of_ble_eq_true rfl) (fun v1 M1 h1 => ?_)
  obtain ⟨e1, q1⟩ := h1
  rw [q1]
  clear q1
  refine ex_istore_n F dX3_beginLine_4 rfl (by decide) ?_
  refine ex_iload_n F dX3_beginLine_5 rfl rfl ?_
  refine ex_iconst (v := -1) F dX3_beginLine_6 (by decide) ?_
  refine ex_icmp_ne (t := 18) F dX3_beginLine_7 (by decide) (fun c7 => ?_) (fun c7 => ?_)
  · refine ex_iload_n F dX3_beginLine_18 rfl rfl ?_
    refine ex_if_ne (t := 40) F dX3_beginLine_19 (by decide) (fun c19 => ?_) (fun c19 => ?_)
    · refine ex_iload_n F dX3_beginLine_40 rfl rfl ?_
      refine ex_if_eq (t := 63) F dX3_beginLine_41 (by decide) (fun c41 => ?_) (fun c41 => ?_)
      · refine ex_aload_n F dX3_beginLine_63 rfl rfl ?_
        refine ex_dup F dX3_beginLine_64 rfl ?_
        refine gf_3_5 F dX3_beginLine_65 fl_X3_36 ?_
        refine ex_iconst (v := 1) F dX3_beginLine_68 (by decide) ?_
        refine ex_iload_n F dX3_beginLine_69 rfl rfl ?_
        refine ex_ishl F dX3_beginLine_70 ?_
        refine ex_ior F dX3_beginLine_71 ?_
        refine pf_3_5 F dX3_beginLine_72 fl_X3_36 ?_
        refine ex_aload_n F dX3_beginLine_75 rfl rfl ?_
        refine ex_iload_n F dX3_beginLine_76 rfl rfl ?_
        refine pf_3_2 F dX3_beginLine_77 fl_X3_29 ?_
        refine ex_aload_n F dX3_beginLine_80 rfl rfl ?_
        refine ex_iconst (v := 0) F dX3_beginLine_81 (by decide) ?_
        refine pf_3_3 F dX3_beginLine_82 fl_X3_62 ?_
        exact ex_vret F R dX3_beginLine_85 rfl (by subst e1; rw [bgn, if_neg c7, if_neg (fun q => c19 q.1), if_neg (fun q => q.1 c41)])
      · refine ex_aload_n F dX3_beginLine_44 rfl rfl ?_
        refine gf_3_5 F dX3_beginLine_45 fl_X3_36 ?_
        refine ex_iload_n F dX3_beginLine_48 rfl rfl ?_
        refine ex_ishr F dX3_beginLine_49 ?_
        refine ex_iconst (v := 1) F dX3_beginLine_50 (by decide) ?_
        refine ex_iand F dX3_beginLine_51 ?_
        refine ex_if_eq (t := 63) F dX3_beginLine_52 (by decide) (fun c52 => ?_) (fun c52 => ?_)
        · refine ex_aload_n F dX3_beginLine_63 rfl rfl ?_
          refine ex_dup F dX3_beginLine_64 rfl ?_
          refine gf_3_5 F dX3_beginLine_65 fl_X3_36 ?_
          refine ex_iconst (v := 1) F dX3_beginLine_68 (by decide) ?_
          refine ex_iload_n F dX3_beginLine_69 rfl rfl ?_
          refine ex_ishl F dX3_beginLine_70 ?_
          refine ex_ior F dX3_beginLine_71 ?_
          refine pf_3_5 F dX3_beginLine_72 fl_X3_36 ?_
          refine ex_aload_n F dX3_beginLine_75 rfl rfl ?_
          refine ex_iload_n F dX3_beginLine_76 rfl rfl ?_
          refine pf_3_2 F dX3_beginLine_77 fl_X3_29 ?_
          refine ex_aload_n F dX3_beginLine_80 rfl rfl ?_
          refine ex_iconst (v := 0) F dX3_beginLine_81 (by decide) ?_
          refine pf_3_3 F dX3_beginLine_82 fl_X3_62 ?_
          exact ex_vret F R dX3_beginLine_85 rfl (by subst e1; rw [bgn, if_neg c7, if_neg (fun q => c19 q.1), if_neg (fun q => q.2 c52)]; try rfl)
        · refine ex_aload_n F dX3_beginLine_55 rfl rfl ?_
          refine ex_iconst (v := 4) F dX3_beginLine_56 (by decide) ?_
          refine ex_callVv F (c_X3_refuse) dX3_beginLine_57 cs_X3_beginLine_51 ob_3 rfl rfl rfl rfl (Nat.le_of_ble_eq_true rfl) (fun M57 h57 => ?_)
          rw [h57]
          refine ex_goto (t := 85) F dX3_beginLine_60 (by decide) ?_
          exact ex_vret F R dX3_beginLine_85 rfl (by subst e1; rw [bgn, if_neg c7, if_neg (fun q => c19 q.1), if_pos ⟨c41, c52⟩])
    · refine ex_aload_n F dX3_beginLine_22 rfl rfl ?_
      refine gf_3_1 F dX3_beginLine_23 fl_X3_19 ?_
      refine ex_callVi F (c_X6_hasAllCows) dX3_beginLine_26 cs_X3_beginLine_75 (ob_6 (by decide)) rfl rfl rfl rfl (Nat.le_of_ble_eq_true rfl) (fun v26 M26 h26 => ?_)
      obtain ⟨rfl, q26⟩ := h26
      rw [q26]
      clear q26
      refine ex_if_eq (t := 40) F dX3_beginLine_29 (by decide) (fun c29 => ?_) (fun c29 => ?_)
      · refine ex_iload_n F dX3_beginLine_40 rfl rfl ?_
        refine ex_if_eq (t := 63) F dX3_beginLine_41 (by decide) (fun c41 => ?_) (fun c41 => ?_)
        · refine ex_aload_n F dX3_beginLine_63 rfl rfl ?_
          refine ex_dup F dX3_beginLine_64 rfl ?_
          refine gf_3_5 F dX3_beginLine_65 fl_X3_36 ?_
          refine ex_iconst (v := 1) F dX3_beginLine_68 (by decide) ?_
          refine ex_iload_n F dX3_beginLine_69 rfl rfl ?_
          refine ex_ishl F dX3_beginLine_70 ?_
          refine ex_ior F dX3_beginLine_71 ?_
          refine pf_3_5 F dX3_beginLine_72 fl_X3_36 ?_
          refine ex_aload_n F dX3_beginLine_75 rfl rfl ?_
          refine ex_iload_n F dX3_beginLine_76 rfl rfl ?_
          refine pf_3_2 F dX3_beginLine_77 fl_X3_29 ?_
          refine ex_aload_n F dX3_beginLine_80 rfl rfl ?_
          refine ex_iconst (v := 0) F dX3_beginLine_81 (by decide) ?_
          refine pf_3_3 F dX3_beginLine_82 fl_X3_62 ?_
          exact ex_vret F R dX3_beginLine_85 rfl (by subst e1; rw [bgn, if_neg c7, if_neg (fun q => by have := b2i_0.mp c29; simp [q.2] at this), if_neg (fun q => q.1 c41)])
        · refine ex_aload_n F dX3_beginLine_44 rfl rfl ?_
          refine gf_3_5 F dX3_beginLine_45 fl_X3_36 ?_
          refine ex_iload_n F dX3_beginLine_48 rfl rfl ?_
          refine ex_ishr F dX3_beginLine_49 ?_
          refine ex_iconst (v := 1) F dX3_beginLine_50 (by decide) ?_
          refine ex_iand F dX3_beginLine_51 ?_
          refine ex_if_eq (t := 63) F dX3_beginLine_52 (by decide) (fun c52 => ?_) (fun c52 => ?_)
          · refine ex_aload_n F dX3_beginLine_63 rfl rfl ?_
            refine ex_dup F dX3_beginLine_64 rfl ?_
            refine gf_3_5 F dX3_beginLine_65 fl_X3_36 ?_
            refine ex_iconst (v := 1) F dX3_beginLine_68 (by decide) ?_
            refine ex_iload_n F dX3_beginLine_69 rfl rfl ?_
            refine ex_ishl F dX3_beginLine_70 ?_
            refine ex_ior F dX3_beginLine_71 ?_
            refine pf_3_5 F dX3_beginLine_72 fl_X3_36 ?_
            refine ex_aload_n F dX3_beginLine_75 rfl rfl ?_
            refine ex_iload_n F dX3_beginLine_76 rfl rfl ?_
            refine pf_3_2 F dX3_beginLine_77 fl_X3_29 ?_
            refine ex_aload_n F dX3_beginLine_80 rfl rfl ?_
            refine ex_iconst (v := 0) F dX3_beginLine_81 (by decide) ?_
            refine pf_3_3 F dX3_beginLine_82 fl_X3_62 ?_
            exact ex_vret F R dX3_beginLine_85 rfl (by subst e1; rw [bgn, if_neg c7, if_neg (fun q => by have := b2i_0.mp c29; simp [q.2] at this), if_neg (fun q => q.2 c52)]; try rfl)
          · refine ex_aload_n F dX3_beginLine_55 rfl rfl ?_
            refine ex_iconst (v := 4) F dX3_beginLine_56 (by decide) ?_
            refine ex_callVv F (c_X3_refuse) dX3_beginLine_57 cs_X3_beginLine_51 ob_3 rfl rfl rfl rfl (Nat.le_of_ble_eq_true rfl) (fun M57 h57 => ?_)
            rw [h57]
            refine ex_goto (t := 85) F dX3_beginLine_60 (by decide) ?_
            exact ex_vret F R dX3_beginLine_85 rfl (by subst e1; rw [bgn, if_neg c7, if_neg (fun q => by have := b2i_0.mp c29; simp [q.2] at this), if_pos ⟨c41, c52⟩])
      · refine ex_aload_n F dX3_beginLine_32 rfl rfl ?_
        refine ex_iconst (v := 5) F dX3_beginLine_33 (by decide) ?_
        refine ex_callVv F (c_X3_refuse) dX3_beginLine_34 cs_X3_beginLine_51 ob_3 rfl rfl rfl rfl (Nat.le_of_ble_eq_true rfl) (fun M34 h34 => ?_)
        rw [h34]
        refine ex_goto (t := 85) F dX3_beginLine_37 (by decide) ?_
        exact ex_vret F R dX3_beginLine_85 rfl (by subst e1; rw [bgn, if_neg c7, if_pos ⟨c19, by simpa using b2i_1.mp c29⟩])
  · refine ex_aload_n F dX3_beginLine_10 rfl rfl ?_
    refine ex_iconst (v := 2) F dX3_beginLine_11 (by decide) ?_
    refine ex_callVv F (c_X3_refuse) dX3_beginLine_12 cs_X3_beginLine_51 ob_3 rfl rfl rfl rfl (Nat.le_of_ble_eq_true rfl) (fun M12 h12 => ?_)
    rw [h12]
    refine ex_goto (t := 85) F dX3_beginLine_15 (by decide) ?_
    exact ex_vret F R dX3_beginLine_85 rfl (by subst e1; rw [bgn, if_pos c7])
theorem cs_X3_endLine_51 : CSV (xmN YX3_endLine).cls (xmF YX3_endLine) (xmW YX3_endLine) 51 1 YX3_refuse := ⟨⟨ml_X3_51, ini_X3, cd_X3_refuse, by decide +kernel, by decide⟩, im_X3_refuse, se_X3_refuse⟩
set_option maxRecDepth 100000 in
theorem c_X3_endLine {l : Launch} {g : XG} {M : Mem}  : Call l g YX3_endLine [.ref (ad g 6)] M (PV (fun M' => M' = enl M)) := by
  refine call_of (by decide +kernel) (Nat.le_of_ble_eq_true rfl) (fun x hxl F R => ?_)
  subst hxl
  refine ex_aload_n F dX3_endLine_0 rfl rfl ?_
  refine gf_3_0 F dX3_endLine_1 fl_X3_10 ?_
  refine gf_5_2 F dX3_endLine_4 fl_X3_45 ?_
  refine ex_iconst (v := 4) F dX3_endLine_7 (by decide) ?_
  refine ex_icmp_eq (t := 17) F dX3_endLine_8 (by decide) (fun c8 => ?_) (fun c8 => ?_)
  · refine ex_aload_n F dX3_endLine_17 rfl rfl ?_
    refine gf_3_2 F dX3_endLine_18 fl_X3_29 ?_
    refine ex_if_ne (t := 37) F dX3_endLine_21 (by decide) (fun c21 => ?_) (fun c21 => ?_)
    · refine ex_aload_n F dX3_endLine_37 rfl rfl ?_
      refine ex_dup F dX3_endLine_38 rfl ?_
      refine gf_3_4 F dX3_endLine_39 fl_X3_33 ?_
      refine ex_iconst (v := 1) F dX3_endLine_42 (by decide) ?_
      refine ex_iadd F dX3_endLine_43 ?_
      refine pf_3_4 F dX3_endLine_44 fl_X3_33 ?_
      refine ex_aload_n F dX3_endLine_47 rfl rfl ?_
      refine ex_iconst (v := -1) F dX3_endLine_48 (by decide) ?_
      refine pf_3_2 F dX3_endLine_49 fl_X3_29 ?_
      exact ex_vret F R dX3_endLine_52 rfl (by rw [enl, if_neg (fun q => q c8), if_neg c21]; try rfl)
    · refine ex_aload_n F dX3_endLine_24 rfl rfl ?_
      refine gf_3_1 F dX3_endLine_25 fl_X3_19 ?_
      refine ex_dup F dX3_endLine_28 rfl ?_
      refine gf_6_4 (by decide) F dX3_endLine_29 fl_X3_124 ?_
      refine ex_iconst (v := 1) F dX3_endLine_32 (by decide) ?_
      refine ex_iadd F dX3_endLine_33 ?_
      refine pf_6_4 (by decide) F dX3_endLine_34 fl_X3_124 ?_
      refine ex_aload_n F dX3_endLine_37 rfl rfl ?_
      refine ex_dup F dX3_endLine_38 rfl ?_
      refine gf_3_4 F dX3_endLine_39 fl_X3_33 ?_
      refine ex_iconst (v := 1) F dX3_endLine_42 (by decide) ?_
      refine ex_iadd F dX3_endLine_43 ?_
      refine pf_3_4 F dX3_endLine_44 fl_X3_33 ?_
      refine ex_aload_n F dX3_endLine_47 rfl rfl ?_
      refine ex_iconst (v := -1) F dX3_endLine_48 (by decide) ?_
      refine pf_3_2 F dX3_endLine_49 fl_X3_29 ?_
      exact ex_vret F R dX3_endLine_52 rfl (by rw [enl, if_neg (fun q => q c8), if_pos c21]; try rfl)
  · refine ex_aload_n F dX3_endLine_11 rfl rfl ?_
    refine ex_iconst (v := 2) F dX3_endLine_12 (by decide) ?_
    refine ex_callVv F (c_X3_refuse) dX3_endLine_13 cs_X3_endLine_51 ob_3 rfl rfl rfl rfl (Nat.le_of_ble_eq_true rfl) (fun M13 h13 => ?_)
    rw [h13]
    exact ex_vret F R dX3_endLine_16 rfl (by rw [enl, if_pos c8])
