theorem nI_sub {a b : Nat} (h : b ≤ a) : nI a - nI b = nI (a - b) := by
  have e : nI (a - b) + nI b = nI a := by rw [nI_add, Nat.sub_add_cancel h]
  rw [← e, Int32.add_sub_cancel]
def tkm (M : Mem) (a k q v : Int32) : Mem := fun c => if c = 7 then (fun j => if j = 3 then a else if j = 2 then k else if j = 4 then q else if j = 5 then v else M 7 j) else M c
theorem tkm_id (M : Mem) : M = tkm M (M 7 3) (M 7 2) (M 7 4) (M 7 5) := by
  funext c j
  by_cases hc : c = 7
  · subst hc
    simp only [tkm, if_true]
    by_cases h3 : j = 3
    · simp [h3]
    · by_cases h2 : j = 2
      · simp [h2]
      · by_cases h4 : j = 4
        · simp [h4]
        · by_cases h5 : j = 5
          · simp [h5]
          · simp [h3, h2, h4, h5]
  · simp [tkm, hc]
theorem tkm_3 (M : Mem) (a k q v y : Int32) : mu (tkm M a k q v) 7 3 y = tkm M y k q v := by
  funext c j
  by_cases hc : c = 7
  · subst hc
    by_cases hj : j = 3
    · simp [mu, upd, tkm, hj]
    · simp [mu, upd, tkm, hj]
  · simp [mu, tkm, hc]
theorem tkm_2 (M : Mem) (a k q v y : Int32) : mu (tkm M a k q v) 7 2 y = tkm M a y q v := by
  funext c j
  by_cases hc : c = 7
  · subst hc
    by_cases hj : j = 2
    · simp [mu, upd, tkm, hj]
    · simp [mu, upd, tkm, hj]
  · simp [mu, tkm, hc]
theorem tkm_4 (M : Mem) (a k q v y : Int32) : mu (tkm M a k q v) 7 4 y = tkm M a k y v := by
  funext c j
  by_cases hc : c = 7
  · subst hc
    by_cases hj : j = 4
    · simp [mu, upd, tkm, hj]
    · simp [mu, upd, tkm, hj]
  · simp [mu, tkm, hc]
theorem tkm_5 (M : Mem) (a k q v y : Int32) : mu (tkm M a k q v) 7 5 y = tkm M a k q y := by
  funext c j
  by_cases hc : c = 7
  · subst hc
    by_cases hj : j = 5
    · simp [mu, upd, tkm, hj]
    · simp [mu, upd, tkm, hj]
  · simp [mu, tkm, hc]
theorem tkm_8 (M : Mem) (a k q v : Int32) : tkm M a k q v 8 = M 8 := rfl
theorem tkm_r3 (M : Mem) (a k q v : Int32) : tkm M a k q v 7 3 = a := rfl
theorem tkm_r1 (M : Mem) (a k q v : Int32) : tkm M a k q v 7 1 = M 7 1 := rfl
def kdB (b : Int32) : Int32 := if b = 32 then 1 else if b = 59 then 4 else if ¬ b < 97 ∧ ¬ 122 < b then 2 else if ¬ b < 48 ∧ ¬ 57 < b then 3 else 5
def tb (M : Mem) (n p : Nat) : Int32 := if p < n then M 8 p else 0
def kd (M : Mem) (n p : Nat) : Int32 := if n ≤ p then 0 else kdB (M 8 p)
def skp (f : Nat → Int32) (c : Int32) : Nat → Nat → Nat
  | 0, p => p
  | k + 1, p => if f p = c then skp f c k (p + 1) else p
def nmb (f : Nat → Int32) : Nat → Nat → Int32 → Int32
  | 0, _, a => a
  | k + 1, p, a => nmb f k (p + 1) (10 * a + f p - 48)
theorem skp_ge (f : Nat → Int32) (c : Int32) : ∀ k p, p ≤ skp f c k p := by
  intro k
  induction k with
  | zero => intro p; exact Nat.le_refl _
  | succ k ih => intro p; rw [skp]; split
                 · have := ih (p + 1); omega
                 · exact Nat.le_refl _
theorem skp_le (f : Nat → Int32) (c : Int32) : ∀ k p, skp f c k p ≤ p + k := by
  intro k
  induction k with
  | zero => intro p; exact Nat.le_refl _
  | succ k ih => intro p; rw [skp]; split
                 · have := ih (p + 1); omega
                 · omega
def tkP (M : Mem) (n s : Nat) : Nat := skp (kd M n) 1 320 s
def tkQ (M : Mem) (n s : Nat) : Nat := if kd M n (tkP M n s) = 2 ∨ kd M n (tkP M n s) = 3 then skp (kd M n) (kd M n (tkP M n s)) 320 (tkP M n s + 1) else tkP M n s + 1
def tkK (M : Mem) (n s : Nat) : Int32 := if kd M n (tkP M n s) = 3 ∧ 3 < tkQ M n s - tkP M n s then 5 else kd M n (tkP M n s)
def tkN (M : Mem) (n s : Nat) : Int32 := if kd M n (tkP M n s) = 3 ∧ ¬ 3 < tkQ M n s - tkP M n s then nmb (tb M n) (tkQ M n s - tkP M n s) (tkP M n s) 0 else M 7 5
def advm (M : Mem) (n s : Nat) : Mem := tkm M (nI (tkP M n s)) (tkK M n s) (nI (tkQ M n s)) (tkN M n s)
theorem tkm_r2 (M : Mem) (a k q v : Int32) : tkm M a k q v 7 2 = k := rfl
theorem tkm_r4 (M : Mem) (a k q v : Int32) : tkm M a k q v 7 4 = q := rfl
theorem tkm_r5 (M : Mem) (a k q v : Int32) : tkm M a k q v 7 5 = v := rfl
theorem kd_tkm (M : Mem) (a k q v : Int32) : kd (tkm M a k q v) = kd M := rfl
theorem tb_tkm (M : Mem) (a k q v : Int32) : tb (tkm M a k q v) = tb M := rfl
theorem tb_mu7 (M : Mem) (j : Nat) (y : Int32) : tb (mu M 7 j y) = tb M := rfl
theorem mu_mu (M : Mem) (k j : Nat) (a b : Int32) : mu (mu M k j a) k j b = mu M k j b := by
  funext c i
  by_cases hc : c = k
  · subst hc
    by_cases hi : i = j
    · subst hi; simp [mu, upd]
    · simp [mu, upd, hi]
  · simp [mu, hc]
theorem tb_lt {M : Mem} {n p : Nat} (h : p < n) : tb M n p = M 8 p := if_pos h
theorem tb_ge {M : Mem} {n p : Nat} (h : ¬ p < n) : tb M n p = 0 := if_neg h
theorem kd_lt {M : Mem} {n p : Nat} (h : p < n) : kd M n p = kdB (M 8 p) := if_neg (by omega)
theorem tkP_b (M : Mem) (n s : Nat) : s ≤ tkP M n s ∧ tkP M n s ≤ s + 320 := ⟨skp_ge _ _ _ _, skp_le _ _ _ _⟩
theorem tkQ_b (M : Mem) (n s : Nat) : tkP M n s + 1 ≤ tkQ M n s ∧ tkQ M n s ≤ tkP M n s + 321 := by
  unfold tkQ
  split
  · exact ⟨skp_ge _ _ _ _, by have := skp_le (kd M n) (kd M n (tkP M n s)) 320 (tkP M n s + 1); omega⟩
  · omega
theorem nI_1' (a : Nat) : nI a + 1 = nI (a + 1) := nI_1 a
set_option maxRecDepth 100000 in
theorem c_X5_byteAt {l : Launch} {g : XG} {M : Mem} {n p : Nat} (hn : M 7 1 = nI n) (ln : n ≤ 320) (lp : p < 2000000000) : Call l g YX5_byteAt [.ref (ad g 7), .int (nI p)] M (PI (fun v M' => v = tb M n p ∧ M' = M)) := by
  refine call_of (by decide +kernel) (Nat.le_of_ble_eq_true rfl) (fun x hxl F R => ?_)
  subst hxl
  refine ex_iload_n F dX5_byteAt_0 rfl rfl ?_
  refine ex_if_lt (t := 30) F dX5_byteAt_1 (by decide) (fun c => absurd c (nI_pos (by omega))) (fun _ => ?_)
  refine ex_iload_n F dX5_byteAt_4 rfl rfl ?_
  refine ex_aload_n F dX5_byteAt_5 rfl rfl ?_
  refine gf_5_1 F dX5_byteAt_6 fl_X5_13 ?_
  refine ex_icmp_ge (t := 30) F dX5_byteAt_9 (by decide) (fun c9 => ?_) (fun c9 => ?_)
  · refine ex_iconst (v := 0) F dX5_byteAt_30 (by decide) ?_
    exact ex_iret F R dX5_byteAt_31 rfl (⟨by rw [tb_ge (by intro q; refine absurd c9 ?_; rw [hn]; exact nI_ge q (by omega))], rfl⟩)
  · have lpn : p < n := nI_ltof (by omega) (by rw [← hn]; exact c9)
    refine ex_iload_n F dX5_byteAt_12 rfl rfl ?_
    refine ex_aload_n F dX5_byteAt_13 rfl rfl ?_
    refine gf_5_0 F dX5_byteAt_14 fl_X5_9 ?_
    refine ex_blen (n := 320) (v := 320) F dX5_byteAt_17 (by decide) (by decide) ?_
    refine ex_icmp_ge (t := 30) F dX5_byteAt_18 (by decide) (fun c => absurd c (nI_ge (b := 320) (by omega) (by decide))) (fun _ => ?_)
    refine ex_aload_n F dX5_byteAt_21 rfl rfl ?_
    refine gf_5_0 F dX5_byteAt_22 fl_X5_9 ?_
    refine ex_iload_n F dX5_byteAt_25 rfl rfl ?_
    refine ex_bald (n := 320) F dX5_byteAt_26 (by decide) (vp_in_nI (by omega) (by decide)) (j := p) (nI_clamp (by omega)) ?_
    refine ex_goto (t := 31) F dX5_byteAt_27 (by decide) ?_
    exact ex_iret F R dX5_byteAt_31 rfl (⟨by rw [tb_lt (nI_ltof (by omega) (by rw [← hn]; exact c9))], rfl⟩)
theorem cs_X5_kindAt_36 : CSV (xmN YX5_kindAt).cls (xmF YX5_kindAt) (xmW YX5_kindAt) 36 1 YX5_byteAt := ⟨⟨ml_X5_36, ini_X5, cd_X5_byteAt, by decide +kernel, by decide⟩, im_X5_byteAt, se_X5_byteAt⟩
set_option maxRecDepth 100000 in
theorem c_X5_kindAt {l : Launch} {g : XG} {M : Mem} {n p : Nat} (hn : M 7 1 = nI n) (ln : n ≤ 320) (lp : p < 2000000000) : Call l g YX5_kindAt [.ref (ad g 7), .int (nI p)] M (PI (fun v M' => v = kd M n p ∧ M' = M)) := by
  refine call_of (by decide +kernel) (Nat.le_of_ble_eq_true rfl) (fun x hxl F R => ?_)
  subst hxl
  refine ex_iload_n F dX5_kindAt_0 rfl rfl ?_
  refine ex_aload_n F dX5_kindAt_1 rfl rfl ?_
  refine gf_5_1 F dX5_kindAt_2 fl_X5_13 ?_
  refine ex_icmp_lt (t := 10) F dX5_kindAt_5 (by decide) (fun c5 => ?_) (fun c5 => ?_)
  · refine ex_aload_n F dX5_kindAt_10 rfl rfl ?_
    refine ex_iload_n F dX5_kindAt_11 rfl rfl ?_
    refine ex_callVi F (c_X5_byteAt hn ln lp) dX5_kindAt_12 cs_X5_kindAt_36 ob_5 rfl rfl rfl rfl (Nat.le_of_ble_eq_true rfl) (fun v12 M12 h12 => ?_)
    obtain ⟨e12, q12⟩ := h12
    rw [q12]
    clear q12
    have lpn : p < n := (nI_ltI (by omega) (by omega)).mp (by rw [← hn]; exact c5)
    rw [tb_lt lpn] at e12
    subst e12
    refine ex_istore_n F dX5_kindAt_15 rfl (by decide) ?_
    refine ex_iload_n F dX5_kindAt_16 rfl rfl ?_
    refine ex_bipush (v := 32) F dX5_kindAt_17 (by decide) ?_
    refine ex_icmp_ne (t := 24) F dX5_kindAt_19 (by decide) (fun c19 => ?_) (fun c19 => ?_)
    · refine ex_iload_n F dX5_kindAt_24 rfl rfl ?_
      refine ex_bipush (v := 59) F dX5_kindAt_25 (by decide) ?_
      refine ex_icmp_ne (t := 32) F dX5_kindAt_27 (by decide) (fun c27 => ?_) (fun c27 => ?_)
      · refine ex_iload_n F dX5_kindAt_32 rfl rfl ?_
        refine ex_bipush (v := 97) F dX5_kindAt_33 (by decide) ?_
        refine ex_icmp_lt (t := 46) F dX5_kindAt_35 (by decide) (fun c35 => ?_) (fun c35 => ?_)
        · refine ex_iload_n F dX5_kindAt_46 rfl rfl ?_
          refine ex_bipush (v := 48) F dX5_kindAt_47 (by decide) ?_
          refine ex_icmp_lt (t := 62) F dX5_kindAt_49 (by decide) (fun c49 => ?_) (fun c49 => ?_)
          · refine ex_iconst (v := 5) F dX5_kindAt_62 (by decide) ?_
            exact ex_iret F R dX5_kindAt_63 rfl (⟨by rw [kd_lt lpn]; simp [kdB, c19, c27, c35, c49], rfl⟩)
          · refine ex_iload_n F dX5_kindAt_52 rfl rfl ?_
            refine ex_bipush (v := 57) F dX5_kindAt_53 (by decide) ?_
            refine ex_icmp_gt (t := 62) F dX5_kindAt_55 (by decide) (fun c55 => ?_) (fun c55 => ?_)
            · refine ex_iconst (v := 5) F dX5_kindAt_62 (by decide) ?_
              exact ex_iret F R dX5_kindAt_63 rfl (⟨by rw [kd_lt lpn]; simp [kdB, c19, c27, c35, c49, c55], rfl⟩)
            · refine ex_iconst (v := 3) F dX5_kindAt_58 (by decide) ?_
              refine ex_goto (t := 63) F dX5_kindAt_59 (by decide) ?_
              exact ex_iret F R dX5_kindAt_63 rfl (⟨by rw [kd_lt lpn]; simp [kdB, c19, c27, c35, c49, c55], rfl⟩)
        · refine ex_iload_n F dX5_kindAt_38 rfl rfl ?_
          refine ex_bipush (v := 122) F dX5_kindAt_39 (by decide) ?_
          refine ex_icmp_gt (t := 46) F dX5_kindAt_41 (by decide) (fun c41 => ?_) (fun c41 => ?_)
          · refine ex_iload_n F dX5_kindAt_46 rfl rfl ?_
            refine ex_bipush (v := 48) F dX5_kindAt_47 (by decide) ?_
            refine ex_icmp_lt (t := 62) F dX5_kindAt_49 (by decide) (fun c49 => ?_) (fun c49 => ?_)
            · refine ex_iconst (v := 5) F dX5_kindAt_62 (by decide) ?_
              exact ex_iret F R dX5_kindAt_63 rfl (⟨by rw [kd_lt lpn]; simp [kdB, c19, c27, c35, c41, c49], rfl⟩)
            · refine ex_iload_n F dX5_kindAt_52 rfl rfl ?_
              refine ex_bipush (v := 57) F dX5_kindAt_53 (by decide) ?_
              refine ex_icmp_gt (t := 62) F dX5_kindAt_55 (by decide) (fun c55 => ?_) (fun c55 => ?_)
              · refine ex_iconst (v := 5) F dX5_kindAt_62 (by decide) ?_
                exact ex_iret F R dX5_kindAt_63 rfl (⟨by rw [kd_lt lpn]; simp [kdB, c19, c27, c35, c41, c49, c55], rfl⟩)
              · refine ex_iconst (v := 3) F dX5_kindAt_58 (by decide) ?_
                refine ex_goto (t := 63) F dX5_kindAt_59 (by decide) ?_
                exact ex_iret F R dX5_kindAt_63 rfl (⟨by rw [kd_lt lpn]; simp [kdB, c19, c27, c35, c41, c49, c55], rfl⟩)
          · refine ex_iconst (v := 2) F dX5_kindAt_44 (by decide) ?_
            exact ex_iret F R dX5_kindAt_45 rfl (⟨by rw [kd_lt lpn]; simp [kdB, c19, c27, c35, c41], rfl⟩)
      · refine ex_iconst (v := 4) F dX5_kindAt_30 (by decide) ?_
        exact ex_iret F R dX5_kindAt_31 rfl (⟨by rw [kd_lt lpn]; simp [kdB, c19, c27], rfl⟩)
    · refine ex_iconst (v := 1) F dX5_kindAt_22 (by decide) ?_
      exact ex_iret F R dX5_kindAt_23 rfl (⟨by rw [kd_lt lpn]; simp [kdB, c19], rfl⟩)
  · refine ex_iconst (v := 0) F dX5_kindAt_8 (by decide) ?_
    exact ex_iret F R dX5_kindAt_9 rfl (⟨by rw [kd, if_pos]; refine Nat.not_lt.mp (fun q => absurd (nI_lt q (by omega)) ?_); rw [← hn]; exact c5, rfl⟩)
theorem cs_X5_takeNumber_36 : CSV (xmN YX5_takeNumber).cls (xmF YX5_takeNumber) (xmW YX5_takeNumber) 36 1 YX5_byteAt := ⟨⟨ml_X5_36, ini_X5, cd_X5_byteAt, by decide +kernel, by decide⟩, im_X5_byteAt, se_X5_byteAt⟩
set_option maxRecDepth 100000 in
theorem c_X5_takeNumber {l : Launch} {g : XG} {M : Mem} {n P0 Q : Nat} (hn : M 7 1 = nI n) (ln : n ≤ 320) (hP : M 7 3 = nI P0) (hQ : M 7 4 = nI Q) (lP : P0 ≤ Q) (lQ : Q < 2000000000) : Call l g YX5_takeNumber [.ref (ad g 7)] M (PV (fun M' => M' = (if 3 < Q - P0 then mu M 7 2 5 else mu M 7 5 (nmb (tb M n) (Q - P0) P0 0)))) := by
  refine call_of (by decide +kernel) (Nat.le_of_ble_eq_true rfl) (fun x hxl F R => ?_)
  subst hxl
  refine ex_aload_n F dX5_takeNumber_0 rfl rfl ?_
  refine gf_5_4 F dX5_takeNumber_1 fl_X5_17 ?_
  refine ex_aload_n F dX5_takeNumber_4 rfl rfl ?_
  refine gf_5_3 F dX5_takeNumber_5 fl_X5_20 ?_
  rw [hP, hQ]
  refine ex_isub F dX5_takeNumber_8 ?_
  rw [nI_sub lP]
  refine ex_iconst (v := 3) F dX5_takeNumber_9 (by decide) ?_
  refine ex_icmp_le (t := 19) F dX5_takeNumber_10 (by decide) (fun c10 => ?_) (fun c10 => ?_)
  · have l3 : ¬ 3 < Q - P0 := Nat.not_lt.mpr ((nI_leI (b := 3) (by omega) (by decide)).mp c10)
    refine ex_aload_n F dX5_takeNumber_19 rfl rfl ?_
    refine ex_iconst (v := 0) F dX5_takeNumber_20 (by decide) ?_
    refine pf_5_5 F dX5_takeNumber_21 fl_X5_33 ?_
    refine ex_aload_n F dX5_takeNumber_24 rfl rfl ?_
    refine gf_5_3 F dX5_takeNumber_25 fl_X5_20 ?_
    rw [mu_j _ _ _ _ _ (by decide), hP]
    refine ex_istore_n F dX5_takeNumber_28 rfl (by decide) ?_
    have key : ∀ (m p : Nat) (a : Int32), p + m = Q → nmb (tb M n) m p a = nmb (tb M n) (Q - P0) P0 0 → EX x g (xmL YX5_takeNumber) (mu M 7 5 a) 29 [(0, .ref (ad g 7)), (1, .int (nI p))] [] := by
      intro m
      induction m with
      | zero =>
        intro p a hp ha
        obtain rfl : p = Q := by omega
        refine ex_iload_n F dX5_takeNumber_29 rfl rfl ?_
        refine ex_aload_n F dX5_takeNumber_30 rfl rfl ?_
        refine gf_5_4 F dX5_takeNumber_31 fl_X5_17 ?_
        rw [mu_j _ _ _ _ _ (by decide), hQ]
        refine ex_icmp_ge (t := 63) F dX5_takeNumber_34 (by decide) (fun _ => ?_) (fun c => absurd (nI_le (Nat.le_refl _) (by omega)) c)
        exact ex_vret F R dX5_takeNumber_63 rfl (by rw [if_neg l3, ← ha]; rfl)
      | succ m ih =>
        intro p a hp ha
        refine ex_iload_n F dX5_takeNumber_29 rfl rfl ?_
        refine ex_aload_n F dX5_takeNumber_30 rfl rfl ?_
        refine gf_5_4 F dX5_takeNumber_31 fl_X5_17 ?_
        rw [mu_j _ _ _ _ _ (by decide), hQ]
        refine ex_icmp_ge (t := 63) F dX5_takeNumber_34 (by decide) (fun c => absurd c (nI_ge (by omega) (by omega))) (fun _ => ?_)
        refine ex_aload_n F dX5_takeNumber_37 rfl rfl ?_
        refine ex_bipush (v := 10) F dX5_takeNumber_38 (by decide) ?_
        refine ex_aload_n F dX5_takeNumber_40 rfl rfl ?_
        refine gf_5_5 F dX5_takeNumber_41 fl_X5_33 ?_
        rw [mu_same]
        refine ex_imul F dX5_takeNumber_44 ?_
        refine ex_aload_n F dX5_takeNumber_45 rfl rfl ?_
        refine ex_iload_n F dX5_takeNumber_46 rfl rfl ?_
        refine ex_callVi F (c_X5_byteAt (M := mu M 7 5 a) (n := n) (p := p) hn ln (by omega)) dX5_takeNumber_47 cs_X5_takeNumber_36 ob_5 rfl rfl rfl rfl (Nat.le_of_ble_eq_true rfl) (fun v47 M47 h47 => ?_)
        obtain ⟨e47, q47⟩ := h47
        rw [q47]
        clear q47
        rw [tb_mu7] at e47
        subst e47
        refine ex_iadd F dX5_takeNumber_50 ?_
        refine ex_bipush (v := 48) F dX5_takeNumber_51 (by decide) ?_
        refine ex_isub F dX5_takeNumber_53 ?_
        refine pf_5_5 F dX5_takeNumber_54 fl_X5_33 ?_
        refine ex_iinc (w := _ + 1) F dX5_takeNumber_57 rfl rfl (by decide) ?_
        rw [nI_1]
        refine ex_goto (t := 29) F dX5_takeNumber_60 (by decide) ?_
        refine ex_M (M1 := mu M 7 5 (10 * a + tb M n p - 48)) ?_ (ex_weak2 (ih (p + 1) _ (by omega) ha) ⟨rfl, rfl, trivial⟩)
        rw [mu_mu]
    exact ex_weak2 (key (Q - P0) P0 0 (by omega) rfl) ⟨rfl, rfl, trivial⟩
  · have l3 : 3 < Q - P0 := (Nat.not_le.mp fun q => c10 (nI_le (b := 3) q (by decide)))
    refine ex_aload_n F dX5_takeNumber_13 rfl rfl ?_
    refine ex_iconst (v := 5) F dX5_takeNumber_14 (by decide) ?_
    refine pf_5_2 F dX5_takeNumber_15 fl_X5_27 ?_
    exact ex_vret F R dX5_takeNumber_18 rfl (by rw [if_pos l3])
theorem adv_end {M : Mem} {n s P Q : Nat} (hP : tkP M n s = P) (hQ : tkQ M n s = Q) (c : kd M n P = 3) : (if 3 < Q - P then mu (tkm M (nI P) (kd M n P) (nI Q) (M 7 5)) 7 2 5 else mu (tkm M (nI P) (kd M n P) (nI Q) (M 7 5)) 7 5 (nmb (tb (tkm M (nI P) (kd M n P) (nI Q) (M 7 5)) n) (Q - P) P 0)) = advm M n s := by
  rw [advm, tkK, tkN, hP, hQ]
  by_cases h : 3 < Q - P
  · rw [if_pos h, if_pos ⟨c, h⟩, if_neg (fun q => q.2 h), tkm_2]
  · rw [if_neg h, if_neg (fun q => h q.2), if_pos ⟨c, h⟩, tkm_5, tb_tkm]
theorem cs_X5_advance_23 : CSV (xmN YX5_advance).cls (xmF YX5_advance) (xmW YX5_advance) 23 1 YX5_kindAt := ⟨⟨ml_X5_23, ini_X5, cd_X5_kindAt, by decide +kernel, by decide⟩, im_X5_kindAt, se_X5_kindAt⟩
theorem cs_X5_advance_30 : CSV (xmN YX5_advance).cls (xmF YX5_advance) (xmW YX5_advance) 30 0 YX5_takeNumber := ⟨⟨ml_X5_30, ini_X5, cd_X5_takeNumber, by decide +kernel, by decide⟩, im_X5_takeNumber, se_X5_takeNumber⟩
set_option maxRecDepth 100000 in
theorem c_X5_advance {l : Launch} {g : XG} {M : Mem} {n s : Nat} (hn : M 7 1 = nI n) (ln : n ≤ 320) (hs : M 7 4 = nI s) (ls : s < 1000000000) : Call l g YX5_advance [.ref (ad g 7)] M (PV (fun M' => M' = advm M n s)) := by
  refine call_of (by decide +kernel) (Nat.le_of_ble_eq_true rfl) (fun x hxl F R => ?_)
  subst hxl
  refine ex_M (tkm_id M) ?_
  refine ex_aload_n F dX5_advance_0 rfl rfl ?_
  refine ex_aload_n F dX5_advance_1 rfl rfl ?_
  refine gf_5_4 F dX5_advance_2 fl_X5_17 ?_
  rw [tkm_r4, hs]
  refine pf_5_3 F dX5_advance_5 fl_X5_20 ?_
  rw [tkm_3]
  refine ex_iconst (v := 0) F dX5_advance_8 (by decide) ?_
  refine ex_istore_n F dX5_advance_9 rfl (by decide) ?_
  obtain ⟨P, hP⟩ : ∃ P, tkP M n s = P := ⟨_, rfl⟩
  have bP := tkP_b M n s
  have bQ := tkQ_b M n s
  rw [hP] at bP bQ
  have tail2 : ∀ Q, tkQ M n s = Q → EX x g (xmL YX5_advance) (tkm M (nI P) (kd M n P) (nI Q) (M 7 5)) 123 [(0, .ref (ad g 7))] [] := by
    intro Q hQ
    rw [hQ] at bQ
    refine ex_aload_n F dX5_advance_123 rfl rfl ?_
    refine gf_5_2 F dX5_advance_124 fl_X5_27 ?_
    rw [tkm_r2]
    refine ex_iconst (v := 3) F dX5_advance_127 (by decide) ?_
    refine ex_icmp_ne (t := 135) F dX5_advance_128 (by decide) (fun c128 => ?_) (fun c128 => ?_)
    · exact ex_vret F R dX5_advance_135 rfl (by rw [advm, tkK, tkN, hP, hQ, if_neg (fun h => c128 h.1), if_neg (fun h => c128 h.1)])
    · refine ex_aload_n F dX5_advance_131 rfl rfl ?_
      refine ex_callVv F (c_X5_takeNumber (M := tkm M (nI P) (kd M n P) (nI Q) (M 7 5)) (n := n) (P0 := P) (Q := Q) hn ln rfl rfl (by omega) (by omega)) dX5_advance_132 cs_X5_advance_30 ob_5 rfl rfl rfl rfl (Nat.le_of_ble_eq_true rfl) (fun M132 h132 => ?_)
      rw [h132]
      exact ex_vret F R dX5_advance_135 rfl (adv_end hP hQ c128)
  have tail : EX x g (xmL YX5_advance) (tkm M (nI P) (M 7 2) (nI s) (M 7 5)) 45 [(0, .ref (ad g 7))] [] := by
    refine ex_aload_n F dX5_advance_45 rfl rfl ?_
    refine ex_aload_n F dX5_advance_46 rfl rfl ?_
    refine ex_aload_n F dX5_advance_47 rfl rfl ?_
    refine gf_5_3 F dX5_advance_48 fl_X5_20 ?_
    rw [tkm_r3]
    refine ex_callVi F (c_X5_kindAt (M := tkm M (nI P) (M 7 2) (nI s) (M 7 5)) (n := n) (p := P) hn ln (by omega)) dX5_advance_51 cs_X5_advance_23 ob_5 rfl rfl rfl rfl (Nat.le_of_ble_eq_true rfl) (fun v51 M51 h51 => ?_)
    obtain ⟨e51, q51⟩ := h51
    rw [q51]
    clear q51
    rw [kd_tkm] at e51
    subst e51
    refine pf_5_2 F dX5_advance_54 fl_X5_27 ?_
    rw [tkm_2]
    refine ex_aload_n F dX5_advance_57 rfl rfl ?_
    refine ex_aload_n F dX5_advance_58 rfl rfl ?_
    refine gf_5_3 F dX5_advance_59 fl_X5_20 ?_
    rw [tkm_r3]
    refine ex_iconst (v := 1) F dX5_advance_62 (by decide) ?_
    refine ex_iadd F dX5_advance_63 ?_
    rw [nI_1]
    refine pf_5_4 F dX5_advance_64 fl_X5_17 ?_
    rw [tkm_4]
    refine ex_aload_n F dX5_advance_67 rfl rfl ?_
    refine gf_5_2 F dX5_advance_68 fl_X5_27 ?_
    rw [tkm_r2]
    refine ex_iconst (v := 2) F dX5_advance_71 (by decide) ?_
    refine ex_icmp_eq (t := 83) F dX5_advance_72 (by decide) (fun c72 => ?_) (fun c72 => ?_)
    · refine ex_iconst (v := 0) F dX5_advance_83 (by decide) ?_
      refine ex_istore_n F dX5_advance_84 rfl (by decide) ?_
      have key : ∀ (m i q : Nat), i + m = 320 → q ≤ P + 1 + i → skp (kd M n) (kd M n P) m q = tkQ M n s → EX x g (xmL YX5_advance) (tkm M (nI P) (kd M n P) (nI q) (M 7 5)) 85 [(0, .ref (ad g 7)), (1, .int (nI i))] [] := by
        intro m
        induction m with
        | zero =>
          intro i q hi lq hq
          obtain rfl : i = 320 := by omega
          refine ex_iload_n F dX5_advance_85 rfl rfl ?_
          refine ex_sipush (v := 320) F dX5_advance_86 (by decide) ?_
          refine ex_icmp_ge (t := 123) F dX5_advance_89 (by decide) (fun _ => ?_) (fun c => absurd (by decide) c)
          exact ex_weak2 (tail2 q hq.symm) ⟨rfl, trivial⟩
        | succ m ih =>
          intro i q hi lq hq
          refine ex_iload_n F dX5_advance_85 rfl rfl ?_
          refine ex_sipush (v := 320) F dX5_advance_86 (by decide) ?_
          refine ex_icmp_ge (t := 123) F dX5_advance_89 (by decide) (fun c => absurd c (nI_ge (b := 320) (by omega) (by decide))) (fun _ => ?_)
          refine ex_aload_n F dX5_advance_92 rfl rfl ?_
          refine ex_aload_n F dX5_advance_93 rfl rfl ?_
          refine gf_5_4 F dX5_advance_94 fl_X5_17 ?_
          rw [tkm_r4]
          refine ex_callVi F (c_X5_kindAt (M := tkm M (nI P) (kd M n P) (nI q) (M 7 5)) (n := n) (p := q) hn ln (by omega)) dX5_advance_97 cs_X5_advance_23 ob_5 rfl rfl rfl rfl (Nat.le_of_ble_eq_true rfl) (fun v97 M97 h97 => ?_)
          obtain ⟨e97, q97⟩ := h97
          rw [q97]
          clear q97
          rw [kd_tkm] at e97
          subst e97
          refine ex_aload_n F dX5_advance_100 rfl rfl ?_
          refine gf_5_2 F dX5_advance_101 fl_X5_27 ?_
          rw [tkm_r2]
          refine ex_icmp_ne (t := 123) F dX5_advance_104 (by decide) (fun c104 => ?_) (fun c104 => ?_)
          · exact ex_weak2 (tail2 q (by rw [← hq, skp, if_neg c104])) ⟨rfl, trivial⟩
          · refine ex_aload_n F dX5_advance_107 rfl rfl ?_
            refine ex_dup F dX5_advance_108 rfl ?_
            refine gf_5_4 F dX5_advance_109 fl_X5_17 ?_
            rw [tkm_r4]
            refine ex_iconst (v := 1) F dX5_advance_112 (by decide) ?_
            refine ex_iadd F dX5_advance_113 ?_
            rw [nI_1]
            refine pf_5_4 F dX5_advance_114 fl_X5_17 ?_
            rw [tkm_4]
            refine ex_iinc (w := _ + 1) F dX5_advance_117 rfl rfl (by decide) ?_
            rw [nI_1]
            refine ex_goto (t := 85) F dX5_advance_120 (by decide) ?_
            exact ex_weak2 (ih (i + 1) (q + 1) (by omega) (by omega) (by rw [← hq, skp, if_pos c104])) ⟨rfl, rfl, trivial⟩
      exact ex_weak2 (key 320 0 (P + 1) (by omega) (by omega) (by rw [tkQ, hP, if_pos (Or.inl c72)])) ⟨rfl, rfl, trivial⟩
    · refine ex_aload_n F dX5_advance_75 rfl rfl ?_
      refine gf_5_2 F dX5_advance_76 fl_X5_27 ?_
      rw [tkm_r2]
      refine ex_iconst (v := 3) F dX5_advance_79 (by decide) ?_
      refine ex_icmp_ne (t := 123) F dX5_advance_80 (by decide) (fun c80 => ?_) (fun c80 => ?_)
      · exact ex_weak2 (tail2 (P + 1) (by rw [tkQ, hP, if_neg (fun q => q.elim (fun q => absurd q c72) (fun q => absurd q c80))])) ⟨rfl, trivial⟩
      · refine ex_iconst (v := 0) F dX5_advance_83 (by decide) ?_
        refine ex_istore_n F dX5_advance_84 rfl (by decide) ?_
        have key : ∀ (m i q : Nat), i + m = 320 → q ≤ P + 1 + i → skp (kd M n) (kd M n P) m q = tkQ M n s → EX x g (xmL YX5_advance) (tkm M (nI P) (kd M n P) (nI q) (M 7 5)) 85 [(0, .ref (ad g 7)), (1, .int (nI i))] [] := by
          intro m
          induction m with
          | zero =>
            intro i q hi lq hq
            obtain rfl : i = 320 := by omega
            refine ex_iload_n F dX5_advance_85 rfl rfl ?_
            refine ex_sipush (v := 320) F dX5_advance_86 (by decide) ?_
            refine ex_icmp_ge (t := 123) F dX5_advance_89 (by decide) (fun _ => ?_) (fun c => absurd (by decide) c)
            exact ex_weak2 (tail2 q hq.symm) ⟨rfl, trivial⟩
          | succ m ih =>
            intro i q hi lq hq
            refine ex_iload_n F dX5_advance_85 rfl rfl ?_
            refine ex_sipush (v := 320) F dX5_advance_86 (by decide) ?_
            refine ex_icmp_ge (t := 123) F dX5_advance_89 (by decide) (fun c => absurd c (nI_ge (b := 320) (by omega) (by decide))) (fun _ => ?_)
            refine ex_aload_n F dX5_advance_92 rfl rfl ?_
            refine ex_aload_n F dX5_advance_93 rfl rfl ?_
            refine gf_5_4 F dX5_advance_94 fl_X5_17 ?_
            rw [tkm_r4]
            refine ex_callVi F (c_X5_kindAt (M := tkm M (nI P) (kd M n P) (nI q) (M 7 5)) (n := n) (p := q) hn ln (by omega)) dX5_advance_97 cs_X5_advance_23 ob_5 rfl rfl rfl rfl (Nat.le_of_ble_eq_true rfl) (fun v97 M97 h97 => ?_)
            obtain ⟨e97, q97⟩ := h97
            rw [q97]
            clear q97
            rw [kd_tkm] at e97
            subst e97
            refine ex_aload_n F dX5_advance_100 rfl rfl ?_
            refine gf_5_2 F dX5_advance_101 fl_X5_27 ?_
            rw [tkm_r2]
            refine ex_icmp_ne (t := 123) F dX5_advance_104 (by decide) (fun c104 => ?_) (fun c104 => ?_)
            · exact ex_weak2 (tail2 q (by rw [← hq, skp, if_neg c104])) ⟨rfl, trivial⟩
            · refine ex_aload_n F dX5_advance_107 rfl rfl ?_
              refine ex_dup F dX5_advance_108 rfl ?_
              refine gf_5_4 F dX5_advance_109 fl_X5_17 ?_
              rw [tkm_r4]
              refine ex_iconst (v := 1) F dX5_advance_112 (by decide) ?_
              refine ex_iadd F dX5_advance_113 ?_
              rw [nI_1]
              refine pf_5_4 F dX5_advance_114 fl_X5_17 ?_
              rw [tkm_4]
              refine ex_iinc (w := _ + 1) F dX5_advance_117 rfl rfl (by decide) ?_
              rw [nI_1]
              refine ex_goto (t := 85) F dX5_advance_120 (by decide) ?_
              exact ex_weak2 (ih (i + 1) (q + 1) (by omega) (by omega) (by rw [← hq, skp, if_pos c104])) ⟨rfl, rfl, trivial⟩
        exact ex_weak2 (key 320 0 (P + 1) (by omega) (by omega) (by rw [tkQ, hP, if_pos (Or.inr c80)])) ⟨rfl, rfl, trivial⟩
  have key : ∀ (m i p : Nat), i + m = 320 → p ≤ s + i → skp (kd M n) 1 m p = P → EX x g (xmL YX5_advance) (tkm M (nI p) (M 7 2) (nI s) (M 7 5)) 10 [(0, .ref (ad g 7)), (1, .int (nI i))] [] := by
    intro m
    induction m with
    | zero =>
      intro i p hi lp hp
      obtain rfl : i = 320 := by omega
      obtain rfl : p = P := hp
      refine ex_iload_n F dX5_advance_10 rfl rfl ?_
      refine ex_sipush (v := 320) F dX5_advance_11 (by decide) ?_
      refine ex_icmp_ge (t := 45) F dX5_advance_14 (by decide) (fun _ => ?_) (fun c => absurd (by decide) c)
      exact ex_weak2 tail ⟨rfl, trivial⟩
    | succ m ih =>
      intro i p hi lp hp
      refine ex_iload_n F dX5_advance_10 rfl rfl ?_
      refine ex_sipush (v := 320) F dX5_advance_11 (by decide) ?_
      refine ex_icmp_ge (t := 45) F dX5_advance_14 (by decide) (fun c => absurd c (nI_ge (b := 320) (by omega) (by decide))) (fun _ => ?_)
      refine ex_aload_n F dX5_advance_17 rfl rfl ?_
      refine ex_aload_n F dX5_advance_18 rfl rfl ?_
      refine gf_5_3 F dX5_advance_19 fl_X5_20 ?_
      rw [tkm_r3]
      refine ex_callVi F (c_X5_kindAt (M := tkm M (nI p) (M 7 2) (nI s) (M 7 5)) (n := n) (p := p) hn ln (by omega)) dX5_advance_22 cs_X5_advance_23 ob_5 rfl rfl rfl rfl (Nat.le_of_ble_eq_true rfl) (fun v22 M22 h22 => ?_)
      obtain ⟨e22, q22⟩ := h22
      rw [q22]
      clear q22
      rw [kd_tkm] at e22
      subst e22
      refine ex_iconst (v := 1) F dX5_advance_25 (by decide) ?_
      refine ex_icmp_ne (t := 45) F dX5_advance_26 (by decide) (fun c26 => ?_) (fun c26 => ?_)
      · obtain rfl : p = P := by rw [← hp, skp, if_neg c26]
        exact ex_weak2 tail ⟨rfl, trivial⟩
      · refine ex_aload_n F dX5_advance_29 rfl rfl ?_
        refine ex_dup F dX5_advance_30 rfl ?_
        refine gf_5_3 F dX5_advance_31 fl_X5_20 ?_
        rw [tkm_r3]
        refine ex_iconst (v := 1) F dX5_advance_34 (by decide) ?_
        refine ex_iadd F dX5_advance_35 ?_
        rw [nI_1]
        refine pf_5_3 F dX5_advance_36 fl_X5_20 ?_
        rw [tkm_3]
        refine ex_iinc (w := _ + 1) F dX5_advance_39 rfl rfl (by decide) ?_
        rw [nI_1]
        refine ex_goto (t := 10) F dX5_advance_42 (by decide) ?_
        exact ex_weak2 (ih (i + 1) (p + 1) (by omega) (by omega) (by rw [← hp, skp, if_pos c26])) ⟨rfl, rfl, trivial⟩
  exact ex_weak2 (key 320 0 s (by omega) (by omega) hP) ⟨rfl, rfl, trivial⟩
set_option maxRecDepth 100000 in
theorem c_X5_rewind {l : Launch} {g : XG} {M : Mem}  : Call l g YX5_rewind [.ref (ad g 7)] M (PV (fun M' => M' = mu M 7 4 0)) := by
  refine call_of (by decide +kernel) (Nat.le_of_ble_eq_true rfl) (fun x hxl F R => ?_)
  subst hxl
  refine ex_aload_n F dX5_rewind_0 rfl rfl ?_
  refine ex_iconst (v := 0) F dX5_rewind_1 (by decide) ?_
  refine pf_5_4 F dX5_rewind_2 fl_X5_17 ?_
  exact ex_vret F R dX5_rewind_5 rfl (rfl)
abbrev splP (M : Mem) (n P Q i : Nat) : Prop := M 7 2 = 2 ∧ Q - P = strLen.getD i 0 ∧ ∀ k, k < strLen.getD i 0 → tb M n (P + k) = (strT i).getD k 0
def spl (M : Mem) (n P Q i : Nat) : Bool := decide (splP M n P Q i)
theorem spl_no {M : Mem} {n P Q i : Nat} (h : ¬ splP M n P Q i) : (0 : Int32) = b2i (spl M n P Q i) := by rw [spl, decide_eq_false h]; rfl
theorem spl_yes {M : Mem} {n P Q i : Nat} (h : splP M n P Q i) : (1 : Int32) = b2i (spl M n P Q i) := by rw [spl, decide_eq_true h]; rfl
theorem cs_X5_spells_39 : CSV (xmN YX5_spells).cls (xmF YX5_spells) (xmW YX5_spells) 39 0 YJ0_length_8abf5 := ⟨⟨ml_X5_39, ini_J0, cd_J0_length_8abf5, by decide +kernel, by decide⟩, im_J0_length_8abf5, se_J0_length_8abf5⟩
theorem cs_X5_spells_36 : CSV (xmN YX5_spells).cls (xmF YX5_spells) (xmW YX5_spells) 36 1 YX5_byteAt := ⟨⟨ml_X5_36, ini_X5, cd_X5_byteAt, by decide +kernel, by decide⟩, im_X5_byteAt, se_X5_byteAt⟩
theorem cs_X5_spells_44 : CSV (xmN YX5_spells).cls (xmF YX5_spells) (xmW YX5_spells) 44 1 YJ0_charAt_5068e := ⟨⟨ml_X5_44, ini_J0, cd_J0_charAt_5068e, by decide +kernel, by decide⟩, im_J0_charAt_5068e, se_J0_charAt_5068e⟩
set_option maxRecDepth 100000 in
theorem c_X5_spells {l : Launch} {g : XG} {M : Mem} {i n P Q : Nat} (hi : i < 8) (hn : M 7 1 = nI n) (ln : n ≤ 320) (hP : M 7 3 = nI P) (hQ : M 7 4 = nI Q) (lP : P ≤ Q) (lQ : Q < 1000000000) : Call l g YX5_spells [.ref (ad g 7), .ref (sk g i)] M (PI (fun v M' => v = b2i (spl M n P Q i) ∧ M' = M)) := by
  refine call_of (by decide +kernel) (Nat.le_of_ble_eq_true rfl) (fun x hxl F R => ?_)
  subst hxl
  have l5 := sLen_le i hi
  refine ex_aload_n F dX5_spells_0 rfl rfl ?_
  refine gf_5_2 F dX5_spells_1 fl_X5_27 ?_
  refine ex_iconst (v := 2) F dX5_spells_4 (by decide) ?_
  refine ex_icmp_ne (t := 24) F dX5_spells_5 (by decide) (fun c5 => ?_) (fun c5 => ?_)
  · refine ex_iconst (v := 0) F dX5_spells_24 (by decide) ?_
    exact ex_zret (ty := .boolean) F R dX5_spells_25 rfl (rfl) (⟨spl_no (fun z => c5 z.1), rfl⟩)
  · refine ex_aload_n F dX5_spells_8 rfl rfl ?_
    refine gf_5_4 F dX5_spells_9 fl_X5_17 ?_
    refine ex_aload_n F dX5_spells_12 rfl rfl ?_
    refine gf_5_3 F dX5_spells_13 fl_X5_20 ?_
    rw [hQ, hP]
    refine ex_isub F dX5_spells_16 ?_
    rw [nI_sub lP]
    refine ex_aload_n F dX5_spells_17 rfl rfl ?_
    refine ex_callVSi hi F (c_J0_length_8abf5 hi) dX5_spells_18 cs_X5_spells_39 rfl rfl rfl (Nat.le_of_ble_eq_true rfl) (fun v18 M18 h18 => ?_)
    obtain ⟨rfl, q18⟩ := h18
    rw [q18]
    clear q18
    refine ex_icmp_eq (t := 26) F dX5_spells_21 (by decide) (fun c21 => ?_) (fun c21 => ?_)
    · have eL : Q - P = strLen.getD i 0 := nI_inj (by omega) (by omega) c21
      refine ex_iconst (v := 0) F dX5_spells_26 (by decide) ?_
      refine ex_istore_n F dX5_spells_27 rfl (by decide) ?_
      have key : ∀ (m k : Nat), k + m = strLen.getD i 0 → (∀ j, j < k → tb M n (P + j) = (strT i).getD j 0) → EX x g (xmL YX5_spells) M 28 [(0, .ref (ad g 7)), (1, .ref (sk g i)), (2, .int (nI k))] [] := by
        intro m
        induction m with
        | zero =>
          intro k hk ha
          obtain rfl : k = strLen.getD i 0 := by omega
          refine ex_iload_n F dX5_spells_28 rfl rfl ?_
          refine ex_aload_n F dX5_spells_29 rfl rfl ?_
          refine ex_callVSi hi F (c_J0_length_8abf5 hi) dX5_spells_30 cs_X5_spells_39 rfl rfl rfl (Nat.le_of_ble_eq_true rfl) (fun v30 M30 h30 => ?_)
          obtain ⟨rfl, q30⟩ := h30
          rw [q30]
          clear q30
          refine ex_icmp_ge (t := 62) F dX5_spells_33 (by decide) (fun _ => ?_) (fun c => absurd (nI_le (Nat.le_refl _) (by omega)) c)
          refine ex_iconst (v := 1) F dX5_spells_62 (by decide) ?_
          exact ex_zret (ty := .boolean) F R dX5_spells_63 rfl (rfl) (⟨spl_yes ⟨c5, eL, ha⟩, rfl⟩)
        | succ m ih =>
          intro k hk ha
          refine ex_iload_n F dX5_spells_28 rfl rfl ?_
          refine ex_aload_n F dX5_spells_29 rfl rfl ?_
          refine ex_callVSi hi F (c_J0_length_8abf5 hi) dX5_spells_30 cs_X5_spells_39 rfl rfl rfl (Nat.le_of_ble_eq_true rfl) (fun v30 M30 h30 => ?_)
          obtain ⟨rfl, q30⟩ := h30
          rw [q30]
          clear q30
          refine ex_icmp_ge (t := 62) F dX5_spells_33 (by decide) (fun c => absurd c (nI_ge (by omega) (by omega))) (fun _ => ?_)
          refine ex_aload_n F dX5_spells_36 rfl rfl ?_
          refine ex_aload_n F dX5_spells_37 rfl rfl ?_
          refine gf_5_3 F dX5_spells_38 fl_X5_20 ?_
          rw [hP]
          refine ex_iload_n F dX5_spells_41 rfl rfl ?_
          refine ex_iadd F dX5_spells_42 ?_
          rw [nI_add]
          refine ex_callVi F (c_X5_byteAt (n := n) (p := P + k) hn ln (by omega)) dX5_spells_43 cs_X5_spells_36 ob_5 rfl rfl rfl rfl (Nat.le_of_ble_eq_true rfl) (fun v43 M43 h43 => ?_)
          obtain ⟨rfl, q43⟩ := h43
          rw [q43]
          clear q43
          refine ex_aload_n F dX5_spells_46 rfl rfl ?_
          refine ex_iload_n F dX5_spells_47 rfl rfl ?_
          refine ex_callVSi hi F (c_J0_charAt_5068e hi (k := k) (by omega)) dX5_spells_48 cs_X5_spells_44 rfl rfl rfl (Nat.le_of_ble_eq_true rfl) (fun v48 M48 h48 => ?_)
          obtain ⟨rfl, q48⟩ := h48
          rw [q48]
          clear q48
          refine ex_icmp_eq (t := 56) F dX5_spells_51 (by decide) (fun c51 => ?_) (fun c51 => ?_)
          · refine ex_iinc (w := _ + 1) F dX5_spells_56 rfl rfl (by decide) ?_
            rw [nI_1]
            refine ex_goto (t := 28) F dX5_spells_59 (by decide) ?_
            exact ex_weak2 (ih (k + 1) (by omega) (fun j hj => by
              by_cases e : j = k
              · subst e; exact c51
              · exact ha j (by omega))) ⟨rfl, rfl, rfl, trivial⟩
          · refine ex_iconst (v := 0) F dX5_spells_54 (by decide) ?_
            exact ex_zret (ty := .boolean) F R dX5_spells_55 rfl (rfl) (⟨spl_no (fun z => c51 (z.2.2 k (by omega))), rfl⟩)
      exact ex_weak2 (key (strLen.getD i 0) 0 (by omega) (fun j hj => absurd hj (by omega))) ⟨rfl, rfl, rfl, trivial⟩
    · refine ex_iconst (v := 0) F dX5_spells_24 (by decide) ?_
      exact ex_zret (ty := .boolean) F R dX5_spells_25 rfl (rfl) (⟨spl_no (fun z => c21 (by rw [z.2.1])), rfl⟩)
