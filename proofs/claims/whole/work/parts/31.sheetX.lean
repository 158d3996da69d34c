def outN (k n : Int32) : Bool := decide (k < 0) || decide (n ≤ k)
theorem outN_lt {k b : Int32} {n : Nat} (hb : b.toInt = n) (h : outN k b = false) : k.toNatClampNeg < n := by
  simp only [outN, Bool.or_eq_false_iff, decide_eq_false_iff_not] at h
  exact Nat.not_le.mp fun q => (vin (n := n) hb h.1 h.2) (Or.inr q)
def sThere (M : Mem) (q : Nat) : Bool := !decide (M q 2 = -1)
def sCell (M : Mem) (q : Nat) (i : Int32) : Int32 := if i < 0 then 0 else if M q 2 ≤ i then 0 else if 40 ≤ i then 0 else M (q + 1) i.toNatClampNeg
def sFaultAs (M : Mem) (q : Nat) (la : Int32) : Int32 := if sThere M q = true then (if M q 1 = la then 2 else 3) else 1
def sPairs (M : Mem) (q : Nat) (la f n : Int32) : Int32 := if (!sThere M q || (!decide (M q 1 = la) || (decide (f < 0) || decide (M q 2 ≤ f)))) = true then 0 else (if (M q 2 - f) / 2 < n then (M q 2 - f) / 2 else n)
def sPutF (M : Mem) (q : Nat) (i : Int32) : Int32 := if sThere M q = true then (if (decide (i < 0) || (decide (M q 2 ≤ i) || decide (40 ≤ i))) = true then 2 else 0) else 1
def sLane (la v : Int32) : Int32 := if la = 0 then v.toInt8.toInt32 else if la = 1 then v.toInt16.toInt32 else v
def sRenew (M : Mem) (q : Nat) (la n : Int32) : Mem := fun c => if c = q + 1 then (fun j => if j < 40 then 0 else M (q + 1) j) else mu (mu M q 1 la) q 2 n c
theorem sq_ne {q : Nat} (h : isO 4 q) : q ≠ 14 ∧ q ≠ 15 ∧ q + 1 ≠ 14 ∧ q + 1 ≠ 15 ∧ q ≠ 0 ∧ q + 1 ≠ 0 := by rcases kk_4 h with rfl | rfl | rfl | rfl <;> decide

set_option maxRecDepth 100000 in
theorem c_X4_isThere {l : Launch} {g : XG} {M : Mem} {q : Nat} (hs : isO 4 q) : Call l g YX4_isThere [.ref (ad g q)] M (PI (fun v M' => v = b2i (sThere M q) ∧ M' = M)) := by
  refine call_of (by decide +kernel) (Nat.le_of_ble_eq_true rfl) (fun x hxl F R => ?_)
  subst hxl
  refine ex_aload_n F dX4_isThere_0 rfl rfl ?_
  refine gf_4_2 hs F dX4_isThere_1 fl_X4_13 ?_
  refine ex_iconst (v := -1) F dX4_isThere_4 (by decide) ?_
  refine ex_icmp_eq (t := 12) F dX4_isThere_5 (by decide) (fun c5 => ?_) (fun c5 => ?_)
  · refine ex_iconst (v := 0) F dX4_isThere_12 (by decide) ?_
    exact ex_zret (ty := .boolean) F R dX4_isThere_13 rfl (rfl) (⟨by simp [sThere, b2i, c5], rfl⟩)
  · refine ex_iconst (v := 1) F dX4_isThere_8 (by decide) ?_
    refine ex_goto (t := 13) F dX4_isThere_9 (by decide) ?_
    exact ex_zret (ty := .boolean) F R dX4_isThere_13 rfl (rfl) (⟨by simp [sThere, b2i, c5], rfl⟩)
theorem renew_eq {M N : Mem} {q : Nat} {la n : Int32} (h1 : ∀ c, c ≠ q + 1 → N c = mu (mu M q 1 la) q 2 n c) (h2 : ∀ j, N (q + 1) j = if j < 40 then 0 else M (q + 1) j) : N = sRenew M q la n := by
  funext c
  by_cases hc : c = q + 1
  · subst hc
    simp only [sRenew, if_true]
    funext j
    exact h2 j
  · simp only [sRenew, if_neg hc]
    exact h1 c hc
set_option maxRecDepth 100000 in
theorem c_X4_renew {l : Launch} {g : XG} {M : Mem} {q : Nat} (hs : isO 4 q) {la n : Int32} : Call l g YX4_renew [.ref (ad g q), .int la, .int n] M (PV (fun M' => M' = sRenew M q la n)) := by
  refine call_of (by decide +kernel) (Nat.le_of_ble_eq_true rfl) (fun x hxl F R => ?_)
  subst hxl
  refine ex_aload_n F dX4_renew_0 rfl rfl ?_
  refine ex_iload_n F dX4_renew_1 rfl rfl ?_
  refine pf_4_1 hs F dX4_renew_2 fl_X4_17 ?_
  refine ex_aload_n F dX4_renew_5 rfl rfl ?_
  refine ex_iload_n F dX4_renew_6 rfl rfl ?_
  refine pf_4_2 hs F dX4_renew_7 fl_X4_13 ?_
  refine ex_iconst (v := 0) F dX4_renew_10 (by decide) ?_
  refine ex_istore_n F dX4_renew_11 rfl (by decide) ?_
  have key : ∀ (m i : Nat) (v : Int32) (N : Mem), i + m = 40 → v = nI i → (∀ c, c ≠ q + 1 → N c = mu (mu M q 1 la) q 2 n c) → (∀ j, N (q + 1) j = if j < i then 0 else M (q + 1) j) → EX x g (xmL YX4_renew) N 12 [(0, .ref (ad g q)), (3, .int v)] [] := by
    intro m
    induction m with
    | zero =>
      intro i v N hi hv h1 h2
      obtain rfl : i = 40 := by omega
      subst hv
      refine ex_iload_n F dX4_renew_12 rfl rfl ?_
      refine ex_aload_n F dX4_renew_13 rfl rfl ?_
      refine gf_4_0 hs (q9 := (q + 1)) rfl F dX4_renew_14 fl_X4_9 ?_
      refine ex_ilen (n := 40) (v := 40) F dX4_renew_17 (tI_4_0 hs) (by decide) ?_
      refine ex_icmp_ge (t := 34) F dX4_renew_18 (by decide) (fun _ => ?_) (fun c => absurd (by decide) c)
      exact ex_vret F R dX4_renew_34 rfl (renew_eq h1 h2)
    | succ m ih =>
      intro i v N hi hv h1 h2
      subst hv
      refine ex_iload_n F dX4_renew_12 rfl rfl ?_
      refine ex_aload_n F dX4_renew_13 rfl rfl ?_
      refine gf_4_0 hs (q9 := (q + 1)) rfl F dX4_renew_14 fl_X4_9 ?_
      refine ex_ilen (n := 40) (v := 40) F dX4_renew_17 (tI_4_0 hs) (by decide) ?_
      refine ex_icmp_ge (t := 34) F dX4_renew_18 (by decide) (fun c => absurd c (nI_ge (b := 40) (by omega) (by decide))) (fun _ => ?_)
      refine ex_aload_n F dX4_renew_21 rfl rfl ?_
      refine gf_4_0 hs (q9 := (q + 1)) rfl F dX4_renew_22 fl_X4_9 ?_
      refine ex_iload_n F dX4_renew_25 rfl rfl ?_
      refine ex_iconst (v := 0) F dX4_renew_26 (by decide) ?_
      refine ex_iast (n := 40) F dX4_renew_27 (tI_4_0 hs) (vp_in_nI (by omega) (by decide)) (j := i) (nI_clamp (by omega)) ?_
      refine ex_iinc (w := _ + 1) F dX4_renew_28 rfl rfl (by decide) ?_
      refine ex_goto (t := 12) F dX4_renew_31 (by decide) ?_
      refine ex_weak2 (ih (i + 1) _ _ (by omega) (nI_1 i) (fun c hc => ?_) (fun j => ?_)) ⟨rfl, rfl, trivial⟩
      · rw [mu_k _ _ _ _ _ hc]; exact h1 c hc
      · by_cases hj : j = i
        · subst hj; rw [mu_same, if_pos (by omega)]
        · rw [mu_j _ _ _ _ _ hj, h2 j]
          by_cases h : j < i
          · rw [if_pos h, if_pos (by omega)]
          · rw [if_neg h, if_neg (by omega)]
  exact ex_weak2 (key 40 0 _ _ (by omega) rfl (fun _ _ => rfl) (fun j => by rw [if_neg (by omega), mu_k _ _ _ _ _ (by omega), mu_k _ _ _ _ _ (by omega)])) ⟨rfl, rfl, trivial⟩
theorem cs_X4_put_20 : CSV (xmN YX4_put).cls (xmF YX4_put) (xmW YX4_put) 20 0 YX4_isThere := ⟨⟨ml_X4_20, ini_X4, cd_X4_isThere, by decide +kernel, by decide⟩, im_X4_isThere, se_X4_isThere⟩
set_option maxRecDepth 100000 in
theorem c_X4_put {l : Launch} {g : XG} {M : Mem} {q : Nat} (hs : isO 4 q) {k0 v0 : Int32} : Call l g YX4_put [.ref (ad g q), .int k0, .int v0] M (PI (fun v M' => v = sPutF M q k0 ∧ M' = (if sPutF M q k0 = 0 then mu M (q + 1) k0.toNatClampNeg (sLane (M q 1) v0) else M))) := by
  refine call_of (by decide +kernel) (Nat.le_of_ble_eq_true rfl) (fun x hxl F R => ?_)
  subst hxl
  refine ex_aload_n F dX4_put_0 rfl rfl ?_
  refine ex_callVi F (c_X4_isThere hs) dX4_put_1 cs_X4_put_20 (ob_4 hs) rfl rfl rfl rfl (Nat.le_of_ble_eq_true rfl) (fun v1 M1 h1 => ?_)
  obtain ⟨rfl, q1⟩ := h1
  rw [q1]
  clear q1
  refine ex_if_ne (t := 9) F dX4_put_4 (by decide) (fun c4 => ?_) (fun c4 => ?_)
  · refine ex_iload_n F dX4_put_9 rfl rfl ?_
    refine ex_if_lt (t := 30) F dX4_put_10 (by decide) (fun c10 => ?_) (fun c10 => ?_)
    · refine ex_iconst (v := 2) F dX4_put_30 (by decide) ?_
      exact ex_iret F R dX4_put_31 rfl (have e : sPutF M q k0 = 2 := (by rw [sPutF, if_pos (b2i_1.mp c4), if_pos (by simp [c10])]); ⟨e.symm, by rw [e]; rfl⟩)
    · refine ex_iload_n F dX4_put_13 rfl rfl ?_
      refine ex_aload_n F dX4_put_14 rfl rfl ?_
      refine gf_4_2 hs F dX4_put_15 fl_X4_13 ?_
      refine ex_icmp_ge (t := 30) F dX4_put_18 (by decide) (fun c18 => ?_) (fun c18 => ?_)
      · refine ex_iconst (v := 2) F dX4_put_30 (by decide) ?_
        exact ex_iret F R dX4_put_31 rfl (have e : sPutF M q k0 = 2 := (by rw [sPutF, if_pos (b2i_1.mp c4), if_pos (by simp [c18])]); ⟨e.symm, by rw [e]; rfl⟩)
      · refine ex_iload_n F dX4_put_21 rfl rfl ?_
        refine ex_aload_n F dX4_put_22 rfl rfl ?_
        refine gf_4_0 hs (q9 := (q + 1)) rfl F dX4_put_23 fl_X4_9 ?_
        refine ex_ilen (n := 40) (v := 40) F dX4_put_26 (tI_4_0 hs) (by decide) ?_
        refine ex_icmp_lt (t := 32) F dX4_put_27 (by decide) (fun c27 => ?_) (fun c27 => ?_)
        · refine ex_aload_n F dX4_put_32 rfl rfl ?_
          refine gf_4_0 hs (q9 := (q + 1)) rfl F dX4_put_33 fl_X4_9 ?_
          refine ex_iload_n F dX4_put_36 rfl rfl ?_
          refine ex_aload_n F dX4_put_37 rfl rfl ?_
          refine gf_4_1 hs F dX4_put_38 fl_X4_17 ?_
          refine ex_if_ne (t := 49) F dX4_put_41 (by decide) (fun c41 => ?_) (fun c41 => ?_)
          · refine ex_aload_n F dX4_put_49 rfl rfl ?_
            refine gf_4_1 hs F dX4_put_50 fl_X4_17 ?_
            refine ex_iconst (v := 1) F dX4_put_53 (by decide) ?_
            refine ex_icmp_ne (t := 62) F dX4_put_54 (by decide) (fun c54 => ?_) (fun c54 => ?_)
            · refine ex_iload_n F dX4_put_62 rfl rfl ?_
              refine ex_iast (n := 40) F dX4_put_63 (tI_4_0 hs) (vin (n := 40) (b := 40) (by decide) c10 (Int32.not_le.mpr c27)) rfl ?_
              refine ex_iconst (v := 0) F dX4_put_64 (by decide) ?_
              exact ex_iret F R dX4_put_65 rfl (have e : sPutF M q k0 = 0 := (by rw [sPutF, if_pos (b2i_1.mp c4), if_neg (by simp only [Bool.or_eq_true, decide_eq_true_eq]; exact fun z => z.elim c10 (fun z => z.elim c18 (Int32.not_le.mpr c27)))]); ⟨e.symm, by rw [e, if_pos rfl, sLane, if_neg c41, if_neg c54]⟩)
            · refine ex_iload_n F dX4_put_57 rfl rfl ?_
              refine ex_i2s F dX4_put_58 ?_
              refine ex_goto (t := 63) F dX4_put_59 (by decide) ?_
              refine ex_iast (n := 40) F dX4_put_63 (tI_4_0 hs) (vin (n := 40) (b := 40) (by decide) c10 (Int32.not_le.mpr c27)) rfl ?_
              refine ex_iconst (v := 0) F dX4_put_64 (by decide) ?_
              exact ex_iret F R dX4_put_65 rfl (have e : sPutF M q k0 = 0 := (by rw [sPutF, if_pos (b2i_1.mp c4), if_neg (by simp only [Bool.or_eq_true, decide_eq_true_eq]; exact fun z => z.elim c10 (fun z => z.elim c18 (Int32.not_le.mpr c27)))]); ⟨e.symm, by rw [e, if_pos rfl, sLane, if_neg c41, if_pos c54]⟩)
          · refine ex_iload_n F dX4_put_44 rfl rfl ?_
            refine ex_i2b F dX4_put_45 ?_
            refine ex_goto (t := 63) F dX4_put_46 (by decide) ?_
            refine ex_iast (n := 40) F dX4_put_63 (tI_4_0 hs) (vin (n := 40) (b := 40) (by decide) c10 (Int32.not_le.mpr c27)) rfl ?_
            refine ex_iconst (v := 0) F dX4_put_64 (by decide) ?_
            exact ex_iret F R dX4_put_65 rfl (have e : sPutF M q k0 = 0 := (by rw [sPutF, if_pos (b2i_1.mp c4), if_neg (by simp only [Bool.or_eq_true, decide_eq_true_eq]; exact fun z => z.elim c10 (fun z => z.elim c18 (Int32.not_le.mpr c27)))]); ⟨e.symm, by rw [e, if_pos rfl, sLane, if_pos c41]⟩)
        · refine ex_iconst (v := 2) F dX4_put_30 (by decide) ?_
          exact ex_iret F R dX4_put_31 rfl (have e : sPutF M q k0 = 2 := (by rw [sPutF, if_pos (b2i_1.mp c4), if_pos (by simp [Int32.not_lt.mp c27])]); ⟨e.symm, by rw [e]; rfl⟩)
  · refine ex_iconst (v := 1) F dX4_put_7 (by decide) ?_
    exact ex_iret F R dX4_put_8 rfl (have e : sPutF M q k0 = 1 := (by rw [sPutF, if_neg (by rw [b2i_0.mp c4]; decide)]); ⟨e.symm, by rw [e]; rfl⟩)
set_option maxRecDepth 100000 in
theorem c_X4_cellAt {l : Launch} {g : XG} {M : Mem} {q : Nat} (hs : isO 4 q) {k0 : Int32} : Call l g YX4_cellAt [.ref (ad g q), .int k0] M (PI (fun v M' => v = sCell M q k0 ∧ M' = M)) := by
  refine call_of (by decide +kernel) (Nat.le_of_ble_eq_true rfl) (fun x hxl F R => ?_)
  subst hxl
  refine ex_iload_n F dX4_cellAt_0 rfl rfl ?_
  refine ex_if_lt (t := 30) F dX4_cellAt_1 (by decide) (fun c1 => ?_) (fun c1 => ?_)
  · refine ex_iconst (v := 0) F dX4_cellAt_30 (by decide) ?_
    exact ex_iret F R dX4_cellAt_31 rfl (⟨by rw [sCell, if_pos c1], rfl⟩)
  · refine ex_iload_n F dX4_cellAt_4 rfl rfl ?_
    refine ex_aload_n F dX4_cellAt_5 rfl rfl ?_
    refine gf_4_2 hs F dX4_cellAt_6 fl_X4_13 ?_
    refine ex_icmp_ge (t := 30) F dX4_cellAt_9 (by decide) (fun c9 => ?_) (fun c9 => ?_)
    · refine ex_iconst (v := 0) F dX4_cellAt_30 (by decide) ?_
      exact ex_iret F R dX4_cellAt_31 rfl (⟨by rw [sCell, if_neg c1, if_pos c9], rfl⟩)
    · refine ex_iload_n F dX4_cellAt_12 rfl rfl ?_
      refine ex_aload_n F dX4_cellAt_13 rfl rfl ?_
      refine gf_4_0 hs (q9 := (q + 1)) rfl F dX4_cellAt_14 fl_X4_9 ?_
      refine ex_ilen (n := 40) (v := 40) F dX4_cellAt_17 (tI_4_0 hs) (by decide) ?_
      refine ex_icmp_ge (t := 30) F dX4_cellAt_18 (by decide) (fun c18 => ?_) (fun c18 => ?_)
      · refine ex_iconst (v := 0) F dX4_cellAt_30 (by decide) ?_
        exact ex_iret F R dX4_cellAt_31 rfl (⟨by rw [sCell, if_neg c1, if_neg c9, if_pos c18], rfl⟩)
      · refine ex_aload_n F dX4_cellAt_21 rfl rfl ?_
        refine gf_4_0 hs (q9 := (q + 1)) rfl F dX4_cellAt_22 fl_X4_9 ?_
        refine ex_iload_n F dX4_cellAt_25 rfl rfl ?_
        refine ex_iald (n := 40) F dX4_cellAt_26 (tI_4_0 hs) (vin (n := 40) (b := 40) (by decide) c1 c18) rfl ?_
        refine ex_goto (t := 31) F dX4_cellAt_27 (by decide) ?_
        exact ex_iret F R dX4_cellAt_31 rfl (⟨by rw [sCell, if_neg c1, if_neg c9, if_neg c18], rfl⟩)
theorem cs_X4_faultAs_20 : CSV (xmN YX4_faultAs).cls (xmF YX4_faultAs) (xmW YX4_faultAs) 20 0 YX4_isThere := ⟨⟨ml_X4_20, ini_X4, cd_X4_isThere, by decide +kernel, by decide⟩, im_X4_isThere, se_X4_isThere⟩
set_option maxRecDepth 100000 in
theorem c_X4_faultAs {l : Launch} {g : XG} {M : Mem} {q : Nat} (hs : isO 4 q) {la : Int32} : Call l g YX4_faultAs [.ref (ad g q), .int la] M (PI (fun v M' => v = sFaultAs M q la ∧ M' = M)) := by
  refine call_of (by decide +kernel) (Nat.le_of_ble_eq_true rfl) (fun x hxl F R => ?_)
  subst hxl
  refine ex_aload_n F dX4_faultAs_0 rfl rfl ?_
  refine ex_callVi F (c_X4_isThere hs) dX4_faultAs_1 cs_X4_faultAs_20 (ob_4 hs) rfl rfl rfl rfl (Nat.le_of_ble_eq_true rfl) (fun v1 M1 h1 => ?_)
  obtain ⟨rfl, q1⟩ := h1
  rw [q1]
  clear q1
  refine ex_if_ne (t := 9) F dX4_faultAs_4 (by decide) (fun c4 => ?_) (fun c4 => ?_)
  · refine ex_aload_n F dX4_faultAs_9 rfl rfl ?_
    refine gf_4_1 hs F dX4_faultAs_10 fl_X4_17 ?_
    refine ex_iload_n F dX4_faultAs_13 rfl rfl ?_
    refine ex_icmp_ne (t := 21) F dX4_faultAs_14 (by decide) (fun c14 => ?_) (fun c14 => ?_)
    · refine ex_iconst (v := 3) F dX4_faultAs_21 (by decide) ?_
      exact ex_iret F R dX4_faultAs_22 rfl (⟨by rw [sFaultAs, if_pos (b2i_1.mp c4), if_neg c14], rfl⟩)
    · refine ex_iconst (v := 2) F dX4_faultAs_17 (by decide) ?_
      refine ex_goto (t := 22) F dX4_faultAs_18 (by decide) ?_
      exact ex_iret F R dX4_faultAs_22 rfl (⟨by rw [sFaultAs, if_pos (b2i_1.mp c4), if_pos c14], rfl⟩)
  · refine ex_iconst (v := 1) F dX4_faultAs_7 (by decide) ?_
    exact ex_iret F R dX4_faultAs_8 rfl (⟨by rw [sFaultAs, if_neg (by rw [b2i_0.mp c4]; decide)], rfl⟩)
theorem cs_X4_pairsWhole_20 : CSV (xmN YX4_pairsWhole).cls (xmF YX4_pairsWhole) (xmW YX4_pairsWhole) 20 0 YX4_isThere := ⟨⟨ml_X4_20, ini_X4, cd_X4_isThere, by decide +kernel, by decide⟩, im_X4_isThere, se_X4_isThere⟩
set_option maxRecDepth 100000 in
theorem c_X4_pairsWhole {l : Launch} {g : XG} {M : Mem} {q : Nat} (hs : isO 4 q) {la f n : Int32} : Call l g YX4_pairsWhole [.ref (ad g q), .int la, .int f, .int n] M (PI (fun v M' => v = sPairs M q la f n ∧ M' = M)) := by
  refine call_of (by decide +kernel) (Nat.le_of_ble_eq_true rfl) (fun x hxl F R => ?_)
  subst hxl
  refine ex_aload_n F dX4_pairsWhole_0 rfl rfl ?_
  refine ex_callVi F (c_X4_isThere hs) dX4_pairsWhole_1 cs_X4_pairsWhole_20 (ob_4 hs) rfl rfl rfl rfl (Nat.le_of_ble_eq_true rfl) (fun v1 M1 h1 => ?_)
  obtain ⟨rfl, q1⟩ := h1
  rw [q1]
  clear q1
  refine ex_if_eq (t := 27) F dX4_pairsWhole_4 (by decide) (fun c4 => ?_) (fun c4 => ?_)
  · refine ex_iconst (v := 0) F dX4_pairsWhole_27 (by decide) ?_
    exact ex_iret F R dX4_pairsWhole_28 rfl (⟨by rw [sPairs, if_pos (by simp [b2i_0.mp c4])], rfl⟩)
  · refine ex_aload_n F dX4_pairsWhole_7 rfl rfl ?_
    refine gf_4_1 hs F dX4_pairsWhole_8 fl_X4_17 ?_
    refine ex_iload_n F dX4_pairsWhole_11 rfl rfl ?_
    refine ex_icmp_ne (t := 27) F dX4_pairsWhole_12 (by decide) (fun c12 => ?_) (fun c12 => ?_)
    · refine ex_iconst (v := 0) F dX4_pairsWhole_27 (by decide) ?_
      exact ex_iret F R dX4_pairsWhole_28 rfl (⟨by rw [sPairs, if_pos (by simp [c12])], rfl⟩)
    · refine ex_iload_n F dX4_pairsWhole_15 rfl rfl ?_
      refine ex_if_lt (t := 27) F dX4_pairsWhole_16 (by decide) (fun c16 => ?_) (fun c16 => ?_)
      · refine ex_iconst (v := 0) F dX4_pairsWhole_27 (by decide) ?_
        exact ex_iret F R dX4_pairsWhole_28 rfl (⟨by rw [sPairs, if_pos (by simp [c16])], rfl⟩)
      · refine ex_iload_n F dX4_pairsWhole_19 rfl rfl ?_
        refine ex_aload_n F dX4_pairsWhole_20 rfl rfl ?_
        refine gf_4_2 hs F dX4_pairsWhole_21 fl_X4_13 ?_
        refine ex_icmp_lt (t := 29) F dX4_pairsWhole_24 (by decide) (fun c24 => ?_) (fun c24 => ?_)
        · refine ex_iload_n F dX4_pairsWhole_29 rfl rfl ?_
          refine ex_aload_n F dX4_pairsWhole_30 rfl rfl ?_
          refine gf_4_2 hs F dX4_pairsWhole_31 fl_X4_13 ?_
          refine ex_iload_n F dX4_pairsWhole_34 rfl rfl ?_
          refine ex_isub F dX4_pairsWhole_35 ?_
          refine ex_iconst (v := 2) F dX4_pairsWhole_36 (by decide) ?_
          refine ex_idiv F dX4_pairsWhole_37 (by decide) ?_
          refine ex_mmin F dX4_pairsWhole_38 ml_X4_24 st_min ini_math cd_min (by decide) (Nat.le_of_ble_eq_true rfl) ?_
          exact ex_iret F R dX4_pairsWhole_41 rfl (have hb : (!sThere M q || (!decide (M q 1 = la) || (decide (f < 0) || decide (M q 2 ≤ f)))) = false := (by simp [b2i_1.mp c4, c12]; exact ⟨Int32.not_lt.mp c16, c24⟩); ⟨by rw [sPairs, hb]; rfl, rfl⟩)
        · refine ex_iconst (v := 0) F dX4_pairsWhole_27 (by decide) ?_
          exact ex_iret F R dX4_pairsWhole_28 rfl (⟨by rw [sPairs, if_pos (by simp [Int32.not_lt.mp c24])], rfl⟩)
set_option maxRecDepth 100000 in
theorem c_X7_imageAt {l : Launch} {g : XG} {M : Mem} {k0 : Int32} : Call l g YX7_imageAt [.ref (ad g 0), .int k0] M (PA (fun v M' => v = (if outN k0 2 = true then .null else .ref (ad g (20 + 3 * k0.toNatClampNeg))) ∧ M' = M)) := by
  refine call_of (by decide +kernel) (Nat.le_of_ble_eq_true rfl) (fun x hxl F R => ?_)
  subst hxl
  refine ex_iload_n F dX7_imageAt_0 rfl rfl ?_
  refine ex_if_lt (t := 22) F dX7_imageAt_1 (by decide) (fun c1 => ?_) (fun c1 => ?_)
  · refine ex_null F dX7_imageAt_22 ?_
    exact ex_aret F R dX7_imageAt_23 rfl (by first | exact Or.inl rfl | exact Or.inr ⟨_, rfl⟩) (⟨by rw [if_pos (by simp [outN, c1])], rfl⟩)
  · refine ex_iload_n F dX7_imageAt_4 rfl rfl ?_
    refine ex_aload_n F dX7_imageAt_5 rfl rfl ?_
    refine gf_7_5 F dX7_imageAt_6 fl_X7_43 ?_
    refine ex_alen_im (v := 2) F dX7_imageAt_9 (by decide) ?_
    refine ex_icmp_ge (t := 22) F dX7_imageAt_10 (by decide) (fun c10 => ?_) (fun c10 => ?_)
    · refine ex_null F dX7_imageAt_22 ?_
      exact ex_aret F R dX7_imageAt_23 rfl (by first | exact Or.inl rfl | exact Or.inr ⟨_, rfl⟩) (⟨by rw [if_pos (by simp [outN, c10])], rfl⟩)
    · refine ex_aload_n F dX7_imageAt_13 rfl rfl ?_
      refine gf_7_5 F dX7_imageAt_14 fl_X7_43 ?_
      refine ex_iload_n F dX7_imageAt_17 rfl rfl ?_
      refine ex_aald_im F dX7_imageAt_18 (vin (n := 2) (b := 2) (by decide) c1 c10) rfl ?_
      refine ex_goto (t := 23) F dX7_imageAt_19 (by decide) ?_
      exact ex_aret F R dX7_imageAt_23 rfl (by first | exact Or.inl rfl | exact Or.inr ⟨_, rfl⟩) (⟨by rw [if_neg (by simp only [outN, Bool.or_eq_true, decide_eq_true_eq]; exact fun z => z.elim c1 c10)], rfl⟩)
set_option maxRecDepth 100000 in
theorem c_X7_sheetAt {l : Launch} {g : XG} {M : Mem} {k0 : Int32} : Call l g YX7_sheetAt [.ref (ad g 0), .int k0] M (PA (fun v M' => v = (if outN k0 4 = true then .null else .ref (ad g (27 + 2 * k0.toNatClampNeg))) ∧ M' = M)) := by
  refine call_of (by decide +kernel) (Nat.le_of_ble_eq_true rfl) (fun x hxl F R => ?_)
  subst hxl
  refine ex_iload_n F dX7_sheetAt_0 rfl rfl ?_
  refine ex_if_lt (t := 22) F dX7_sheetAt_1 (by decide) (fun c1 => ?_) (fun c1 => ?_)
  · refine ex_null F dX7_sheetAt_22 ?_
    exact ex_aret F R dX7_sheetAt_23 rfl (by first | exact Or.inl rfl | exact Or.inr ⟨_, rfl⟩) (⟨by rw [if_pos (by simp [outN, c1])], rfl⟩)
  · refine ex_iload_n F dX7_sheetAt_4 rfl rfl ?_
    refine ex_aload_n F dX7_sheetAt_5 rfl rfl ?_
    refine gf_7_6 F dX7_sheetAt_6 fl_X7_50 ?_
    refine ex_alen_sh (v := 4) F dX7_sheetAt_9 (by decide) ?_
    refine ex_icmp_ge (t := 22) F dX7_sheetAt_10 (by decide) (fun c10 => ?_) (fun c10 => ?_)
    · refine ex_null F dX7_sheetAt_22 ?_
      exact ex_aret F R dX7_sheetAt_23 rfl (by first | exact Or.inl rfl | exact Or.inr ⟨_, rfl⟩) (⟨by rw [if_pos (by simp [outN, c10])], rfl⟩)
    · refine ex_aload_n F dX7_sheetAt_13 rfl rfl ?_
      refine gf_7_6 F dX7_sheetAt_14 fl_X7_50 ?_
      refine ex_iload_n F dX7_sheetAt_17 rfl rfl ?_
      refine ex_aald_sh F dX7_sheetAt_18 (vin (n := 4) (b := 4) (by decide) c1 c10) rfl ?_
      refine ex_goto (t := 23) F dX7_sheetAt_19 (by decide) ?_
      exact ex_aret F R dX7_sheetAt_23 rfl (by first | exact Or.inl rfl | exact Or.inr ⟨_, rfl⟩) (⟨by rw [if_neg (by simp only [outN, Bool.or_eq_true, decide_eq_true_eq]; exact fun z => z.elim c1 c10)], rfl⟩)
theorem cs_X7_keep_233 : CSV (xmN YX7_keep).cls (xmF YX7_keep) (xmW YX7_keep) 233 1 YX7_imageAt := ⟨⟨ml_X7_233, ini_X7, cd_X7_imageAt, by decide +kernel, by decide⟩, im_X7_imageAt, se_X7_imageAt⟩
theorem cs_X7_keep_197 : CSV (xmN YX7_keep).cls (xmF YX7_keep) (xmW YX7_keep) 197 1 YX1_becomeLike := ⟨⟨ml_X7_197, ini_X1, cd_X1_becomeLike, by decide +kernel, by decide⟩, im_X1_becomeLike, se_X1_becomeLike⟩
set_option maxRecDepth 100000 in
theorem c_X7_keep {l : Launch} {g : XG} {M : Mem} {k0 : Int32} (h14 : zC (cX M 14)) (hz : ∀ q, isO 1 q → zC (cX M q)) (hb01 : ∀ q, isO 2 q → M q 1 = 0 ∨ M q 1 = 1) : Call l g YX7_keep [.ref (ad g 0), .int k0] M (PI (fun v M' => v = (if outN k0 2 = true then -1 else M (20 + 3 * k0.toNatClampNeg) 1) ∧ M' = (if outN k0 2 = true then M else mu (putC M ((20 + 3 * k0.toNatClampNeg) + 1) (cX M 14)) (20 + 3 * k0.toNatClampNeg) 1 1))) := by
  refine call_of (by decide +kernel) (Nat.le_of_ble_eq_true rfl) (fun x hxl F R => ?_)
  subst hxl
  refine ex_aload_n F dX7_keep_0 rfl rfl ?_
  refine ex_iload_n F dX7_keep_1 rfl rfl ?_
  refine ex_callVa F (c_X7_imageAt) dX7_keep_2 cs_X7_keep_233 ob_7 rfl rfl rfl rfl (Nat.le_of_ble_eq_true rfl) (fun v2 M2 h2 => ?_)
  obtain ⟨e2, q2⟩ := h2
  rw [q2]
  clear q2
  by_cases hb : outN k0 2 = true
  · rw [if_pos hb] at e2
    subst e2
    refine ex_astore_nN F dX7_keep_5 rfl (by decide) ?_
    refine ex_aload_nN F dX7_keep_6 rfl rfl ?_
    refine ex_ifnonnullN F dX7_keep_7 ?_
    refine ex_iconst (v := -1) F dX7_keep_10 (by decide) ?_
    exact ex_iret F R dX7_keep_11 rfl (⟨by rw [if_pos hb], by rw [if_pos hb]⟩)
  · rw [if_neg hb] at e2
    have hq : ∃ q, q = 20 + 3 * k0.toNatClampNeg := ⟨_, rfl⟩
    obtain ⟨q, hq⟩ := hq
    rw [← hq] at e2
    subst e2
    have hI : isO 2 q := by
      have lk : k0.toNatClampNeg < 2 := outN_lt (b := 2) (n := 2) (by decide) (by simpa using hb)
      have : k0.toNatClampNeg = 0 ∨ k0.toNatClampNeg = 1 := by omega
      rcases this with e | e <;> (rw [hq, e]; decide)
    have hI1 : isO 1 (q + 1) := tO_2_0 hI
    have hqn : q ≠ 14 ∧ q ≠ 15 ∧ q + 1 ≠ 14 ∧ q + 1 ≠ 15 ∧ 14 ≠ q + 1 := by rcases kk_2 hI with e | e <;> (rw [e]; decide)
    refine ex_astore_n F dX7_keep_5 rfl (by decide) ?_
    refine ex_aload_n F dX7_keep_6 rfl rfl ?_
    refine ex_ifnonnull (t := 12) F dX7_keep_7 (by decide) ?_
    refine ex_aload_n F dX7_keep_12 rfl rfl ?_
    refine gf_2_1 hI F dX7_keep_13 fl_X7_115 ?_
    refine ex_if_eq (t := 23) F dX7_keep_16 (by decide) (fun c16 => ?_) (fun c16 => ?_)
    · refine ex_iconst (v := 0) F dX7_keep_23 (by decide) ?_
      refine ex_istore_n F dX7_keep_24 rfl (by decide) ?_
      refine ex_aload_n F dX7_keep_25 rfl rfl ?_
      refine gf_2_0 hI (q9 := (q + 1)) rfl F dX7_keep_26 fl_X7_237 ?_
      refine ex_aload_n F dX7_keep_29 rfl rfl ?_
      refine gf_7_2 F dX7_keep_30 fl_X7_26 ?_
      refine ex_callVv F (c_X1_becomeLike hI1 (by decide) hqn.2.2.2.2) dX7_keep_33 cs_X7_keep_197 (ob_1 (tO_2_0 hI)) rfl rfl rfl rfl (Nat.le_of_ble_eq_true rfl) (fun M33 h33 => ?_)
      rw [cpC_z h14 (hz _ hI1)] at h33
      rw [h33]
      clear h33
      refine ex_aload_n F dX7_keep_36 rfl rfl ?_
      refine ex_iconst (v := 1) F dX7_keep_37 (by decide) ?_
      refine pf_2_1 hI F dX7_keep_38 fl_X7_115 (by first | exact Or.inl rfl | exact Or.inr rfl | assumption) ?_
      refine ex_iload_n F dX7_keep_41 rfl rfl ?_
      exact ex_iret F R dX7_keep_42 rfl (⟨by rw [if_neg hb, ← hq]; exact c16.symm, by rw [if_neg hb, ← hq]⟩)
    · refine ex_iconst (v := 1) F dX7_keep_19 (by decide) ?_
      refine ex_goto (t := 24) F dX7_keep_20 (by decide) ?_
      refine ex_istore_n F dX7_keep_24 rfl (by decide) ?_
      refine ex_aload_n F dX7_keep_25 rfl rfl ?_
      refine gf_2_0 hI (q9 := (q + 1)) rfl F dX7_keep_26 fl_X7_237 ?_
      refine ex_aload_n F dX7_keep_29 rfl rfl ?_
      refine gf_7_2 F dX7_keep_30 fl_X7_26 ?_
      refine ex_callVv F (c_X1_becomeLike hI1 (by decide) hqn.2.2.2.2) dX7_keep_33 cs_X7_keep_197 (ob_1 (tO_2_0 hI)) rfl rfl rfl rfl (Nat.le_of_ble_eq_true rfl) (fun M33 h33 => ?_)
      rw [cpC_z h14 (hz _ hI1)] at h33
      rw [h33]
      clear h33
      refine ex_aload_n F dX7_keep_36 rfl rfl ?_
      refine ex_iconst (v := 1) F dX7_keep_37 (by decide) ?_
      refine pf_2_1 hI F dX7_keep_38 fl_X7_115 (by first | exact Or.inl rfl | exact Or.inr rfl | assumption) ?_
      refine ex_iload_n F dX7_keep_41 rfl rfl ?_
      exact ex_iret F R dX7_keep_42 rfl (⟨by rw [if_neg hb, ← hq]; exact ((hb01 q hI).resolve_left c16).symm, by rw [if_neg hb, ← hq]⟩)
theorem cs_X7_back_233 : CSV (xmN YX7_back).cls (xmF YX7_back) (xmW YX7_back) 233 1 YX7_imageAt := ⟨⟨ml_X7_233, ini_X7, cd_X7_imageAt, by decide +kernel, by decide⟩, im_X7_imageAt, se_X7_imageAt⟩
theorem cs_X7_back_197 : CSV (xmN YX7_back).cls (xmF YX7_back) (xmW YX7_back) 197 1 YX1_becomeLike := ⟨⟨ml_X7_197, ini_X1, cd_X1_becomeLike, by decide +kernel, by decide⟩, im_X1_becomeLike, se_X1_becomeLike⟩
set_option maxRecDepth 100000 in
theorem c_X7_back {l : Launch} {g : XG} {M : Mem} {k0 : Int32} (h14 : zC (cX M 14)) (hz : ∀ q, isO 1 q → zC (cX M q)) : Call l g YX7_back [.ref (ad g 0), .int k0] M (PI (fun v M' => v = (if outN k0 2 = true then -1 else if M (20 + 3 * k0.toNatClampNeg) 1 = 0 then -2 else cX M ((20 + 3 * k0.toNatClampNeg) + 1) 4) ∧ M' = (if outN k0 2 = true then M else if M (20 + 3 * k0.toNatClampNeg) 1 = 0 then M else putC M 14 (cX M ((20 + 3 * k0.toNatClampNeg) + 1))))) := by
  refine call_of (by decide +kernel) (Nat.le_of_ble_eq_true rfl) (fun x hxl F R => ?_)
  subst hxl
  refine ex_aload_n F dX7_back_0 rfl rfl ?_
  refine ex_iload_n F dX7_back_1 rfl rfl ?_
  refine ex_callVa F (c_X7_imageAt) dX7_back_2 cs_X7_back_233 ob_7 rfl rfl rfl rfl (Nat.le_of_ble_eq_true rfl) (fun v2 M2 h2 => ?_)
  obtain ⟨e2, q2⟩ := h2
  rw [q2]
  clear q2
  by_cases hb : outN k0 2 = true
  · rw [if_pos hb] at e2
    subst e2
    refine ex_astore_nN F dX7_back_5 rfl (by decide) ?_
    refine ex_aload_nN F dX7_back_6 rfl rfl ?_
    refine ex_ifnonnullN F dX7_back_7 ?_
    refine ex_iconst (v := -1) F dX7_back_10 (by decide) ?_
    exact ex_iret F R dX7_back_11 rfl (⟨by rw [if_pos hb], by rw [if_pos hb]⟩)
  · rw [if_neg hb] at e2
    have hq : ∃ q, q = 20 + 3 * k0.toNatClampNeg := ⟨_, rfl⟩
    obtain ⟨q, hq⟩ := hq
    rw [← hq] at e2
    subst e2
    have hI : isO 2 q := by
      have lk : k0.toNatClampNeg < 2 := outN_lt (b := 2) (n := 2) (by decide) (by simpa using hb)
      have : k0.toNatClampNeg = 0 ∨ k0.toNatClampNeg = 1 := by omega
      rcases this with e | e <;> (rw [hq, e]; decide)
    have hI1 : isO 1 (q + 1) := tO_2_0 hI
    have hqn : q ≠ 14 ∧ q ≠ 15 ∧ q + 1 ≠ 14 ∧ q + 1 ≠ 15 ∧ 14 ≠ q + 1 := by rcases kk_2 hI with e | e <;> (rw [e]; decide)
    refine ex_astore_n F dX7_back_5 rfl (by decide) ?_
    refine ex_aload_n F dX7_back_6 rfl rfl ?_
    refine ex_ifnonnull (t := 12) F dX7_back_7 (by decide) ?_
    refine ex_aload_n F dX7_back_12 rfl rfl ?_
    refine gf_2_1 hI F dX7_back_13 fl_X7_115 ?_
    refine ex_if_ne (t := 22) F dX7_back_16 (by decide) (fun c16 => ?_) (fun c16 => ?_)
    · refine ex_aload_n F dX7_back_22 rfl rfl ?_
      refine gf_7_2 F dX7_back_23 fl_X7_26 ?_
      refine ex_aload_n F dX7_back_26 rfl rfl ?_
      refine gf_2_0 hI (q9 := (q + 1)) rfl F dX7_back_27 fl_X7_237 ?_
      refine ex_callVv F (c_X1_becomeLike (by decide) hI1 hqn.2.2.1) dX7_back_30 cs_X7_back_197 (ob_1 (by decide)) rfl rfl rfl rfl (Nat.le_of_ble_eq_true rfl) (fun M30 h30 => ?_)
      rw [cpC_z (hz _ hI1) h14] at h30
      rw [h30]
      clear h30
      refine ex_aload_n F dX7_back_33 rfl rfl ?_
      refine gf_7_2 F dX7_back_34 fl_X7_26 ?_
      refine gf_1_5 (by decide) F dX7_back_37 fl_X7_238 ?_
      exact ex_iret F R dX7_back_40 rfl (⟨by rw [if_neg hb, ← hq, if_neg c16]; rfl, by rw [if_neg hb, ← hq, if_neg c16]⟩)
    · refine ex_bipush (v := -2) F dX7_back_19 (by decide) ?_
      exact ex_iret F R dX7_back_21 rfl (⟨by rw [if_neg hb, ← hq, if_pos c16], by rw [if_neg hb, ← hq, if_pos c16]⟩)
theorem cs_X7_sheet_241 : CSV (xmN YX7_sheet).cls (xmF YX7_sheet) (xmW YX7_sheet) 241 1 YX7_sheetAt := ⟨⟨ml_X7_241, ini_X7, cd_X7_sheetAt, by decide +kernel, by decide⟩, im_X7_sheetAt, se_X7_sheetAt⟩
theorem cs_X7_sheet_85 : CSS (xmN YX7_sheet).cls (xmF YX7_sheet) (xmW YX7_sheet) 85 3 YX7_outside := ⟨⟨ml_X7_85, ini_X7, cd_X7_outside, by decide +kernel, by decide⟩, st_X7_outside⟩
theorem cs_X7_sheet_245 : CSV (xmN YX7_sheet).cls (xmF YX7_sheet) (xmW YX7_sheet) 245 2 YX4_renew := ⟨⟨ml_X7_245, ini_X4, cd_X4_renew, by decide +kernel, by decide⟩, im_X4_renew, se_X4_renew⟩
set_option maxRecDepth 100000 in
theorem c_X7_sheet {l : Launch} {g : XG} {M : Mem} {k0 la n : Int32} : Call l g YX7_sheet [.ref (ad g 0), .int k0, .int la, .int n] M (PI (fun v M' => v = (if (outN k0 4 || (outB la 0 2 || decide (40 < n))) = true then -1 else if n < 0 then -14 else 1) ∧ M' = (if (outN k0 4 || (outB la 0 2 || decide (40 < n))) = true then M else if n < 0 then M else sRenew M (27 + 2 * k0.toNatClampNeg) la n))) := by
  refine call_of (by decide +kernel) (Nat.le_of_ble_eq_true rfl) (fun x hxl F R => ?_)
  subst hxl
  refine ex_aload_n F dX7_sheet_0 rfl rfl ?_
  refine ex_iload_n F dX7_sheet_1 rfl rfl ?_
  refine ex_callVa F (c_X7_sheetAt) dX7_sheet_2 cs_X7_sheet_241 ob_7 rfl rfl rfl rfl (Nat.le_of_ble_eq_true rfl) (fun v2 M2 h2 => ?_)
  obtain ⟨e2, q2⟩ := h2
  rw [q2]
  clear q2
  by_cases hb : outN k0 4 = true
  · rw [if_pos hb] at e2
    subst e2
    refine ex_astoreN F dX7_sheet_5 (by decide) ?_
    refine ex_aloadN F dX7_sheet_7 rfl ?_
    refine ex_ifnullN (t := 27) F dX7_sheet_9 (by decide) ?_
    refine ex_iconst (v := -1) F dX7_sheet_27 (by decide) ?_
    exact ex_iret F R dX7_sheet_28 rfl (⟨by rw [if_pos (by simp [hb])], by rw [if_pos (by simp [hb])]⟩)
  · rw [if_neg hb] at e2
    have hq : ∃ q, q = 27 + 2 * k0.toNatClampNeg := ⟨_, rfl⟩
    obtain ⟨q, hq⟩ := hq
    rw [← hq] at e2
    subst e2
    have hs : isO 4 q := by
      have lk : k0.toNatClampNeg < 4 := outN_lt (b := 4) (n := 4) (by decide) (by simpa using hb)
      have : k0.toNatClampNeg = 0 ∨ k0.toNatClampNeg = 1 ∨ k0.toNatClampNeg = 2 ∨ k0.toNatClampNeg = 3 := by omega
      rcases this with e | e | e | e <;> (rw [hq, e]; decide)
    have hqn := sq_ne hs
    refine ex_astore F dX7_sheet_5 (by decide) ?_
    refine ex_aload F dX7_sheet_7 rfl ?_
    refine ex_ifnull F dX7_sheet_9 ?_
    refine ex_iload_n F dX7_sheet_12 rfl rfl ?_
    refine ex_iconst (v := 0) F dX7_sheet_13 (by decide) ?_
    refine ex_iconst (v := 2) F dX7_sheet_14 (by decide) ?_
    refine ex_callSi F (c_X7_outside) dX7_sheet_15 cs_X7_sheet_85 rfl rfl (Nat.le_of_ble_eq_true rfl) (fun v15 M15 h15 => ?_)
    obtain ⟨rfl, q15⟩ := h15
    rw [q15]
    clear q15
    refine ex_if_ne (t := 27) F dX7_sheet_18 (by decide) (fun c18 => ?_) (fun c18 => ?_)
    · refine ex_iconst (v := -1) F dX7_sheet_27 (by decide) ?_
      exact ex_iret F R dX7_sheet_28 rfl (⟨by rw [if_pos (by simp [b2i_1.mp c18])], by rw [if_pos (by simp [b2i_1.mp c18])]⟩)
    · refine ex_iload_n F dX7_sheet_21 rfl rfl ?_
      refine ex_bipush (v := 40) F dX7_sheet_22 (by decide) ?_
      refine ex_icmp_le (t := 29) F dX7_sheet_24 (by decide) (fun c24 => ?_) (fun c24 => ?_)
      · refine ex_iload_n F dX7_sheet_29 rfl rfl ?_
        refine ex_if_ge (t := 36) F dX7_sheet_30 (by decide) (fun c30 => ?_) (fun c30 => ?_)
        · refine ex_aload F dX7_sheet_36 rfl ?_
          refine ex_iload_n F dX7_sheet_38 rfl rfl ?_
          refine ex_iload_n F dX7_sheet_39 rfl rfl ?_
          refine ex_callVv F (c_X4_renew hs) dX7_sheet_40 cs_X7_sheet_245 (ob_4 hs) rfl rfl rfl rfl (Nat.le_of_ble_eq_true rfl) (fun M40 h40 => ?_)
          rw [h40]
          refine ex_iconst (v := 1) F dX7_sheet_43 (by decide) ?_
          exact ex_iret F R dX7_sheet_44 rfl (have e : (outN k0 4 || (outB la 0 2 || decide (40 < n))) = false := (by simp [hb, b2i_0.mp c18, c24]); ⟨by rw [e, if_neg (by decide), if_neg (Int32.not_lt.mpr c30)], by rw [e, if_neg (by decide), if_neg (Int32.not_lt.mpr c30), ← hq]⟩)
        · refine ex_bipush (v := -14) F dX7_sheet_33 (by decide) ?_
          exact ex_iret F R dX7_sheet_35 rfl (have e : (outN k0 4 || (outB la 0 2 || decide (40 < n))) = false := (by simp [hb, b2i_0.mp c18, c24]); ⟨by rw [e, if_neg (by decide), if_pos (Int32.not_le.mp c30)], by rw [e, if_neg (by decide), if_pos (Int32.not_le.mp c30)]⟩)
      · refine ex_iconst (v := -1) F dX7_sheet_27 (by decide) ?_
        exact ex_iret F R dX7_sheet_28 rfl (⟨by rw [if_pos (by simp [Int32.not_le.mp c24])], by rw [if_pos (by simp [Int32.not_le.mp c24])]⟩)
theorem cs_X7_lay_241 : CSV (xmN YX7_lay).cls (xmF YX7_lay) (xmW YX7_lay) 241 1 YX7_sheetAt := ⟨⟨ml_X7_241, ini_X7, cd_X7_sheetAt, by decide +kernel, by decide⟩, im_X7_sheetAt, se_X7_sheetAt⟩
theorem cs_X7_lay_248 : CSV (xmN YX7_lay).cls (xmF YX7_lay) (xmW YX7_lay) 248 2 YX4_put := ⟨⟨ml_X7_248, ini_X4, cd_X4_put, by decide +kernel, by decide⟩, im_X4_put, se_X4_put⟩
set_option maxRecDepth 100000 in
theorem c_X7_lay {l : Launch} {g : XG} {M : Mem} {k0 i0 v0 : Int32} : Call l g YX7_lay [.ref (ad g 0), .int k0, .int i0, .int v0] M (PI (fun v M' => v = (if outN k0 4 = true then -1 else if sPutF M (27 + 2 * k0.toNatClampNeg) i0 = 0 then 1 else -10 - sPutF M (27 + 2 * k0.toNatClampNeg) i0) ∧ M' = (if outN k0 4 = true then M else if sPutF M (27 + 2 * k0.toNatClampNeg) i0 = 0 then mu M ((27 + 2 * k0.toNatClampNeg) + 1) i0.toNatClampNeg (sLane (M (27 + 2 * k0.toNatClampNeg) 1) v0) else M))) := by
  refine call_of (by decide +kernel) (Nat.le_of_ble_eq_true rfl) (fun x hxl F R => ?_)
  subst hxl
  refine ex_aload_n F dX7_lay_0 rfl rfl ?_
  refine ex_iload_n F dX7_lay_1 rfl rfl ?_
  refine ex_callVa F (c_X7_sheetAt) dX7_lay_2 cs_X7_lay_241 ob_7 rfl rfl rfl rfl (Nat.le_of_ble_eq_true rfl) (fun v2 M2 h2 => ?_)
  obtain ⟨e2, q2⟩ := h2
  rw [q2]
  clear q2
  by_cases hb : outN k0 4 = true
  · rw [if_pos hb] at e2
    subst e2
    refine ex_astoreN F dX7_lay_5 (by decide) ?_
    refine ex_aloadN F dX7_lay_7 rfl ?_
    refine ex_ifnonnullN F dX7_lay_9 ?_
    refine ex_iconst (v := -1) F dX7_lay_12 (by decide) ?_
    exact ex_iret F R dX7_lay_13 rfl (⟨by rw [if_pos hb], by rw [if_pos hb]⟩)
  · rw [if_neg hb] at e2
    have hq : ∃ q, q = 27 + 2 * k0.toNatClampNeg := ⟨_, rfl⟩
    obtain ⟨q, hq⟩ := hq
    rw [← hq] at e2
    subst e2
    have hs : isO 4 q := by
      have lk : k0.toNatClampNeg < 4 := outN_lt (b := 4) (n := 4) (by decide) (by simpa using hb)
      have : k0.toNatClampNeg = 0 ∨ k0.toNatClampNeg = 1 ∨ k0.toNatClampNeg = 2 ∨ k0.toNatClampNeg = 3 := by omega
      rcases this with e | e | e | e <;> (rw [hq, e]; decide)
    have hqn := sq_ne hs
    refine ex_astore F dX7_lay_5 (by decide) ?_
    refine ex_aload F dX7_lay_7 rfl ?_
    refine ex_ifnonnull (t := 14) F dX7_lay_9 (by decide) ?_
    refine ex_aload F dX7_lay_14 rfl ?_
    refine ex_iload_n F dX7_lay_16 rfl rfl ?_
    refine ex_iload_n F dX7_lay_17 rfl rfl ?_
    refine ex_callVi F (c_X4_put hs) dX7_lay_18 cs_X7_lay_248 (ob_4 hs) rfl rfl rfl rfl (Nat.le_of_ble_eq_true rfl) (fun v18 M18 h18 => ?_)
    obtain ⟨rfl, q18⟩ := h18
    rw [q18]
    clear q18
    refine ex_istore F dX7_lay_21 (by decide) ?_
    refine ex_iload F dX7_lay_23 rfl ?_
    refine ex_if_ne (t := 32) F dX7_lay_25 (by decide) (fun c25 => ?_) (fun c25 => ?_)
    · refine ex_bipush (v := -10) F dX7_lay_32 (by decide) ?_
      refine ex_iload F dX7_lay_34 rfl ?_
      refine ex_isub F dX7_lay_36 ?_
      exact ex_iret F R dX7_lay_37 rfl (⟨by rw [if_neg hb, ← hq, if_neg c25], by rw [if_neg hb, ← hq]⟩)
    · refine ex_iconst (v := 1) F dX7_lay_28 (by decide) ?_
      refine ex_goto (t := 37) F dX7_lay_29 (by decide) ?_
      exact ex_iret F R dX7_lay_37 rfl (⟨by rw [if_neg hb, ← hq, if_pos c25], by rw [if_neg hb, ← hq]⟩)
theorem cs_X7_cellsOf_293 : CSV (xmN YX7_cellsOf).cls (xmF YX7_cellsOf) (xmW YX7_cellsOf) 293 0 YX4_isThere := ⟨⟨ml_X7_293, ini_X4, cd_X4_isThere, by decide +kernel, by decide⟩, im_X4_isThere, se_X4_isThere⟩
set_option maxRecDepth 100000 in
theorem c_X7_cellsOf {l : Launch} {g : XG} {M : Mem} {q : Nat} (hs : isO 4 q) : Call l g YX7_cellsOf [.ref (ad g q)] M (PI (fun v M' => v = (if sThere M q = true then M q 2 else -4) ∧ M' = M)) := by
  refine call_of (by decide +kernel) (Nat.le_of_ble_eq_true rfl) (fun x hxl F R => ?_)
  subst hxl
  refine ex_aload_n F dX7_cellsOf_0 rfl rfl ?_
  refine ex_ifnull F dX7_cellsOf_1 ?_
  refine ex_aload_n F dX7_cellsOf_4 rfl rfl ?_
  refine ex_callVi F (c_X4_isThere hs) dX7_cellsOf_5 cs_X7_cellsOf_293 (ob_4 hs) rfl rfl rfl rfl (Nat.le_of_ble_eq_true rfl) (fun v5 M5 h5 => ?_)
  obtain ⟨rfl, q5⟩ := h5
  rw [q5]
  clear q5
  refine ex_if_eq (t := 18) F dX7_cellsOf_8 (by decide) (fun c8 => ?_) (fun c8 => ?_)
  · refine ex_bipush (v := -4) F dX7_cellsOf_18 (by decide) ?_
    exact ex_iret F R dX7_cellsOf_20 rfl (⟨by rw [if_neg (by rw [b2i_0.mp c8]; decide)], rfl⟩)
  · refine ex_aload_n F dX7_cellsOf_11 rfl rfl ?_
    refine gf_4_2 hs F dX7_cellsOf_12 fl_X7_296 ?_
    refine ex_goto (t := 20) F dX7_cellsOf_15 (by decide) ?_
    exact ex_iret F R dX7_cellsOf_20 rfl (⟨by rw [if_pos (b2i_1.mp c8)], rfl⟩)
