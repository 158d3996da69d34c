theorem till_stuck {T : Nat} {r c : Nat → Int32} {p : Int32} {pp : Nat} (hR : okR r) (hC : okC T c) (hp : p = nI pp) (lp : pp ≤ 9) {j : Nat} (hj : T + j < 2 ^ 31) (h0 : sCome (itT r p j c) = false) (h1 : sCome (itT r p (j + 1) c) = false) (h : sSwell r (itT r p j c) = true ∨ sHard r (itT r p (j + 1) c) = 0) (m : Nat) : sTillN r p c m (j + 1) = -4 := by
  have hs : stuck r (itT r p (j + 1) c) := early (okC_it hC hp lp j) hj h0 h1 h
  refine sTill_none m (j + 1) (fun n hn => ?_)
  obtain ⟨d, rfl⟩ : ∃ d, n = j + 1 + d := ⟨n - (j + 1), by omega⟩
  rw [itT_add]
  exact (stuck_it hR (okC_it hC hp lp (j + 1)) hp lp hs d).1
-- cows
def okT (li ha : Nat → Int32) (n : Nat) : Prop := n ≤ 8 ∧ ∀ c, c < n → (∃ x, 1 ≤ x ∧ x ≤ 50 ∧ li c = nI x) ∧ ∃ y, y ≤ 100 ∧ ha c = nI y
theorem sAll_n : ∀ n, n ≤ 8 → sAll (nI n) = nI (2 ^ n - 1) := by
  intro n hn
  match n, hn with
  | 0, _ => decide
  | 1, _ => decide
  | 2, _ => decide
  | 3, _ => decide
  | 4, _ => decide
  | 5, _ => decide
  | 6, _ => decide
  | 7, _ => decide
  | 8, _ => decide
  | n + 9, h => exact absurd h (by omega)
theorem pow8 {n : Nat} (hn : n ≤ 8) : 2 ^ n ≤ 256 := by
  have := Nat.pow_le_pow_right (show 0 < 2 by decide) hn
  exact this
theorem hasCows_n {n : Nat} {b : Int32} (hn : n ≤ 8) (h : sHasCows (nI n) b = true) : ∃ bb, bb < 2 ^ n ∧ b = nI bb := by
  have h8 := pow8 hn
  have h1 : 0 < 2 ^ n := Nat.two_pow_pos n
  simp only [sHasCows, Bool.and_eq_true, decide_eq_true_eq, sAll_n n hn] at h
  obtain ⟨j, hj, rfl⟩ := nI_of (Int32.not_lt.mpr h.1)
  have := (nI_leI hj (by omega)).mp h.2
  exact ⟨j, by omega, rfl⟩
theorem bitI_n {bb i : Nat} (hb : bb < 2 ^ 31) (hi : i < 31) : bitI (nI bb) i = bb.testBit i := by
  have e1 : (nI bb >>> (nI i &&& 31)) = nI (bb / 2 ^ i) := pk_shrN hb _ i (s_l31 i (by omega))
  have h1 : bb / 2 ^ i < 2 ^ 31 := Nat.lt_of_le_of_lt (Nat.div_le_self _ _) hb
  have e2 : nI (bb / 2 ^ i) &&& 1 = nI (bb / 2 ^ i % 2 ^ 1) := pk_andN (by omega) 1 (by decide)
  unfold bitI
  rw [e1, e2, Nat.testBit_eq_decide_div_mod_eq]
  have h2 : bb / 2 ^ i % 2 ^ 1 < 2 := Nat.mod_lt _ (by decide)
  generalize bb / 2 ^ i % 2 ^ 1 = z at h2 ⊢
  show (!decide (nI z = 0)) = decide (z = 1)
  match z, h2 with
  | 0, _ => decide
  | 1, _ => decide
theorem sums_n {li ha : Nat → Int32} {n bb : Nat} (h : okT li ha n) (hb : bb < 2 ^ n) : ∀ k, k ≤ 8 → ∃ s q, sLitN li (nI bb) k = nI s ∧ sSumN li ha (nI bb) k = nI q ∧ s ≤ 50 * k ∧ q ≤ 100 * s := by
  have h8 := pow8 h.1
  intro k
  induction k with
  | zero => intro _; exact ⟨0, 0, rfl, rfl, by omega, by omega⟩
  | succ k ih =>
    intro hk
    obtain ⟨s, q, e1, e2, l1, l2⟩ := ih (by omega)
    rw [sLitN, sSumN]
    by_cases hbit : bitI (nI bb) k = true
    · rw [if_pos hbit, if_pos hbit, e1, e2]
      have hkn : k < n := by
        rcases Nat.lt_or_ge k n with q | q
        · exact q
        · rw [bitI_n (by omega) (by omega), Nat.testBit_lt_two_pow (Nat.lt_of_lt_of_le hb (Nat.pow_le_pow_right (by decide) q))] at hbit
          cases hbit
      obtain ⟨⟨x, x1, x2, ex⟩, ⟨y, y1, ey⟩⟩ := h.2 k hkn
      have hxy : x * y ≤ x * 100 := Nat.mul_le_mul_left x y1
      rw [ex, ey, pk_mul, nI_add, nI_add]
      exact ⟨s + x, q + x * y, rfl, rfl, by omega, by omega⟩
    · rw [if_neg hbit, if_neg hbit, e1, e2]
      exact ⟨s, q, rfl, rfl, by omega, l2⟩
theorem hardOf_n {li ha : Nat → Int32} {n bb : Nat} (h : okT li ha n) (hb : bb < 2 ^ n) : ∃ y, y ≤ 100 ∧ sHardOf li ha (nI bb) = nI y := by
  obtain ⟨s, q, e1, e2, l1, l2⟩ := sums_n h hb 8 (by decide)
  unfold sHardOf
  rw [e1, e2]
  rcases Nat.eq_zero_or_pos s with hs | hs
  · subst hs
    exact ⟨0, by decide, by rw [if_neg (by decide)]; rfl⟩
  · rw [if_pos (show (0 : Int32) < nI s from nI_lt (a := 0) hs (by omega)), pk_div (by omega) hs (by omega)]
    exact ⟨q / s, Nat.div_le_of_le_mul (by rw [Nat.mul_comm]; exact l2), rfl⟩
theorem outB_n {v : Int32} {a b : Nat} (hb : b < 2 ^ 31) (h : outB v (nI a) (nI b) = false) (ha : a < 2 ^ 31) : ∃ n, a ≤ n ∧ n ≤ b ∧ v = nI n := by
  simp only [outB, Bool.or_eq_false_iff, decide_eq_false_iff_not] at h
  have h0 : ¬ v < 0 := fun q => h.1 (Int32.lt_of_lt_of_le q (nI_le (a := 0) (Nat.zero_le a) ha))
  obtain ⟨j, hj, rfl⟩ := nI_of h0
  refine ⟨j, ?_, ?_, rfl⟩
  · rcases Nat.lt_or_ge j a with q | q
    · exact absurd (nI_lt q ha) h.1
    · exact q
  · rcases Nat.lt_or_ge b j with q | q
    · exact absurd (nI_lt q hj) h.2
    · exact q
theorem okC_fill {li ha dr : Nat → Int32} {n : Nat} {b w : Int32} (h : okT li ha n) (hb : sHasCows (nI n) b = true) (hw : outB w 0 400 = false) : okC 0 (sFill (sLitN li b 8) (sHardOf li ha b) w dr) := by
  obtain ⟨bb, lb, rfl⟩ := hasCows_n h.1 hb
  obtain ⟨y, ly, ey⟩ := hardOf_n h lb
  obtain ⟨x, -, lx, ex⟩ := outB_n (a := 0) (b := 400) (by decide) hw (by decide)
  exact ⟨⟨x, lx, ex⟩, ⟨y, ly, ey⟩, ⟨0, Nat.le_refl _, rfl⟩, Or.inl rfl, zC_fill _ _ _ _⟩
def sRowB (M : Mem) (b w : Int32) : Nat → Int32 := sFill (sLitN (M 4) b 8) (sHardOf (M 4) (M 5) b) w (M 3)
def tO (M : Mem) : Prop := ∃ n, M 1 4 = nI n ∧ okT (M 4) (M 5) n
theorem badR_n {M : Mem} {b w p : Int32} (h : tO M) (hb : badR (M 1 4) b w p = false) : okC 0 (sRowB M b w) ∧ ∃ pp, 1 ≤ pp ∧ pp ≤ 9 ∧ p = nI pp := by
  obtain ⟨n, e, h⟩ := h
  simp only [badR, Bool.or_eq_false_iff, Bool.not_eq_false'] at hb
  rw [e] at hb
  refine ⟨okC_fill h hb.1 hb.2.1, ?_⟩
  obtain ⟨x, x1, x2, ex⟩ := outB_n (a := 1) (b := 9) (by decide) hb.2.2 (by decide)
  exact ⟨x, x1, x2, ex⟩

theorem cs_X7_turnTrialTillCome_162 : CSV (xmN YX7_turnTrialTillCome).cls (xmF YX7_turnTrialTillCome) (xmW YX7_turnTrialTillCome) 162 2 YX1_turnOnce := ⟨⟨ml_X7_162, ini_X1, cd_X1_turnOnce, by decide +kernel, by decide⟩, im_X1_turnOnce, se_X1_turnOnce⟩
theorem cs_X7_turnTrialTillCome_190 : CSV (xmN YX7_turnTrialTillCome).cls (xmF YX7_turnTrialTillCome) (xmW YX7_turnTrialTillCome) 190 0 YX1_hasCome := ⟨⟨ml_X7_190, ini_X1, cd_X1_hasCome, by decide +kernel, by decide⟩, im_X1_hasCome, se_X1_hasCome⟩
theorem cs_X7_turnTrialTillCome_274 : CSV (xmN YX7_turnTrialTillCome).cls (xmF YX7_turnTrialTillCome) (xmW YX7_turnTrialTillCome) 274 1 YX1_hardness := ⟨⟨ml_X7_274, ini_X1, cd_X1_hardness, by decide +kernel, by decide⟩, im_X1_hardness, se_X1_hardness⟩
set_option maxRecDepth 100000 in
theorem c_X7_turnTrialTillCome {l : Launch} {g : XG} {M : Mem} {p m0 : Int32} {pp mm T : Nat} (hR : okR (M 2)) (hC : okC T (cX M 16)) (hT : T + mm < 2 ^ 31) (hm2 : mm + 1 < 2 ^ 31) (hp : p = nI pp) (lp : pp ≤ 9) (hm : m0 = nI mm) (hnc : sCome (cX M 16) = false) : Call l g YX7_turnTrialTillCome [.ref (ad g 0), .int p, .int m0] M (PI (fun v M' => v = sTillN (M 2) p (cX M 16) mm 1 ∧ ∃ n, n ≤ mm ∧ M' = putC M 16 (itT (M 2) p n (cX M 16)) ∧ (v ≠ -4 → v = nI n ∧ 1 ≤ n))) := by
  refine call_of (by decide +kernel) (Nat.le_of_ble_eq_true rfl) (fun x hxl F R => ?_)
  subst hxl
  refine ex_iconst (v := 1) F dX7_turnTrialTillCome_0 (by decide) ?_
  refine ex_istore_n F dX7_turnTrialTillCome_1 rfl (by decide) ?_
  have key : ∀ (m j : Nat) (v : Int32), j + m = mm → v = nI (j + 1) → sCome (itT (M 2) p j (cX M 16)) = false → sTillN (M 2) p (cX M 16) m (j + 1) = sTillN (M 2) p (cX M 16) mm 1 → EX x g (xmL YX7_turnTrialTillCome) (putC M 16 (itT (M 2) p j (cX M 16))) 2 [(0, .ref (ad g 0)), (1, .int p), (2, .int m0), (3, .int v)] [] := by
    intro m
    induction m with
    | zero =>
      intro j v hj hv h0 hs
      obtain rfl : j = mm := by omega
      subst hv
      refine ex_iload_n F dX7_turnTrialTillCome_2 rfl rfl ?_
      refine ex_iload_n F dX7_turnTrialTillCome_3 rfl rfl ?_
      refine ex_icmp_gt (t := 61) F dX7_turnTrialTillCome_4 (by decide) (fun _ => ?_) (fun c => absurd (by rw [hm]; exact nI_lt (by omega) (by omega)) c)
      refine ex_bipush (v := -4) F dX7_turnTrialTillCome_61 (by decide) ?_
      exact ex_iret F R dX7_turnTrialTillCome_63 rfl (⟨by rw [← hs]; rfl, j, by omega, rfl, fun h => absurd rfl h⟩)
    | succ m ih =>
      intro j v hj hv h0 hs
      subst hv
      refine ex_iload_n F dX7_turnTrialTillCome_2 rfl rfl ?_
      refine ex_iload_n F dX7_turnTrialTillCome_3 rfl rfl ?_
      refine ex_icmp_gt (t := 61) F dX7_turnTrialTillCome_4 (by decide) (fun c => absurd c (by rw [hm]; exact nI_nlt (by omega) (by omega))) (fun _ => ?_)
      refine ex_aload_n F dX7_turnTrialTillCome_7 rfl rfl ?_
      refine gf_7_3 F dX7_turnTrialTillCome_8 fl_X7_30 ?_
      refine ex_aload_n F dX7_turnTrialTillCome_11 rfl rfl ?_
      refine gf_7_0 F dX7_turnTrialTillCome_12 fl_X7_10 ?_
      refine ex_iload_n F dX7_turnTrialTillCome_15 rfl rfl ?_
      refine ex_callVi F (c_X1_turnOnce (M := putC M 16 _) (k := 16) (by decide) hR) dX7_turnTrialTillCome_16 cs_X7_turnTrialTillCome_162 (ob_1 (by decide)) rfl rfl rfl rfl (Nat.le_of_ble_eq_true rfl) (fun v16 M16 h16 => ?_)
      obtain ⟨e16, q16⟩ := h16
      rw [cX_putC, putC_putC] at q16
      rw [cX_putC] at e16
      have q16 : M16 = putC M 16 (itT (M 2) p (j + 1) (cX M 16)) := q16
      have e16 : v16 = b2i (!sSwell (M 2) (itT (M 2) p j (cX M 16))) := e16
      rw [q16]
      clear q16
      subst e16
      refine ex_istore F dX7_turnTrialTillCome_19 (by decide) ?_
      refine ex_aload_n F dX7_turnTrialTillCome_21 rfl rfl ?_
      refine gf_7_3 F dX7_turnTrialTillCome_22 fl_X7_30 ?_
      refine ex_callVi F (c_X1_hasCome (k := 16) (by decide)) dX7_turnTrialTillCome_25 cs_X7_turnTrialTillCome_190 (ob_1 (by decide)) rfl rfl rfl rfl (Nat.le_of_ble_eq_true rfl) (fun v25 M25 h25 => ?_)
      rw [cX_putC] at h25
      obtain ⟨rfl, q25⟩ := h25
      rw [q25]
      clear q25
      refine ex_if_eq (t := 33) F dX7_turnTrialTillCome_28 (by decide) (fun c28 => ?_) (fun c28 => ?_)
      · refine ex_iload F dX7_turnTrialTillCome_33 rfl ?_
        refine ex_if_eq (t := 52) F dX7_turnTrialTillCome_35 (by decide) (fun c35 => ?_) (fun c35 => ?_)
        · refine ex_bipush (v := -4) F dX7_turnTrialTillCome_52 (by decide) ?_
          exact ex_iret F R dX7_turnTrialTillCome_54 rfl (⟨by rw [← hs]; exact (till_stuck hR hC hp lp (by omega) h0 (b2i_0.mp c28) (Or.inl (by simpa using b2i_0.mp c35)) (m + 1)).symm, j + 1, by omega, rfl, fun h => absurd rfl h⟩)
        · refine ex_aload_n F dX7_turnTrialTillCome_38 rfl rfl ?_
          refine gf_7_3 F dX7_turnTrialTillCome_39 fl_X7_30 ?_
          refine ex_aload_n F dX7_turnTrialTillCome_42 rfl rfl ?_
          refine gf_7_0 F dX7_turnTrialTillCome_43 fl_X7_10 ?_
          refine ex_callVi F (c_X1_hardness (k := 16) (by decide)) dX7_turnTrialTillCome_46 cs_X7_turnTrialTillCome_274 (ob_1 (by decide)) rfl rfl rfl rfl (Nat.le_of_ble_eq_true rfl) (fun v46 M46 h46 => ?_)
          rw [cX_putC] at h46
          obtain ⟨e46, q46⟩ := h46
          have e46 : v46 = sHard (M 2) (itT (M 2) p (j + 1) (cX M 16)) := e46
          subst e46
          rw [q46]
          clear q46
          refine ex_if_ne (t := 55) F dX7_turnTrialTillCome_49 (by decide) (fun c49 => ?_) (fun c49 => ?_)
          · refine ex_iinc (w := _ + 1) F dX7_turnTrialTillCome_55 rfl rfl (by decide) ?_
            refine ex_goto (t := 2) F dX7_turnTrialTillCome_58 (by decide) ?_
            refine ex_weak2 (ih (j + 1) _ (by omega) (nI_1 (j + 1)) (b2i_0.mp c28) ?_) ⟨rfl, rfl, rfl, rfl, trivial⟩
            rw [← hs, sTillN, if_neg (by rw [b2i_0.mp c28]; decide)]
          · refine ex_bipush (v := -4) F dX7_turnTrialTillCome_52 (by decide) ?_
            exact ex_iret F R dX7_turnTrialTillCome_54 rfl (⟨by rw [← hs]; exact (till_stuck hR hC hp lp (by omega) h0 (b2i_0.mp c28) (Or.inr c49) (m + 1)).symm, j + 1, by omega, rfl, fun h => absurd rfl h⟩)
      · refine ex_iload_n F dX7_turnTrialTillCome_31 rfl rfl ?_
        exact ex_iret F R dX7_turnTrialTillCome_32 rfl (⟨by rw [← hs, sTillN, if_pos (b2i_1.mp c28)], j + 1, by omega, rfl, fun _ => ⟨rfl, by omega⟩⟩)
  exact ex_M (putC_cX M 16).symm (ex_weak2 (key mm 0 _ (by omega) rfl hnc rfl) ⟨rfl, rfl, rfl, rfl, trivial⟩)
theorem cs_X7_comes_159 : CSV (xmN YX7_comes).cls (xmF YX7_comes) (xmW YX7_comes) 159 3 YX7_isBadRun := ⟨⟨ml_X7_159, ini_X7, cd_X7_isBadRun, by decide +kernel, by decide⟩, im_X7_isBadRun, se_X7_isBadRun⟩
theorem cs_X7_comes_108 : CSV (xmN YX7_comes).cls (xmF YX7_comes) (xmW YX7_comes) 108 3 YX1_fillWith := ⟨⟨ml_X7_108, ini_X1, cd_X1_fillWith, by decide +kernel, by decide⟩, im_X1_fillWith, se_X1_fillWith⟩
theorem cs_X7_comes_166 : CSV (xmN YX7_comes).cls (xmF YX7_comes) (xmW YX7_comes) 166 2 YX7_turnTrialTillCome := ⟨⟨ml_X7_166, ini_X7, cd_X7_turnTrialTillCome, by decide +kernel, by decide⟩, im_X7_turnTrialTillCome, se_X7_turnTrialTillCome⟩
set_option maxRecDepth 100000 in
theorem c_X7_comes {l : Launch} {g : XG} {M : Mem} {b w0 p : Int32} (hR : okR (M 2)) (hO : tO M) (h16 : zC (cX M 16)) : Call l g YX7_comes [.ref (ad g 0), .int b, .int w0, .int p] M (PI (fun v M' => v = (if badR (M 1 4) b w0 p = true then -1 else sTillN (M 2) p (sRowB M b w0) 400 1) ∧ jX M M')) := by
  refine call_of (by decide +kernel) (Nat.le_of_ble_eq_true rfl) (fun x hxl F R => ?_)
  subst hxl
  refine ex_aload_n F dX7_comes_0 rfl rfl ?_
  refine ex_iload_n F dX7_comes_1 rfl rfl ?_
  refine ex_iload_n F dX7_comes_2 rfl rfl ?_
  refine ex_iload_n F dX7_comes_3 rfl rfl ?_
  refine ex_callVi F (c_X7_isBadRun) dX7_comes_4 cs_X7_comes_159 ob_7 rfl rfl rfl rfl (Nat.le_of_ble_eq_true rfl) (fun v4 M4 h4 => ?_)
  obtain ⟨rfl, q4⟩ := h4
  rw [q4]
  clear q4
  refine ex_if_eq (t := 12) F dX7_comes_7 (by decide) (fun c7 => ?_) (fun c7 => ?_)
  · refine ex_aload_n F dX7_comes_12 rfl rfl ?_
    refine gf_7_3 F dX7_comes_13 fl_X7_30 ?_
    refine ex_aload_n F dX7_comes_16 rfl rfl ?_
    refine gf_7_0 F dX7_comes_17 fl_X7_10 ?_
    refine ex_iload_n F dX7_comes_20 rfl rfl ?_
    refine ex_iload_n F dX7_comes_21 rfl rfl ?_
    obtain ⟨hCf, pp, -, lp, hp⟩ := badR_n hO (b2i_0.mp c7)
    refine ex_callVv F (c_X1_fillWith (k := 16) (by decide)) dX7_comes_22 cs_X7_comes_108 (ob_1 (by decide)) rfl rfl rfl rfl (Nat.le_of_ble_eq_true rfl) (fun M22 h22 => ?_)
    rw [fill_z h16] at h22
    have h22 : M22 = putC M 16 (sRowB M b w0) := h22
    rw [h22]
    clear h22
    refine ex_aload_n F dX7_comes_25 rfl rfl ?_
    refine ex_iload_n F dX7_comes_26 rfl rfl ?_
    refine ex_sipush (v := 400) F dX7_comes_27 (by decide) ?_
    refine ex_callVi F (c_X7_turnTrialTillCome (M := putC M 16 _) (mm := 400) (T := 0) hR (by rw [cX_putC]; exact hCf) (by decide) (by decide) hp lp rfl (by rw [cX_putC]; rfl)) dX7_comes_30 cs_X7_comes_166 ob_7 rfl rfl rfl rfl (Nat.le_of_ble_eq_true rfl) (fun v30 M30 h30 => ?_)
    obtain ⟨e30, n30, -, q30, -⟩ := h30
    rw [cX_putC] at e30
    rw [cX_putC, putC_putC] at q30
    exact ex_iret F R dX7_comes_33 rfl (⟨by rw [if_neg (by rw [b2i_0.mp c7]; decide)]; exact e30, by rw [q30]; exact jX_put (zC_it _ hCf.2.2.2.2)⟩)
  · refine ex_iconst (v := -1) F dX7_comes_10 (by decide) ?_
    exact ex_iret F R dX7_comes_11 rfl (⟨by rw [if_pos (b2i_1.mp c7)], jX_rf h16⟩)
