def outB (v a b : Int32) : Bool := decide (v < a) || decide (b < v)
def badT (n p : Int32) : Bool := outB n 1 400 || outB p 1 9
def badR (n b w p : Int32) : Bool := !sHasCows n b || (outB w 0 400 || outB p 1 9)
def itT (r : Nat → Int32) (p : Int32) : Nat → (Nat → Int32) → Nat → Int32
  | 0, c => c
  | n + 1, c => sTurn r p (itT r p n c)
def sFalls (r : Nat → Int32) (p : Int32) (c : Nat → Int32) : Nat → Int32
  | 0 => 0
  | n + 1 => sFalls r p c n + b2i (!sSwell r (itT r p n c))
def zC (c : Nat → Int32) : Prop := ∀ j, 13 ≤ j → c j = 0
theorem zC_upd {c : Nat → Int32} (h : zC c) {j : Nat} (y : Int32) (hj : j < 13) : zC (upd c j y) := fun i hi => by rw [pk_un (show i ≠ j by omega)]; exact h i hi
theorem zC_air {r c : Nat → Int32} {p : Int32} (h : zC c) : zC (sAir r p c) := by
  unfold sAir
  split
  · exact h
  · exact zC_upd h _ (by decide)
theorem zC_J {c : Nat → Int32} {rate : Int32} {k : Nat} (h : zC c) (hk : k ≤ 5) : zC (sJ rate k c) := zC_upd (zC_upd h _ (by omega)) _ (by omega)
theorem zC_Jn {rate : Int32} : ∀ (n : Nat) (c : Nat → Int32), n ≤ 6 → zC c → zC (sJn rate n c) := by
  intro n
  induction n with
  | zero => intro c _ h; exact h
  | succ n ih => intro c hn h; exact ih _ (by omega) (zC_J h (by omega))
theorem zC_break {r c : Nat → Int32} (h : zC c) : zC (sBreak r c) := by
  unfold sBreak
  split
  · exact h
  · split
    · exact zC_upd (zC_upd h _ (by decide)) _ (by decide)
    · exact h
theorem zC_turn {r c : Nat → Int32} {p : Int32} (h : zC c) : zC (sTurn r p c) := by
  have h1 : zC (sTurn1 r p c) := by
    unfold sTurn1
    split
    · exact h
    · exact zC_break (zC_Jn _ _ (by decide) (zC_air h))
  unfold sTurn sTick
  split
  · exact zC_upd (zC_upd h1 _ (by decide)) _ (by decide)
  · exact zC_upd h1 _ (by decide)
theorem zC_it {r : Nat → Int32} {p : Int32} (n : Nat) {c : Nat → Int32} (h : zC c) : zC (itT r p n c) := by
  induction n with
  | zero => exact h
  | succ n ih => exact zC_turn ih
theorem zC_half {c : Nat → Int32} (h : zC c) : zC (sHalfN 7 c) := fun j hj => by
  unfold sHalfN
  rw [if_neg (by omega)]
  exact h j hj
def sFill (li ha w : Int32) (dr : Nat → Int32) : Nat → Int32 := sFillN 7 li ha w dr (fun _ => 0)
theorem fill_z {li ha w : Int32} {dr c : Nat → Int32} (h : zC c) : sFillN 7 li ha w dr c = sFill li ha w dr := by
  funext j
  unfold sFill sFillN
  by_cases hj : j < 13
  · simp [show j < 6 + 7 by omega]
  · simp [show ¬ j < 6 + 7 by omega, h j (by omega)]
theorem zC_fill (li ha w : Int32) (dr : Nat → Int32) : zC (sFill li ha w dr) := fun j hj => by
  unfold sFill sFillN
  simp [show ¬ j = 0 by omega, show ¬ j = 1 by omega, show ¬ j = 2 by omega, show ¬ j = 3 by omega, show ¬ j = 4 by omega, show ¬ j = 5 by omega, show ¬ j < 6 + 7 by omega]
theorem cpC_z {a b : Nat → Int32} (ha : zC a) (hb : zC b) : cpC a b = a := by
  funext j
  unfold cpC
  by_cases hj : j < 13
  · rw [if_pos hj]
  · rw [if_neg hj, hb j (by omega), ha j (by omega)]
/-- what may differ: trial, best, water -/
def jX (M M' : Mem) : Prop := (∀ c, c ≠ 16 → c ≠ 17 → c ≠ 18 → c ≠ 37 → M' c = M c) ∧ zC (cX M' 16)
theorem jX_rf {M : Mem} (h : zC (cX M 16)) : jX M M := ⟨fun _ _ _ _ _ => rfl, h⟩
theorem jX_put {M : Mem} {c : Nat → Int32} (h : zC c) : jX M (putC M 16 c) := ⟨fun q h1 h2 _ _ => rd_o h1 h2, by rw [cX_putC]; exact h⟩
theorem jX_trans {M M1 M2 : Mem} (h1 : jX M M1) (h2 : jX M1 M2) : jX M M2 := ⟨fun c a b d e => (h2.1 c a b d e).trans (h1.1 c a b d e), h2.2⟩
def sOverN (r : Nat → Int32) (p : Int32) (c : Nat → Int32) : Nat → Nat → Int32
  | 0, _ => -4
  | m + 1, i => if sMost (itT r p i c) = true then nI i else sOverN r p c m (i + 1)

set_option maxRecDepth 100000 in
theorem c_X7_outside {l : Launch} {g : XG} {M : Mem} {v0 a b : Int32} : Call l g YX7_outside [.int v0, .int a, .int b] M (PI (fun v M' => v = b2i (outB v0 a b) ∧ M' = M)) := by
  refine call_of (by decide +kernel) (Nat.le_of_ble_eq_true rfl) (fun x hxl F R => ?_)
  subst hxl
  refine ex_iload_n F dX7_outside_0 rfl rfl ?_
  refine ex_iload_n F dX7_outside_1 rfl rfl ?_
  refine ex_icmp_lt (t := 10) F dX7_outside_2 (by decide) (fun c2 => ?_) (fun c2 => ?_)
  · refine ex_iconst (v := 1) F dX7_outside_10 (by decide) ?_
    refine ex_goto (t := 15) F dX7_outside_11 (by decide) ?_
    exact ex_zret (ty := .boolean) F R dX7_outside_15 rfl (rfl) (⟨by simp [outB, b2i, c2, lt_nle, -Int32.not_le, -Int32.not_lt], rfl⟩)
  · refine ex_iload_n F dX7_outside_5 rfl rfl ?_
    refine ex_iload_n F dX7_outside_6 rfl rfl ?_
    refine ex_icmp_le (t := 14) F dX7_outside_7 (by decide) (fun c7 => ?_) (fun c7 => ?_)
    · refine ex_iconst (v := 0) F dX7_outside_14 (by decide) ?_
      exact ex_zret (ty := .boolean) F R dX7_outside_15 rfl (rfl) (⟨by simp [outB, b2i, c2, c7, lt_nle, -Int32.not_le, -Int32.not_lt], rfl⟩)
    · refine ex_iconst (v := 1) F dX7_outside_10 (by decide) ?_
      refine ex_goto (t := 15) F dX7_outside_11 (by decide) ?_
      exact ex_zret (ty := .boolean) F R dX7_outside_15 rfl (rfl) (⟨by simp [outB, b2i, c2, c7, lt_nle, -Int32.not_le, -Int32.not_lt], rfl⟩)
theorem cs_X7_isBadTurn_85 : CSS (xmN YX7_isBadTurn).cls (xmF YX7_isBadTurn) (xmW YX7_isBadTurn) 85 3 YX7_outside := ⟨⟨ml_X7_85, ini_X7, cd_X7_outside, by decide +kernel, by decide⟩, st_X7_outside⟩
set_option maxRecDepth 100000 in
theorem c_X7_isBadTurn {l : Launch} {g : XG} {M : Mem} {n p : Int32} : Call l g YX7_isBadTurn [.int n, .int p] M (PI (fun v M' => v = b2i (badT n p) ∧ M' = M)) := by
  refine call_of (by decide +kernel) (Nat.le_of_ble_eq_true rfl) (fun x hxl F R => ?_)
  subst hxl
  refine ex_iload_n F dX7_isBadTurn_0 rfl rfl ?_
  refine ex_iconst (v := 1) F dX7_isBadTurn_1 (by decide) ?_
  refine ex_sipush (v := 400) F dX7_isBadTurn_2 (by decide) ?_
  refine ex_callSi F (c_X7_outside) dX7_isBadTurn_5 cs_X7_isBadTurn_85 rfl rfl (Nat.le_of_ble_eq_true rfl) (fun v5 M5 h5 => ?_)
  obtain ⟨rfl, q5⟩ := h5
  rw [q5]
  clear q5
  refine ex_if_ne (t := 21) F dX7_isBadTurn_8 (by decide) (fun c8 => ?_) (fun c8 => ?_)
  · refine ex_iconst (v := 1) F dX7_isBadTurn_21 (by decide) ?_
    refine ex_goto (t := 26) F dX7_isBadTurn_22 (by decide) ?_
    exact ex_zret (ty := .boolean) F R dX7_isBadTurn_26 rfl (rfl) (⟨by simp [badT, b2i_1.mp c8]; rfl, rfl⟩)
  · refine ex_iload_n F dX7_isBadTurn_11 rfl rfl ?_
    refine ex_iconst (v := 1) F dX7_isBadTurn_12 (by decide) ?_
    refine ex_bipush (v := 9) F dX7_isBadTurn_13 (by decide) ?_
    refine ex_callSi F (c_X7_outside) dX7_isBadTurn_15 cs_X7_isBadTurn_85 rfl rfl (Nat.le_of_ble_eq_true rfl) (fun v15 M15 h15 => ?_)
    obtain ⟨rfl, q15⟩ := h15
    rw [q15]
    clear q15
    refine ex_if_eq (t := 25) F dX7_isBadTurn_18 (by decide) (fun c18 => ?_) (fun c18 => ?_)
    · refine ex_iconst (v := 0) F dX7_isBadTurn_25 (by decide) ?_
      exact ex_zret (ty := .boolean) F R dX7_isBadTurn_26 rfl (rfl) (⟨by simp [badT, b2i_0.mp c8, b2i_0.mp c18]; rfl, rfl⟩)
    · refine ex_iconst (v := 1) F dX7_isBadTurn_21 (by decide) ?_
      refine ex_goto (t := 26) F dX7_isBadTurn_22 (by decide) ?_
      exact ex_zret (ty := .boolean) F R dX7_isBadTurn_26 rfl (rfl) (⟨by simp [badT, b2i_0.mp c8, b2i_1.mp c18]; rfl, rfl⟩)
theorem cs_X7_isBadRun_135 : CSV (xmN YX7_isBadRun).cls (xmF YX7_isBadRun) (xmW YX7_isBadRun) 135 1 YX6_hasCows := ⟨⟨ml_X7_135, ini_X6, cd_X6_hasCows, by decide +kernel, by decide⟩, im_X6_hasCows, se_X6_hasCows⟩
theorem cs_X7_isBadRun_85 : CSS (xmN YX7_isBadRun).cls (xmF YX7_isBadRun) (xmW YX7_isBadRun) 85 3 YX7_outside := ⟨⟨ml_X7_85, ini_X7, cd_X7_outside, by decide +kernel, by decide⟩, st_X7_outside⟩
set_option maxRecDepth 100000 in
theorem c_X7_isBadRun {l : Launch} {g : XG} {M : Mem} {b w0 p : Int32} : Call l g YX7_isBadRun [.ref (ad g 0), .int b, .int w0, .int p] M (PI (fun v M' => v = b2i (badR (M 1 4) b w0 p) ∧ M' = M)) := by
  refine call_of (by decide +kernel) (Nat.le_of_ble_eq_true rfl) (fun x hxl F R => ?_)
  subst hxl
  refine ex_aload_n F dX7_isBadRun_0 rfl rfl ?_
  refine gf_7_0 F dX7_isBadRun_1 fl_X7_10 ?_
  refine ex_iload_n F dX7_isBadRun_4 rfl rfl ?_
  refine ex_callVi F (c_X6_hasCows) dX7_isBadRun_5 cs_X7_isBadRun_135 (ob_6 (by decide)) rfl rfl rfl rfl (Nat.le_of_ble_eq_true rfl) (fun v5 M5 h5 => ?_)
  obtain ⟨rfl, q5⟩ := h5
  rw [q5]
  clear q5
  refine ex_if_eq (t := 32) F dX7_isBadRun_8 (by decide) (fun c8 => ?_) (fun c8 => ?_)
  · refine ex_iconst (v := 1) F dX7_isBadRun_32 (by decide) ?_
    refine ex_goto (t := 37) F dX7_isBadRun_33 (by decide) ?_
    exact ex_zret (ty := .boolean) F R dX7_isBadRun_37 rfl (rfl) (⟨by simp [badR, b2i_0.mp c8]; rfl, rfl⟩)
  · refine ex_iload_n F dX7_isBadRun_11 rfl rfl ?_
    refine ex_iconst (v := 0) F dX7_isBadRun_12 (by decide) ?_
    refine ex_sipush (v := 400) F dX7_isBadRun_13 (by decide) ?_
    refine ex_callSi F (c_X7_outside) dX7_isBadRun_16 cs_X7_isBadRun_85 rfl rfl (Nat.le_of_ble_eq_true rfl) (fun v16 M16 h16 => ?_)
    obtain ⟨rfl, q16⟩ := h16
    rw [q16]
    clear q16
    refine ex_if_ne (t := 32) F dX7_isBadRun_19 (by decide) (fun c19 => ?_) (fun c19 => ?_)
    · refine ex_iconst (v := 1) F dX7_isBadRun_32 (by decide) ?_
      refine ex_goto (t := 37) F dX7_isBadRun_33 (by decide) ?_
      exact ex_zret (ty := .boolean) F R dX7_isBadRun_37 rfl (rfl) (⟨by simp [badR, b2i_1.mp c8, b2i_1.mp c19]; rfl, rfl⟩)
    · refine ex_iload_n F dX7_isBadRun_22 rfl rfl ?_
      refine ex_iconst (v := 1) F dX7_isBadRun_23 (by decide) ?_
      refine ex_bipush (v := 9) F dX7_isBadRun_24 (by decide) ?_
      refine ex_callSi F (c_X7_outside) dX7_isBadRun_26 cs_X7_isBadRun_85 rfl rfl (Nat.le_of_ble_eq_true rfl) (fun v26 M26 h26 => ?_)
      obtain ⟨rfl, q26⟩ := h26
      rw [q26]
      clear q26
      refine ex_if_eq (t := 36) F dX7_isBadRun_29 (by decide) (fun c29 => ?_) (fun c29 => ?_)
      · refine ex_iconst (v := 0) F dX7_isBadRun_36 (by decide) ?_
        exact ex_zret (ty := .boolean) F R dX7_isBadRun_37 rfl (rfl) (⟨by simp [badR, b2i_1.mp c8, b2i_0.mp c19, b2i_0.mp c29]; rfl, rfl⟩)
      · refine ex_iconst (v := 1) F dX7_isBadRun_32 (by decide) ?_
        refine ex_goto (t := 37) F dX7_isBadRun_33 (by decide) ?_
        exact ex_zret (ty := .boolean) F R dX7_isBadRun_37 rfl (rfl) (⟨by simp [badR, b2i_1.mp c8, b2i_0.mp c19, b2i_1.mp c29]; rfl, rfl⟩)
theorem cs_X7_turnChurn_162 : CSV (xmN YX7_turnChurn).cls (xmF YX7_turnChurn) (xmW YX7_turnChurn) 162 2 YX1_turnOnce := ⟨⟨ml_X7_162, ini_X1, cd_X1_turnOnce, by decide +kernel, by decide⟩, im_X1_turnOnce, se_X1_turnOnce⟩
set_option maxRecDepth 100000 in
theorem c_X7_turnChurn {l : Launch} {g : XG} {M : Mem} {n0 p : Int32} {n : Nat} (hR : okR (M 2)) (hn : n0 = nI n) (hn2 : n < 2 ^ 31) : Call l g YX7_turnChurn [.ref (ad g 0), .int n0, .int p] M (PI (fun v M' => v = sFalls (M 2) p (cX M 14) n ∧ M' = putC M 14 (itT (M 2) p n (cX M 14)))) := by
  refine call_of (by decide +kernel) (Nat.le_of_ble_eq_true rfl) (fun x hxl F R => ?_)
  subst hxl
  refine ex_iconst (v := 0) F dX7_turnChurn_0 (by decide) ?_
  refine ex_istore_n F dX7_turnChurn_1 rfl (by decide) ?_
  refine ex_iconst (v := 0) F dX7_turnChurn_2 (by decide) ?_
  refine ex_istore F dX7_turnChurn_3 (by decide) ?_
  have key : ∀ (m i : Nat) (v a : Int32), i + m = n → v = nI i → a = sFalls (M 2) p (cX M 14) i → EX x g (xmL YX7_turnChurn) (putC M 14 (itT (M 2) p i (cX M 14))) 5 [(0, .ref (ad g 0)), (1, .int n0), (2, .int p), (3, .int a), (4, .int v)] [] := by
    intro m
    induction m with
    | zero =>
      intro i v a hi hv ha
      obtain rfl : i = n := by omega
      subst hv
      refine ex_iload F dX7_turnChurn_5 rfl ?_
      refine ex_iload_n F dX7_turnChurn_7 rfl rfl ?_
      refine ex_icmp_ge (t := 35) F dX7_turnChurn_8 (by decide) (fun _ => ?_) (fun c => absurd (by rw [hn]; exact Int32.le_refl _) c)
      refine ex_iload_n F dX7_turnChurn_35 rfl rfl ?_
      exact ex_iret F R dX7_turnChurn_36 rfl (⟨ha, rfl⟩)
    | succ m ih =>
      intro i v a hi hv ha
      subst hv
      refine ex_iload F dX7_turnChurn_5 rfl ?_
      refine ex_iload_n F dX7_turnChurn_7 rfl rfl ?_
      refine ex_icmp_ge (t := 35) F dX7_turnChurn_8 (by decide) (fun c => absurd c (by rw [hn]; exact nI_ge (by omega) (by omega))) (fun _ => ?_)
      refine ex_aload_n F dX7_turnChurn_11 rfl rfl ?_
      refine gf_7_2 F dX7_turnChurn_12 fl_X7_26 ?_
      refine ex_aload_n F dX7_turnChurn_15 rfl rfl ?_
      refine gf_7_0 F dX7_turnChurn_16 fl_X7_10 ?_
      refine ex_iload_n F dX7_turnChurn_19 rfl rfl ?_
      refine ex_callVi F (c_X1_turnOnce (M := putC M 14 _) (k := 14) (by decide) hR) dX7_turnChurn_20 cs_X7_turnChurn_162 (ob_1 (by decide)) rfl rfl rfl rfl (Nat.le_of_ble_eq_true rfl) (fun v20 M20 h20 => ?_)
      obtain ⟨e20, q20⟩ := h20
      rw [cX_putC, putC_putC] at q20
      rw [cX_putC] at e20
      have q20 : M20 = putC M 14 (itT (M 2) p (i + 1) (cX M 14)) := q20
      have e20 : v20 = b2i (!sSwell (M 2) (itT (M 2) p i (cX M 14))) := e20
      rw [q20]
      clear q20
      subst e20
      refine ex_if_eq (t := 29) F dX7_turnChurn_23 (by decide) (fun c23 => ?_) (fun c23 => ?_)
      · refine ex_iinc (w := _ + 1) F dX7_turnChurn_29 rfl rfl (by decide) ?_
        refine ex_goto (t := 5) F dX7_turnChurn_32 (by decide) ?_
        refine ex_weak2 (ih (i + 1) _ _ (by omega) (nI_1 i) ?_) ⟨rfl, rfl, rfl, rfl, rfl, trivial⟩
        rw [sFalls, ← ha, b2i_0.mp c23]
        simp [b2i]
      · refine ex_iinc (w := _ + 1) F dX7_turnChurn_26 rfl rfl (by decide) ?_
        refine ex_iinc (w := _ + 1) F dX7_turnChurn_29 rfl rfl (by decide) ?_
        refine ex_goto (t := 5) F dX7_turnChurn_32 (by decide) ?_
        refine ex_weak2 (ih (i + 1) _ _ (by omega) (nI_1 i) ?_) ⟨rfl, rfl, rfl, rfl, rfl, trivial⟩
        rw [sFalls, ← ha, b2i_1.mp c23]
        rfl
  exact ex_M (putC_cX M 14).symm (ex_weak2 (key n 0 _ _ (by omega) rfl rfl) ⟨rfl, rfl, rfl, rfl, rfl, trivial⟩)
theorem badT_n {n p : Int32} (h : badT n p = false) : ¬ n < 0 := by
  simp [badT, outB] at h
  exact fun q => absurd (Int32.lt_of_lt_of_le q (by decide : (0 : Int32) ≤ 1)) (Int32.not_lt.mpr h.1.1)
theorem cs_X7_turn_140 : CSS (xmN YX7_turn).cls (xmF YX7_turn) (xmW YX7_turn) 140 2 YX7_isBadTurn := ⟨⟨ml_X7_140, ini_X7, cd_X7_isBadTurn, by decide +kernel, by decide⟩, st_X7_isBadTurn⟩
theorem cs_X7_turn_144 : CSV (xmN YX7_turn).cls (xmF YX7_turn) (xmW YX7_turn) 144 2 YX7_turnChurn := ⟨⟨ml_X7_144, ini_X7, cd_X7_turnChurn, by decide +kernel, by decide⟩, im_X7_turnChurn, se_X7_turnChurn⟩
set_option maxRecDepth 100000 in
theorem c_X7_turn {l : Launch} {g : XG} {M : Mem} {n p : Int32} (hR : okR (M 2)) : Call l g YX7_turn [.ref (ad g 0), .int n, .int p] M (PI (fun v M' => v = (if badT n p = true then -1 else sFalls (M 2) p (cX M 14) n.toNatClampNeg) ∧ M' = (if badT n p = true then M else putC M 14 (itT (M 2) p n.toNatClampNeg (cX M 14))))) := by
  refine call_of (by decide +kernel) (Nat.le_of_ble_eq_true rfl) (fun x hxl F R => ?_)
  subst hxl
  refine ex_iload_n F dX7_turn_0 rfl rfl ?_
  refine ex_iload_n F dX7_turn_1 rfl rfl ?_
  refine ex_callSi F (c_X7_isBadTurn) dX7_turn_2 cs_X7_turn_140 rfl rfl (Nat.le_of_ble_eq_true rfl) (fun v2 M2 h2 => ?_)
  obtain ⟨rfl, q2⟩ := h2
  rw [q2]
  clear q2
  refine ex_if_eq (t := 10) F dX7_turn_5 (by decide) (fun c5 => ?_) (fun c5 => ?_)
  · refine ex_aload_n F dX7_turn_10 rfl rfl ?_
    refine ex_iload_n F dX7_turn_11 rfl rfl ?_
    refine ex_iload_n F dX7_turn_12 rfl rfl ?_
    refine ex_callVi F (c_X7_turnChurn (n := n.toNatClampNeg) hR (nI_self (badT_n (b2i_0.mp c5))) (nI_tcn_lt _)) dX7_turn_13 cs_X7_turn_144 ob_7 rfl rfl rfl rfl (Nat.le_of_ble_eq_true rfl) (fun v13 M13 h13 => ?_)
    obtain ⟨e13, q13⟩ := h13
    exact ex_iret F R dX7_turn_16 rfl (⟨by rw [if_neg (by rw [b2i_0.mp c5]; decide)]; exact e13, by rw [if_neg (by rw [b2i_0.mp c5]; decide)]; exact q13⟩)
  · refine ex_iconst (v := -1) F dX7_turn_8 (by decide) ?_
    exact ex_iret F R dX7_turn_9 rfl (⟨by rw [if_pos (b2i_1.mp c5)], by rw [if_pos (b2i_1.mp c5)]⟩)
theorem cs_X7_fill_135 : CSV (xmN YX7_fill).cls (xmF YX7_fill) (xmW YX7_fill) 135 1 YX6_hasCows := ⟨⟨ml_X7_135, ini_X6, cd_X6_hasCows, by decide +kernel, by decide⟩, im_X6_hasCows, se_X6_hasCows⟩
theorem cs_X7_fill_85 : CSS (xmN YX7_fill).cls (xmF YX7_fill) (xmW YX7_fill) 85 3 YX7_outside := ⟨⟨ml_X7_85, ini_X7, cd_X7_outside, by decide +kernel, by decide⟩, st_X7_outside⟩
theorem cs_X7_fill_108 : CSV (xmN YX7_fill).cls (xmF YX7_fill) (xmW YX7_fill) 108 3 YX1_fillWith := ⟨⟨ml_X7_108, ini_X1, cd_X1_fillWith, by decide +kernel, by decide⟩, im_X1_fillWith, se_X1_fillWith⟩
set_option maxRecDepth 100000 in
theorem c_X7_fill {l : Launch} {g : XG} {M : Mem} {b w0 : Int32} : Call l g YX7_fill [.ref (ad g 0), .int b, .int w0] M (PI (fun v M' => v = (if (!sHasCows (M 1 4) b || outB w0 0 400) = true then -1 else sLitN (M 4) b 8) ∧ M' = (if (!sHasCows (M 1 4) b || outB w0 0 400) = true then M else putC M 14 (sFillN 7 (sLitN (M 4) b 8) (sHardOf (M 4) (M 5) b) w0 (M 3) (cX M 14))))) := by
  refine call_of (by decide +kernel) (Nat.le_of_ble_eq_true rfl) (fun x hxl F R => ?_)
  subst hxl
  refine ex_aload_n F dX7_fill_0 rfl rfl ?_
  refine gf_7_0 F dX7_fill_1 fl_X7_10 ?_
  refine ex_iload_n F dX7_fill_4 rfl rfl ?_
  refine ex_callVi F (c_X6_hasCows) dX7_fill_5 cs_X7_fill_135 (ob_6 (by decide)) rfl rfl rfl rfl (Nat.le_of_ble_eq_true rfl) (fun v5 M5 h5 => ?_)
  obtain ⟨rfl, q5⟩ := h5
  rw [q5]
  clear q5
  refine ex_if_eq (t := 22) F dX7_fill_8 (by decide) (fun c8 => ?_) (fun c8 => ?_)
  · refine ex_iconst (v := -1) F dX7_fill_22 (by decide) ?_
    exact ex_iret F R dX7_fill_23 rfl (⟨by simp [b2i_0.mp c8], by simp [b2i_0.mp c8]⟩)
  · refine ex_iload_n F dX7_fill_11 rfl rfl ?_
    refine ex_iconst (v := 0) F dX7_fill_12 (by decide) ?_
    refine ex_sipush (v := 400) F dX7_fill_13 (by decide) ?_
    refine ex_callSi F (c_X7_outside) dX7_fill_16 cs_X7_fill_85 rfl rfl (Nat.le_of_ble_eq_true rfl) (fun v16 M16 h16 => ?_)
    obtain ⟨rfl, q16⟩ := h16
    rw [q16]
    clear q16
    refine ex_if_eq (t := 24) F dX7_fill_19 (by decide) (fun c19 => ?_) (fun c19 => ?_)
    · refine ex_aload_n F dX7_fill_24 rfl rfl ?_
      refine gf_7_2 F dX7_fill_25 fl_X7_26 ?_
      refine ex_aload_n F dX7_fill_28 rfl rfl ?_
      refine gf_7_0 F dX7_fill_29 fl_X7_10 ?_
      refine ex_iload_n F dX7_fill_32 rfl rfl ?_
      refine ex_iload_n F dX7_fill_33 rfl rfl ?_
      refine ex_callVv F (c_X1_fillWith (k := 14) (by decide)) dX7_fill_34 cs_X7_fill_108 (ob_1 (by decide)) rfl rfl rfl rfl (Nat.le_of_ble_eq_true rfl) (fun M34 h34 => ?_)
      rw [h34]
      refine ex_aload_n F dX7_fill_37 rfl rfl ?_
      refine gf_7_2 F dX7_fill_38 fl_X7_26 ?_
      refine gf_1_1 (by decide) F dX7_fill_41 fl_X7_138 ?_
      exact ex_iret F R dX7_fill_44 rfl (⟨by simp [b2i_1.mp c8, b2i_0.mp c19]; rfl, by simp [b2i_1.mp c8, b2i_0.mp c19]⟩)
    · refine ex_iconst (v := -1) F dX7_fill_22 (by decide) ?_
      exact ex_iret F R dX7_fill_23 rfl (⟨by simp [b2i_1.mp c8, b2i_1.mp c19], by simp [b2i_1.mp c8, b2i_1.mp c19]⟩)
theorem cs_X7_warm_85 : CSS (xmN YX7_warm).cls (xmF YX7_warm) (xmW YX7_warm) 85 3 YX7_outside := ⟨⟨ml_X7_85, ini_X7, cd_X7_outside, by decide +kernel, by decide⟩, st_X7_outside⟩
set_option maxRecDepth 100000 in
theorem c_X7_warm {l : Launch} {g : XG} {M : Mem} {w0 : Int32} : Call l g YX7_warm [.ref (ad g 0), .int w0] M (PI (fun v M' => v = (if outB w0 0 400 = true then -1 else M 14 2) ∧ M' = (if outB w0 0 400 = true then M else mu M 14 2 w0))) := by
  refine call_of (by decide +kernel) (Nat.le_of_ble_eq_true rfl) (fun x hxl F R => ?_)
  subst hxl
  refine ex_iload_n F dX7_warm_0 rfl rfl ?_
  refine ex_iconst (v := 0) F dX7_warm_1 (by decide) ?_
  refine ex_sipush (v := 400) F dX7_warm_2 (by decide) ?_
  refine ex_callSi F (c_X7_outside) dX7_warm_5 cs_X7_warm_85 rfl rfl (Nat.le_of_ble_eq_true rfl) (fun v5 M5 h5 => ?_)
  obtain ⟨rfl, q5⟩ := h5
  rw [q5]
  clear q5
  refine ex_if_eq (t := 13) F dX7_warm_8 (by decide) (fun c8 => ?_) (fun c8 => ?_)
  · refine ex_aload_n F dX7_warm_13 rfl rfl ?_
    refine gf_7_2 F dX7_warm_14 fl_X7_26 ?_
    refine gf_1_2 (by decide) F dX7_warm_17 fl_X7_68 ?_
    refine ex_istore_n F dX7_warm_20 rfl (by decide) ?_
    refine ex_aload_n F dX7_warm_21 rfl rfl ?_
    refine gf_7_2 F dX7_warm_22 fl_X7_26 ?_
    refine ex_iload_n F dX7_warm_25 rfl rfl ?_
    refine pf_1_2 (by decide) F dX7_warm_26 fl_X7_68 ?_
    refine ex_iload_n F dX7_warm_29 rfl rfl ?_
    exact ex_iret F R dX7_warm_30 rfl (⟨by simp [b2i_0.mp c8], by simp [b2i_0.mp c8]⟩)
  · refine ex_iconst (v := -1) F dX7_warm_11 (by decide) ?_
    exact ex_iret F R dX7_warm_12 rfl (⟨by simp [b2i_1.mp c8], by simp [b2i_1.mp c8]⟩)
theorem cs_X7_half_148 : CSV (xmN YX7_half).cls (xmF YX7_half) (xmW YX7_half) 148 0 YX1_halve := ⟨⟨ml_X7_148, ini_X1, cd_X1_halve, by decide +kernel, by decide⟩, im_X1_halve, se_X1_halve⟩
set_option maxRecDepth 100000 in
theorem c_X7_half {l : Launch} {g : XG} {M : Mem}  : Call l g YX7_half [.ref (ad g 0)] M (PI (fun v M' => v = sHalfN 7 (cX M 14) 0 ∧ M' = putC M 14 (sHalfN 7 (cX M 14)))) := by
  refine call_of (by decide +kernel) (Nat.le_of_ble_eq_true rfl) (fun x hxl F R => ?_)
  subst hxl
  refine ex_aload_n F dX7_half_0 rfl rfl ?_
  refine gf_7_2 F dX7_half_1 fl_X7_26 ?_
  refine ex_callVv F (c_X1_halve (k := 14) (by decide)) dX7_half_4 cs_X7_half_148 (ob_1 (by decide)) rfl rfl rfl rfl (Nat.le_of_ble_eq_true rfl) (fun M4 h4 => ?_)
  rw [h4]
  refine ex_aload_n F dX7_half_7 rfl rfl ?_
  refine gf_7_2 F dX7_half_8 fl_X7_26 ?_
  refine gf_1_1 (by decide) F dX7_half_11 fl_X7_138 ?_
  exact ex_iret F R dX7_half_14 rfl (⟨rfl, rfl⟩)
theorem cs_X7_now_85 : CSS (xmN YX7_now).cls (xmF YX7_now) (xmW YX7_now) 85 3 YX7_outside := ⟨⟨ml_X7_85, ini_X7, cd_X7_outside, by decide +kernel, by decide⟩, st_X7_outside⟩
theorem cs_X7_now_151 : CSV (xmN YX7_now).cls (xmF YX7_now) (xmW YX7_now) 151 2 YX1_tell := ⟨⟨ml_X7_151, ini_X1, cd_X1_tell, by decide +kernel, by decide⟩, im_X1_tell, se_X1_tell⟩
set_option maxRecDepth 100000 in
theorem c_X7_now {l : Launch} {g : XG} {M : Mem} {w0 : Int32} (hR : okR (M 2)) : Call l g YX7_now [.ref (ad g 0), .int w0] M (PI (fun v M' => v = (if outB w0 0 9 = true then -1 else sTell (M 2) (cX M 14) w0) ∧ M' = M)) := by
  refine call_of (by decide +kernel) (Nat.le_of_ble_eq_true rfl) (fun x hxl F R => ?_)
  subst hxl
  refine ex_iload_n F dX7_now_0 rfl rfl ?_
  refine ex_iconst (v := 0) F dX7_now_1 (by decide) ?_
  refine ex_bipush (v := 9) F dX7_now_2 (by decide) ?_
  refine ex_callSi F (c_X7_outside) dX7_now_4 cs_X7_now_85 rfl rfl (Nat.le_of_ble_eq_true rfl) (fun v4 M4 h4 => ?_)
  obtain ⟨rfl, q4⟩ := h4
  rw [q4]
  clear q4
  refine ex_if_eq (t := 14) F dX7_now_7 (by decide) (fun c7 => ?_) (fun c7 => ?_)
  · refine ex_aload_n F dX7_now_14 rfl rfl ?_
    refine gf_7_2 F dX7_now_15 fl_X7_26 ?_
    refine ex_aload_n F dX7_now_18 rfl rfl ?_
    refine gf_7_0 F dX7_now_19 fl_X7_10 ?_
    refine ex_iload_n F dX7_now_22 rfl rfl ?_
    refine ex_callVi F (c_X1_tell (k := 14) (by decide) hR) dX7_now_23 cs_X7_now_151 (ob_1 (by decide)) rfl rfl rfl rfl (Nat.le_of_ble_eq_true rfl) (fun v23 M23 h23 => ?_)
    obtain ⟨rfl, q23⟩ := h23
    rw [q23]
    clear q23
    exact ex_iret F R dX7_now_26 rfl (⟨by simp [b2i_0.mp c7], rfl⟩)
  · refine ex_iconst (v := -1) F dX7_now_10 (by decide) ?_
    refine ex_goto (t := 26) F dX7_now_11 (by decide) ?_
    exact ex_iret F R dX7_now_26 rfl (⟨by simp [b2i_1.mp c7], rfl⟩)
theorem cs_X7_drops_155 : CSV (xmN YX7_drops).cls (xmF YX7_drops) (xmW YX7_drops) 155 1 YX1_dropsOf := ⟨⟨ml_X7_155, ini_X1, cd_X1_dropsOf, by decide +kernel, by decide⟩, im_X1_dropsOf, se_X1_dropsOf⟩
set_option maxRecDepth 100000 in
theorem c_X7_drops {l : Launch} {g : XG} {M : Mem} {v0 : Int32} : Call l g YX7_drops [.ref (ad g 0), .int v0] M (PI (fun v M' => v = sDropC (cX M 14) v0 ∧ M' = M)) := by
  refine call_of (by decide +kernel) (Nat.le_of_ble_eq_true rfl) (fun x hxl F R => ?_)
  subst hxl
  refine ex_aload_n F dX7_drops_0 rfl rfl ?_
  refine gf_7_2 F dX7_drops_1 fl_X7_26 ?_
  refine ex_iload_n F dX7_drops_4 rfl rfl ?_
  refine ex_callVi F (c_X1_dropsOf (k := 14) (by decide)) dX7_drops_5 cs_X7_drops_155 (ob_1 (by decide)) rfl rfl rfl rfl (Nat.le_of_ble_eq_true rfl) (fun v5 M5 h5 => ?_)
  obtain ⟨rfl, q5⟩ := h5
  rw [q5]
  clear q5
  exact ex_iret F R dX7_drops_8 rfl (⟨rfl, rfl⟩)
theorem cs_X7_over_85 : CSS (xmN YX7_over).cls (xmF YX7_over) (xmW YX7_over) 85 3 YX7_outside := ⟨⟨ml_X7_85, ini_X7, cd_X7_outside, by decide +kernel, by decide⟩, st_X7_outside⟩
theorem cs_X7_over_190 : CSV (xmN YX7_over).cls (xmF YX7_over) (xmW YX7_over) 190 0 YX1_hasCome := ⟨⟨ml_X7_190, ini_X1, cd_X1_hasCome, by decide +kernel, by decide⟩, im_X1_hasCome, se_X1_hasCome⟩
theorem cs_X7_over_197 : CSV (xmN YX7_over).cls (xmF YX7_over) (xmW YX7_over) 197 1 YX1_becomeLike := ⟨⟨ml_X7_197, ini_X1, cd_X1_becomeLike, by decide +kernel, by decide⟩, im_X1_becomeLike, se_X1_becomeLike⟩
theorem cs_X7_over_200 : CSV (xmN YX7_over).cls (xmF YX7_over) (xmW YX7_over) 200 0 YX1_isMostlyGreatest := ⟨⟨ml_X7_200, ini_X1, cd_X1_isMostlyGreatest, by decide +kernel, by decide⟩, im_X1_isMostlyGreatest, se_X1_isMostlyGreatest⟩
theorem cs_X7_over_162 : CSV (xmN YX7_over).cls (xmF YX7_over) (xmW YX7_over) 162 2 YX1_turnOnce := ⟨⟨ml_X7_162, ini_X1, cd_X1_turnOnce, by decide +kernel, by decide⟩, im_X1_turnOnce, se_X1_turnOnce⟩
set_option maxRecDepth 100000 in
theorem c_X7_over {l : Launch} {g : XG} {M : Mem} {p : Int32} (hR : okR (M 2)) (h14 : zC (cX M 14)) (h16 : zC (cX M 16)) : Call l g YX7_over [.ref (ad g 0), .int p] M (PI (fun v M' => v = (if outB p 1 9 = true then -1 else if (!sCome (cX M 14)) = true then -2 else sOverN (M 2) p (cX M 14) 401 0) ∧ jX M M')) := by
  refine call_of (by decide +kernel) (Nat.le_of_ble_eq_true rfl) (fun x hxl F R => ?_)
  subst hxl
  refine ex_iload_n F dX7_over_0 rfl rfl ?_
  refine ex_iconst (v := 1) F dX7_over_1 (by decide) ?_
  refine ex_bipush (v := 9) F dX7_over_2 (by decide) ?_
  refine ex_callSi F (c_X7_outside) dX7_over_4 cs_X7_over_85 rfl rfl (Nat.le_of_ble_eq_true rfl) (fun v4 M4 h4 => ?_)
  obtain ⟨rfl, q4⟩ := h4
  rw [q4]
  clear q4
  refine ex_if_eq (t := 12) F dX7_over_7 (by decide) (fun c7 => ?_) (fun c7 => ?_)
  · refine ex_aload_n F dX7_over_12 rfl rfl ?_
    refine gf_7_2 F dX7_over_13 fl_X7_26 ?_
    refine ex_callVi F (c_X1_hasCome (k := 14) (by decide)) dX7_over_16 cs_X7_over_190 (ob_1 (by decide)) rfl rfl rfl rfl (Nat.le_of_ble_eq_true rfl) (fun v16 M16 h16 => ?_)
    obtain ⟨rfl, q16⟩ := h16
    rw [q16]
    clear q16
    refine ex_if_ne (t := 25) F dX7_over_19 (by decide) (fun c19 => ?_) (fun c19 => ?_)
    · refine ex_aload_n F dX7_over_25 rfl rfl ?_
      refine gf_7_3 F dX7_over_26 fl_X7_30 ?_
      refine ex_aload_n F dX7_over_29 rfl rfl ?_
      refine gf_7_2 F dX7_over_30 fl_X7_26 ?_
      refine ex_callVv F (c_X1_becomeLike (k := 16) (q := 14) (by decide) (by decide) (by decide)) dX7_over_33 cs_X7_over_197 (ob_1 (by decide)) rfl rfl rfl rfl (Nat.le_of_ble_eq_true rfl) (fun M33 h33 => ?_)
      rw [cpC_z h14 h16] at h33
      rw [h33]
      clear h33
      refine ex_iconst (v := 0) F dX7_over_36 (by decide) ?_
      refine ex_istore_n F dX7_over_37 rfl (by decide) ?_
      have key : ∀ (m i : Nat) (v : Int32), i + m = 401 → v = nI i → sOverN (M 2) p (cX M 14) m i = sOverN (M 2) p (cX M 14) 401 0 → EX x g (xmL YX7_over) (putC M 16 (itT (M 2) p i (cX M 14))) 38 [(0, .ref (ad g 0)), (1, .int p), (2, .int v)] [] := by
        intro m
        induction m with
        | zero =>
          intro i v hi hv hs
          obtain rfl : i = 401 := by omega
          subst hv
          refine ex_iload_n F dX7_over_38 rfl rfl ?_
          refine ex_sipush (v := 400) F dX7_over_39 (by decide) ?_
          refine ex_icmp_gt (t := 76) F dX7_over_42 (by decide) (fun _ => ?_) (fun c => absurd (by decide) c)
          refine ex_bipush (v := -4) F dX7_over_76 (by decide) ?_
          exact ex_iret F R dX7_over_78 rfl (⟨by rw [if_neg (by rw [b2i_0.mp c7]; decide), if_neg (by rw [b2i_1.mp c19]; decide), ← hs, sOverN], jX_put (zC_it 401 h14)⟩)
        | succ m ih =>
          intro i v hi hv hs
          subst hv
          refine ex_iload_n F dX7_over_38 rfl rfl ?_
          refine ex_sipush (v := 400) F dX7_over_39 (by decide) ?_
          refine ex_icmp_gt (t := 76) F dX7_over_42 (by decide) (fun c => absurd c (nI_nlt (b := i) (a := 400) (by omega) (by decide))) (fun _ => ?_)
          refine ex_aload_n F dX7_over_45 rfl rfl ?_
          refine gf_7_3 F dX7_over_46 fl_X7_30 ?_
          refine ex_callVi F (c_X1_isMostlyGreatest (k := 16) (by decide)) dX7_over_49 cs_X7_over_200 (ob_1 (by decide)) rfl rfl rfl rfl (Nat.le_of_ble_eq_true rfl) (fun v49 M49 h49 => ?_)
          rw [cX_putC] at h49
          obtain ⟨rfl, q49⟩ := h49
          rw [q49]
          clear q49
          refine ex_if_eq (t := 57) F dX7_over_52 (by decide) (fun c52 => ?_) (fun c52 => ?_)
          · refine ex_aload_n F dX7_over_57 rfl rfl ?_
            refine gf_7_3 F dX7_over_58 fl_X7_30 ?_
            refine ex_aload_n F dX7_over_61 rfl rfl ?_
            refine gf_7_0 F dX7_over_62 fl_X7_10 ?_
            refine ex_iload_n F dX7_over_65 rfl rfl ?_
            refine ex_callVi F (c_X1_turnOnce (M := putC M 16 _) (k := 16) (by decide) hR) dX7_over_66 cs_X7_over_162 (ob_1 (by decide)) rfl rfl rfl rfl (Nat.le_of_ble_eq_true rfl) (fun v66 M66 h66 => ?_)
            obtain ⟨e66, q66⟩ := h66
            rw [cX_putC, putC_putC] at q66
            have q66 : M66 = putC M 16 (itT (M 2) p (i + 1) (cX M 14)) := q66
            rw [q66]
            clear q66
            refine ex_pop F dX7_over_69 rfl ?_
            refine ex_iinc (w := _ + 1) F dX7_over_70 rfl rfl (by decide) ?_
            refine ex_goto (t := 38) F dX7_over_73 (by decide) ?_
            refine ex_weak2 (ih (i + 1) _ (by omega) (nI_1 i) ?_) ⟨rfl, rfl, rfl, trivial⟩
            rw [← hs, sOverN, if_neg (by rw [b2i_0.mp c52]; decide)]
          · refine ex_iload_n F dX7_over_55 rfl rfl ?_
            exact ex_iret F R dX7_over_56 rfl (⟨by rw [if_neg (by rw [b2i_0.mp c7]; decide), if_neg (by rw [b2i_1.mp c19]; decide), ← hs, sOverN, if_pos (b2i_1.mp c52)], jX_put (zC_it i h14)⟩)
      exact ex_weak2 (key 401 0 _ (by omega) rfl rfl) ⟨rfl, rfl, rfl, trivial⟩
    · refine ex_bipush (v := -2) F dX7_over_22 (by decide) ?_
      exact ex_iret F R dX7_over_24 rfl (⟨by rw [if_neg (by rw [b2i_0.mp c7]; decide), if_pos (by rw [b2i_0.mp c19]; decide)], jX_rf h16⟩)
  · refine ex_iconst (v := -1) F dX7_over_10 (by decide) ?_
    exact ex_iret F R dX7_over_11 rfl (⟨by rw [if_pos (b2i_1.mp c7)], jX_rf h16⟩)
