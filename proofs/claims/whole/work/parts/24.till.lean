-- numbers: division that goes down, hardness as a whole number
theorem xor_sign (a : Int32) : 0 ≤ a ^^^ 100 ↔ 0 ≤ a := by
  rw [Jvm.Kit.i32_nonneg, Jvm.Kit.i32_nonneg]
  have h1 : (a ^^^ 100).toBitVec.msb = a.toBitVec.msb := by
    rw [Int32.toBitVec_xor, BitVec.msb_xor]
    have : (100 : Int32).toBitVec.msb = false := by decide
    rw [this]; simp
  have e1 := BitVec.msb_eq_toInt (x := (a ^^^ 100).toBitVec)
  have e2 := BitVec.msb_eq_toInt (x := a.toBitVec)
  rw [e1, e2] at h1
  have h2 : (a ^^^ 100).toInt < 0 ↔ a.toInt < 0 := decide_eq_decide.mp h1
  omega
theorem fdv_int {a : Int32} (h1 : -40000 ≤ a.toInt) (h2 : a.toInt ≤ 40000) : (fdv a 100).toInt = a.toInt / 100 := by
  have h100 : (100 : Int32).toInt = 100 := by decide
  have hd : (a / 100).toInt = a.toInt.tdiv 100 := by rw [Jvm.Kit.i32_div (by rw [h100]; omega), h100]
  unfold fdv
  by_cases h : 0 ≤ a
  · rw [if_pos ((xor_sign a).mpr h), hd, Int.tdiv_eq_ediv_of_nonneg (Jvm.Kit.i32_nonneg.mp h)]
  · have hn : a.toInt < 0 := by
      have := mt Jvm.Kit.i32_nonneg.mpr h
      omega
    rw [if_neg (fun q => h ((xor_sign a).mp q))]
    have ht : a.toInt.tdiv 100 = -((-a.toInt) / 100) := by
      have := Int.neg_tdiv (-a.toInt) 100
      rw [Int.neg_neg] at this
      rw [this, Int.tdiv_eq_ediv_of_nonneg (by omega)]
    have hm : (a / 100 * 100).toInt = a.toInt.tdiv 100 * 100 := by
      rw [Jvm.Kit.i32_mul (by rw [hd, h100, ht]; omega) (by rw [hd, h100, ht]; omega), hd, h100]
    have he : a / 100 * 100 = a ↔ -((-a.toInt) / 100) * 100 = a.toInt := by
      rw [← Int32.toInt_inj, hm, ht]
    by_cases hq : a / 100 * 100 = a
    · rw [if_pos hq, hd, ht]
      have := he.mp hq
      omega
    · rw [if_neg hq]
      have h3 : (1 : Int32).toInt = 1 := by decide
      rw [Jvm.Kit.i32_sub (by rw [hd, h3, ht]; omega) (by rw [hd, h3, ht]; omega), hd, h3, ht]
      have := mt he.mpr hq
      omega
def hardI (b s w h : Int) : Int := if 0 < (if h - (w - b) * s / 100 < 100 then h - (w - b) * s / 100 else 100) then (if h - (w - b) * s / 100 < 100 then h - (w - b) * s / 100 else 100) else 0
theorem prod_in {b s w : Nat} (hb : b ≤ 400) (hs : s ≤ 99) (hw : w ≤ 400) : -39600 ≤ ((w : Int) - b) * s ∧ ((w : Int) - b) * s ≤ 39600 := by
  have h1 : ((w : Int) - b) * s = (w : Int) * s - (b : Int) * s := Int.sub_mul _ _ _
  have h2 : (w * s : Nat) ≤ 400 * 99 := Nat.mul_le_mul hw hs
  have h3 : (b * s : Nat) ≤ 400 * 99 := Nat.mul_le_mul hb hs
  have e2 : ((w * s : Nat) : Int) = (w : Int) * s := Int.natCast_mul w s
  have e3 : ((b * s : Nat) : Int) = (b : Int) * s := Int.natCast_mul b s
  rw [h1, ← e2, ← e3]
  omega
theorem ite_toInt {c : Prop} [Decidable c] {a b : Int32} : (if c then a else b).toInt = if c then a.toInt else b.toInt := by split <;> rfl
theorem sHard_int {r c : Nat → Int32} {b s w h : Nat} (hb : r 1 = nI b) (hs : r 2 = nI s) (hw : c 1 = nI w) (hh : c 2 = nI h) (lb : b ≤ 400) (ls : s ≤ 99) (lw : w ≤ 400) (lh : h ≤ 100) : (sHard r c).toInt = hardI b s w h := by
  obtain ⟨p1, p2⟩ := prod_in lb ls lw
  have e1 : (c 1 - r 1).toInt = (w : Int) - b := by
    rw [hw, hb]; exact pk_sub_toInt (by omega) (by omega)
  have e2 : ((c 1 - r 1) * r 2).toInt = ((w : Int) - b) * s := by
    rw [Jvm.Kit.i32_mul (by rw [e1, hs, nI_toInt (by omega)]; omega) (by rw [e1, hs, nI_toInt (by omega)]; omega), e1, hs, nI_toInt (by omega)]
  have e3 : (fdv ((c 1 - r 1) * r 2) 100).toInt = ((w : Int) - b) * s / 100 := by
    rw [fdv_int (by rw [e2]; omega) (by rw [e2]; omega), e2]
  have e4 : (c 2 - fdv ((c 1 - r 1) * r 2) 100).toInt = (h : Int) - ((w : Int) - b) * s / 100 := by
    rw [Jvm.Kit.i32_sub (by rw [e3, hh, nI_toInt (by omega)]; omega) (by rw [e3, hh, nI_toInt (by omega)]; omega), e3, hh, nI_toInt (by omega)]
  have h100 : (100 : Int32).toInt = 100 := by decide
  have h0 : (0 : Int32).toInt = 0 := by decide
  unfold sHard hardI
  simp only [Int32.lt_iff_toInt_lt, ite_toInt, e4, h100, h0]
theorem hardI_mono {b s w w' h : Nat} (hw : w ≤ w') (h0 : hardI b s w h = 0) : hardI b s w' h = 0 := by
  have h1 : ((w : Int) - b) * s ≤ ((w' : Int) - b) * s := Int.mul_le_mul_of_nonneg_right (by omega) (by omega)
  have h2 : ((w : Int) - b) * s / 100 ≤ ((w' : Int) - b) * s / 100 := Int.ediv_le_ediv (by omega) h1
  unfold hardI at h0 ⊢
  generalize ((w : Int) - b) * s / 100 = x at *
  generalize ((w' : Int) - b) * s / 100 = y at *
  split at h0 <;> split <;> (try split at h0) <;> (try split) <;> omega
-- what a churn is between turns
def okC (T : Nat) (c : Nat → Int32) : Prop := (∃ w, w ≤ 400 ∧ c 1 = nI w) ∧ (∃ h, h ≤ 100 ∧ c 2 = nI h) ∧ (∃ t, t ≤ T ∧ c 4 = nI t) ∧ (c 5 = -4 ∨ ∃ t, t ≤ T ∧ c 5 = nI t) ∧ zC c
theorem sJn_lo {rate : Int32} : ∀ (n : Nat) (c : Nat → Int32) (j : Nat), j < 6 → sJn rate n c j = c j := by
  intro n
  induction n with
  | zero => intro c j _; rfl
  | succ n ih =>
    intro c j hj
    show sJn rate n (sJ rate n c) j = c j
    rw [ih _ j hj, sJ, pk_un (by omega), pk_un (by omega)]
theorem sAir_o {r c : Nat → Int32} {p : Int32} {j : Nat} (h : j ≠ 3) : sAir r p c j = c j := by
  unfold sAir; split
  · rfl
  · exact pk_un h
theorem sBreak_o {r c : Nat → Int32} {j : Nat} (h3 : j ≠ 3) (h5 : j ≠ 5) : sBreak r c j = c j := by
  unfold sBreak; split
  · rfl
  · split
    · rw [pk_un h3, pk_un h5]
    · rfl
theorem sBreak_5 {r c : Nat → Int32} : sBreak r c 5 = c 5 ∨ sBreak r c 5 = c 4 := by
  unfold sBreak; split
  · exact Or.inl rfl
  · split
    · exact Or.inr (by rw [pk_un (by decide), pk_us])
    · exact Or.inl rfl
theorem sTurn1_o {r c : Nat → Int32} {p : Int32} {j : Nat} (hj : j < 6) (h3 : j ≠ 3) (h5 : j ≠ 5) : sTurn1 r p c j = c j := by
  unfold sTurn1; split
  · rfl
  · rw [sBreak_o h3 h5, sJn_lo _ _ _ hj, sAir_o h3]
theorem sTurn1_5 {r c : Nat → Int32} {p : Int32} : sTurn1 r p c 5 = c 5 ∨ sTurn1 r p c 5 = c 4 := by
  unfold sTurn1; split
  · exact Or.inl rfl
  · rcases sBreak_5 (r := r) (c := sJn (sRate r p (sAir r p c)) 6 (sAir r p c)) with h | h
    · exact Or.inl (by rw [h, sJn_lo _ _ _ (by decide), sAir_o (by decide)])
    · exact Or.inr (by rw [h, sJn_lo _ _ _ (by decide), sAir_o (by decide)])
theorem sTick_o {r c : Nat → Int32} {p : Int32} {j : Nat} (h1 : j ≠ 1) (h4 : j ≠ 4) : sTick r p c j = c j := by
  unfold sTick; split
  · rw [pk_un h1, pk_un h4]
  · rw [pk_un h4]
theorem sTick_4 {r c : Nat → Int32} {p : Int32} : sTick r p c 4 = c 4 + 1 := by
  unfold sTick; split
  · rw [pk_un (by decide), pk_us]
  · rw [pk_us]
theorem sTick_1 {r c : Nat → Int32} {p : Int32} {w pp : Nat} (hw : c 1 = nI w) (lw : w ≤ 400) (hp : p = nI pp) (lp : pp ≤ 9) : ∃ w', w ≤ w' ∧ w' ≤ 400 ∧ sTick r p c 1 = nI w' := by
  unfold sTick; split
  · rw [pk_us, hw, hp, nI_add]
    by_cases h : w + pp < 400
    · exact ⟨w + pp, by omega, by omega, by rw [if_pos (show nI (w + pp) < 400 from nI_lt (b := 400) h (by decide))]⟩
    · exact ⟨400, lw, by decide, by rw [if_neg (show ¬ nI (w + pp) < 400 from nI_nlt (a := w + pp) (b := 400) (by omega) (by omega))]; rfl⟩
  · rw [pk_un (by decide)]
    exact ⟨w, by omega, lw, hw⟩
theorem okC_turn {T : Nat} {r c : Nat → Int32} {p : Int32} {pp : Nat} (h : okC T c) (hp : p = nI pp) (lp : pp ≤ 9) : okC (T + 1) (sTurn r p c) := by
  obtain ⟨⟨w, lw, hw⟩, ⟨h', lh, hh⟩, ⟨t, lt, ht⟩, h5, hz⟩ := h
  unfold sTurn
  obtain ⟨w', q1, q2, q3⟩ := sTick_1 (r := r) (c := sTurn1 r p c) (p := p) (by rw [sTurn1_o (by decide) (by decide) (by decide)]; exact hw) lw hp lp
  refine ⟨⟨w', q2, q3⟩, ⟨h', lh, ?_⟩, ⟨t + 1, by omega, ?_⟩, ?_, zC_turn hz⟩
  · rw [sTick_o (by decide) (by decide), sTurn1_o (by decide) (by decide) (by decide), hh]
  · rw [sTick_4, sTurn1_o (by decide) (by decide) (by decide), ht, nI_1]
  · rw [sTick_o (by decide) (by decide)]
    rcases sTurn1_5 (r := r) (c := c) (p := p) with e | e
    · rw [e]
      rcases h5 with h5 | ⟨t5, l5, e5⟩
      · exact Or.inl h5
      · exact Or.inr ⟨t5, by omega, e5⟩
    · exact Or.inr ⟨t, by omega, by rw [e, ht]⟩
theorem okC_it {T : Nat} {r c : Nat → Int32} {p : Int32} {pp : Nat} (h : okC T c) (hp : p = nI pp) (lp : pp ≤ 9) : ∀ n, okC (T + n) (itT r p n c) := by
  intro n
  induction n with
  | zero => exact h
  | succ n ih => exact okC_turn ih hp lp
theorem okC_mono {T T' : Nat} {c : Nat → Int32} (h : okC T c) (hT : T ≤ T') : okC T' c := by
  obtain ⟨a, b, ⟨t, lt, ht⟩, h5, hz⟩ := h
  refine ⟨a, b, ⟨t, by omega, ht⟩, ?_, hz⟩
  rcases h5 with h5 | ⟨t5, l5, e5⟩
  · exact Or.inl h5
  · exact Or.inr ⟨t5, by omega, e5⟩
-- it never comes
theorem sFatN_congr {a b : Nat → Int32} (h : ∀ j, 6 ≤ j → a j = b j) : ∀ (n : Nat) (x : Int32), sFatN a n x = sFatN b n x := by
  intro n
  induction n with
  | zero => intro x; rfl
  | succ n ih => intro x; show sFatN a n _ = sFatN b n _; rw [h _ (by omega), ih]
theorem sDue_congr {r a b : Nat → Int32} (h : ∀ j, 6 ≤ j → a j = b j) : sDue r a = sDue r b := by
  unfold sDue sFat
  rw [sFatN_congr h, sFatN_congr h]
theorem sJ0 (k : Nat) (c : Nat → Int32) : sJ 0 k c = c := by
  funext j
  have e : (0 : Int32) * c (k + 6) / 200 = 0 := by rw [Int32.zero_mul]; decide
  unfold sJ
  rw [e]
  by_cases h1 : j = k + 1 + 6
  · subst h1; rw [pk_us]; simp
  · rw [pk_un h1]
    by_cases h2 : j = k + 6
    · subst h2; rw [pk_us]; simp
    · rw [pk_un h2]
theorem sJn0 : ∀ (n : Nat) (c : Nat → Int32), sJn 0 n c = c := by
  intro n
  induction n with
  | zero => intro c; rfl
  | succ n ih => intro c; show sJn 0 n (sJ 0 n c) = c; rw [sJ0, ih]
def stuck (r c : Nat → Int32) : Prop := sCome c = false ∧ (sSwell r c = true ∨ (sHard r c = 0 ∧ sDue r c = false))
theorem sCome_congr {a b : Nat → Int32} (h : a 5 = b 5) : sCome a = sCome b := by unfold sCome; rw [h]
theorem sHard_congr {r a b : Nat → Int32} (h1 : a 1 = b 1) (h2 : a 2 = b 2) : sHard r a = sHard r b := by unfold sHard; rw [h1, h2]
theorem sSwell_congr {r a b : Nat → Int32} (h0 : a 0 = b 0) (h3 : a 3 = b 3) (h5 : a 5 = b 5) : sSwell r a = sSwell r b := by unfold sSwell; rw [sCome_congr h5, h0, h3]
theorem turn_swell {r c : Nat → Int32} {p : Int32} (h : sSwell r c = true) : sTurn r p c = sTick r p c := by unfold sTurn sTurn1; rw [if_pos h]
theorem hard0_tick {T : Nat} {r c a : Nat → Int32} {p : Int32} {pp : Nat} (hR : okR r) (hC : okC T c) (hp : p = nI pp) (lp : pp ≤ 9) (h1 : a 1 = c 1) (h2 : a 2 = c 2) (h0 : sHard r c = 0) : sHard r (sTick r p a) = 0 := by
  obtain ⟨f, hf, -, f1, f2, -⟩ := hR
  obtain ⟨⟨w, lw, hw⟩, ⟨h', lh, hh⟩, -⟩ := hC
  obtain ⟨w', q1, q2, q3⟩ := sTick_1 (r := r) (c := a) (p := p) (by rw [h1]; exact hw) lw hp lp
  have e1 := sHard_int (hf 1 (by decide)) (hf 2 (by decide)) hw hh f1 f2.2 lw lh
  have e2 := sHard_int (r := r) (c := sTick r p a) (hf 1 (by decide)) (hf 2 (by decide)) q3 (by rw [sTick_o (by decide) (by decide), h2]; exact hh) f1 f2.2 q2 lh
  have h0' : (0 : Int32).toInt = 0 := by decide
  rw [h0, h0'] at e1
  exact Int32.toInt_inj.mp (by rw [e2, hardI_mono q1 e1.symm, h0'])
theorem stuck_turn {T : Nat} {r c : Nat → Int32} {p : Int32} {pp : Nat} (hR : okR r) (hC : okC T c) (hp : p = nI pp) (lp : pp ≤ 9) (h : stuck r c) : stuck r (sTurn r p c) := by
  obtain ⟨hc, h⟩ := h
  by_cases hs : sSwell r c = true
  · rw [turn_swell hs]
    refine ⟨by rw [sCome_congr (b := c) (sTick_o (by decide) (by decide))]; exact hc, Or.inl ?_⟩
    rw [sSwell_congr (b := c) (sTick_o (by decide) (by decide)) (sTick_o (by decide) (by decide)) (sTick_o (by decide) (by decide))]
    exact hs
  · obtain ⟨h0, hd⟩ := h.resolve_left hs
    have ha : ∀ j, j ≠ 3 → sAir r p c j = c j := fun j hj => sAir_o hj
    have hca : sCome (sAir r p c) = false := by rw [sCome_congr (ha 5 (by decide))]; exact hc
    have hra : sRate r p (sAir r p c) = 0 := by
      unfold sRate
      rw [if_neg (by rw [hca]; decide), sHard_congr (ha 1 (by decide)) (ha 2 (by decide)), h0]
      have e : (0 : Int32) * (100 - 0) * sAir r p c 3 / 25000 = 0 := by rw [Int32.zero_mul, Int32.zero_mul]; decide
      rw [e]
      decide
    have hda : sDue r (sAir r p c) = false := by rw [sDue_congr (b := c) (fun j hj => ha j (by omega))]; exact hd
    have e1 : sTurn1 r p c = sAir r p c := by
      unfold sTurn1
      rw [if_neg hs, hra, sJn0]
      unfold sBreak
      rw [if_neg (by rw [hca]; decide), if_neg (by rw [hda]; decide)]
    unfold sTurn
    rw [e1]
    refine ⟨?_, Or.inr ⟨hard0_tick hR hC hp lp (ha 1 (by decide)) (ha 2 (by decide)) h0, ?_⟩⟩
    · rw [sCome_congr (b := c) (by rw [sTick_o (by decide) (by decide), ha 5 (by decide)])]; exact hc
    · rw [sDue_congr (b := c) (fun j hj => by rw [sTick_o (by omega) (by omega), ha j (by omega)])]; exact hd
theorem stuck_it {T : Nat} {r c : Nat → Int32} {p : Int32} {pp : Nat} (hR : okR r) (hC : okC T c) (hp : p = nI pp) (lp : pp ≤ 9) (h : stuck r c) : ∀ n, stuck r (itT r p n c) := by
  intro n
  induction n with
  | zero => exact h
  | succ n ih => exact stuck_turn hR (okC_it hC hp lp n) hp lp ih
theorem early {T : Nat} {r c : Nat → Int32} {p : Int32} (hC : okC T c) (hT : T < 2 ^ 31) (hc : sCome c = false) (hc1 : sCome (sTurn r p c) = false) (h : sSwell r c = true ∨ sHard r (sTurn r p c) = 0) : stuck r (sTurn r p c) := by
  refine ⟨hc1, ?_⟩
  by_cases hs : sSwell r c = true
  · refine Or.inl ?_
    rw [turn_swell hs, sSwell_congr (b := c) (sTick_o (by decide) (by decide)) (sTick_o (by decide) (by decide)) (sTick_o (by decide) (by decide))]
    exact hs
  · refine Or.inr ⟨h.resolve_left hs, ?_⟩
    have e1 : sTurn1 r p c = sBreak r (sJn (sRate r p (sAir r p c)) 6 (sAir r p c)) := by unfold sTurn1; rw [if_neg hs]
    generalize hd : sJn (sRate r p (sAir r p c)) 6 (sAir r p c) = d at e1
    have hd4 : d 4 = c 4 := by rw [← hd, sJn_lo _ _ _ (by decide), sAir_o (by decide)]
    have hd5 : d 5 = c 5 := by rw [← hd, sJn_lo _ _ _ (by decide), sAir_o (by decide)]
    have hcd : sCome d = false := by rw [sCome_congr hd5]; exact hc
    have hdue : sDue r d = false := by
      cases hq : sDue r d with
      | false => rfl
      | true =>
        exfalso
        have e2 : sTurn r p c 5 = c 4 := by
          unfold sTurn
          rw [sTick_o (by decide) (by decide), e1, sBreak, if_neg (by rw [hcd]; decide), if_pos hq, pk_un (by decide), pk_us, hd4]
        obtain ⟨-, -, ⟨t, lt, ht⟩, -⟩ := hC
        unfold sCome at hc1
        rw [e2, ht] at hc1
        have h4 : nI t = -4 := by simpa using hc1
        have h5 := congrArg Int32.toInt h4
        rw [nI_toInt (by omega)] at h5
        have h6 : (-4 : Int32).toInt = -4 := by decide
        rw [h6] at h5
        omega
    have e3 : sBreak r d = d := by unfold sBreak; rw [if_neg (by rw [hcd]; decide), if_neg (by rw [hdue]; decide)]
    unfold sTurn
    rw [e1, e3, sDue_congr (b := d) (fun j hj => sTick_o (by omega) (by omega))]
    exact hdue
def sTillN (r : Nat → Int32) (p : Int32) (c : Nat → Int32) : Nat → Nat → Int32
  | 0, _ => -4
  | m + 1, i => if sCome (itT r p i c) = true then nI i else sTillN r p c m (i + 1)
theorem sTill_none {r c : Nat → Int32} {p : Int32} : ∀ (m i : Nat), (∀ n, i ≤ n → sCome (itT r p n c) = false) → sTillN r p c m i = -4 := by
  intro m
  induction m with
  | zero => intro i _; rfl
  | succ m ih =>
    intro i h
    rw [sTillN, if_neg (by rw [h i (Nat.le_refl _)]; decide)]
    exact ih (i + 1) (fun n hn => h n (by omega))
theorem itT_add {r c : Nat → Int32} {p : Int32} (a : Nat) : ∀ b, itT r p (a + b) c = itT r p b (itT r p a c) := by
  intro b
  induction b with
  | zero => rfl
  | succ b ih => show sTurn r p (itT r p (a + b) c) = sTurn r p (itT r p b (itT r p a c)); rw [ih]
