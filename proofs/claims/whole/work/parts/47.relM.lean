-- the relation of the two halves: K the class's memory, M the world's (its cells from 38 on are the reference's)
def RB (K M : Mem) (n : Nat) : Prop := (okR (K 2)) ∧ (mR M (K 2)) ∧ (∀ j, j < 4 → M 47 (9 + j) = K 3 j) ∧ (n ≤ 8) ∧ (K 1 4 = nI n) ∧ (M 38 18 = nI n) ∧ (∀ c, c < n → M 48 (2 * c) = K 4 c) ∧ (∀ c, c < n → M 48 (2 * c + 1) = K 5 c) ∧ (okT (K 4) (K 5) n)
theorem RB.ok {K M : Mem} {n : Nat} (h : RB K M n) : okR (K 2) := h.1
theorem RB.ru {K M : Mem} {n : Nat} (h : RB K M n) : mR M (K 2) := h.2.1
theorem RB.dr {K M : Mem} {n : Nat} (h : RB K M n) : ∀ j, j < 4 → M 47 (9 + j) = K 3 j := h.2.2.1
theorem RB.n8 {K M : Mem} {n : Nat} (h : RB K M n) : n ≤ 8 := h.2.2.2.1
theorem RB.kn {K M : Mem} {n : Nat} (h : RB K M n) : K 1 4 = nI n := h.2.2.2.2.1
theorem RB.mn {K M : Mem} {n : Nat} (h : RB K M n) : M 38 18 = nI n := h.2.2.2.2.2.1
theorem RB.li {K M : Mem} {n : Nat} (h : RB K M n) : ∀ c, c < n → M 48 (2 * c) = K 4 c := h.2.2.2.2.2.2.1
theorem RB.ha {K M : Mem} {n : Nat} (h : RB K M n) : ∀ c, c < n → M 48 (2 * c + 1) = K 5 c := h.2.2.2.2.2.2.2.1
theorem RB.tt {K M : Mem} {n : Nat} (h : RB K M n) : okT (K 4) (K 5) n := h.2.2.2.2.2.2.2.2
def frB (M M' : Mem) : Prop := (∀ q, q ≠ 38 → q ≠ 51 → q ≠ 52 → q ≠ 53 → q ≠ 55 → M' q = M q) ∧ (∀ j, j ≠ 24 → M' 38 j = M 38 j) ∧ (∀ i, (32 ≤ i ∧ i < 64) → M' 51 i = M 51 i) ∧ (M 38 24 = 1 → M' 38 24 = 1)
theorem frB_rf (M : Mem) : frB M M := ⟨fun _ _ _ _ _ _ => rfl, fun _ _ => rfl, fun _ _ => rfl, fun h => h⟩
theorem frB_tr {M M1 M2 : Mem} (h1 : frB M M1) (h2 : frB M1 M2) : frB M M2 := ⟨fun q a b c d e => (h2.1 q a b c d e).trans (h1.1 q a b c d e), fun j h => (h2.2.1 j h).trans (h1.2.1 j h), fun i h => (h2.2.2.1 i h).trans (h1.2.2.1 i h), fun h => h2.2.2.2 (h1.2.2.2 h)⟩
theorem frB_T {M M' : Mem} {A : Nat} (h : frT M M' A) (hA : A + 16 ≤ 32 ∨ 64 ≤ A) : frB M M' := ⟨fun q _ b c _ _ => h.1 q b c, fun j _ => by rw [h.1 38 (by decide) (by decide)], fun i hi => h.2 i (by omega), fun q => by rw [h.1 38 (by decide) (by decide)]; exact q⟩
theorem frB_mR {M M' : Mem} {r : Nat → Int32} (h : mR M r) (hf : frB M M') : mR M' r := fun j hj => by rw [hf.1 47 (by decide) (by decide) (by decide) (by decide) (by decide)]; exact h j hj
theorem frB_RB {K M M' : Mem} {n : Nat} (h : RB K M n) (hf : frB M M') : RB K M' n := by
  have e7 : M' 47 = M 47 := hf.1 47 (by decide) (by decide) (by decide) (by decide) (by decide)
  have e8 : M' 48 = M 48 := hf.1 48 (by decide) (by decide) (by decide) (by decide) (by decide)
  exact ⟨h.ok, frB_mR h.ru hf, fun j hj => by rw [e7]; exact h.dr j hj, h.n8, h.kn, by rw [hf.2.1 18 (by decide)]; exact h.mn, fun c hc => by rw [e8]; exact h.li c hc, fun c hc => by rw [e8]; exact h.ha c hc, h.tt⟩
def RC (c : Nat → Int32) (w0 : Int32) (M : Mem) (T : Nat) : Prop := (okC T c) ∧ (okM M 0) ∧ (M 38 24 = 0 ∨ M 38 24 = 1) ∧ (c = if M 38 24 = 0 then upd (cM M 0) 1 w0 else cM M 0)
theorem RC.okc {c : Nat → Int32} {w0 : Int32} {M : Mem} {T : Nat} (h : RC c w0 M T) : okC T c := h.1
theorem RC.okm {c : Nat → Int32} {w0 : Int32} {M : Mem} {T : Nat} (h : RC c w0 M T) : okM M 0 := h.2.1
theorem RC.aw {c : Nat → Int32} {w0 : Int32} {M : Mem} {T : Nat} (h : RC c w0 M T) : M 38 24 = 0 ∨ M 38 24 = 1 := h.2.2.1
theorem RC.row {c : Nat → Int32} {w0 : Int32} {M : Mem} {T : Nat} (h : RC c w0 M T) : c = if M 38 24 = 0 then upd (cM M 0) 1 w0 else cM M 0 := h.2.2.2
theorem RC_mk {c : Nat → Int32} {w0 : Int32} {M : Mem} {T : Nat} (h : okC T c) (hO : okM M 0) (ha : M 38 24 = 1) (hc : cM M 0 = c) : RC c w0 M T := ⟨h, hO, Or.inr ha, by rw [ha, if_neg (by decide), hc]⟩
theorem RC_out {c : Nat → Int32} {w0 : Int32} {M M' : Mem} {T A : Nat} (h : RC c w0 M T) (hf : frT M M' A) (hA : 16 ≤ A) : RC c w0 M' T := by
  have e : M' 38 = M 38 := hf.1 38 (by decide) (by decide)
  refine ⟨h.okc, okM_out hf (by omega) h.okm, by rw [e]; exact h.aw, ?_⟩
  rw [e, cM_out hf (by omega)]; exact h.row
theorem lit_congr {li la : Nat → Int32} {b : Int32} {n : Nat} (h : ∀ c, c < n → li c = la c) : ∀ k, k ≤ n → sLitN li b k = sLitN la b k := by
  intro k
  induction k with
  | zero => intro _; rfl
  | succ k ih => intro hk; rw [sLitN, sLitN, ih (by omega), h k (by omega)]
theorem sum_congr {li la ha hb : Nat → Int32} {b : Int32} {n : Nat} (h : ∀ c, c < n → li c = la c) (h2 : ∀ c, c < n → ha c = hb c) : ∀ k, k ≤ n → sSumN li ha b k = sSumN la hb b k := by
  intro k
  induction k with
  | zero => intro _; rfl
  | succ k ih => intro hk; rw [sSumN, sSumN, ih (by omega), h k (by omega), h2 k (by omega)]
theorem bit_hi {bb n k : Nat} (hb : bb < 2 ^ n) (hk : n ≤ k) (h8 : k < 8) : ¬ bitI (nI bb) k = true := by
  have h1 : 2 ^ n ≤ 2 ^ 8 := Nat.pow_le_pow_right (by decide) (by omega)
  rw [bitI_n (by omega) (by omega), Nat.testBit_lt_two_pow (Nat.lt_of_lt_of_le hb (Nat.pow_le_pow_right (by decide) hk))]
  decide
theorem lit_hi {li : Nat → Int32} {bb n : Nat} (hb : bb < 2 ^ n) : ∀ d, n + d ≤ 8 → sLitN li (nI bb) (n + d) = sLitN li (nI bb) n := by
  intro d
  induction d with
  | zero => intro _; rfl
  | succ d ih => intro h; show sLitN li (nI bb) (n + d + 1) = _; rw [sLitN, if_neg (bit_hi hb (by omega) (by omega)), ih (by omega)]
theorem sum_hi {li ha : Nat → Int32} {bb n : Nat} (hb : bb < 2 ^ n) : ∀ d, n + d ≤ 8 → sSumN li ha (nI bb) (n + d) = sSumN li ha (nI bb) n := by
  intro d
  induction d with
  | zero => intro _; rfl
  | succ d ih => intro h; show sSumN li ha (nI bb) (n + d + 1) = _; rw [sSumN, if_neg (bit_hi hb (by omega) (by omega)), ih (by omega)]
theorem fill_congr {l h wm : Int32} {d e : Nat → Int32} (hd : ∀ j, j < 4 → d j = e j) : sFill l h wm d = sFill l h wm e := by
  funext j
  unfold sFill sFillN
  by_cases h10 : j < 10
  · simp only [h10, if_true]
    by_cases h6 : j < 6
    · have q : j = 0 ∨ j = 1 ∨ j = 2 ∨ j = 3 ∨ j = 4 ∨ j = 5 := by omega
      rcases q with rfl | rfl | rfl | rfl | rfl | rfl <;> simp
    · rw [hd (j - 6) (by omega)]
  · simp only [h10, if_false]
theorem row_n {K M : Mem} {n bb : Nat} {wm : Int32} (h : RB K M n) (hb : bb < 2 ^ n) : rowN M n (nI bb) wm = sRowB K (nI bb) wm := by
  have h8 := h.n8
  have eL : sLitN (K 4) (nI bb) 8 = sLitN (liM M) (nI bb) n := by
    rw [show 8 = n + (8 - n) by omega, lit_hi hb (8 - n) (by omega)]
    exact (lit_congr (fun c hc => h.li c hc) n (Nat.le_refl n)).symm
  have eS : sSumN (K 4) (K 5) (nI bb) 8 = sSumN (liM M) (haM M) (nI bb) n := by
    rw [show 8 = n + (8 - n) by omega, sum_hi hb (8 - n) (by omega)]
    exact (sum_congr (fun c hc => h.li c hc) (fun c hc => h.ha c hc) n (Nat.le_refl n)).symm
  obtain ⟨s, q, e1, e2, e3, e4⟩ := sums_n h.tt hb 8 (by decide)
  rw [rowN, sRowB, sHardOf, ← eL, ← eS, e1, e2, fill_congr (d := drM M) (e := K 3) (fun j hj => h.dr j hj)]
  congr 1
  rcases Nat.eq_zero_or_pos s with z | z
  · subst z; rfl
  · rw [if_neg (nI_ne0 z (by omega)), if_pos (show (0 : Int32) < nI s from nI_lt (a := 0) z (by omega))]
theorem row_eq {K M : Mem} {n : Nat} {b wm : Int32} (h : RB K M n) (hb : sHasCows (K 1 4) b = true) : rowN M n b wm = sRowB K b wm := by
  rw [h.kn] at hb
  obtain ⟨bb, lb, rfl⟩ := hasCows_n h.n8 hb
  exact row_n h lb
theorem okT_tO {K M : Mem} {n : Nat} (h : RB K M n) : tO K := ⟨n, h.kn, h.tt⟩
theorem row_okC {K M : Mem} {n : Nat} {b wm : Int32} (h : RB K M n) (hb : sHasCows (K 1 4) b = true) (hw : outB wm 0 400 = false) : okC 0 (sRowB K b wm) := by
  rw [h.kn] at hb
  exact okC_fill h.tt hb hw
theorem okM_zero {M : Mem} {A : Nat} (h : M 51 (A + 5) = 0) : okM M A := ⟨0, by decide, h⟩
theorem not_b {b : Bool} (h : (!b) = true) : b = false := by cases b with | true => exact absurd h (by decide) | false => rfl
theorem not_b2 {b : Bool} (h : (!b) = false) : b = true := by cases b with | false => exact absurd h (by decide) | true => rfl
theorem okC_1 {T x : Nat} {c : Nat → Int32} (h : okC T c) (hx : x ≤ 400) : okC T (upd c 1 (nI x)) := by
  obtain ⟨-, h2, h3, h4, h5⟩ := h
  exact ⟨⟨x, hx, by rw [pk_us]⟩, by rw [pk_un (by decide)]; exact h2, by rw [pk_un (by decide)]; exact h3, by rw [pk_un (by decide)]; exact h4, zC_upd h5 _ (by decide)⟩
theorem told_run (r c : Nat → Int32) (v : Int32) : sTold r c v = if outB v 0 16 = true then -1 else sRunV r c v := by
  by_cases h : outB v 0 16 = true
  · rw [if_pos h]
    have h2 : outB v 10 16 = true := by
      simp only [outB, Bool.or_eq_true, decide_eq_true_eq] at h ⊢
      rcases h with h | h
      · exact Or.inl (Int32.lt_trans h (by decide))
      · exact Or.inr h
    rw [sTold, if_pos h2]
    have n : ∀ k, k ≤ 9 → ¬ v = nI k := by
      intro k hk q
      subst q
      simp only [outB, Bool.or_eq_true, decide_eq_true_eq] at h
      rcases h with h | h
      · exact absurd h (Int32.not_lt.mpr (nI_le (a := 0) (Nat.zero_le k) (by omega)))
      · exact absurd h (Int32.not_lt.mpr (nI_le (b := 16) (by omega) (by decide)))
    simp [sTell, show ¬ v = 0 from n 0 (by decide), show ¬ v = 1 from n 1 (by decide), show ¬ v = 2 from n 2 (by decide), show ¬ v = 3 from n 3 (by decide), show ¬ v = 4 from n 4 (by decide), show ¬ v = 5 from n 5 (by decide), show ¬ v = 6 from n 6 (by decide), show ¬ v = 7 from n 7 (by decide), show ¬ v = 8 from n 8 (by decide), show ¬ v = 9 from n 9 (by decide)]
  · rw [if_neg h]
    obtain ⟨n, -, h16, rfl⟩ := outB_n (a := 0) (b := 16) (by decide) (Bool.not_eq_true _ ▸ h) (by decide)
    by_cases h10 : n < 10
    · have h2 : outB (nI n) 10 16 = true := by
        simp only [outB, Bool.or_eq_true, decide_eq_true_eq]
        exact Or.inl (nI_lt (b := 10) h10 (by decide))
      rw [sTold, if_pos h2, sRunV, if_pos (show nI n < (10 : Int32) from nI_lt (b := 10) h10 (by decide))]
    · have h2 : ¬ outB (nI n) 10 16 = true := by
        simp only [outB, Bool.or_eq_true, decide_eq_true_eq]
        intro q
        rcases q with q | q
        · exact absurd q (Int32.not_lt.mpr (nI_le (a := 10) (by omega) (by omega)))
        · exact absurd q (Int32.not_lt.mpr (nI_le (b := 16) h16 (by decide)))
      have e : nI n - 10 = nI (n - 10) := pk_sub (b := 10) (by omega)
      rw [sTold, if_neg h2, sRunV, if_neg (show ¬ nI n < (10 : Int32) from Int32.not_lt.mpr (nI_le (a := 10) (by omega) (by omega))), sDropC, e, if_neg (show ¬ nI (n - 10) < (0 : Int32) from Int32.not_lt.mpr (nI_le (a := 0) (Nat.zero_le _) (by omega))), if_neg (show ¬ (7 : Int32) ≤ nI (n - 10) from nI_ge (b := 7) (by omega) (by decide))]
theorem told_now {r c : Nat → Int32} {v : Int32} (h : outB v 0 9 = false) : sTold r c v = sTell r c v := by
  obtain ⟨n, -, h9, rfl⟩ := outB_n (a := 0) (b := 9) (by decide) h (by decide)
  rw [sTold, if_pos]
  simp only [outB, Bool.or_eq_true, decide_eq_true_eq]
  exact Or.inl (nI_lt (b := 10) (by omega) (by decide))
theorem wake_ok {M M' : Mem} {c : Nat → Int32} {w0 : Int32} {T : Nat} (h : RC c w0 M T) (hw : M 47 1 = w0) (e : M' = if M 38 24 = 0 then mu (mu M 51 1 (M 47 1)) 38 24 1 else M) : cM M' 0 = c ∧ okM M' 0 ∧ M' 38 24 = 1 ∧ frB M M' := by
  subst e
  by_cases h0 : M 38 24 = 0
  · rw [if_pos h0]
    have hr := h.row
    rw [if_pos h0] at hr
    have e51 : mu (mu M 51 1 (M 47 1)) 38 24 1 51 = mu M 51 1 (M 47 1) 51 := mu_k _ _ _ 51 _ (by decide)
    refine ⟨?_, okM_fr h.okm (by rw [e51, mu_j _ _ _ _ _ (by decide)]), mu_same _ _ _ _, ⟨fun q a b _ _ _ => by rw [mu_k _ _ _ _ _ a, mu_k _ _ _ _ _ b], fun j hj => by rw [mu_j _ _ _ _ _ hj, mu_k _ _ _ 38 _ (by decide)], fun i hi => by rw [e51, mu_j _ _ _ _ _ (by omega)], fun _ => mu_same _ _ _ _⟩⟩
    have e : cM (mu (mu M 51 1 (M 47 1)) 38 24 1) 0 = cM (mu M 51 (0 + 1) (M 47 1)) 0 := cM_eq (fun i _ => by rw [e51])
    rw [e, cM_mu (by decide) (by decide), hr, hw]
  · rw [if_neg h0]
    have hr := h.row
    rw [if_neg h0] at hr
    exact ⟨hr.symm, h.okm, h.aw.resolve_left h0, frB_rf M⟩
