def okRx (r : Nat → Int32) (e : Bool) : Prop := ∃ f : Nat → Nat, (∀ j, j < 9 → r j = nI (f j) ∧ lowL j ≤ f j ∧ f j ≤ topL j) ∧ (e = true ∨ f 7 ≤ f 8)
def DR (K M : Mem) (c a b : Nat) (e : Bool) : Prop := c ≤ 8 ∧ K 9 4 = nI c ∧ M 38 21 = nI c ∧ (∀ i, i < c → M 50 (2 * i) = K 12 i ∧ M 50 (2 * i + 1) = K 13 i) ∧ okT (K 12) (K 13) c ∧ okRx (K 10) e ∧ (∀ j, j < 9 → M 49 j = K 10 j) ∧ (∀ j, j < 4 → M 49 (9 + j) = K 11 j) ∧ a < 256 ∧ b < 256 ∧ K 6 5 = nI a ∧ M 38 22 = nI b ∧ ∀ i, i < 7 → a.testBit (cmL i) = b.testBit i
theorem DR_of {K M K' M' : Mem} {c a b : Nat} {e : Bool} (h : DR K M c a b e) (k9 : K' 9 4 = K 9 4) (k10 : K' 10 = K 10) (k11 : K' 11 = K 11) (k12 : K' 12 = K 12) (k13 : K' 13 = K 13) (k6 : K' 6 5 = K 6 5) (m21 : M' 38 21 = M 38 21) (m22 : M' 38 22 = M 38 22) (m49 : M' 49 = M 49) (m50 : M' 50 = M 50) : DR K' M' c a b e := by
  unfold DR
  rw [k9, k10, k11, k12, k13, k6, m21, m22, m49, m50]
  exact h
def frl (M M' : Mem) : Prop := (∀ q, q ≠ 38 → q ≠ 49 → q ≠ 50 → M' q = M q) ∧ ∀ j, (j < 3 ∨ 8 < j) → j ≠ 21 → j ≠ 22 → M' 38 j = M 38 j
theorem frl_rf (M : Mem) : frl M M := ⟨fun _ _ _ _ => rfl, fun _ _ _ _ => rfl⟩
theorem frl_tr {M M1 M2 : Mem} (h1 : frl M M1) (h2 : frl M1 M2) : frl M M2 := ⟨fun q a b c => (h2.1 q a b c).trans (h1.1 q a b c), fun j a b c => (h2.2 j a b c).trans (h1.2 j a b c)⟩
theorem frl_s {M M' : Mem} (h : frs M M') : frl M M' := ⟨fun q a _ _ => h.1 q a, fun j a _ _ => h.2 j a⟩
theorem frl_49 (M : Mem) (j : Nat) (v : Int32) : frl M (mu M 49 j v) := ⟨fun q _ b _ => mu_k _ _ _ _ _ b, fun j _ _ _ => by rw [mu_k _ _ _ 38 _ (by decide)]⟩
theorem frl_50 (M : Mem) (j : Nat) (v : Int32) : frl M (mu M 50 j v) := ⟨fun q _ _ b => mu_k _ _ _ _ _ b, fun j _ _ _ => by rw [mu_k _ _ _ 38 _ (by decide)]⟩
theorem frl_21 (M : Mem) (v : Int32) : frl M (mu M 38 21 v) := ⟨fun q b _ _ => mu_k _ _ _ _ _ b, fun j _ b _ => mu_j _ _ _ _ _ b⟩
theorem frl_22 (M : Mem) (v : Int32) : frl M (mu M 38 22 v) := ⟨fun q b _ _ => mu_k _ _ _ _ _ b, fun j _ _ b => mu_j _ _ _ _ _ b⟩
theorem KM_l {M M' : Mem} (h : KM M) (hf : frl M M') : KM M' := KM_of h (fun q a b => hf.1 q (by omega) (by omega) (by omega))
theorem RT_of {K M M' : Mem} {n : Nat} (h : RT K M n) (e1 : M' 38 1 = M 38 1) (e2 : M' 39 = M 39) : RT K M' n := by unfold RT; rw [e1, e2]; exact h
theorem TS_of {K M M' : Mem} {n : Nat} (h : TS K M n) (hj : ∀ j, j ≤ 8 → M' 38 j = M 38 j) (e2 : M' 39 = M 39) : TS K M' n := by
  obtain ⟨a, b, P, Q, c, d, e, f, g, i, j⟩ := h
  refine ⟨RT_of a (hj 1 (by decide)) e2, b, P, Q, c, d, e, f, g, by rw [hj 6 (by decide)]; exact i, ?_⟩
  unfold TK
  rw [hj 7 (by decide), hj 3 (by decide), hj 5 (by decide), hj 8 (by decide), hj 4 (by decide)]
  exact j
theorem NS_of {K0 K M M' : Mem} {n L j : Nat} (h : NS K0 K M n L j) (hj : ∀ j, j ≤ 8 → M' 38 j = M 38 j) (e2 : M' 39 = M 39) : NS K0 K M' n L j := ⟨h.1, TS_of h.2.1 hj e2, h.2.2⟩
theorem BR_j {K0 M M' : Mem} (h : BR K0 M) (e3 : M' 38 3 = M 38 3) (e4 : M' 38 4 = M 38 4) : BR K0 M' := by
  obtain ⟨m, K', a, b, c⟩ := h
  exact ⟨m, K', a, b, by unfold BK; rw [e3, e4]; exact c⟩
def enk (K : Mem) : Mem := if K 6 2 = 0 then mu (mu (mu K 9 4 (K 9 4 + 1)) 6 4 (K 6 4 + 1)) 6 2 (-1) else mu (mu K 6 4 (K 6 4 + 1)) 6 2 (-1)
theorem enk_f (K : Mem) : enk K 6 2 = -1 ∧ enk K 6 4 = K 6 4 + 1 ∧ enk K 6 6 = K 6 6 ∧ enk K 6 5 = K 6 5 ∧ (∀ q, q ≠ 6 → q ≠ 9 → enk K q = K q) := by
  unfold enk
  split
  · exact ⟨mu_same _ _ _ _, by rw [mu_j _ _ _ _ _ (by decide), mu_same], by rw [mu_j _ _ _ _ _ (by decide), mu_j _ _ _ _ _ (by decide), mu_k _ _ _ 6 _ (by decide)], by rw [mu_j _ _ _ _ _ (by decide), mu_j _ _ _ _ _ (by decide), mu_k _ _ _ 6 _ (by decide)], fun q a b => by rw [mu_k _ _ _ _ _ a, mu_k _ _ _ _ _ a, mu_k _ _ _ _ _ b]⟩
  · exact ⟨mu_same _ _ _ _, by rw [mu_j _ _ _ _ _ (by decide), mu_same], by rw [mu_j _ _ _ _ _ (by decide), mu_j _ _ _ _ _ (by decide)], by rw [mu_j _ _ _ _ _ (by decide), mu_j _ _ _ _ _ (by decide)], fun q a b => by rw [mu_k _ _ _ _ _ a, mu_k _ _ _ _ _ a]⟩
theorem bit_t : ∀ a, a < 256 → ∀ k, k < 8 → (nI a >>> (nI k &&& 31)) &&& 1 = (if a.testBit k = true then 1 else 0) ∧ nI a ||| (1 <<< (nI k &&& 31)) = nI (a ||| 2 ^ k) ∧ a ||| 2 ^ k < 256 := by decide +kernel
theorem cm_ne : ∀ i, i < 8 → ∀ j, j < 8 → cmL i = cmL j → i = j := by decide +kernel
theorem cm_t : ∀ i, i < 7 → 1 ≤ cmL i ∧ cmL i < 8 ∧ toL i + 1 = froL i + NM (cmL i) ∧ toL i ≤ 12 := by decide +kernel
theorem cm_u : ∀ i, i < 7 → ∀ j, j < 4 → j < NM (cmL i) → (stV 4).getD (FT (cmL i) + j) 0 = nI (lowL (froL i + j)) ∧ (stV 5).getD (FT (cmL i) + j) 0 = nI (topL (froL i + j)) := by decide +kernel
theorem cm_v0 : ∀ i, i < 7 → ∀ j, j < 4 → j < NM (cmL i) → (FT (cmL i) + j = 14 ↔ froL i + j = 8) := by decide +kernel
theorem cm_v1 : ∀ i, i < 7 → ∀ j, j < 4 → j < NM (cmL i) → froL i + j ≤ 12 := by decide +kernel
theorem cm_v2 : ∀ i, i < 7 → ∀ j, j < 4 → j < NM (cmL i) → (froL i + j = 7 ↔ i = 5 ∧ j = 0) := by decide +kernel
theorem cm_v3 : ∀ i, i < 7 → ∀ j, j < 4 → j < NM (cmL i) → (froL i + j = 8 ↔ i = 5 ∧ j = 1) := by decide +kernel
theorem cm_v4 : ∀ i, i < 7 → ∀ j, j < 4 → j < NM (cmL i) → (froL i + j < 9 → 6 ≤ FT (cmL i) + j ∧ FT (cmL i) + j - 6 = froL i + j) := by decide +kernel
theorem cm_v5 : ∀ i, i < 7 → ∀ j, j < 4 → j < NM (cmL i) → (9 ≤ froL i + j → ¬ 6 ≤ FT (cmL i) + j ∧ 2 ≤ FT (cmL i) + j ∧ FT (cmL i) + j - 2 = froL i + j - 9) := by decide +kernel
theorem cm_v : ∀ i, i < 7 → ∀ j, j < 4 → j < NM (cmL i) → (FT (cmL i) + j = 14 ↔ froL i + j = 8) ∧ froL i + j ≤ 12 ∧ (froL i + j = 7 ↔ i = 5 ∧ j = 0) ∧ (froL i + j = 8 ↔ i = 5 ∧ j = 1) := fun i hi j hj hn => ⟨cm_v0 i hi j hj hn, cm_v1 i hi j hj hn, cm_v2 i hi j hj hn, cm_v3 i hi j hj hn⟩
theorem cm_w : ∀ i, i < 7 → ∀ j, j < 4 → j < NM (cmL i) → (froL i + j < 9 → 6 ≤ FT (cmL i) + j ∧ FT (cmL i) + j - 6 = froL i + j) ∧ (9 ≤ froL i + j → ¬ 6 ≤ FT (cmL i) + j ∧ 2 ≤ FT (cmL i) + j ∧ FT (cmL i) + j - 2 = froL i + j - 9) := fun i hi j hj hn => ⟨cm_v4 i hi j hj hn, cm_v5 i hi j hj hn⟩
theorem low_t : ∀ j, j < 13 → lowL j ≤ 10 ∧ topL j ≤ 400 ∧ lowL 8 = 0 := by decide +kernel
theorem mul2_t : ∀ c, c < 9 → 2 * nI c = nI (2 * c) := by decide +kernel
theorem lnm_2 {K : Mem} {i : Nat} (hi : i < 8) (h : lnm K = nI (cmL i)) : K 7 2 = 2 := by
  refine Classical.not_not.mp (fun q => ?_)
  have g : ∀ a, ¬ spK K a = true := fun a z => q (of_decide_eq_true z).1
  have e : lnm K = -1 := lnm_no (fun j _ => g (cmL j))
  rw [e] at h
  exact (show ∀ i, i < 8 → ¬ (-1 : Int32) = nI (cmL i) by decide +kernel) i hi h
theorem TK_s {K M : Mem} {n P Q : Nat} (h : TK K M n P Q) (h0 : ¬ K 7 2 = 0) (hb : M 38 3 = 0) : M 38 5 = nI Q ∧ P < n := by
  rcases h with ⟨a, -⟩ | ⟨p, ⟨-, -, a, -⟩ | ⟨-, -, a, -⟩ | ⟨-, -, a, -⟩ | ⟨-, a, -⟩⟩
  · exact absurd a h0
  · exact ⟨a, p⟩
  · exact ⟨a, p⟩
  · exact ⟨a, p⟩
  · rw [hb] at a; exact absurd a (by decide)
def LN (K M : Mem) (n : Nat) (M' : Mem) : Prop := frl M M' ∧ (BR K M' ∨ ∃ m K' c' a' b', Rch (m + 1) K K' ∧ TS K' M' n ∧ K' 6 2 = -1 ∧ K' 6 6 = 0 ∧ DR K' M' c' a' b' false ∧ K' 6 4 = K 6 4 + 1)
def GL (K M : Mem) (n : Nat) (N : Mem) : Prop := frl M N ∧ (BR K N ∨ ∃ K4 L c a b m, Rch (m + 1) K K4 ∧ NS K K4 N n L (NM L) ∧ L < 8 ∧ DR (enk K4) N c a b false ∧ K4 6 4 = K 6 4)
theorem c_X8_stp2 {l : Launch} {g : XG} {N K0 Kc : Mem} {n Q : Nat} (h : BR K0 N ∨ (RT Kc N n ∧ BY Kc ∧ Kc 7 4 = nI Q ∧ Q ≤ 641 ∧ N 38 5 = nI Q ∧ N 38 3 = 0)) : Call l g YX8_step [.ref (ad g 38)] N (PV (fun M' => frs N M' ∧ (BR K0 M' ∨ TS (advM Kc) M' n))) := by
  rcases h with h | ⟨hT, hY, hQ, lQ, hs, hb⟩
  · refine call_imp (c_X8_stepB (BR_pos h)) (fun r M' q => ?_)
    obtain ⟨rfl, rfl⟩ := q
    exact ⟨rfl, frs_rf _, Or.inl h⟩
  · refine call_imp (c_X8_step hT hY hb hs (by omega)) (fun r M' q => ?_)
    obtain ⟨rfl, rfl⟩ := q
    exact ⟨rfl, frs_stp _ _ _ _, Or.inr (TS_step hT hY hQ lQ)⟩
theorem NS_brk {K0 K N : Mem} {n L j : Nat} (h : NS K0 K N n L j) (lL : L < 8) (hb : ¬ N 38 3 = 0) : BR K0 N := by
  have ns := NS_stop h lL
  obtain ⟨⟨m, hR⟩, ⟨hT, hY, P, Q, hP, hQ, lPQ, lQ, lP, hh, hTK⟩, h6, hL, hj⟩ := h
  exact ⟨m, K, hR, ns, (BK_w hP hTK hb).2⟩
theorem TK_4 {K M : Mem} {n P Q : Nat} (h : TK K M n P Q) (h1 : M 38 7 = 3) (hb : M 38 3 = 0) : K 7 2 = 4 := by
  rcases h with ⟨-, a, -⟩ | ⟨p, ⟨-, a, -⟩ | ⟨-, a, -⟩ | ⟨a, -⟩ | ⟨-, a, -⟩⟩
  · rw [h1] at a; exact absurd a (by decide)
  · rw [h1] at a; exact absurd a (by decide)
  · rw [h1] at a; exact absurd a (by decide)
  · exact a
  · rw [hb] at a; exact absurd a (by decide)
theorem TK_n4 {K M : Mem} {n P Q : Nat} (h : TK K M n P Q) (h1 : ¬ M 38 7 = 3) (hb : M 38 3 = 0) : ¬ K 7 2 = 4 := by
  intro q
  rcases h with ⟨a, -⟩ | ⟨-, ⟨a, -⟩ | ⟨a, -⟩ | ⟨-, b, -⟩ | ⟨a, -⟩⟩
  · rw [q] at a; exact absurd a (by decide)
  · rw [q] at a; exact absurd a (by decide)
  · rw [q] at a; exact absurd a (by decide)
  · exact h1 b
  · rw [q] at a; exact absurd a (by decide)
theorem ln_end {K M N : Mem} {n : Nat} (h : GL K M n N) (hb : N 38 3 = 0) (h3 : N 38 7 = 3) : ∃ Kc Q, RT Kc N n ∧ BY Kc ∧ Kc 7 4 = nI Q ∧ Q ≤ 641 ∧ N 38 5 = nI Q ∧ ∀ M', frs N M' → TS (advM Kc) M' n → LN K M n M' := by
  obtain ⟨hf, hB | ⟨K4, L, c, a, b, m, hR, hN, lL, hD, h64⟩⟩ := h
  · exact absurd hb (fun q => by have := BR_pos hB; rw [q] at this; exact absurd this (by decide))
  · have ns := NS_stop hN lL
    obtain ⟨-, ⟨hT, hY, P, Q, hP, hQ, lPQ, lQ, lP, hh, hTK⟩, h6, hL, hj⟩ := hN
    have k4 := TK_4 hTK h3 hb
    obtain ⟨hs, lPn⟩ := TK_s hTK (by rw [k4]; decide) hb
    have hk : takm K4 = enk K4 := by rw [tak_e (by rw [k4]; decide) hL lL hj, enl, if_neg (fun q => q k4), enk]
    have := hT.1
    refine ⟨takm K4, Q, RT_tak hT, BY_tak hY, by rw [takm_7]; exact hQ, by omega, hs, fun M' fr hTS => ⟨frl_tr hf (frl_s fr), Or.inr ⟨m + 1, nx K4, c, a, b, Rch_S hR ns ?_, hTS, ?_, ?_, ?_, ?_⟩⟩⟩
    · rw [hk, (enk_f K4).2.2.1]; exact h6
    · rw [nx, advM_o _ (by decide), hk, (enk_f K4).1]
    · rw [nx, advM_o _ (by decide), hk, (enk_f K4).2.2.1]; exact h6
    · have o : ∀ q, q ≠ 7 → nx K4 q = enk K4 q := fun q hq => by rw [nx, advM_o _ hq, hk]
      exact DR_of hD (by rw [o 9 (by decide)]) (o 10 (by decide)) (o 11 (by decide)) (o 12 (by decide)) (o 13 (by decide)) (by rw [o 6 (by decide)]) (fr.2 21 (by decide)) (fr.2 22 (by decide)) (fr.1 49 (by decide)) (fr.1 50 (by decide))
    · rw [nx, advM_o _ (by decide), hk, (enk_f K4).2.1, h64]
theorem ln_bad {K M N : Mem} {n : Nat} (h : GL K M n N) (hb : N 38 3 = 0) (h3 : ¬ N 38 7 = 3) : 0 < fls N 2 38 3 ∧ LN K M n (fls N 2) := by
  obtain ⟨hf, hB | ⟨K4, L, c, a, b, m, hR, hN, lL, hD, h64⟩⟩ := h
  · exact absurd hb (fun q => by have := BR_pos hB; rw [q] at this; exact absurd this (by decide))
  · have ns := NS_stop hN lL
    obtain ⟨-, ⟨hT, hY, P, Q, hP, hQ, lPQ, lQ, lP, hh, hTK⟩, h6, hL, hj⟩ := hN
    have hB : BR K (fls N 2) := ⟨m + 1, K4, hR, ns, by
      rw [tak_e (TK_n5 hTK hb) hL lL hj, enl, if_pos (TK_n4 hTK h3 hb)]
      exact BK_fls hP hh hb (by decide)⟩
    exact ⟨BR_pos hB, frl_tr hf (frl_s (frs_fls _ _)), Or.inl hB⟩
theorem ln_brk {K M N : Mem} {n : Nat} (h : GL K M n N) (hb : ¬ N 38 3 = 0) : 0 < N 38 3 ∧ LN K M n N := by
  obtain ⟨hf, hB | ⟨K4, L, c, a, b, m, hR, hN, lL, hD, h64⟩⟩ := h
  · exact ⟨BR_pos hB, hf, Or.inl hB⟩
  · have hB := NS_brk hN lL hb
    exact ⟨BR_pos hB, hf, Or.inl hB⟩
