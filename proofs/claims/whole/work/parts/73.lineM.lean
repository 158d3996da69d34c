theorem bgn_none {K : Mem} (h5 : ¬ K 7 2 = 5) (h2 : K 6 2 = -1) (hl : lnm K = -1) : takm K = rfs K 2 := by rw [tak_b h5 h2, bgn, if_pos hl]
theorem nIm1 : ∀ L, L < 8 → ¬ nI L = -1 := by decide +kernel
theorem bgn_full {K : Mem} (h5 : ¬ K 7 2 = 5) (h2 : K 6 2 = -1) (hl : lnm K = 0) (h9 : K 9 4 = 8) : takm K = rfs K 5 := by
  rw [tak_b h5 h2, bgn, if_neg (by rw [hl]; decide), if_pos ⟨hl, by rw [h9]; decide⟩]
theorem bgn_twice {K : Mem} {L a : Nat} (h5 : ¬ K 7 2 = 5) (h2 : K 6 2 = -1) (hl : lnm K = nI L) (lL : L < 8) (l0 : 1 ≤ L) (ha : K 6 5 = nI a) (la : a < 256) (ht : a.testBit L = true) : takm K = rfs K 4 := by
  have n0 : ¬ nI L = 0 := nI_ne0 (by omega) (by omega)
  have hz : ¬ ((K 6 5 >>> (nI L &&& 31)) &&& 1 = 0) := by
    rw [ha, (bit_t a la L lL).1, if_pos ht]; decide
  rw [tak_b h5 h2, bgn, hl, if_neg (nIm1 L lL), if_neg (fun q => n0 q.1), if_pos ⟨n0, hz⟩]
theorem bgn_f {K : Mem} {L c a : Nat} (h5 : ¬ K 7 2 = 5) (h2 : K 6 2 = -1) (hl : lnm K = nI L) (lL : L < 8) (hc : K 9 4 = nI c) (lc : c ≤ 8) (ha : K 6 5 = nI a) (la : a < 256) (h0 : L = 0 → c < 8) (h1 : 1 ≤ L → a.testBit L = false) :
    takm K 6 2 = nI L ∧ takm K 6 3 = nI 0 ∧ takm K 6 6 = K 6 6 ∧ takm K 6 4 = K 6 4 ∧ takm K 6 5 = nI (a ||| 2 ^ L) ∧ ∀ q, q ≠ 6 → takm K q = K q := by
  have e : takm K = mu (mu (mu K 6 5 (nI (a ||| 2 ^ L))) 6 2 (nI L)) 6 3 0 := by
    rw [tak_b h5 h2, bgn, hl, if_neg (nIm1 L lL), if_neg, if_neg, ha, (bit_t a la L lL).2.1]
    · rintro ⟨q1, q2⟩
      have l1 : 1 ≤ L := by
        rcases Nat.eq_zero_or_pos L with z | z
        · subst z; exact absurd rfl q1
        · exact z
      refine q2 ?_
      rw [ha, (bit_t a la L lL).1, h1 l1]; rfl
    · rintro ⟨q1, q2⟩
      have l1 : L = 0 := nI_inj (j := 0) (by omega) (by decide) q1
      rw [hc] at q2
      exact absurd q2 (nI_ge (b := 8) (h0 l1) (by decide))
  rw [e]
  exact ⟨by rw [mu_j _ _ _ _ _ (by decide), mu_same], mu_same _ _ _ _, by rw [mu_j _ _ _ _ _ (by decide), mu_j _ _ _ _ _ (by decide), mu_j _ _ _ _ _ (by decide)], by rw [mu_j _ _ _ _ _ (by decide), mu_j _ _ _ _ _ (by decide), mu_j _ _ _ _ _ (by decide)], by rw [mu_j _ _ _ _ _ (by decide), mu_j _ _ _ _ _ (by decide), mu_same], fun q hq => by rw [mu_k _ _ _ _ _ hq, mu_k _ _ _ _ _ hq, mu_k _ _ _ _ _ hq]⟩
theorem c_X8_numP {l : Launch} {g : XG} {M K0 K : Mem} {n L j : Nat} {lo hi : Int32} {Pf : Prop} (h : (Pf ∧ NS K0 K M n L j ∧ lst K = lo ∧ (stV 5).getD (wch K) 0 = hi) ∨ BR K0 M) (lL : L < 8) (lj : j < NM L) :
    Call l g YX8_number [.ref (ad g 38), .int lo, .int hi] M (PI (fun v M' => frs M M' ∧ ((Pf ∧ NS K0 K M n L j ∧ NS K0 (nx K) M' n L (j + 1) ∧ takm K = mu (putD K (wch K) v) 6 3 (nI (j + 1)) ∧ outB v lo hi = false) ∨ BR K0 M'))) := by
  rcases h with ⟨hp, h⟩ | hB
  · refine call_imp (c_X8_num (Or.inl h) lL lj) (fun r M' q => ?_)
    obtain ⟨v, rfl, fr, q⟩ := q
    exact ⟨v, rfl, fr, q.imp (fun z => ⟨hp, z⟩) (fun z => z)⟩
  · refine call_imp (c_X8_numB (BR_pos hB)) (fun r M' q => ?_)
    obtain ⟨v, rfl, rfl⟩ := q
    exact ⟨v, rfl, frs_rf _, Or.inr hB⟩
theorem nx_o {K : Mem} {q : Nat} (h : q ≠ 7) : nx K q = takm K q := advM_o _ h
theorem cow_gl {K K4 M N : Mem} {c a b : Nat} {v0 v1 : Int32} (hD : DR K M c a b false) (lc : c < 8) (e50 : ∀ q, N 50 q = if q = 2 * c + 1 then v1 else if q = 2 * c then v0 else M 50 q) (e49 : N 49 = M 49) (e21 : N 38 21 = nI (c + 1)) (e22 : N 38 22 = M 38 22)
    (k9 : K4 9 4 = nI c) (k10 : K4 10 = K 10) (k11 : K4 11 = K 11) (k12 : K4 12 = upd (K 12) c v0) (k13 : K4 13 = upd (K 13) c v1) (k65 : K4 6 5 = nI (a ||| 2 ^ 0)) (k62 : K4 6 2 = 0) (h0 : outB v0 1 50 = false) (h1 : outB v1 0 100 = false) : DR (enk K4) N (c + 1) (a ||| 2 ^ 0) b false := by
  obtain ⟨d1, d2, d3, d4, d5, d6, d7, d8, d9, d10, d11, d12, d13⟩ := hD
  obtain ⟨x0, l0, l1, rfl⟩ := outB_n (a := 1) (b := 50) (by decide) h0 (by decide)
  obtain ⟨x1, -, l2, rfl⟩ := outB_n (a := 0) (b := 100) (by decide) h1 (by decide)
  obtain ⟨f1, f2, f3, f4, f5⟩ := enk_f K4
  have g9 : enk K4 9 4 = nI (c + 1) := by rw [enk, if_pos k62, mu_k _ _ _ 9 _ (by decide), mu_k _ _ _ 9 _ (by decide), mu_same, k9, nI_1]
  refine ⟨by omega, g9, e21, fun i hi => ?_, ⟨by omega, fun i hi => ?_⟩, ?_, ?_, ?_, (bit_t a d9 0 (by decide)).2.2, d10, by rw [f4]; exact k65, by rw [e22]; exact d12, fun i hi => ?_⟩
  · rw [f5 12 (by decide) (by decide), f5 13 (by decide) (by decide), k12, k13, e50, e50, if_neg (by omega)]
    by_cases e : i = c
    · subst e
      rw [if_pos rfl, if_pos rfl]; simp [upd]
    · rw [if_neg (by omega), if_neg (by omega), if_neg (by omega)]
      simp only [upd, e, if_false]
      exact d4 i (by omega)
  · rw [f5 12 (by decide) (by decide), f5 13 (by decide) (by decide), k12, k13]
    by_cases e : i = c
    · subst e
      simp only [upd, if_true]
      exact ⟨⟨x0, l0, l1, rfl⟩, x1, l2, rfl⟩
    · simp only [upd, e, if_false]
      exact d5.2 i (by omega)
  · rw [f5 10 (by decide) (by decide), k10]; exact d6
  · rw [e49, f5 10 (by decide) (by decide), k10]; exact d7
  · rw [e49, f5 11 (by decide) (by decide), k11]; exact d8
  · rw [← d13 i hi]
    have := (cm_t i hi).1
    rw [Nat.testBit_or, Nat.testBit_two_pow, decide_eq_false (by omega), Bool.or_false]
theorem okRx_up {r : Nat → Int32} {e0 e1 : Bool} {k x : Nat} (h : okRx r e0) (hk : k < 9) (l1 : lowL k ≤ x) (l2 : x ≤ topL k) (h7 : k = 7 → e1 = true) (h8 : k = 8 → ∀ y, y < 2 ^ 31 → r 7 = nI y → y ≤ x) (hn : k ≠ 7 → k ≠ 8 → e0 = false) : okRx (upd r k (nI x)) e1 := by
  obtain ⟨f, hf, hg⟩ := h
  refine ⟨fun j => if j = k then x else f j, fun j hj => ?_, ?_⟩
  · by_cases e : j = k
    · subst e; simp only [upd, if_true]; exact ⟨trivial, l1, l2⟩
    · simp only [upd, e, if_false]; exact hf j hj
  · by_cases e7 : k = 7
    · exact Or.inl (h7 e7)
    · by_cases e8 : k = 8
      · subst e8
        have := hf 7 (by decide)
        exact Or.inr (h8 rfl (f 7) (by have := (low_t 7 (by decide)).2.1; omega) this.1)
      · have := hn e7 e8
        rcases hg with q | q
        · rw [this] at q; exact absurd q (by decide)
        · refine Or.inr ?_
          simp only [show ¬ 7 = k from fun z => e7 z.symm, show ¬ 8 = k from fun z => e8 z.symm, if_false]
          exact q
def eIJ (i j : Nat) : Bool := decide (i = 5 ∧ j = 1)
theorem dr_up {K N M1 : Mem} {n i j c a b : Nat} {v lo hi : Int32} (hi7 : i < 7) (lj : j < NM (cmL i)) (l4 : j < 4) (hD : DR K N c a b (eIJ i j)) (fr : frs N M1) (hw : wch K = FT (cmL i) + j) (ht : takm K = mu (putD K (wch K) v) 6 3 (nI (j + 1))) (ho : outB v lo hi = false) (hlo : lo = if froL i + j = 8 then N 49 7 else nI (lowL (froL i + j))) (hhi : hi = nI (topL (froL i + j))) :
    DR (nx K) (mu M1 49 (froL i + j) v) c a b (eIJ i (j + 1)) := by
  obtain ⟨d1, d2, d3, d4, d5, d6, d7, d8, d9, d10, d11, d12, d13⟩ := hD
  obtain ⟨v1, v2, v3, v4⟩ := cm_v i hi7 j l4 lj
  obtain ⟨w1, w2⟩ := cm_w i hi7 j l4 lj
  rw [hw] at ht
  have t6 : ∀ q, q ≠ 6 → takm K q = putD K (FT (cmL i) + j) v q := fun q hq => by rw [ht, mu_k _ _ _ _ _ hq]
  have lt := low_t (froL i + j) (by omega)
  -- the value's bounds
  have hx : ∃ x, v = nI x ∧ lowL (froL i + j) ≤ x ∧ x ≤ topL (froL i + j) ∧ (froL i + j = 8 → ∀ y, y < 2 ^ 31 → K 10 7 = nI y → y ≤ x) := by
    by_cases e8 : froL i + j = 8
    · rw [if_pos e8] at hlo
      obtain ⟨f, hf, -⟩ := d6
      obtain ⟨f1, f2, f3⟩ := hf 7 (by decide)
      have f4 := (low_t 7 (by decide)).2.1
      rw [hlo, hhi, d7 7 (by decide), f1] at ho
      obtain ⟨x, x1, x2, rfl⟩ := outB_n (by omega) ho (by omega)
      refine ⟨x, rfl, by rw [e8, lt.2.2]; omega, x2, fun _ y ly hy => ?_⟩
      rw [f1] at hy
      have := nI_inj (by omega) ly hy
      omega
    · rw [if_neg e8] at hlo
      rw [hlo, hhi] at ho
      obtain ⟨x, x1, x2, rfl⟩ := outB_n (by omega) ho (by omega)
      exact ⟨x, rfl, x1, x2, fun q => absurd q e8⟩
  obtain ⟨x, rfl, x1, x2, x8⟩ := hx
  have k65 : nx K 6 5 = nI a := by rw [nx_o (by decide), ht, mu_j _ _ _ _ _ (by decide), putD_6]; exact d11
  by_cases k9 : froL i + j < 9
  · obtain ⟨y1, y2⟩ := w1 k9
    have p : ∀ q, q ≠ 6 → takm K q = mu K 10 (froL i + j) (nI x) q := fun q hq => by rw [t6 q hq, putD, if_pos y1, y2]
    have o : ∀ q, q ≠ 6 → q ≠ 7 → q ≠ 10 → nx K q = K q := fun q a b c => by rw [nx_o b, p q a, mu_k _ _ _ _ _ c]
    have o10 : nx K 10 = upd (K 10) (froL i + j) (nI x) := by rw [nx_o (by decide), p 10 (by decide)]; simp [mu]
    refine ⟨d1, by rw [o 9 (by decide) (by decide) (by decide)]; exact d2, by rw [mu_k _ _ _ 38 _ (by decide), fr.2 21 (by decide)]; exact d3, ?_, by rw [o 12 (by decide) (by decide) (by decide), o 13 (by decide) (by decide) (by decide)]; exact d5, ?_, ?_, ?_, d9, d10, k65, by rw [mu_k _ _ _ 38 _ (by decide), fr.2 22 (by decide)]; exact d12, d13⟩
    · rw [o 12 (by decide) (by decide) (by decide), o 13 (by decide) (by decide) (by decide), mu_k _ _ _ 50 _ (by decide), fr.1 50 (by decide)]; exact d4
    · rw [o10]
      refine okRx_up d6 k9 x1 x2 (fun q => ?_) x8 (fun q7 q8 => ?_)
      · obtain ⟨q1, q2⟩ := v3.mp q
        exact decide_eq_true ⟨q1, by omega⟩
      · exact decide_eq_false (fun z => q8 (v4.mpr z))
    · intro q hq
      rw [o10]
      by_cases e : q = froL i + j
      · subst e; rw [mu_same]; simp [upd]
      · rw [mu_j _ _ _ _ _ e, fr.1 49 (by decide)]; simp only [upd, e, if_false]; exact d7 q hq
    · intro q hq
      rw [mu_j _ _ _ _ _ (by omega), fr.1 49 (by decide), o 11 (by decide) (by decide) (by decide)]
      exact d8 q hq
  · obtain ⟨y1, y2, y3⟩ := w2 (by omega)
    have p : ∀ q, q ≠ 6 → takm K q = mu K 11 (froL i + j - 9) (nI x) q := fun q hq => by rw [t6 q hq, putD, if_neg y1, if_pos y2, y3]
    have o : ∀ q, q ≠ 6 → q ≠ 7 → q ≠ 11 → nx K q = K q := fun q a b c => by rw [nx_o b, p q a, mu_k _ _ _ _ _ c]
    have o11 : nx K 11 = upd (K 11) (froL i + j - 9) (nI x) := by rw [nx_o (by decide), p 11 (by decide)]; simp [mu]
    have e1 : eIJ i j = false := decide_eq_false (fun z => by have := v4.mpr z; omega)
    refine ⟨d1, by rw [o 9 (by decide) (by decide) (by decide)]; exact d2, by rw [mu_k _ _ _ 38 _ (by decide), fr.2 21 (by decide)]; exact d3, ?_, by rw [o 12 (by decide) (by decide) (by decide), o 13 (by decide) (by decide) (by decide)]; exact d5, ?_, ?_, ?_, d9, d10, k65, by rw [mu_k _ _ _ 38 _ (by decide), fr.2 22 (by decide)]; exact d12, d13⟩
    · rw [o 12 (by decide) (by decide) (by decide), o 13 (by decide) (by decide) (by decide), mu_k _ _ _ 50 _ (by decide), fr.1 50 (by decide)]; exact d4
    · rw [o 10 (by decide) (by decide) (by decide)]
      obtain ⟨f, hf, hg⟩ := d6
      exact ⟨f, hf, Or.inr (hg.elim (fun q => by rw [e1] at q; exact absurd q (by decide)) (fun q => q))⟩
    · intro q hq
      rw [o 10 (by decide) (by decide) (by decide), mu_j _ _ _ _ _ (by omega), fr.1 49 (by decide)]
      exact d7 q hq
    · intro q hq
      rw [o11]
      by_cases e : 9 + q = froL i + j
      · rw [← e, mu_same, show 9 + q - 9 = q by omega]; simp [upd]
      · rw [mu_j _ _ _ _ _ e, fr.1 49 (by decide)]; simp only [upd, show ¬ q = froL i + j - 9 by omega, if_false]; exact d8 q hq
