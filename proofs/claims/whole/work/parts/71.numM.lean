theorem call_imp {l : Launch} {g : XG} {y : XM} {As : List Value} {M : Mem} {P P' : Option Value → Mem → Prop} (h : Call l g y As M P) (hp : ∀ r M', P r M' → P' r M') : Call l g y As M P' := by
  intro sz p e ha hf hc s m args below h1 h2 h3 h4
  obtain ⟨n, o, a, b, c, ⟨⟨⟨r, M', e1, e2, e3⟩, d2⟩, d3⟩⟩ := h sz p e ha hf hc s m args below h1 h2 h3 h4
  exact ⟨n, o, a, b, c, ⟨⟨⟨r, M', e1, hp r M' e2, e3⟩, d2⟩, d3⟩⟩
def stopK (K : Mem) : Prop := K 7 2 = 0 ∧ K 6 2 = -1
def nx (K : Mem) : Mem := advM (takm K)
def Rch : Nat → Mem → Mem → Prop
  | 0, K, K' => K' = K
  | m + 1, K, K' => ¬ stopK K ∧ takm K 6 6 = 0 ∧ Rch m (nx K) K'
theorem Rch_tr {K' K2 : Mem} : ∀ {a : Nat} {K : Mem} {b : Nat}, Rch a K K' → Rch b K' K2 → Rch (a + b) K K2 := by
  intro a
  induction a with
  | zero => intro K b h1 h2; cases h1; rw [Nat.zero_add]; exact h2
  | succ a ih =>
    intro K b h1 h2
    obtain ⟨x, y, z⟩ := h1
    rw [show a + 1 + b = (a + b) + 1 by omega]
    exact ⟨x, y, ih z h2⟩
theorem Rch_1 {K : Mem} (h : ¬ stopK K) (h6 : takm K 6 6 = 0) : Rch 1 K (nx K) := ⟨h, h6, rfl⟩
theorem Rch_S {a : Nat} {K K' : Mem} (h1 : Rch a K K') (h : ¬ stopK K') (h6 : takm K' 6 6 = 0) : Rch (a + 1) K (nx K') := Rch_tr h1 (Rch_1 h h6)
def BK (K1 M : Mem) : Prop := 0 < M 38 3 ∧ M 38 3 = K1 6 6 ∧ M 38 4 = K1 6 7 ∧ ¬ K1 6 6 = 0
def BR (K0 M : Mem) : Prop := ∃ m K', Rch m K0 K' ∧ ¬ stopK K' ∧ BK (takm K') M
theorem BR_pos {K0 M : Mem} (h : BR K0 M) : 0 < M 38 3 := by obtain ⟨m, K', -, -, h, -⟩ := h; exact h
theorem BR_of {K0 M M' : Mem} (h : BR K0 M) (e : M' 38 = M 38) : BR K0 M' := by
  obtain ⟨m, K', a, b, c⟩ := h
  exact ⟨m, K', a, b, by unfold BK; rw [e]; exact c⟩
def NS (K0 K M : Mem) (n L j : Nat) : Prop := (∃ m, Rch m K0 K) ∧ TS K M n ∧ K 6 6 = 0 ∧ K 6 2 = nI L ∧ K 6 3 = nI j
theorem NS_stop {K0 K M : Mem} {n L j : Nat} (h : NS K0 K M n L j) (lL : L < 8) : ¬ stopK K := by
  intro q
  have e := h.2.2.2.1.symm.trans q.2
  revert e
  exact (show ∀ L, L < 8 → ¬ nI L = -1 by decide) L lL
theorem tak_5 {K : Mem} (h : K 7 2 = 5) : takm K = rfs K 1 := if_pos h
theorem tak_n {K : Mem} {L j : Nat} (h : ¬ K 7 2 = 5) (hL : K 6 2 = nI L) (lL : L < 8) (hj : K 6 3 = nI j) (lj : j < NM L) : takm K = tkn K := by
  have l4 := (NM_t L lL).2.2.1
  rw [takm, if_neg h, if_neg, if_pos]
  · rw [hL, cl_n (by omega), hj, (NM_t L lL).1]; exact nI_lt lj (by omega)
  · rw [hL]; exact fun q => q.elim (nI_pos (by omega)) (nI_ge (b := 8) lL (by decide))
theorem tak_e {K : Mem} {L : Nat} (h : ¬ K 7 2 = 5) (hL : K 6 2 = nI L) (lL : L < 8) (hj : K 6 3 = nI (NM L)) : takm K = enl K := by
  have l4 := (NM_t L lL).2.2.1
  rw [takm, if_neg h, if_neg, if_neg]
  · rw [hL, cl_n (by omega), hj, (NM_t L lL).1]; exact nI_nlt (Nat.le_refl _) (by omega)
  · rw [hL]; exact fun q => q.elim (nI_pos (by omega)) (nI_ge (b := 8) lL (by decide))
theorem tak_b {K : Mem} (h : ¬ K 7 2 = 5) (hL : K 6 2 = -1) : takm K = bgn K := by
  rw [takm, if_neg h, if_pos]
  rw [hL]; exact Or.inl (by decide)
theorem rfs_6 (K : Mem) (v : Int32) : rfs K v 6 6 = v := by rw [rfs, mu_j _ _ _ _ _ (by decide), mu_same]
theorem rfs_7 (K : Mem) (v : Int32) : rfs K v 6 7 = K 7 3 := by rw [rfs, mu_same]
theorem BK_w {K M : Mem} {n P Q : Nat} (hP : K 7 3 = nI P) (h : TK K M n P Q) (hb : ¬ M 38 3 = 0) : K 7 2 = 5 ∧ BK (takm K) M := by
  rcases h with ⟨-, -, a⟩ | ⟨-, ⟨-, -, -, a⟩ | ⟨-, -, -, a, -⟩ | ⟨-, -, -, a⟩ | ⟨a, b, c⟩⟩
  · exact absurd a hb
  · exact absurd a hb
  · exact absurd a hb
  · exact absurd a hb
  · refine ⟨a, ?_⟩
    rw [tak_5 a]
    exact ⟨by rw [b]; decide, by rw [b, rfs_6], by rw [c, rfs_7, hP], by rw [rfs_6]; decide⟩
theorem TK_n5 {K M : Mem} {n P Q : Nat} (h : TK K M n P Q) (hb : M 38 3 = 0) : ¬ K 7 2 = 5 := by
  rcases h with ⟨a, -⟩ | ⟨-, ⟨a, -⟩ | ⟨a, -⟩ | ⟨a, -⟩ | ⟨-, b, -⟩⟩
  · rw [a]; decide
  · rw [a]; decide
  · rw [a]; decide
  · rw [a]; decide
  · rw [hb] at b; exact absurd b (by decide)
theorem TK_2 {K M : Mem} {n P Q : Nat} (h : TK K M n P Q) (h1 : M 38 7 = 2) (hb : M 38 3 = 0) : K 7 2 = 3 ∧ M 38 5 = nI Q ∧ M 38 8 = K 7 5 ∧ P < n := by
  rcases h with ⟨-, a, -⟩ | ⟨p, ⟨-, a, -⟩ | ⟨a, -, b, -, c⟩ | ⟨-, a, -⟩ | ⟨-, a, -⟩⟩
  · rw [h1] at a; exact absurd a (by decide)
  · rw [h1] at a; exact absurd a (by decide)
  · exact ⟨a, b, c, p⟩
  · rw [h1] at a; exact absurd a (by decide)
  · rw [hb] at a; exact absurd a (by decide)
theorem TK_n2 {K M : Mem} {n P Q : Nat} (h : TK K M n P Q) (h1 : ¬ M 38 7 = 2) (hb : M 38 3 = 0) : ¬ K 7 2 = 3 := by
  intro q
  rcases h with ⟨a, -⟩ | ⟨-, ⟨a, -⟩ | ⟨-, b, -⟩ | ⟨a, -⟩ | ⟨a, -⟩⟩
  · rw [q] at a; exact absurd a (by decide)
  · rw [q] at a; exact absurd a (by decide)
  · exact h1 b
  · rw [q] at a; exact absurd a (by decide)
  · rw [q] at a; exact absurd a (by decide)
theorem BK_fls {K M : Mem} {P : Nat} {v : Int32} (hP : K 7 3 = nI P) (hh : M 38 6 = nI P) (hb : M 38 3 = 0) (hv : 0 < v) : BK (rfs K v) (fls M v) := by
  rw [BK, fls_3 hb, fls_4 hb, rfs_6, rfs_7, hP, hh]
  exact ⟨hv, rfl, rfl, fun q => by rw [q] at hv; exact absurd hv (by decide)⟩
theorem RT_tak {K M : Mem} {n : Nat} (h : RT K M n) : RT (takm K) M n := by
  unfold RT
  rw [takm_7, takm_o K (by decide) (by decide) (by decide) (by decide) (by decide) (by decide)]
  exact h
theorem BY_tak {K : Mem} (h : BY K) : BY (takm K) := by
  unfold BY
  rw [takm_o K (by decide) (by decide) (by decide) (by decide) (by decide) (by decide)]
  exact h
theorem c_X8_num {l : Launch} {g : XG} {M K0 K : Mem} {n L j : Nat} {lo hi : Int32} (h : (NS K0 K M n L j ∧ lst K = lo ∧ (stV 5).getD (wch K) 0 = hi) ∨ BR K0 M) (lL : L < 8) (lj : j < NM L) :
    Call l g YX8_number [.ref (ad g 38), .int lo, .int hi] M (PI (fun v M' => frs M M' ∧ ((NS K0 K M n L j ∧ NS K0 (nx K) M' n L (j + 1) ∧ takm K = mu (putD K (wch K) v) 6 3 (nI (j + 1)) ∧ outB v lo hi = false) ∨ BR K0 M'))) := by
  rcases h with ⟨hN, hlo, hhi⟩ | hB
  · obtain ⟨⟨m, hR⟩, ⟨hT, hY, P, Q, hP, hQ, lPQ, lQ, lP, hh, hTK⟩, h6, hL, hj⟩ := id hN
    have ns := NS_stop hN lL
    by_cases hb : M 38 3 = 0
    · have n5 := TK_n5 hTK hb
      by_cases ht : M 38 7 = 2
      · obtain ⟨k3, hs, hv, lPn⟩ := TK_2 hTK ht hb
        have hk : takm K = tkn K := tak_n n5 hL lL hj lj
        by_cases ho : outB (M 38 8) lo hi = true
        · refine call_imp (c_X8_numO hb ht ho) (fun r M' q => ?_)
          obtain ⟨v, rfl, rfl⟩ := q
          refine ⟨v, rfl, frs_fls _ _, Or.inr ⟨m, K, hR, ns, ?_⟩⟩
          rw [hk, tkn, if_neg (fun q => q k3), hlo, hhi, ← hv, if_pos ho]
          exact BK_fls hP hh hb (by decide)
        · have ho2 : outB (M 38 8) lo hi = false := by simpa using ho
          have e7 : takm K 7 4 = nI Q := by rw [takm_7]; exact hQ
          refine call_imp (c_X8_numY (K := takm K) (n := n) (s := Q) (RT_tak hT) (BY_tak hY) hb hs (by omega) ht ho2) (fun r M' q => ?_)
          obtain ⟨v, rfl, rfl, rfl⟩ := q
          have e1 : takm K = mu (putD K (wch K) (M 38 8)) 6 3 (nI (j + 1)) := by
            rw [hk, tkn, if_neg (fun q => q k3), hlo, hhi, ← hv, if_neg ho, hj, nI_1]
          have e6 : ∀ i, i ≠ 3 → takm K 6 i = K 6 i := fun i hi => by rw [e1, mu_j _ _ _ _ _ hi, putD_6]
          have e63 : takm K 6 3 = nI (j + 1) := by rw [e1, mu_same]
          have h66 : takm K 6 6 = 0 := by rw [e6 6 (by decide)]; exact h6
          have o6 : nx K 6 = takm K 6 := advM_o _ (by decide)
          exact ⟨_, rfl, frs_stp _ _ _ _, Or.inl ⟨hN, ⟨⟨m + 1, Rch_S hR ns h66⟩, TS_step (RT_tak hT) (BY_tak hY) e7 (by have := hT.1; omega), by rw [o6]; exact h66, by rw [o6, e6 2 (by decide)]; exact hL, by rw [o6]; exact e63⟩, e1, ho2⟩⟩
      · have k3 := TK_n2 hTK ht hb
        refine call_imp (c_X8_numT hb ht) (fun r M' q => ?_)
        obtain ⟨v, rfl, rfl⟩ := q
        refine ⟨v, rfl, frs_fls _ _, Or.inr ⟨m, K, hR, ns, ?_⟩⟩
        rw [tak_n n5 hL lL hj lj, tkn, if_pos k3]
        exact BK_fls hP hh hb (by decide)
    · obtain ⟨k5, hBK⟩ := BK_w hP hTK hb
      refine call_imp (c_X8_numB hBK.1) (fun r M' q => ?_)
      obtain ⟨v, rfl, rfl⟩ := q
      exact ⟨v, rfl, frs_rf _, Or.inr ⟨m, K, hR, ns, hBK⟩⟩
  · refine call_imp (c_X8_numB (BR_pos hB)) (fun r M' q => ?_)
    obtain ⟨v, rfl, rfl⟩ := q
    exact ⟨v, rfl, frs_rf _, Or.inr hB⟩
