-- the whole relation
def BU (K M : Mem) (T : Nat) : Prop := (∃ n, RB K M n) ∧ RC (cX K 14) (K 2 1) M T ∧ RI K M T ∧ RSh K M ∧ (∃ k, RS K M k) ∧ (∃ t, RT K M t) ∧ BY K ∧ KM M ∧ K 6 6 = M 38 2 ∧ K 0 11 = M 38 34
theorem RB_cong {K M K' M' : Mem} {n : Nat} (h : RB K M n) (hK : ∀ q, 1 ≤ q → q ≤ 5 → K' q = K q) (m47 : M' 47 = M 47) (m48 : M' 48 = M 48) (m18 : M' 38 18 = M 38 18) : RB K' M' n := by
  unfold RB mR
  rw [hK 1 (by decide) (by decide), hK 2 (by decide) (by decide), hK 3 (by decide) (by decide), hK 4 (by decide) (by decide), hK 5 (by decide) (by decide), m47, m48, m18]
  exact h
theorem cX_cong {K K' : Mem} {k : Nat} (h0 : K' k = K k) (h1 : K' (k + 1) = K (k + 1)) : cX K' k = cX K k := by unfold cX; rw [h0, h1]
theorem cM_cong {M M' : Mem} (h : M' 51 = M 51) (A : Nat) : cM M' A = cM M A := by unfold cM; rw [h]
theorem RC_cong {c : Nat → Int32} {w0 : Int32} {M M' : Mem} {T : Nat} (h : RC c w0 M T) (e : M' 51 = M 51) (e2 : M' 38 24 = M 38 24) : RC c w0 M' T := by
  unfold RC okM
  rw [cM_cong e, e, e2]
  exact h
theorem RI_cong {K M K' M' : Mem} {T : Nat} (h : RI K M T) (hK : ∀ q, 20 ≤ q → q ≤ 25 → K' q = K q) (e6 : M' 56 = M 56) (e : M' 51 = M 51) (e2 : M' 38 24 = M 38 24) : RI K' M' T := by
  intro k hk
  have := h k hk
  unfold IM at this ⊢
  unfold okM at this ⊢
  rw [hK (20 + 3 * k) (by omega) (by omega), cX_cong (hK (20 + 3 * k + 1) (by omega) (by omega)) (hK (20 + 3 * k + 1 + 1) (by omega) (by omega)), cM_cong e, e6, e, e2]
  exact this
theorem RSh_cong {K M K' M' : Mem} (h : RSh K M) (hK : ∀ q, 27 ≤ q → q ≤ 34 → K' q = K q) (e7 : M' 57 = M 57) (e8 : M' 58 = M 58) (e9 : M' 59 = M 59) : RSh K' M' := by
  intro k hk
  have := h k hk
  unfold SM at this ⊢
  rw [hK (27 + 2 * k) (by omega) (by omega), hK (27 + 2 * k + 1) (by omega) (by omega), e7, e8, e9]
  exact this
theorem RS_cong {K M K' M' : Mem} {k : Nat} (h : RS K M k) (h0 : K' 0 10 = K 0 10) (h1 : K' 1 4 = K 1 4) (h35 : K' 35 = K 35) (h36 : K' 36 = K 36) (e : M' 38 28 = M 38 28) (e4 : M' 54 = M 54) : RS K' M' k := by
  unfold RS seenO at h ⊢
  rw [h0, h1, h35, h36, e, e4]
  exact h
theorem BU_cong {K M K' M' : Mem} {T : Nat} (h : BU K M T) (hK : ∀ q, q < 38 → q ≠ 6 → q ≠ 7 → q ≠ 8 → (q < 9 ∨ 13 < q) → K' q = K q) (hM : ∀ q, 38 < q → q ≠ 39 → q ≠ 49 → q ≠ 50 → M' q = M q) (m18 : M' 38 18 = M 38 18) (m24 : M' 38 24 = M 38 24) (m28 : M' 38 28 = M 38 28) (m34 : M' 38 34 = M 38 34) (hT : ∃ t, RT K' M' t) (hY : BY K') (hf : K' 6 6 = M' 38 2) : BU K' M' T := by
  obtain ⟨⟨n, hB⟩, hC, hI, hSh, ⟨k, hS⟩, -, -, hKM, -, ht⟩ := h
  refine ⟨⟨n, RB_cong hB (fun q a b => hK q (by omega) (by omega) (by omega) (by omega) (by omega)) (hM 47 (by decide) (by decide) (by decide) (by decide)) (hM 48 (by decide) (by decide) (by decide) (by decide)) m18⟩, ?_, RI_cong hI (fun q a b => hK q (by omega) (by omega) (by omega) (by omega) (by omega)) (hM 56 (by decide) (by decide) (by decide) (by decide)) (hM 51 (by decide) (by decide) (by decide) (by decide)) m24, RSh_cong hSh (fun q a b => hK q (by omega) (by omega) (by omega) (by omega) (by omega)) (hM 57 (by decide) (by decide) (by decide) (by decide)) (hM 58 (by decide) (by decide) (by decide) (by decide)) (hM 59 (by decide) (by decide) (by decide) (by decide)), ⟨k, ?_⟩, hT, hY, KM_of hKM (fun q a b => hM q (by omega) (by omega) (by omega) (by omega)), hf, ?_⟩
  · rw [cX_cong (hK 14 (by decide) (by decide) (by decide) (by decide) (by decide)) (hK 15 (by decide) (by decide) (by decide) (by decide) (by decide)), hK 2 (by decide) (by decide) (by decide) (by decide) (by decide)]
    exact RC_cong hC (hM 51 (by decide) (by decide) (by decide) (by decide)) m24
  · exact RS_cong hS (by rw [hK 0 (by decide) (by decide) (by decide) (by decide) (by decide)]) (by rw [hK 1 (by decide) (by decide) (by decide) (by decide) (by decide)]) (hK 35 (by decide) (by decide) (by decide) (by decide) (by decide)) (hK 36 (by decide) (by decide) (by decide) (by decide) (by decide)) m28 (hM 54 (by decide) (by decide) (by decide) (by decide))
  · rw [hK 0 (by decide) (by decide) (by decide) (by decide) (by decide), m34]; exact ht
-- how the class goes through the text
def rda (f : Nat) (K : Mem) : Mem := if K 7 2 = 0 ∧ K 6 2 = -1 then K else rdm f (takm K)
theorem rdm_S {N : Mem} (h : N 6 6 = 0) (f : Nat) : rdm (f + 1) N = rda f (advM N) := by rw [rdm, if_pos h, rda]
theorem rdm_w {N : Mem} (h : ¬ N 6 6 = 0) : ∀ f, rdm f N = N := by
  intro f
  cases f with
  | zero => rfl
  | succ f => rw [rdm, if_neg h]
theorem rda_Rch {K' : Mem} : ∀ {m : Nat} {K : Mem} (f : Nat), Rch m K K' → rda (m + f) K = rda f K' := by
  intro m
  induction m with
  | zero => intro K f h; cases h; rw [Nat.zero_add]
  | succ m ih =>
    intro K f h
    obtain ⟨a, b, c⟩ := h
    have e : rda (m + f) (nx K) = rda f K' := ih f c
    rw [← e, show m + 1 + f = (m + f) + 1 by omega, rda, if_neg (show ¬ (K 7 2 = 0 ∧ K 6 2 = -1) from a), rdm_S b]
    rfl
theorem rda_stop {K : Mem} (h : stopK K) (f : Nat) : rda f K = K := if_pos h
theorem rda_bad {K : Mem} (h : ¬ stopK K) (h6 : ¬ takm K 6 6 = 0) (f : Nat) : rda f K = takm K := by
  rw [rda, if_neg (show ¬ (K 7 2 = 0 ∧ K 6 2 = -1) from h), rdm_w h6]
theorem tak_0 {K : Mem} (h : K 7 2 = 0) : ¬ takm K 6 6 = 0 := by
  have g : ∀ a, ¬ spK K a = true := fun a z => absurd (h.symm.trans (of_decide_eq_true z).1) (by decide)
  have el : lnm K = -1 := lnm_no (fun j _ => g (cmL j))
  rw [takm, if_neg (by rw [h]; decide)]
  split
  · rw [bgn, if_pos el, rfs_6]; decide
  · split
    · rw [tkn, if_pos (by rw [h]; decide), rfs_6]; decide
    · rw [enl, if_pos (by rw [h]; decide), rfs_6]; decide
def CI (K : Mem) (n P : Nat) : Prop := K 7 1 = nI n ∧ n ≤ 320 ∧ K 7 3 = nI P ∧ P ≤ 1000 ∧ (∃ Q, K 7 4 = nI Q ∧ P < Q ∧ Q ≤ P + 321) ∧ (K 7 2 = 0 ∨ P < n)
theorem CI_TS {K M : Mem} {n : Nat} (h : TS K M n) : ∃ P, CI K n P := by
  obtain ⟨hT, hY, P, Q, hP, hQ, lPQ, lQ, lP, hh, hTK⟩ := h
  exact ⟨P, hT.2.1, hT.1, hP, lP, ⟨Q, hQ, lPQ, lQ⟩, hTK.imp (fun z => z.1) (fun z => z.1)⟩
theorem CI_next {K : Mem} {n P : Nat} (h : CI K n P) (h0 : ¬ K 7 2 = 0) : ∃ P', P < P' ∧ CI (nx K) n P' := by
  obtain ⟨hn, ln, hP, lP, ⟨Q, hQ, l1, l2⟩, hk⟩ := h
  have lPn : P < n := hk.resolve_left h0
  have hn' : takm K 7 1 = nI n := by rw [takm_7]; exact hn
  have hQ' : takm K 7 4 = nI Q := by rw [takm_7]; exact hQ
  have b1 := tkP_b (takm K) n Q
  have b2 := tkQ_b (takm K) n Q
  refine ⟨tkP (takm K) n Q, by omega, ?_⟩
  rw [nx, ← adv_of hn' ln hQ' (by omega)]
  refine ⟨hn', ln, rfl, by omega, ⟨tkQ (takm K) n Q, rfl, by omega, by omega⟩, ?_⟩
  by_cases z : kd (takm K) n (tkP (takm K) n Q) = 0
  · refine Or.inl ?_
    show tkK (takm K) n Q = 0
    rw [tkK, if_neg (by rw [z]; rintro ⟨q, -⟩; exact absurd q (by decide)), z]
  · exact Or.inr (lt_n z)
theorem Rch_len {K' : Mem} {n : Nat} : ∀ {m : Nat} {K : Mem} {P : Nat}, CI K n P → Rch m K K' → m = 0 ∨ P + m ≤ 320 := by
  intro m
  induction m with
  | zero => intro K P _ _; exact Or.inl rfl
  | succ m ih =>
    intro K P hC h
    obtain ⟨a, b, c⟩ := h
    have h0 : ¬ K 7 2 = 0 := fun q => tak_0 q b
    have lPn : P < n := hC.2.2.2.2.2.resolve_left h0
    have ln := hC.2.1
    obtain ⟨P', l1, hC'⟩ := CI_next hC h0
    rcases ih hC' c with e | e
    · subst e; exact Or.inr (by omega)
    · exact Or.inr (by omega)
theorem rdm_o : ∀ (f : Nat) (K : Mem) {q : Nat}, q ≠ 6 → q ≠ 7 → (q < 9 ∨ 13 < q) → rdm f K q = K q := by
  intro f
  induction f with
  | zero => intro K q _ _ _; rfl
  | succ f ih =>
    intro K q h6 h7 h9
    rw [rdm]
    split
    · split
      · exact advM_o _ h7
      · rw [ih _ h6 h7 h9, takm_o _ h6 (by omega) (by omega) (by omega) (by omega) (by omega), advM_o _ h7]
    · rfl
theorem inR_o (K : Mem) {q : Nat} (h6 : q ≠ 6) (h7 : q ≠ 7) (h9 : q < 9 ∨ 13 < q) : inR K q = K q := by
  rw [inR, mu_k _ _ _ _ _ h6, mu_k _ _ _ _ _ h6, mu_k _ _ _ _ _ h6, mu_k _ _ _ _ _ h6, mu_k _ _ _ _ _ h7, becF, mu_k _ _ _ _ _ (by omega), if_neg (by omega), if_neg (by omega)]
theorem plain_t : (∀ j, j < 9 → (stV 0).getD j 0 = nI (plaL j) ∧ lowL j ≤ plaL j ∧ plaL j ≤ topL j) ∧ (∀ j, j < 4 → (stV 1).getD j 0 = nI (plaL (9 + j))) ∧ plaL 7 ≤ plaL 8 := by decide +kernel
theorem inR_f (K : Mem) : inR K 7 4 = 0 ∧ inR K 6 2 = -1 ∧ inR K 6 4 = 0 ∧ inR K 6 5 = 0 ∧ inR K 6 6 = 0 ∧ inR K 9 4 = 0 ∧ inR K 7 1 = K 7 1 ∧ inR K 8 = K 8 ∧ (∀ j, j < 9 → inR K 10 j = nI (plaL j)) ∧ (∀ j, j < 4 → inR K 11 j = nI (plaL (9 + j))) := by
  refine ⟨rfl, rfl, rfl, rfl, rfl, rfl, rfl, rfl, fun j hj => ?_, fun j hj => ?_⟩
  · rw [← (plain_t.1 j hj).1]
    show (if j < 9 then (stV 0).getD j 0 else K 10 j) = _
    rw [if_pos hj]
  · rw [← plain_t.2.1 j hj]
    show (if j < 4 then (stV 1).getD j 0 else K 11 j) = _
    rw [if_pos hj]
theorem DR_in {K N : Mem} (h49 : ∀ j, j < 13 → N 49 j = nI (plaL j)) (h21 : N 38 21 = 0) (h22 : N 38 22 = 0) : DR (inR K) N 0 0 0 false := by
  obtain ⟨a1, a2, a3, a4, a5, a6, a7, a8, a9, a10⟩ := inR_f K
  refine ⟨by decide, a6, h21, fun i hi => absurd hi (by omega), ⟨by decide, fun i hi => absurd hi (by omega)⟩, ⟨plaL, fun j hj => ⟨a9 j hj, (plain_t.1 j hj).2⟩, Or.inr plain_t.2.2⟩, fun j hj => ?_, fun j hj => ?_, by decide, by decide, a4, h22, fun i hi => by simp⟩
  · rw [a9 j hj]; exact h49 j (by omega)
  · rw [a10 j hj]; exact h49 (9 + j) (by omega)
def FIN (K N : Mem) (u : Int32) : Prop := (0 < N 38 3 ∧ rdm 321 (inR K) 6 6 = N 38 3 ∧ rdm 321 (inR K) 6 7 = N 38 4 ∧ ¬ rdm 321 (inR K) 6 6 = 0) ∨ (N 38 3 = 0 ∧ rdm 321 (inR K) 6 6 = 0 ∧ rdm 321 (inR K) 6 4 = u ∧ ∃ c a b, DR (rdm 321 (inR K)) N c a b false)
theorem fin_bad {K N : Mem} {n P : Nat} {u : Int32} (hC : CI (advM (inR K)) n P) (h : BR (advM (inR K)) N) : FIN K N u := by
  obtain ⟨m, K', hR, ns, h1, h2, h3, h4⟩ := h
  have lm : m ≤ 320 := by rcases Rch_len hC hR with e | e <;> omega
  have e : rdm 321 (inR K) = takm K' := by
    rw [rdm_S (f := 320) rfl, show 320 = m + (320 - m) by omega, rda_Rch _ hR, rda_bad ns h4]
  exact Or.inl ⟨h1, by rw [e]; exact h2.symm, by rw [e]; exact h3.symm, by rw [e]; exact h4⟩
theorem fin_end {K N : Mem} {n P m c a b : Nat} {K' : Mem} {u : Int32} (hC : CI (advM (inR K)) n P) (hR : Rch m (advM (inR K)) K') (hS : stopK K') (h6 : K' 6 6 = 0) (hu : K' 6 4 = u) (hD : DR K' N c a b false) (hb : N 38 3 = 0) : FIN K N u := by
  have lm : m ≤ 320 := by rcases Rch_len hC hR with e | e <;> omega
  have e : rdm 321 (inR K) = K' := by
    rw [rdm_S (f := 320) rfl, show 320 = m + (320 - m) by omega, rda_Rch _ hR, rda_stop hS]
  exact Or.inr ⟨hb, by rw [e]; exact h6, by rw [e]; exact hu, c, a, b, by rw [e]; exact hD⟩
