-- the relation of the two halves where both are new
def MB (M : Mem) : Mem := fun c => if c < 38 then MC c else M c
theorem mb_c {M : Mem} {c : Nat} (h : c < 38) : MB M c = MC c := if_pos h
theorem mb_m {M : Mem} {c : Nat} (h : 38 ≤ c) : MB M c = M c := if_neg (by omega)
theorem pr8_38 {M : Mem} (h : pr8 M) (j : Nat) : MB M 38 j = 0 := by rw [mb_m (by decide)]; exact h.1 38 (by decide) (by decide) (by decide) j
theorem pr8_51 {M : Mem} (h : pr8 M) (j : Nat) : MB M 51 j = 0 := by rw [mb_m (by decide)]; exact h.1 51 (by decide) (by decide) (by decide) j
theorem pr8_56 {M : Mem} (h : pr8 M) (j : Nat) : MB M 56 j = 0 := by rw [mb_m (by decide)]; exact h.1 56 (by decide) (by decide) (by decide) j
theorem mc_pla : ∀ j, j < 9 → (MC 2 j = nI (plaL j)) := by decide +kernel
theorem mc_pl2 : ∀ j, j < 4 → (nI (plaL (9 + j)) = MC 3 j) := by decide +kernel
theorem mb_c14 {M : Mem} (j : Nat) : cX (MB M) 14 j = if j = 1 then 130 else if j = 5 then -4 else 0 := by
  unfold cX
  rw [mb_c (show (14 : Nat) < 38 by decide), mb_c (show (14 + 1 : Nat) < 38 by decide)]
  by_cases h : j < 6
  · rw [if_pos h]
    show (if j + 1 = 2 then (130 : Int32) else if j + 1 = 6 then -4 else 0) = _
    by_cases h1 : j = 1
    · rw [if_pos h1, if_pos (by omega)]
    · rw [if_neg h1, if_neg (by omega)]
      by_cases h5 : j = 5
      · rw [if_pos h5, if_pos (by omega)]
      · rw [if_neg h5, if_neg (by omega)]
  · rw [if_neg h, if_neg (by omega), if_neg (by omega)]
    rfl
theorem RB_0 {M : Mem} (h : pr8 M) : RB (MB M) (MB M) 0 := by
  have e2 : MB M 2 = MC 2 := mb_c (by decide)
  have e47 : MB M 47 = M 47 := mb_m (by decide)
  refine ⟨?_, ?_, ?_, by decide, ?_, pr8_38 h 18, fun c q => absurd q (by omega), fun c q => absurd q (by omega), by decide, fun c q => absurd q (by omega)⟩
  · rw [e2]
    exact ⟨plaL, mc_pla, by decide, by decide, by decide, by decide, by decide, by decide, by decide, by decide, by decide, by decide⟩
  · intro j hj
    rw [e2, e47, mc_pla j hj, h.2.2.1 j (by omega)]
  · intro j hj
    rw [e47, mb_c (show (3 : Nat) < 38 by decide), h.2.2.1 (9 + j) (by omega)]
    exact mc_pl2 j hj
  · rw [mb_c (show (1 : Nat) < 38 by decide)]; rfl
theorem RC_0 {M : Mem} (h : pr8 M) : RC (cX (MB M) 14) (MB M 2 1) (MB M) 0 := by
  refine ⟨⟨⟨130, by decide, by rw [mb_c14]; rfl⟩, ⟨0, by decide, by rw [mb_c14]; rfl⟩, ⟨0, by decide, by rw [mb_c14]; rfl⟩, Or.inl (by rw [mb_c14]; rfl), fun j hj => by rw [mb_c14, if_neg (by omega), if_neg (by omega)]⟩, okM_zero (pr8_51 h _), Or.inl (pr8_38 h _), ?_⟩
  rw [if_pos (pr8_38 h 24), mb_c (show (2 : Nat) < 38 by decide)]
  funext j
  rw [mb_c14]
  have ec : cM (MB M) 0 j = if j = 5 then -4 else 0 := by
    unfold cM
    by_cases h5 : j = 5
    · rw [if_pos h5, if_pos h5, if_pos (pr8_51 h _)]
    · rw [if_neg h5, if_neg h5]
      by_cases h13 : j < 13
      · rw [if_pos h13, pr8_51 h]
      · rw [if_neg h13]
  by_cases h1 : j = 1
  · subst h1; rfl
  · rw [if_neg h1, show upd (cM (MB M) 0) 1 (MC 2 1) j = cM (MB M) 0 j from if_neg h1, ec]
theorem zC_0 {M : Mem} {k : Nat} (hk : k + 1 < 38) (hz : ∀ j, MC (k + 1) j = 0) : zC (cX (MB M) k) := by
  intro j hj
  unfold cX
  rw [if_neg (by omega), mb_c hk]
  exact hz _
theorem BW_0 {M : Mem} (h : pr8 M) : BW (MB M) 0 := by
  have c0 : ∀ {c : Nat} (_ : c < 38) (j : Nat), MB M c j = MC c j := fun q j => by rw [mb_c q]
  refine ⟨⟨⟨0, RB_0 h⟩, RC_0 h, ?_, ?_, ⟨0, ⟨by decide, ?_, fun i q => absurd q (by omega)⟩, pr8_38 h 28, fun i q => absurd q (by omega)⟩, ⟨0, by decide, ?_, pr8_38 h 1, fun i q => absurd q (by omega)⟩, ?_, ?_, ?_, ?_⟩, zC_0 (by decide) (fun _ => rfl), zC_0 (by decide) (fun _ => rfl), zC_0 (by decide) (fun _ => rfl)⟩
  · intro k hk
    refine ⟨Or.inl (pr8_56 h k), ?_, fun q => ?_⟩
    · rw [pr8_56 h, mb_c (by omega)]
      match k, hk with
      | 0, _ => rfl
      | 1, _ => rfl
      | n + 2, q => omega
    · rw [pr8_56 h] at q
      exact absurd q (by decide)
  · intro k hk
    refine Or.inl ⟨by rw [mb_m (show 38 ≤ 57 by decide)]; exact h.2.2.2 k hk, ?_⟩
    rw [mb_c (by omega)]
    match k, hk with
    | 0, _ => rfl
    | 1, _ => rfl
    | 2, _ => rfl
    | 3, _ => rfl
    | n + 4, q => omega
  · rw [c0 (by decide)]; rfl
  · rw [c0 (by decide)]; rfl
  · intro i
    refine ⟨0, ?_⟩
    rw [c0 (by decide)]; rfl
  · unfold KM
    rw [mb_m (show 38 ≤ 40 by decide), mb_m (show 38 ≤ 41 by decide), mb_m (show 38 ≤ 42 by decide), mb_m (show 38 ≤ 43 by decide), mb_m (show 38 ≤ 44 by decide), mb_m (show 38 ≤ 45 by decide), mb_m (show 38 ≤ 46 by decide)]
    exact h.2.1
  · rw [pr8_38 h, c0 (by decide)]; rfl
  · rw [pr8_38 h, c0 (by decide)]; rfl
