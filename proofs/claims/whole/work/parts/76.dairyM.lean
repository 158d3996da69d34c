def plC (N : Mem) (k : Nat) : Mem := fun c => if c = 49 then (fun j => if j < k then nI (plaL j) else N 49 j) else N c
theorem plC_S (N : Mem) (k : Nat) : mu (plC N k) 49 k (nI (plaL k)) = plC N (k + 1) := by
  funext c j
  by_cases hc : c = 49
  · subst hc
    by_cases hj : j = k
    · subst hj; simp [mu, upd, plC]
    · by_cases h1 : j < k
      · simp [mu, upd, plC, hj, h1, show j < k + 1 by omega]
      · simp [mu, upd, plC, hj, h1, show ¬ j < k + 1 by omega]
  · simp [mu, plC, hc]
theorem plC_0 (N : Mem) : plC N 0 = N := by
  funext c j
  by_cases hc : c = 49
  · subst hc; simp [plC]
  · simp [plC, hc]
theorem plC_o (N : Mem) (k : Nat) {q : Nat} (h : q ≠ 49) : plC N k q = N q := if_neg h
def cpR (N : Mem) (k : Nat) : Mem := fun c => if c = 48 then (fun j => if j < k then N 50 j else N 48 j) else if c = 47 then (fun j => if j < k ∧ j < 13 then N 49 j else N 47 j) else N c
theorem cpR_o (N : Mem) (k : Nat) {q : Nat} (h : q ≠ 48) (h2 : q ≠ 47) : cpR N k q = N q := by rw [cpR, if_neg h, if_neg h2]
theorem cpR_0 (N : Mem) : cpR N 0 = N := by
  funext c j
  by_cases hc : c = 48
  · subst hc; simp [cpR]
  · by_cases h7 : c = 47
    · subst h7; simp [cpR]
    · simp [cpR, hc, h7]
theorem cpR_S (N : Mem) (k : Nat) (hk : k < 16) : mu (mu (cpR N k) 48 k (N 50 k)) 47 (k % 13) (N 49 (k % 13)) = cpR N (k + 1) := by
  funext c j
  by_cases hc : c = 48
  · subst hc
    by_cases hj : j = k
    · subst hj; simp [mu, upd, cpR]
    · by_cases h1 : j < k
      · simp [mu, upd, cpR, hj, h1, show j < k + 1 by omega]
      · simp [mu, upd, cpR, hj, h1, show ¬ j < k + 1 by omega]
  · by_cases h7 : c = 47
    · subst h7
      by_cases hj : j = k % 13
      · subst hj
        have : k % 13 < 13 := Nat.mod_lt _ (by decide)
        have : k % 13 < k + 1 := by have := Nat.mod_le k 13; omega
        simp [mu, upd, cpR, *]
      · have z : (j < k + 1 ∧ j < 13) ↔ (j < k ∧ j < 13) := by
          constructor
          · rintro ⟨a, b⟩
            refine ⟨?_, b⟩
            by_cases e : j = k
            · subst e; exact absurd (Nat.mod_eq_of_lt b).symm hj
            · omega
          · rintro ⟨a, b⟩
            exact ⟨by omega, b⟩
        simp [mu, upd, cpR, hj, z]
    · simp [mu, cpR, hc, h7]
theorem mod13 (i : Nat) (hi : i < 2 ^ 31) : nI i - nI i / 13 * 13 = nI (i % 13) := pk_rem (d := 13) hi (by decide) (by decide)
theorem RT_end (K M : Mem) (h1 : K 7 1 = 0) (h2 : M 38 1 = 0) : RT K M 0 := ⟨by decide, h1, h2, fun i hi => absurd hi (by omega)⟩
theorem okR_x {r : Nat → Int32} (h : okRx r false) : okR r := by
  obtain ⟨f, hf, hg⟩ := h
  have h78 : f 7 ≤ f 8 := hg.resolve_left (by decide)
  have g := fun j hj => (hf j hj).2
  refine ⟨f, fun j hj => (hf j hj).1, g 0 (by decide), (g 1 (by decide)).2, g 2 (by decide), (g 3 (by decide)).2, (g 4 (by decide)).2, g 5 (by decide), g 6 (by decide), (g 7 (by decide)).2, (g 8 (by decide)).2, h78⟩
theorem dy_bad {K M N : Mem} {T : Nat} (hB : BU K M T) (hf : frl M N) (h6 : ¬ rdm 321 (inR K) 6 6 = 0) (he : rdm 321 (inR K) 6 6 = N 38 3) : BU (dyM (rdm 321 (inR K))) (mu (mu N 38 1 0) 38 2 (N 38 3)) T := by
  rw [dyM, if_neg h6]
  have oM : ∀ q, q ≠ 38 → mu (mu N 38 1 0) 38 2 (N 38 3) q = N q := fun q a => by rw [mu_k _ _ _ _ _ a, mu_k _ _ _ _ _ a]
  have jM9 : ∀ j, 2 < j → mu (mu N 38 1 0) 38 2 (N 38 3) 38 j = N 38 j := fun j a => by rw [mu_j _ _ _ _ _ (by omega), mu_j _ _ _ _ _ (by omega)]
  refine BU_cong hB (fun q a b c d e => ?_) (fun q a b c d => ?_) ?_ ?_ ?_ ?_ ⟨0, RT_end _ _ (mu_same _ _ _ _) ?_⟩ ?_ ?_
  · rw [mu_k _ _ _ _ _ c, rdm_o _ _ b c e, inR_o _ b c e]
  · rw [oM q (by omega), hf.1 q (by omega) c d]
  · rw [jM9 18 (by decide), hf.2 18 (by decide) (by decide) (by decide)]
  · rw [jM9 24 (by decide), hf.2 24 (by decide) (by decide) (by decide)]
  · rw [jM9 28 (by decide), hf.2 28 (by decide) (by decide) (by decide)]
  · rw [jM9 34 (by decide), hf.2 34 (by decide) (by decide) (by decide)]
  · rw [mu_j _ _ _ _ _ (by decide), mu_same]
  · have hY : BY K := hB.2.2.2.2.2.2.1
    unfold BY
    rw [mu_k _ _ _ 8 _ (by decide), rdm_o _ _ (by decide) (by decide) (Or.inl (by decide)), inR_o _ (by decide) (by decide) (Or.inl (by decide))]
    exact hY
  · rw [mu_k _ _ _ 6 _ (by decide), he, mu_same]
theorem dyC_o (Z : Mem) {q : Nat} (h0 : q ≠ 0) (h1 : ¬ (1 ≤ q ∧ q ≤ 5)) (h7 : q ≠ 7) (h14 : q ≠ 14) (h15 : q ≠ 15) (h20 : q ≠ 20) (h23 : q ≠ 23) : dyC Z q = Z q := by
  rw [dyC, mu_k _ _ _ _ _ h23, mu_k _ _ _ _ _ h20, mu_k _ _ _ _ _ h0, dyB, rd_o h14 h15, dyA, becL, mu_k _ _ _ _ _ (by omega), if_neg (by omega), if_neg (by omega), if_neg (by omega), if_neg (by omega), mu_k _ _ _ _ _ h7]
theorem dyC_a (Z : Mem) {q : Nat} (h0 : q ≠ 0) (h14 : q ≠ 14) (h15 : q ≠ 15) (h20 : q ≠ 20) (h23 : q ≠ 23) : dyC Z q = dyA Z q := by
  rw [dyC, mu_k _ _ _ _ _ h23, mu_k _ _ _ _ _ h20, mu_k _ _ _ _ _ h0, dyB, rd_o h14 h15]
theorem dyA_f (Z : Mem) : dyA Z 1 4 = Z 9 4 ∧ (∀ j, j < 9 → dyA Z 2 j = Z 10 j) ∧ (∀ j, j < 4 → dyA Z 3 j = Z 11 j) ∧ (∀ j, j < 8 → dyA Z 4 j = Z 12 j) ∧ (∀ j, j < 8 → dyA Z 5 j = Z 13 j) := by
  refine ⟨rfl, fun j hj => ?_, fun j hj => ?_, fun j hj => ?_, fun j hj => ?_⟩
  · show (if j < 9 then Z 10 j else _) = _; rw [if_pos hj]
  · show (if j < 4 then Z 11 j else _) = _; rw [if_pos hj]
  · show (if j < 8 then Z 12 j else _) = _; rw [if_pos hj]
  · show (if j < 8 then Z 13 j else _) = _; rw [if_pos hj]
theorem okR_c {r s : Nat → Int32} (h : okR r) (e : ∀ j, j < 9 → s j = r j) : okR s := by
  obtain ⟨f, hf, hg⟩ := h
  exact ⟨f, fun j hj => (e j hj).trans (hf j hj), hg⟩
theorem all_has : ∀ c, c ≤ 8 → sHasCows (nI c) (nI (2 ^ c - 1)) = true := by decide +kernel
theorem out400 (x : Nat) (h : x ≤ 400) : outB (nI x) 0 400 = false := by
  have h1 := nI_pos (n := x) (by omega)
  have h2 : ¬ (400 : Int32) < nI x := nI_nlt (a := 400) (b := x) h (by decide)
  rw [outB, decide_eq_false h1, decide_eq_false h2]; rfl
theorem dy_RB {Z N Y : Mem} {c a b : Nat} (hD : DR Z N c a b false) (e47 : ∀ j, j < 13 → Y 47 j = N 49 j) (e48 : ∀ j, j < 16 → Y 48 j = N 50 j) (e18 : Y 38 18 = nI c) : RB (dyA Z) Y c := by
  obtain ⟨d1, d2, d3, d4, d5, d6, d7, d8, d9, d10, d11, d12, d13⟩ := hD
  obtain ⟨f1, f2, f3, f4, f5⟩ := dyA_f Z
  refine ⟨okR_c (okR_x d6) f2, fun j hj => ?_, fun j hj => ?_, d1, by rw [f1]; exact d2, e18, fun i hi => ?_, fun i hi => ?_, d1, fun i hi => ?_⟩
  · rw [e47 j (by omega), d7 j hj, f2 j hj]
  · rw [e47 (9 + j) (by omega), d8 j hj, f3 j hj]
  · rw [e48 (2 * i) (by omega), (d4 i hi).1, f4 i (by omega)]
  · rw [e48 (2 * i + 1) (by omega), (d4 i hi).2, f5 i (by omega)]
  · rw [f4 i (by omega), f5 i (by omega)]; exact d5.2 i hi
theorem dy_good {K M N Y Y2 : Mem} {T c a b : Nat} {wm : Int32} (hB : BU K M T) (hf : frl M N) (h6 : rdm 321 (inR K) 6 6 = 0) (hD : DR (rdm 321 (inR K)) N c a b false)
    (e47 : ∀ j, j < 13 → Y 47 j = N 49 j) (e48 : ∀ j, j < 16 → Y 48 j = N 50 j) (e18 : Y 38 18 = nI c) (e28 : Y 38 28 = 0) (e56 : Y 56 0 = 0 ∧ Y 56 1 = 0) (e1 : Y 38 1 = 0) (e2 : Y 38 2 = 0) (e34 : Y 38 34 = M 38 34) (eo : ∀ q, 38 < q → q ≠ 39 → q ≠ 47 → q ≠ 48 → q ≠ 49 → q ≠ 50 → q ≠ 56 → Y q = M q)
    (hw : wm = Y 47 1) (k1 : cM Y2 0 = rowN Y c (sAll (nI c)) wm) (k2 : frT Y Y2 0) (k3 : Y2 51 (0 + 5) = 0) : BU (dyM (rdm 321 (inR K))) (mu Y2 38 24 1) T := by
  rw [dyM, if_pos h6]
  have hRB := dy_RB hD e47 e48 e18
  obtain ⟨⟨n0, hB0⟩, hC, hI, hSh, ⟨k0, hS⟩, hT, hY, hKM, hfa, hto⟩ := hB
  have oY : ∀ q, q ≠ 38 → q ≠ 51 → q ≠ 52 → mu Y2 38 24 1 q = Y q := fun q a b c => by rw [mu_k _ _ _ _ _ a, k2.1 q b c]
  have jY : ∀ j, j ≠ 24 → mu Y2 38 24 1 38 j = Y 38 j := fun j a => by rw [mu_j _ _ _ _ _ a, k2.1 38 (by decide) (by decide)]
  have zo : ∀ {q}, q ≠ 6 → q ≠ 7 → (q < 9 ∨ 13 < q) → rdm 321 (inR K) q = K q := fun a b c => by rw [rdm_o _ _ a b c, inR_o _ a b c]
  have hw2 : wm = dyA (rdm 321 (inR K)) 2 1 := by rw [hw]; exact hRB.ru 1 (by decide)
  have d1 : c ≤ 8 := hD.1
  have all : sAll (nI c) = nI (2 ^ c - 1) := sAll_n c d1
  have k14 : dyA (rdm 321 (inR K)) 1 4 = nI c := hRB.kn
  have oA : ∀ q, (q < 1 ∨ 5 < q) → q ≠ 7 → dyA (rdm 321 (inR K)) q = rdm 321 (inR K) q := fun q a b => by
    rw [dyA, becL, mu_k _ _ _ _ _ (by omega), if_neg (by omega), if_neg (by omega), if_neg (by omega), if_neg (by omega), mu_k _ _ _ _ _ b]
  have zK : ∀ q, (q < 9 ∨ 13 < q) → q ≠ 6 → q ≠ 7 → rdm 321 (inR K) q = K q := fun q a b c => zo b c a
  have hz : zC (cX (dyA (rdm 321 (inR K))) 14) := by
    have e : cX (dyA (rdm 321 (inR K))) 14 = cX K 14 := cX_cong (by rw [oA 14 (by decide) (by decide), zK 14 (by decide) (by decide) (by decide)]) (by rw [oA 15 (by decide) (by decide), zK 15 (by decide) (by decide) (by decide)])
    rw [e]; exact hC.okc.2.2.2.2
  generalize hZ : rdm 321 (inR K) = Z at *
  have hb : sHasCows (dyA Z 1 4) (nI (2 ^ c - 1)) = true := by rw [k14]; exact all_has c d1
  have ho : outB wm 0 400 = false := by
    obtain ⟨f, hf1, -, hf2, -⟩ := hRB.ok
    rw [hw2, hf1 1 (by decide)]; exact out400 _ hf2
  have hrow : cX (dyC Z) 14 = sRowB (dyA Z) (nI (2 ^ c - 1)) wm := by
    have e : cX (dyC Z) 14 = cX (dyB Z) 14 := cX_cong (by rw [dyC, mu_k _ _ _ 14 _ (by decide), mu_k _ _ _ 14 _ (by decide), mu_k _ _ _ 14 _ (by decide)]) (by rw [dyC, mu_k _ _ _ (14 + 1) _ (by decide), mu_k _ _ _ (14 + 1) _ (by decide), mu_k _ _ _ (14 + 1) _ (by decide)])
    rw [e, dyB, cX_putC, fill_z hz, k14, all, hw2]; rfl
  have hcm : cM (mu Y2 38 24 1) 0 = sRowB (dyA Z) (nI (2 ^ c - 1)) wm := by
    rw [cM_cong (M := Y2) (mu_k _ _ _ 51 _ (by decide)), k1, all]
    exact row_n hRB (by have := Nat.two_pow_pos c; omega)
  have h21 : dyC Z 2 1 = wm := by rw [dyC_a Z (by decide) (by decide) (by decide) (by decide) (by decide), ← hw2]
  refine ⟨⟨c, RB_cong hRB (fun q a b => dyC_a Z (by omega) (by omega) (by omega) (by omega) (by omega)) (oY 47 (by decide) (by decide) (by decide)) (oY 48 (by decide) (by decide) (by decide)) (jY 18 (by decide))⟩, ?_, ?_, ?_, ⟨0, ⟨by decide, ?_, fun i hi => absurd hi (by omega)⟩, ?_, fun i hi => absurd hi (by omega)⟩, ⟨0, RT_end _ _ ?_ ?_⟩, ?_, ?_, ?_, ?_⟩
  · rw [h21, hrow]
    refine RC_mk (okC_mono (row_okC hRB hb ho) (Nat.zero_le T)) ?_ (mu_same _ _ _ _) hcm
    refine okM_zero ?_
    rw [mu_k _ _ _ 51 _ (by decide)]; exact k3
  · intro k hk
    have e0 : mu Y2 38 24 1 56 k = 0 := by
      rw [oY 56 (by decide) (by decide) (by decide)]
      match k, hk with
      | 0, _ => exact e56.1
      | 1, _ => exact e56.2
    refine ⟨Or.inl e0, ?_, fun q => absurd (e0.symm.trans q) (by decide)⟩
    rw [e0]
    match k, hk with
    | 0, _ => show dyC Z 20 1 = 0; rw [dyC, mu_k _ _ _ 20 _ (by decide), mu_same]
    | 1, _ => show dyC Z 23 1 = 0; rw [dyC, mu_same]
  · refine RSh_cong hSh (fun q a b => ?_) ?_ ?_ ?_
    · rw [dyC_o Z (by omega) (by omega) (by omega) (by omega) (by omega) (by omega) (by omega), zK q (by omega) (by omega) (by omega)]
    · rw [oY 57 (by decide) (by decide) (by decide), eo 57 (by decide) (by decide) (by decide) (by decide) (by decide) (by decide) (by decide)]
    · rw [oY 58 (by decide) (by decide) (by decide), eo 58 (by decide) (by decide) (by decide) (by decide) (by decide) (by decide) (by decide)]
    · rw [oY 59 (by decide) (by decide) (by decide), eo 59 (by decide) (by decide) (by decide) (by decide) (by decide) (by decide) (by decide)]
  · rw [dyC, mu_k _ _ _ 0 _ (by decide), mu_k _ _ _ 0 _ (by decide), mu_same]; rfl
  · rw [jY 28 (by decide), e28]; rfl
  · rw [dyC_a Z (by decide) (by decide) (by decide) (by decide) (by decide)]; rfl
  · rw [jY 1 (by decide), e1]
  · unfold BY
    rw [dyC_o Z (by decide) (by decide) (by decide) (by decide) (by decide) (by decide) (by decide), zK 8 (by decide) (by decide) (by decide)]
    exact hY
  · refine KM_of hKM (fun q a b => ?_)
    rw [oY q (by omega) (by omega) (by omega), eo q (by omega) (by omega) (by omega) (by omega) (by omega) (by omega) (by omega)]
  · rw [dyC_o Z (by decide) (by decide) (by decide) (by decide) (by decide) (by decide) (by decide), h6, jY 2 (by decide), e2]
  · rw [dyC, mu_k _ _ _ 0 _ (by decide), mu_k _ _ _ 0 _ (by decide), mu_j _ _ _ _ _ (by decide), dyB, rd_o (by decide) (by decide), oA 0 (by decide) (by decide), zK 0 (by decide) (by decide) (by decide), jY 34 (by decide), e34]
    exact hto
