theorem cap100 (x : Int32) : (if x < 100 then x else 100) = if x ≤ 100 then x else 100 := by
  by_cases h : x < 100
  · rw [if_pos h, if_pos (Int32.le_of_lt h)]
  · rw [if_neg h]
    by_cases h2 : x ≤ 100
    · rw [if_pos h2]
      rcases Int32.lt_or_eq_of_le h2 with q | q
      · exact absurd q h
      · exact q.symm
    · rw [if_neg h2]
def pJ (rate : Int32) (c : Nat → Int32) (k : Nat) : Int32 := rate * c (k + 6) / 200
def eJ (rate : Int32) (c : Nat → Int32) (k : Nat) : Int32 := if k = 0 then c 6 else c (k + 6) + pJ rate c (k - 1)
def stJ (rate : Int32) (c : Nat → Int32) (i k : Nat) : Int32 := if k < i then eJ rate c k - 2 * pJ rate c k else if k = i then eJ rate c k else c (k + 6)
theorem swap32 (a b c : Int32) : a - c + b = a + b - c := by rw [Int32.sub_eq_add_neg, Int32.sub_eq_add_neg, Int32.add_assoc, Int32.add_comm (-c) b, ← Int32.add_assoc]
theorem sJn_lo6 (rate : Int32) (c : Nat → Int32) {j : Nat} (h : j < 6 ∨ 13 ≤ j) : sJn rate 6 c j = c j := by
  rcases h with h | h
  · exact sJn_lo 6 c j h
  · simp [sJn, sJ, upd, show ¬ j = 6 by omega, show ¬ j = 7 by omega, show ¬ j = 8 by omega, show ¬ j = 9 by omega, show ¬ j = 10 by omega, show ¬ j = 11 by omega, show ¬ j = 12 by omega]
theorem sJn_hi (rate : Int32) (c : Nat → Int32) : ∀ k, k ≤ 6 → sJn rate 6 c (k + 6) = stJ rate c 6 k := by
  intro k hk
  match k, hk with
  | 0, _ => simp [sJn, sJ, upd, stJ, eJ, pJ]
  | 1, _ => simp [sJn, sJ, upd, stJ, eJ, pJ, swap32]
  | 2, _ => simp [sJn, sJ, upd, stJ, eJ, pJ, swap32]
  | 3, _ => simp [sJn, sJ, upd, stJ, eJ, pJ, swap32]
  | 4, _ => simp [sJn, sJ, upd, stJ, eJ, pJ, swap32]
  | 5, _ => simp [sJn, sJ, upd, stJ, eJ, pJ, swap32]
  | 6, _ => simp [sJn, sJ, upd, stJ, eJ, pJ]
theorem okC_air {T : Nat} {r c : Nat → Int32} {p : Int32} (h : okC T c) : okC T (sAir r p c) := by
  obtain ⟨⟨w, lw, hw⟩, ⟨h', lh, hh⟩, ⟨t, lt, ht⟩, h5, hz⟩ := h
  exact ⟨⟨w, lw, by rw [sAir_o (by decide)]; exact hw⟩, ⟨h', lh, by rw [sAir_o (by decide)]; exact hh⟩, ⟨t, lt, by rw [sAir_o (by decide)]; exact ht⟩, by rw [sAir_o (by decide)]; exact h5, zC_air hz⟩
theorem cM_stage {M N : Mem} {A : Nat} {rate : Int32} (h1 : ∀ x, N 51 x = if A + 6 ≤ x ∧ x ≤ A + 12 then stJ rate (cM M A) 6 (x - (A + 6)) else M 51 x) : cM N A = sJn rate 6 (cM M A) := by
  funext j
  by_cases h6 : j < 6
  · rw [sJn_lo6 _ _ (Or.inl h6)]
    by_cases h5 : j = 5
    · subst h5
      have e : N 51 (A + 5) = M 51 (A + 5) := by rw [h1, if_neg (by omega)]
      rw [cM_5, cM_5, e]
    · rw [cM_o h5 (by omega), cM_o h5 (by omega), h1, if_neg (by omega)]
  · by_cases h13 : j < 13
    · rw [cM_o (by omega) h13, h1, if_pos (by omega)]
      have := sJn_hi rate (cM M A) (j - 6) (by omega)
      rw [show j - 6 + 6 = j by omega] at this
      rw [this, show A + j - (A + 6) = j - 6 by omega]
    · rw [sJn_lo6 _ _ (Or.inr (by omega)), cM_z M A j (by omega), cM_z N A j (by omega)]

set_option maxRecDepth 100000 in
theorem c_X8_isSwollen {l : Launch} {g : XG} {M : Mem} {A : Nat} {r : Nat → Int32} (hA : A ≤ 64) (hr : mR M r) (hO : okM M A) : Call l g YX8_isSwollen [.ref (ad g 38), .int (nI A)] M (PI (fun v M' => v = b2i (sSwell r (cM M A)) ∧ M' = M)) := by
  refine call_of (by decide +kernel) (Nat.le_of_ble_eq_true rfl) (fun x hxl F R => ?_)
  subst hxl
  refine ex_aload_n F dX8_isSwollen_0 rfl rfl ?_
  refine gf_8_23 F dX8_isSwollen_1 fl_X8_46 ?_
  refine ex_iload_n F dX8_isSwollen_4 rfl rfl ?_
  refine ex_iconst (v := 5) F dX8_isSwollen_5 (by decide) ?_
  refine ex_iadd F dX8_isSwollen_6 ?_
  refine ex_iald (n := 80) F dX8_isSwollen_7 (by decide) (ixA (k := 5) hA (by decide)) (j := A + 5) (ixB (k := 5) hA (by decide)) ?_
  refine ex_if_ne (t := 49) F dX8_isSwollen_8 (by decide) (fun c8 => ?_) (fun c8 => ?_)
  · refine ex_iconst (v := 0) F dX8_isSwollen_49 (by decide) ?_
    exact ex_zret (ty := .boolean) F R dX8_isSwollen_50 rfl (rfl) (⟨by rw [sSwell, cM_come hO, cM_o (j := 0) (by decide) (by decide), show A + 0 = A from rfl, cM_o (j := 3) (by decide) (by decide), ← hr 0 (by decide), ← hr 4 (by decide)]; rw [decide_eq_false c8]; rfl, rfl⟩)
  · refine ex_aload_n F dX8_isSwollen_11 rfl rfl ?_
    refine gf_8_23 F dX8_isSwollen_12 fl_X8_46 ?_
    refine ex_iload_n F dX8_isSwollen_15 rfl rfl ?_
    refine ex_iald (n := 80) F dX8_isSwollen_16 (by decide) (vp_in_nI (by omega) (by decide)) (j := A) (nI_clamp (by omega)) ?_
    refine ex_aload_n F dX8_isSwollen_17 rfl rfl ?_
    refine gf_8_23 F dX8_isSwollen_18 fl_X8_46 ?_
    refine ex_iload_n F dX8_isSwollen_21 rfl rfl ?_
    refine ex_iconst (v := 3) F dX8_isSwollen_22 (by decide) ?_
    refine ex_iadd F dX8_isSwollen_23 ?_
    refine ex_iald (n := 80) F dX8_isSwollen_24 (by decide) (ixA (k := 3) hA (by decide)) (j := A + 3) (ixB (k := 3) hA (by decide)) ?_
    refine ex_aload_n F dX8_isSwollen_25 rfl rfl ?_
    refine gf_8_16 F dX8_isSwollen_26 fl_X8_34 ?_
    refine ex_iconst (v := 4) F dX8_isSwollen_29 (by decide) ?_
    refine ex_iald (n := 13) F dX8_isSwollen_30 (by decide) (vpd (by decide)) (j := 4) (by decide) ?_
    refine ex_imul F dX8_isSwollen_31 ?_
    refine ex_bipush (v := 100) F dX8_isSwollen_32 (by decide) ?_
    refine ex_idiv F dX8_isSwollen_34 (by decide) ?_
    refine ex_iadd F dX8_isSwollen_35 ?_
    refine ex_aload_n F dX8_isSwollen_36 rfl rfl ?_
    refine gf_8_16 F dX8_isSwollen_37 fl_X8_34 ?_
    refine ex_iconst (v := 0) F dX8_isSwollen_40 (by decide) ?_
    refine ex_iald (n := 13) F dX8_isSwollen_41 (by decide) (vpd (by decide)) (j := 0) (by decide) ?_
    refine ex_icmp_lt (t := 49) F dX8_isSwollen_42 (by decide) (fun c42 => ?_) (fun c42 => ?_)
    · refine ex_iconst (v := 0) F dX8_isSwollen_49 (by decide) ?_
      exact ex_zret (ty := .boolean) F R dX8_isSwollen_50 rfl (rfl) (⟨by rw [sSwell, cM_come hO, cM_o (j := 0) (by decide) (by decide), show A + 0 = A from rfl, cM_o (j := 3) (by decide) (by decide), ← hr 0 (by decide), ← hr 4 (by decide)]; rw [decide_eq_true c8, decide_eq_false (Int32.not_le.mpr c42)]; rfl, rfl⟩)
    · refine ex_iconst (v := 1) F dX8_isSwollen_45 (by decide) ?_
      refine ex_goto (t := 50) F dX8_isSwollen_46 (by decide) ?_
      exact ex_zret (ty := .boolean) F R dX8_isSwollen_50 rfl (rfl) (⟨by rw [sSwell, cM_come hO, cM_o (j := 0) (by decide) (by decide), show A + 0 = A from rfl, cM_o (j := 3) (by decide) (by decide), ← hr 0 (by decide), ← hr 4 (by decide)]; rw [decide_eq_true c8, decide_eq_true (Int32.not_lt.mp c42)]; rfl, rfl⟩)
theorem come0 {M : Mem} {A : Nat} (h : okM M A) (c : M 51 (A + 5) ≤ 0) : decide (M 51 (A + 5) = 0) = true := by
  obtain ⟨t, lt, e⟩ := h
  rw [e] at c ⊢
  have : t ≤ 0 := (nI_leI lt (by decide)).mp c
  obtain rfl : t = 0 := by omega
  decide
theorem come1 {z : Int32} (c : ¬ z ≤ 0) : decide (z = 0) = false := decide_eq_false (fun q => c (by rw [q]; exact Int32.le_refl _))
theorem cs_X8_joins_169 : CSV (xmN YX8_joins).cls (xmF YX8_joins) (xmW YX8_joins) 169 1 YX8_hardness := ⟨⟨ml_X8_169, ini_X8, cd_X8_hardness, by decide +kernel, by decide⟩, im_X8_hardness, se_X8_hardness⟩
set_option maxRecDepth 100000 in
theorem c_X8_joins {l : Launch} {g : XG} {M : Mem} {A T : Nat} {r : Nat → Int32} (hA : A ≤ 64) (hR : okR r) (hr : mR M r) (hC : okC T (cM M A)) (hO : okM M A) {p : Int32} : Call l g YX8_joins [.ref (ad g 38), .int (nI A), .int p] M (PV (fun M' => cM M' A = sJn (sRate r p (cM M A)) 6 (cM M A) ∧ frS M M' A ∧ M' 51 (A + 5) = M 51 (A + 5))) := by
  refine call_of (by decide +kernel) (Nat.le_of_ble_eq_true rfl) (fun x hxl F R => ?_)
  subst hxl
  have tail : ∀ v : Int32, v = sRate r p (cM M A) → EX x g (xmL YX8_joins) M 61 [(0, .ref (ad g 38)), (1, .int (nI A)), (4, .int v)] [] := by
    intro v hv
    have key2 : ∀ (m i : Nat) (u : Int32) (N : Mem), i + m = 6 → u = nI i → (∀ x, N 51 x = if A + 6 ≤ x ∧ x ≤ A + 12 then stJ v (cM M A) i (x - (A + 6)) else M 51 x) → (∀ q, q ≠ 51 → q ≠ 52 → N q = M q) → (∀ j, j < 6 → N 52 j = pJ v (cM M A) j) → EX x g (xmL YX8_joins) N 106 [(0, .ref (ad g 38)), (1, .int (nI A)), (4, .int v), (5, .int u)] [] := by
      intro m
      induction m with
      | zero =>
        intro i u N hi hu h1 h2 h3
        obtain rfl : i = 6 := by omega
        subst hu
        refine ex_iload F dX8_joins_106 rfl ?_
        refine ex_bipush (v := 6) F dX8_joins_108 (by decide) ?_
        refine ex_icmp_ge (t := 167) F dX8_joins_110 (by decide) (fun _ => ?_) (fun c => absurd (by decide) c)
        exact ex_vret F R dX8_joins_167 rfl (⟨by rw [← hv]; exact cM_stage h1, ⟨h2, fun y hy => by rw [h1 y, if_neg (by omega)]⟩, by rw [h1, if_neg (by omega)]⟩)
      | succ m ih =>
        intro i u N hi hu h1 h2 h3
        subst hu
        have e1 : N 51 (A + (6 + i)) = eJ v (cM M A) i := by
          rw [h1, if_pos (by omega), show A + (6 + i) - (A + 6) = i by omega, stJ, if_neg (by omega), if_pos rfl]
        have e2 : N 51 (A + (6 + (i + 1))) = cM M A (i + 1 + 6) := by
          rw [h1, if_pos (by omega), show A + (6 + (i + 1)) - (A + 6) = i + 1 by omega, stJ, if_neg (by omega), if_neg (by omega)]
        refine ex_iload F dX8_joins_106 rfl ?_
        refine ex_bipush (v := 6) F dX8_joins_108 (by decide) ?_
        refine ex_icmp_ge (t := 167) F dX8_joins_110 (by decide) (fun c => absurd c (nI_ge (b := 6) (by omega) (by decide))) (fun _ => ?_)
        refine ex_aload_n F dX8_joins_113 rfl rfl ?_
        refine gf_8_23 F dX8_joins_114 fl_X8_46 ?_
        refine ex_iload_n F dX8_joins_117 rfl rfl ?_
        refine ex_bipush (v := 6) F dX8_joins_118 (by decide) ?_
        refine ex_iadd F dX8_joins_120 ?_
        refine ex_iload F dX8_joins_121 rfl ?_
        refine ex_iadd F dX8_joins_123 ?_
        refine ex_dup2 F dX8_joins_124 rfl rfl ?_
        refine ex_iald (n := 80) F dX8_joins_125 (by decide) (ixA2 (k := 6) hA (by omega)) (j := A + (6 + i)) (ixB2 (k := 6) hA (by omega)) ?_
        refine ex_iconst (v := 2) F dX8_joins_126 (by decide) ?_
        refine ex_aload_n F dX8_joins_127 rfl rfl ?_
        refine gf_8_25 F dX8_joins_128 fl_X8_49 ?_
        refine ex_iload F dX8_joins_131 rfl ?_
        refine ex_iald (n := 7) F dX8_joins_133 (by decide) (vp_in_nI (by omega) (by decide)) (j := i) (nI_clamp (by omega)) ?_
        refine ex_imul F dX8_joins_134 ?_
        refine ex_isub F dX8_joins_135 ?_
        refine ex_iast (n := 80) F dX8_joins_136 (by decide) (ixA2 (k := 6) hA (by omega)) (j := A + (6 + i)) (ixB2 (k := 6) hA (by omega)) ?_
        refine ex_aload_n F dX8_joins_137 rfl rfl ?_
        refine gf_8_23 F dX8_joins_138 fl_X8_46 ?_
        refine ex_iload_n F dX8_joins_141 rfl rfl ?_
        refine ex_bipush (v := 6) F dX8_joins_142 (by decide) ?_
        refine ex_iadd F dX8_joins_144 ?_
        refine ex_iload F dX8_joins_145 rfl ?_
        refine ex_iadd F dX8_joins_147 ?_
        refine ex_iconst (v := 1) F dX8_joins_148 (by decide) ?_
        refine ex_iadd F dX8_joins_149 ?_
        refine ex_dup2 F dX8_joins_150 rfl rfl ?_
        refine ex_iald (n := 80) F dX8_joins_151 (by decide) (ixA3 (k := 6) hA (by omega)) (j := A + (6 + (i + 1))) (ixB3 (k := 6) hA (by omega)) ?_
        refine ex_aload_n F dX8_joins_152 rfl rfl ?_
        refine gf_8_25 F dX8_joins_153 fl_X8_49 ?_
        refine ex_iload F dX8_joins_156 rfl ?_
        refine ex_iald (n := 7) F dX8_joins_158 (by decide) (vp_in_nI (by omega) (by decide)) (j := i) (nI_clamp (by omega)) ?_
        refine ex_iadd F dX8_joins_159 ?_
        refine ex_iast (n := 80) F dX8_joins_160 (by decide) (ixA3 (k := 6) hA (by omega)) (j := A + (6 + (i + 1))) (ixB3 (k := 6) hA (by omega)) ?_
        refine ex_iinc (w := _ + 1) F dX8_joins_161 rfl rfl (by decide) ?_
        refine ex_goto (t := 106) F dX8_joins_164 (by decide) ?_
        refine ex_weak2 (ih (i + 1) _ _ (by omega) (nI_1 i) (fun y => ?_) (fun q q1 q2 => ?_) (fun j hj => ?_)) ⟨rfl, rfl, rfl, rfl, trivial⟩
        · by_cases ha : y = A + (6 + (i + 1))
          · subst ha
            rw [mu_same, mu_j _ _ _ _ _ (show A + (6 + (i + 1)) ≠ A + (6 + i) by omega), e2, if_pos (by omega), show A + (6 + (i + 1)) - (A + 6) = i + 1 by omega, stJ, if_neg (by omega), if_pos rfl, eJ, if_neg (by omega)]
            rw [mu_k _ _ _ 52 _ (by decide), h3 i (by omega)]
            rfl
          · rw [mu_j _ _ _ _ _ ha]
            by_cases hb : y = A + (6 + i)
            · subst hb
              rw [mu_same, e1, h3 i (by omega), if_pos (by omega), show A + (6 + i) - (A + 6) = i by omega, stJ, if_pos (by omega)]
            · rw [mu_j _ _ _ _ _ hb, h1 y]
              by_cases hc : A + 6 ≤ y ∧ y ≤ A + 12
              · rw [if_pos hc, if_pos hc, stJ, stJ]
                by_cases hd : y - (A + 6) < i
                · rw [if_pos hd, if_pos (by omega)]
                · rw [if_neg hd, if_neg (by omega), if_neg (by omega), if_neg (by omega)]
              · rw [if_neg hc, if_neg hc]
        · rw [mu_k _ _ _ _ _ q1, mu_k _ _ _ _ _ q1]; exact h2 q q1 q2
        · rw [mu_k _ _ _ 52 _ (by decide), mu_k _ _ _ 52 _ (by decide)]; exact h3 j hj
    have key1 : ∀ (m i : Nat) (u : Int32) (N : Mem), i + m = 6 → u = nI i → (∀ q, q ≠ 52 → N q = M q) → (∀ j, j < i → N 52 j = pJ v (cM M A) j) → EX x g (xmL YX8_joins) N 64 [(0, .ref (ad g 38)), (1, .int (nI A)), (4, .int v), (5, .int u)] [] := by
      intro m
      induction m with
      | zero =>
        intro i u N hi hu h1 h2
        obtain rfl : i = 6 := by omega
        subst hu
        refine ex_iload F dX8_joins_64 rfl ?_
        refine ex_bipush (v := 6) F dX8_joins_66 (by decide) ?_
        refine ex_icmp_ge (t := 103) F dX8_joins_68 (by decide) (fun _ => ?_) (fun c => absurd (by decide) c)
        refine ex_iconst (v := 0) F dX8_joins_103 (by decide) ?_
        refine ex_istore F dX8_joins_104 (by decide) ?_
        refine ex_weak2 (key2 6 0 _ N (by omega) rfl (fun y => ?_) (fun q _ q2 => h1 q q2) h2) ⟨rfl, rfl, rfl, rfl, trivial⟩
        rw [h1 51 (by decide)]
        by_cases hc : A + 6 ≤ y ∧ y ≤ A + 12
        · rw [if_pos hc, stJ, if_neg (by omega)]
          by_cases hd : y - (A + 6) = 0
          · rw [if_pos hd, eJ, if_pos hd, cM_o (by decide) (by decide), show y = A + 6 by omega]
          · rw [if_neg hd, cM_o (by omega) (by omega), show A + (y - (A + 6) + 6) = y by omega]
        · rw [if_neg hc]
      | succ m ih =>
        intro i u N hi hu h1 h2
        subst hu
        refine ex_iload F dX8_joins_64 rfl ?_
        refine ex_bipush (v := 6) F dX8_joins_66 (by decide) ?_
        refine ex_icmp_ge (t := 103) F dX8_joins_68 (by decide) (fun c => absurd c (nI_ge (b := 6) (by omega) (by decide))) (fun _ => ?_)
        refine ex_aload_n F dX8_joins_71 rfl rfl ?_
        refine gf_8_25 F dX8_joins_72 fl_X8_49 ?_
        refine ex_iload F dX8_joins_75 rfl ?_
        refine ex_iload F dX8_joins_77 rfl ?_
        refine ex_aload_n F dX8_joins_79 rfl rfl ?_
        refine gf_8_23 F dX8_joins_80 fl_X8_46 ?_
        refine ex_iload_n F dX8_joins_83 rfl rfl ?_
        refine ex_bipush (v := 6) F dX8_joins_84 (by decide) ?_
        refine ex_iadd F dX8_joins_86 ?_
        refine ex_iload F dX8_joins_87 rfl ?_
        refine ex_iadd F dX8_joins_89 ?_
        refine ex_iald (n := 80) F dX8_joins_90 (by decide) (ixA2 (k := 6) hA (by omega)) (j := A + (6 + i)) (ixB2 (k := 6) hA (by omega)) ?_
        refine ex_imul F dX8_joins_91 ?_
        refine ex_sipush (v := 200) F dX8_joins_92 (by decide) ?_
        refine ex_idiv F dX8_joins_95 (by decide) ?_
        refine ex_iast (n := 7) F dX8_joins_96 (by decide) (vp_in_nI (by omega) (by decide)) (j := i) (nI_clamp (by omega)) ?_
        refine ex_iinc (w := _ + 1) F dX8_joins_97 rfl rfl (by decide) ?_
        refine ex_goto (t := 64) F dX8_joins_100 (by decide) ?_
        refine ex_weak2 (ih (i + 1) _ _ (by omega) (nI_1 i) (fun q q2 => ?_) (fun j hj => ?_)) ⟨rfl, rfl, rfl, rfl, trivial⟩
        · rw [mu_k _ _ _ _ _ q2]; exact h1 q q2
        · by_cases hji : j = i
          · subst hji
            rw [mu_same, h1 51 (by decide), pJ, cM_o (by omega) (by omega), show j + 6 = 6 + j by omega]
          · rw [mu_j _ _ _ _ _ hji]; exact h2 j (by omega)
    refine ex_iconst (v := 0) F dX8_joins_61 (by decide) ?_
    refine ex_istore F dX8_joins_62 (by decide) ?_
    exact ex_weak2 (key1 6 0 _ M (by omega) rfl (fun _ _ => rfl) (fun j hj => absurd hj (Nat.not_lt_zero j))) ⟨rfl, rfl, rfl, rfl, trivial⟩
  refine ex_aload_n F dX8_joins_0 rfl rfl ?_
  refine ex_iload_n F dX8_joins_1 rfl rfl ?_
  refine ex_callVi F (c_X8_hardness hA hR hr hC) dX8_joins_2 cs_X8_joins_169 ob_8 rfl rfl rfl rfl (Nat.le_of_ble_eq_true rfl) (fun v2 M2 h2 => ?_)
  obtain ⟨rfl, q2⟩ := h2
  rw [q2]
  clear q2
  refine ex_istore_n F dX8_joins_5 rfl (by decide) ?_
  refine ex_aload_n F dX8_joins_6 rfl rfl ?_
  refine gf_8_23 F dX8_joins_7 fl_X8_46 ?_
  refine ex_iload_n F dX8_joins_10 rfl rfl ?_
  refine ex_iconst (v := 5) F dX8_joins_11 (by decide) ?_
  refine ex_iadd F dX8_joins_12 ?_
  refine ex_iald (n := 80) F dX8_joins_13 (by decide) (ixA (k := 5) hA (by decide)) (j := A + 5) (ixB (k := 5) hA (by decide)) ?_
  refine ex_if_le (t := 24) F dX8_joins_14 (by decide) (fun c14 => ?_) (fun c14 => ?_)
  · refine ex_iload_n F dX8_joins_24 rfl rfl ?_
    refine ex_bipush (v := 100) F dX8_joins_25 (by decide) ?_
    refine ex_iload_n F dX8_joins_27 rfl rfl ?_
    refine ex_isub F dX8_joins_28 ?_
    refine ex_imul F dX8_joins_29 ?_
    refine ex_aload_n F dX8_joins_30 rfl rfl ?_
    refine gf_8_23 F dX8_joins_31 fl_X8_46 ?_
    refine ex_iload_n F dX8_joins_34 rfl rfl ?_
    refine ex_iconst (v := 3) F dX8_joins_35 (by decide) ?_
    refine ex_iadd F dX8_joins_36 ?_
    refine ex_iald (n := 80) F dX8_joins_37 (by decide) (ixA (k := 3) hA (by decide)) (j := A + 3) (ixB (k := 3) hA (by decide)) ?_
    refine ex_imul F dX8_joins_38 ?_
    refine ex_sipush (v := 25000) F dX8_joins_39 (by decide) ?_
    refine ex_idiv F dX8_joins_42 (by decide) ?_
    refine ex_istore F dX8_joins_43 (by decide) ?_
    refine ex_iload F dX8_joins_45 rfl ?_
    refine ex_bipush (v := 100) F dX8_joins_47 (by decide) ?_
    refine ex_icmp_le (t := 57) F dX8_joins_49 (by decide) (fun c49 => ?_) (fun c49 => ?_)
    · refine ex_iload F dX8_joins_57 rfl ?_
      refine ex_istore F dX8_joins_59 (by decide) ?_
      have hn : sCome (cM M A) = false := by
        rw [cM_come hO, come0 hO c14]; rfl
      refine ex_weak2 (tail _ ?_) ⟨rfl, rfl, rfl, trivial⟩
      rw [sRate, if_neg (by rw [hn]; decide), cap100, cM_o (j := 3) (by decide) (by decide), if_pos c49]
    · refine ex_bipush (v := 100) F dX8_joins_52 (by decide) ?_
      refine ex_goto (t := 59) F dX8_joins_54 (by decide) ?_
      refine ex_istore F dX8_joins_59 (by decide) ?_
      have hn : sCome (cM M A) = false := by
        rw [cM_come hO, come0 hO c14]; rfl
      refine ex_weak2 (tail _ ?_) ⟨rfl, rfl, rfl, trivial⟩
      rw [sRate, if_neg (by rw [hn]; decide), cap100, cM_o (j := 3) (by decide) (by decide), if_neg c49]
  · refine ex_bipush (v := 20) F dX8_joins_17 (by decide) ?_
    refine ex_iload_n F dX8_joins_19 rfl rfl ?_
    refine ex_imul F dX8_joins_20 ?_
    refine ex_goto (t := 43) F dX8_joins_21 (by decide) ?_
    refine ex_istore F dX8_joins_43 (by decide) ?_
    refine ex_iload F dX8_joins_45 rfl ?_
    refine ex_bipush (v := 100) F dX8_joins_47 (by decide) ?_
    refine ex_icmp_le (t := 57) F dX8_joins_49 (by decide) (fun c49 => ?_) (fun c49 => ?_)
    · refine ex_iload F dX8_joins_57 rfl ?_
      refine ex_istore F dX8_joins_59 (by decide) ?_
      have hn : sCome (cM M A) = true := by
        rw [cM_come hO, come1 c14]; rfl
      refine ex_weak2 (tail _ ?_) ⟨rfl, rfl, rfl, trivial⟩
      rw [sRate, if_pos hn, cap100, if_pos c49]
    · refine ex_bipush (v := 100) F dX8_joins_52 (by decide) ?_
      refine ex_goto (t := 59) F dX8_joins_54 (by decide) ?_
      refine ex_istore F dX8_joins_59 (by decide) ?_
      have hn : sCome (cM M A) = true := by
        rw [cM_come hO, come1 c14]; rfl
      refine ex_weak2 (tail _ ?_) ⟨rfl, rfl, rfl, trivial⟩
      rw [sRate, if_pos hn, cap100, if_neg c49]
