theorem capLe (k x : Int32) : (if x < k then x else k) = if x ≤ k then x else k := by
  by_cases h : x < k
  · rw [if_pos h, if_pos (Int32.le_of_lt h)]
  · rw [if_neg h]
    by_cases h2 : x ≤ k
    · rw [if_pos h2]
      rcases Int32.lt_or_eq_of_le h2 with q | q
      · exact absurd q h
      · exact q.symm
    · rw [if_neg h2]
theorem okM_fr {M N : Mem} {A : Nat} (h : okM M A) (e : N 51 (A + 5) = M 51 (A + 5)) : okM N A := by
  obtain ⟨t, lt, q⟩ := h
  exact ⟨t, lt, by rw [e, q]⟩
theorem okR_6 {r : Nat → Int32} (hR : okR r) : ∃ n, r 6 = nI n ∧ 1 ≤ n ∧ n ≤ 99 := by
  obtain ⟨f, h1, h2⟩ := hR
  exact ⟨f 6, h1 6 (by decide), h2.2.2.2.2.2.2.1.1, h2.2.2.2.2.2.2.1.2⟩
theorem cs_X8_turns_172 : CSV (xmN YX8_turns).cls (xmF YX8_turns) (xmW YX8_turns) 172 1 YX8_isSwollen := ⟨⟨ml_X8_172, ini_X8, cd_X8_isSwollen, by decide +kernel, by decide⟩, im_X8_isSwollen, se_X8_isSwollen⟩
theorem cs_X8_turns_175 : CSV (xmN YX8_turns).cls (xmF YX8_turns) (xmW YX8_turns) 175 2 YX8_joins := ⟨⟨ml_X8_175, ini_X8, cd_X8_joins, by decide +kernel, by decide⟩, im_X8_joins, se_X8_joins⟩
theorem cs_X8_turns_179 : CSV (xmN YX8_turns).cls (xmF YX8_turns) (xmW YX8_turns) 179 2 YX8_fatFrom := ⟨⟨ml_X8_179, ini_X8, cd_X8_fatFrom, by decide +kernel, by decide⟩, im_X8_fatFrom, se_X8_fatFrom⟩
set_option maxRecDepth 100000 in
theorem c_X8_turns {l : Launch} {g : XG} {M : Mem} {A T : Nat} {r : Nat → Int32} (hA : A ≤ 64) (hR : okR r) (hr : mR M r) (hC : okC T (cM M A)) (hO : okM M A) (hT : T + 2 < 2 ^ 31) {p : Int32} : Call l g YX8_turns [.ref (ad g 38), .int (nI A), .int p] M (PI (fun v M' => v = b2i (!sSwell r (cM M A)) ∧ cM M' A = sTurn r p (cM M A) ∧ frS M M' A ∧ okM M' A)) := by
  refine call_of (by decide +kernel) (Nat.le_of_ble_eq_true rfl) (fun x hxl F R => ?_)
  subst hxl
  obtain ⟨hf, hh, hh1, hh2⟩ := okR_6 hR
  obtain ⟨gn, hgr, hg3, hg6⟩ := okR_grain hR
  have hsg : sGrain r = gn := by rw [sGrain, hgr]; exact nI_clamp (by omega)
  have tail : ∀ (N : Mem) (v : Int32) (c1 : Nat → Int32), v = b2i (!sSwell r (cM M A)) → c1 = sTurn1 r p (cM M A) → cM N A = c1 → frS M N A → okM N A → EX x g (xmL YX8_turns) N 147 [(0, .ref (ad g 38)), (1, .int (nI A)), (2, .int p), (3, .int v)] [] := by
    intro N v c1 hv hc1 hc hfr hON
    have e4 : N 51 (A + 4) = c1 4 := by rw [← hc, cM_o (by decide) (by decide)]
    have e1 : N 51 (A + 1) = c1 1 := by rw [← hc, cM_o (by decide) (by decide)]
    have h6 : N 47 6 = r 6 := mR_fr hr hfr 6 (by decide)
    refine ex_aload_n F dX8_turns_147 rfl rfl ?_
    refine gf_8_23 F dX8_turns_148 fl_X8_46 ?_
    refine ex_iload_n F dX8_turns_151 rfl rfl ?_
    refine ex_iconst (v := 4) F dX8_turns_152 (by decide) ?_
    refine ex_iadd F dX8_turns_153 ?_
    refine ex_dup2 F dX8_turns_154 rfl rfl ?_
    refine ex_iald (n := 80) F dX8_turns_155 (by decide) (ixA (k := 4) hA (by decide)) (j := A + 4) (ixB (k := 4) hA (by decide)) ?_
    refine ex_iconst (v := 1) F dX8_turns_156 (by decide) ?_
    refine ex_iadd F dX8_turns_157 ?_
    refine ex_iast (n := 80) F dX8_turns_158 (by decide) (ixA (k := 4) hA (by decide)) (j := A + 4) (ixB (k := 4) hA (by decide)) ?_
    refine ex_aload_n F dX8_turns_159 rfl rfl ?_
    refine gf_8_23 F dX8_turns_160 fl_X8_46 ?_
    refine ex_iload_n F dX8_turns_163 rfl rfl ?_
    refine ex_iconst (v := 4) F dX8_turns_164 (by decide) ?_
    refine ex_iadd F dX8_turns_165 ?_
    refine ex_iald (n := 80) F dX8_turns_166 (by decide) (ixA (k := 4) hA (by decide)) (j := A + 4) (ixB (k := 4) hA (by decide)) ?_
    refine ex_aload_n F dX8_turns_167 rfl rfl ?_
    refine gf_8_16 F dX8_turns_168 fl_X8_34 ?_
    refine ex_bipush (v := 6) F dX8_turns_171 (by decide) ?_
    refine ex_iald (n := 13) F dX8_turns_173 (by decide) (vpd (by decide)) (j := 6) (by decide) ?_
    rw [mu_same, mu_k _ _ _ 47 _ (by decide), h6, e4]
    refine ex_irem F dX8_turns_174 (by rw [hh]; exact nI_ne0 (by omega) (by omega)) ?_
    refine ex_if_ne (t := 214) F dX8_turns_175 (by decide) (fun c175 => ?_) (fun c175 => ?_)
    · refine ex_iload_n F dX8_turns_214 rfl rfl ?_
      exact ex_zret (ty := .boolean) F R dX8_turns_215 rfl (by rw [hv]; exact narrow_b2i _) (⟨hv, by rw [sTurn, ← hc1, sTick, if_neg c175, cM_mu (by decide) (by decide), hc], frS_tr hfr (frS_mu _ (by decide)), okM_fr hON (by rw [mu_j _ _ _ _ _ (by omega)])⟩)
    · refine ex_aload_n F dX8_turns_178 rfl rfl ?_
      refine gf_8_23 F dX8_turns_179 fl_X8_46 ?_
      refine ex_iload_n F dX8_turns_182 rfl rfl ?_
      refine ex_iconst (v := 1) F dX8_turns_183 (by decide) ?_
      refine ex_iadd F dX8_turns_184 ?_
      refine ex_iald (n := 80) F dX8_turns_185 (by decide) (ixA (k := 1) hA (by decide)) (j := A + 1) (ixB (k := 1) hA (by decide)) ?_
      rw [mu_j _ _ _ _ _ (show A + 1 ≠ A + 4 by omega), e1]
      refine ex_iload_n F dX8_turns_186 rfl rfl ?_
      refine ex_iadd F dX8_turns_187 ?_
      refine ex_istore F dX8_turns_188 (by decide) ?_
      refine ex_aload_n F dX8_turns_190 rfl rfl ?_
      refine gf_8_23 F dX8_turns_191 fl_X8_46 ?_
      refine ex_iload_n F dX8_turns_194 rfl rfl ?_
      refine ex_iconst (v := 1) F dX8_turns_195 (by decide) ?_
      refine ex_iadd F dX8_turns_196 ?_
      refine ex_iload F dX8_turns_197 rfl ?_
      refine ex_sipush (v := 400) F dX8_turns_199 (by decide) ?_
      refine ex_icmp_le (t := 211) F dX8_turns_202 (by decide) (fun c202 => ?_) (fun c202 => ?_)
      · refine ex_iload F dX8_turns_211 rfl ?_
        refine ex_iast (n := 80) F dX8_turns_213 (by decide) (ixA (k := 1) hA (by decide)) (j := A + 1) (ixB (k := 1) hA (by decide)) ?_
        refine ex_iload_n F dX8_turns_214 rfl rfl ?_
        exact ex_zret (ty := .boolean) F R dX8_turns_215 rfl (by rw [hv]; exact narrow_b2i _) (⟨hv, by rw [sTurn, ← hc1, sTick, if_pos c175, capLe, if_pos c202, cM_mu (by decide) (by decide), cM_mu (by decide) (by decide), hc], frS_tr hfr (frS_tr (frS_mu _ (by decide)) (frS_mu _ (by decide))), okM_fr hON (by rw [mu_j _ _ _ _ _ (by omega), mu_j _ _ _ _ _ (by omega)])⟩)
      · refine ex_sipush (v := 400) F dX8_turns_205 (by decide) ?_
        refine ex_goto (t := 213) F dX8_turns_208 (by decide) ?_
        refine ex_iast (n := 80) F dX8_turns_213 (by decide) (ixA (k := 1) hA (by decide)) (j := A + 1) (ixB (k := 1) hA (by decide)) ?_
        refine ex_iload_n F dX8_turns_214 rfl rfl ?_
        exact ex_zret (ty := .boolean) F R dX8_turns_215 rfl (by rw [hv]; exact narrow_b2i _) (⟨hv, by rw [sTurn, ← hc1, sTick, if_pos c175, capLe, if_neg c202, cM_mu (by decide) (by decide), cM_mu (by decide) (by decide), hc], frS_tr hfr (frS_tr (frS_mu _ (by decide)) (frS_mu _ (by decide))), okM_fr hON (by rw [mu_j _ _ _ _ _ (by omega), mu_j _ _ _ _ _ (by omega)])⟩)
  have tail72 : ∀ (N : Mem), sSwell r (cM M A) = false → cM N A = sAir r p (cM M A) → frS M N A → N 51 (A + 5) = M 51 (A + 5) → EX x g (xmL YX8_turns) N 72 [(0, .ref (ad g 38)), (1, .int (nI A)), (2, .int p), (3, .int 1)] [] := by
    intro N hs hcN hfr h5
    have hON := okM_fr hO h5
    refine ex_aload_n F dX8_turns_72 rfl rfl ?_
    refine ex_iload_n F dX8_turns_73 rfl rfl ?_
    refine ex_iload_n F dX8_turns_74 rfl rfl ?_
    refine ex_callVv F (c_X8_joins hA hR (mR_fr hr hfr) (by rw [hcN]; exact okC_air hC) hON) dX8_turns_75 cs_X8_turns_175 ob_8 rfl rfl rfl rfl (Nat.le_of_ble_eq_true rfl) (fun M75 h75 => ?_)
    obtain ⟨hj1, hj2, hj3⟩ := h75
    refine ex_aload_n F dX8_turns_78 rfl rfl ?_
    refine ex_iload_n F dX8_turns_79 rfl rfl ?_
    refine ex_iconst (v := 0) F dX8_turns_80 (by decide) ?_
    refine ex_callVi F (c_X8_fatFrom (i0 := 0) hA (by decide)) dX8_turns_81 cs_X8_turns_179 ob_8 rfl rfl rfl rfl (Nat.le_of_ble_eq_true rfl) (fun v81 M81 h81 => ?_)
    obtain ⟨rfl, q81⟩ := h81
    rw [q81]
    clear q81
    refine ex_istore F dX8_turns_84 (by decide) ?_
    refine ex_aload_n F dX8_turns_86 rfl rfl ?_
    refine gf_8_23 F dX8_turns_87 fl_X8_46 ?_
    refine ex_iload_n F dX8_turns_90 rfl rfl ?_
    refine ex_iconst (v := 5) F dX8_turns_91 (by decide) ?_
    refine ex_iadd F dX8_turns_92 ?_
    refine ex_iald (n := 80) F dX8_turns_93 (by decide) (ixA (k := 5) hA (by decide)) (j := A + 5) (ixB (k := 5) hA (by decide)) ?_
    refine ex_if_ne (t := 147) F dX8_turns_94 (by decide) (fun c94 => ?_) (fun c94 => ?_)
    · have hcj : cM M75 A = sJn (sRate r p (sAir r p (cM M A))) 6 (sAir r p (cM M A)) := by rw [hj1, hcN]
      have hOj := okM_fr hON hj3
      have hsc := cM_come hOj
      rw [decide_eq_false c94] at hsc
      refine ex_weak2 (tail M75 1 _ (by rw [hs]; rfl) rfl ?_ (frS_tr hfr hj2) hOj) ⟨rfl, rfl, rfl, rfl, trivial⟩
      rw [sTurn1, if_neg (by rw [hs]; decide), ← hcj, sBreak, if_pos (by rw [hsc]; rfl)]
    · refine ex_iload F dX8_turns_97 rfl ?_
      refine ex_if_le (t := 147) F dX8_turns_99 (by decide) (fun c99 => ?_) (fun c99 => ?_)
      · have hcj : cM M75 A = sJn (sRate r p (sAir r p (cM M A))) 6 (sAir r p (cM M A)) := by rw [hj1, hcN]
        have hOj := okM_fr hON hj3
        have hsc := cM_come hOj
        rw [decide_eq_true c94] at hsc
        have hsn : ¬ sCome (cM M75 A) = true := by rw [hsc]; decide
        have hd : ¬ sDue r (cM M75 A) = true := by
          simp only [sDue, hsg, Bool.and_eq_true, decide_eq_true_eq]
          exact fun q => absurd q.1 (Int32.not_lt.mpr c99)
        refine ex_weak2 (tail M75 1 _ (by rw [hs]; rfl) rfl ?_ (frS_tr hfr hj2) hOj) ⟨rfl, rfl, rfl, rfl, trivial⟩
        rw [sTurn1, if_neg (by rw [hs]; decide), ← hcj, sBreak, if_neg hsn, if_neg hd]
      · refine ex_iconst (v := 2) F dX8_turns_102 (by decide) ?_
        refine ex_aload_n F dX8_turns_103 rfl rfl ?_
        refine ex_iload_n F dX8_turns_104 rfl rfl ?_
        refine ex_aload_n F dX8_turns_105 rfl rfl ?_
        refine gf_8_16 F dX8_turns_106 fl_X8_34 ?_
        refine ex_iconst (v := 5) F dX8_turns_109 (by decide) ?_
        refine ex_iald (n := 13) F dX8_turns_110 (by decide) (vpd (by decide)) (j := 5) (by decide) ?_
        rw [show M75 47 5 = nI gn from ((mR_fr (mR_fr hr hfr) hj2) 5 (by decide)).trans hgr]
        refine ex_callVi F (c_X8_fatFrom (i0 := gn) hA (by omega)) dX8_turns_111 cs_X8_turns_179 ob_8 rfl rfl rfl rfl (Nat.le_of_ble_eq_true rfl) (fun v111 M111 h111 => ?_)
        obtain ⟨rfl, q111⟩ := h111
        rw [q111]
        clear q111
        refine ex_imul F dX8_turns_114 ?_
        refine ex_iload F dX8_turns_115 rfl ?_
        refine ex_icmp_lt (t := 147) F dX8_turns_117 (by decide) (fun c117 => ?_) (fun c117 => ?_)
        · have hcj : cM M75 A = sJn (sRate r p (sAir r p (cM M A))) 6 (sAir r p (cM M A)) := by rw [hj1, hcN]
          have hOj := okM_fr hON hj3
          have hsc := cM_come hOj
          rw [decide_eq_true c94] at hsc
          have hsn : ¬ sCome (cM M75 A) = true := by rw [hsc]; decide
          have hd : ¬ sDue r (cM M75 A) = true := by
            simp only [sDue, hsg, Bool.and_eq_true, decide_eq_true_eq]
            exact fun q => absurd q.2 (Int32.not_le.mpr c117)
          refine ex_weak2 (tail M75 1 _ (by rw [hs]; rfl) rfl ?_ (frS_tr hfr hj2) hOj) ⟨rfl, rfl, rfl, rfl, trivial⟩
          rw [sTurn1, if_neg (by rw [hs]; decide), ← hcj, sBreak, if_neg hsn, if_neg hd]
        · refine ex_aload_n F dX8_turns_120 rfl rfl ?_
          refine gf_8_23 F dX8_turns_121 fl_X8_46 ?_
          refine ex_iload_n F dX8_turns_124 rfl rfl ?_
          refine ex_iconst (v := 5) F dX8_turns_125 (by decide) ?_
          refine ex_iadd F dX8_turns_126 ?_
          refine ex_aload_n F dX8_turns_127 rfl rfl ?_
          refine gf_8_23 F dX8_turns_128 fl_X8_46 ?_
          refine ex_iload_n F dX8_turns_131 rfl rfl ?_
          refine ex_iconst (v := 4) F dX8_turns_132 (by decide) ?_
          refine ex_iadd F dX8_turns_133 ?_
          refine ex_iald (n := 80) F dX8_turns_134 (by decide) (ixA (k := 4) hA (by decide)) (j := A + 4) (ixB (k := 4) hA (by decide)) ?_
          refine ex_iconst (v := 1) F dX8_turns_135 (by decide) ?_
          refine ex_iadd F dX8_turns_136 ?_
          refine ex_iast (n := 80) F dX8_turns_137 (by decide) (ixA (k := 5) hA (by decide)) (j := A + 5) (ixB (k := 5) hA (by decide)) ?_
          refine ex_aload_n F dX8_turns_138 rfl rfl ?_
          refine gf_8_23 F dX8_turns_139 fl_X8_46 ?_
          refine ex_iload_n F dX8_turns_142 rfl rfl ?_
          refine ex_iconst (v := 3) F dX8_turns_143 (by decide) ?_
          refine ex_iadd F dX8_turns_144 ?_
          refine ex_iconst (v := 0) F dX8_turns_145 (by decide) ?_
          refine ex_iast (n := 80) F dX8_turns_146 (by decide) (ixA (k := 3) hA (by decide)) (j := A + 3) (ixB (k := 3) hA (by decide)) ?_
          have hcj : cM M75 A = sJn (sRate r p (sAir r p (cM M A))) 6 (sAir r p (cM M A)) := by rw [hj1, hcN]
          have hOj := okM_fr hON hj3
          have hsc := cM_come hOj
          rw [decide_eq_true c94] at hsc
          have hsn : ¬ sCome (cM M75 A) = true := by rw [hsc]; decide
          have hd : sDue r (cM M75 A) = true := by
            simp only [sDue, hsg, Bool.and_eq_true, decide_eq_true_eq]
            exact ⟨Int32.not_le.mp c99, Int32.not_lt.mp c117⟩
          have h4 : cM M75 A 4 = cM M A 4 := by rw [hcj, sJn_lo 6 _ 4 (by decide), sAir_o (by decide)]
          obtain ⟨t, lt, ht⟩ := hC.2.2.1
          have e4 : M75 51 (A + 4) + 1 = nI (t + 1) := by rw [← cM_o (M := M75) (A := A) (j := 4) (by decide) (by decide), h4, ht, nI_1]
          rw [e4]
          refine ex_weak2 (tail _ 1 _ (by rw [hs]; rfl) rfl ?_ (frS_tr hfr (frS_tr hj2 (frS_tr (frS_mu _ (by decide)) (frS_mu _ (by decide))))) ⟨t + 1, by omega, by rw [mu_j _ _ _ _ _ (by omega), mu_same]⟩) ⟨rfl, rfl, rfl, rfl, trivial⟩
          rw [sTurn1, if_neg (by rw [hs]; decide), ← hcj, sBreak, if_neg hsn, if_pos hd, cM_mu (by decide) (by decide), cM_mu5 (by omega), h4, ht]
  refine ex_aload_n F dX8_turns_0 rfl rfl ?_
  refine ex_iload_n F dX8_turns_1 rfl rfl ?_
  refine ex_callVi F (c_X8_isSwollen hA hr hO) dX8_turns_2 cs_X8_turns_172 ob_8 rfl rfl rfl rfl (Nat.le_of_ble_eq_true rfl) (fun v2 M2 h2 => ?_)
  obtain ⟨rfl, q2⟩ := h2
  rw [q2]
  clear q2
  refine ex_if_ne (t := 12) F dX8_turns_5 (by decide) (fun c5 => ?_) (fun c5 => ?_)
  · refine ex_iconst (v := 0) F dX8_turns_12 (by decide) ?_
    refine ex_istore_n F dX8_turns_13 rfl (by decide) ?_
    refine ex_iload_n F dX8_turns_14 rfl rfl ?_
    refine ex_if_eq (t := 147) F dX8_turns_15 (by decide) (fun _ => ?_) (fun c => absurd (by decide) c)
    have hs := b2i_1.mp c5
    refine ex_weak2 (tail M 0 _ (by rw [hs]; rfl) rfl ?_ (frS_rf M A) hO) ⟨rfl, rfl, rfl, rfl, trivial⟩
    rw [sTurn1, if_pos hs]
  · refine ex_iconst (v := 1) F dX8_turns_8 (by decide) ?_
    refine ex_goto (t := 13) F dX8_turns_9 (by decide) ?_
    refine ex_istore_n F dX8_turns_13 rfl (by decide) ?_
    refine ex_iload_n F dX8_turns_14 rfl rfl ?_
    refine ex_if_eq (t := 147) F dX8_turns_15 (by decide) (fun c => absurd c (by decide)) (fun _ => ?_)
    refine ex_aload_n F dX8_turns_18 rfl rfl ?_
    refine gf_8_23 F dX8_turns_19 fl_X8_46 ?_
    refine ex_iload_n F dX8_turns_22 rfl rfl ?_
    refine ex_iconst (v := 5) F dX8_turns_23 (by decide) ?_
    refine ex_iadd F dX8_turns_24 ?_
    refine ex_iald (n := 80) F dX8_turns_25 (by decide) (ixA (k := 5) hA (by decide)) (j := A + 5) (ixB (k := 5) hA (by decide)) ?_
    refine ex_if_ne (t := 72) F dX8_turns_26 (by decide) (fun c26 => ?_) (fun c26 => ?_)
    · have hs := b2i_0.mp c5
      have hsc := cM_come hO
      rw [decide_eq_false c26] at hsc
      refine ex_weak2 (tail72 M hs ?_ (frS_rf M A) rfl) ⟨rfl, rfl, rfl, rfl, trivial⟩
      rw [sAir, if_pos (by rw [hsc]; rfl)]
    · refine ex_aload_n F dX8_turns_29 rfl rfl ?_
      refine gf_8_23 F dX8_turns_30 fl_X8_46 ?_
      refine ex_iload_n F dX8_turns_33 rfl rfl ?_
      refine ex_iconst (v := 3) F dX8_turns_34 (by decide) ?_
      refine ex_iadd F dX8_turns_35 ?_
      refine ex_iald (n := 80) F dX8_turns_36 (by decide) (ixA (k := 3) hA (by decide)) (j := A + 3) (ixB (k := 3) hA (by decide)) ?_
      refine ex_aload_n F dX8_turns_37 rfl rfl ?_
      refine gf_8_16 F dX8_turns_38 fl_X8_34 ?_
      refine ex_iconst (v := 3) F dX8_turns_41 (by decide) ?_
      refine ex_iald (n := 13) F dX8_turns_42 (by decide) (vpd (by decide)) (j := 3) (by decide) ?_
      refine ex_iload_n F dX8_turns_43 rfl rfl ?_
      refine ex_imul F dX8_turns_44 ?_
      refine ex_iadd F dX8_turns_45 ?_
      refine ex_istore F dX8_turns_46 (by decide) ?_
      refine ex_aload_n F dX8_turns_48 rfl rfl ?_
      refine gf_8_23 F dX8_turns_49 fl_X8_46 ?_
      refine ex_iload_n F dX8_turns_52 rfl rfl ?_
      refine ex_iconst (v := 3) F dX8_turns_53 (by decide) ?_
      refine ex_iadd F dX8_turns_54 ?_
      refine ex_iload F dX8_turns_55 rfl ?_
      refine ex_sipush (v := 1000) F dX8_turns_57 (by decide) ?_
      refine ex_icmp_le (t := 69) F dX8_turns_60 (by decide) (fun c60 => ?_) (fun c60 => ?_)
      · refine ex_iload F dX8_turns_69 rfl ?_
        refine ex_iast (n := 80) F dX8_turns_71 (by decide) (ixA (k := 3) hA (by decide)) (j := A + 3) (ixB (k := 3) hA (by decide)) ?_
        have hs := b2i_0.mp c5
        have hsc := cM_come hO
        rw [decide_eq_true c26] at hsc
        refine ex_weak2 (tail72 _ hs ?_ (frS_mu _ (by decide)) (mu_j _ _ _ _ _ (by omega))) ⟨rfl, rfl, rfl, rfl, trivial⟩
        rw [cM_mu (by decide) (by decide), sAir, if_neg (by rw [hsc]; decide), capLe, cM_o (j := 3) (by decide) (by decide), ← hr 3 (by decide), if_pos c60]
      · refine ex_sipush (v := 1000) F dX8_turns_63 (by decide) ?_
        refine ex_goto (t := 71) F dX8_turns_66 (by decide) ?_
        refine ex_iast (n := 80) F dX8_turns_71 (by decide) (ixA (k := 3) hA (by decide)) (j := A + 3) (ixB (k := 3) hA (by decide)) ?_
        have hs := b2i_0.mp c5
        have hsc := cM_come hO
        rw [decide_eq_true c26] at hsc
        refine ex_weak2 (tail72 _ hs ?_ (frS_mu _ (by decide)) (mu_j _ _ _ _ _ (by omega))) ⟨rfl, rfl, rfl, rfl, trivial⟩
        rw [cM_mu (by decide) (by decide), sAir, if_neg (by rw [hsc]; decide), capLe, cM_o (j := 3) (by decide) (by decide), ← hr 3 (by decide), if_neg c60]
