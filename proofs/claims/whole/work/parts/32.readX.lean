def shO (M : Mem) (q : Nat) : Prop := M q 2 = -1 ∨ ∃ z, z ≤ 40 ∧ M q 2 = nI z
def sBadAt (M : Mem) (q : Nat) (f : Int32) : Nat → Nat → Int32
  | 0, _ => 0
  | m + 1, i => if badT (sCell M q (f + 2 * nI i)) (sCell M q (f + 2 * nI i + 1)) = true then -20 - nI i else sBadAt M q f m (i + 1)
def sDo (r : Nat → Int32) (M : Mem) (q : Nat) (f : Int32) : Nat → (Nat → Int32) → Nat → Int32
  | 0, c => c
  | i + 1, c => itT r (sCell M q (f + 2 * nI i + 1)) (sCell M q (f + 2 * nI i)).toNatClampNeg (sDo r M q f i c)
theorem sBad_all {M : Mem} {q : Nat} {f : Int32} : ∀ (m i : Nat), i + m ≤ 20 → sBadAt M q f m i = 0 → ∀ j, i ≤ j → j < i + m → badT (sCell M q (f + 2 * nI j)) (sCell M q (f + 2 * nI j + 1)) = false := by
  intro m
  induction m with
  | zero => intro i _ _ j h1 h2; omega
  | succ m ih =>
    intro i hi h j h1 h2
    rw [sBadAt] at h
    by_cases hb : badT (sCell M q (f + 2 * nI i)) (sCell M q (f + 2 * nI i + 1)) = true
    · rw [if_pos hb] at h
      exfalso
      have h3 := congrArg Int32.toInt h
      have e20 : (-20 : Int32).toInt = -20 := by decide
      rw [Jvm.Kit.i32_sub (by rw [e20, nI_toInt (by omega)]; omega) (by rw [e20, nI_toInt (by omega)]; omega), e20, nI_toInt (by omega)] at h3
      have e0 : (0 : Int32).toInt = 0 := by decide
      rw [e0] at h3
      omega
    · rw [if_neg hb] at h
      by_cases hj : j = i
      · subst hj; simpa using hb
      · exact ih (i + 1) (by omega) h j (by omega) (by omega)
theorem pairs_n {M : Mem} {q : Nat} {la f : Int32} {nn : Nat} (h : shO M q) (ln : nn ≤ 20) : ∃ wn, wn ≤ nn ∧ sPairs M q la f (nI nn) = nI wn := by
  unfold sPairs
  by_cases hb : (!sThere M q || (!decide (M q 1 = la) || (decide (f < 0) || decide (M q 2 ≤ f)))) = true
  · exact ⟨0, Nat.zero_le _, by rw [if_pos hb]; rfl⟩
  · rw [if_neg hb]
    simp only [Bool.or_eq_true, Bool.not_eq_true', decide_eq_true_eq, not_or, Bool.not_eq_false, decide_eq_false_iff_not] at hb
    obtain ⟨h1, -, h3, h4⟩ := hb
    rcases h with h | ⟨z, lz, ez⟩
    · rw [sThere, h] at h1; simp at h1
    · obtain ⟨ff, lf, rfl⟩ := nI_of h3
      have hlt : ff < z := by
        rw [ez] at h4
        exact nI_ltof lf h4
      have e : (M q 2 - nI ff) / 2 = nI ((z - ff) / 2) := by rw [ez, pk_sub (by omega), show (2 : Int32) = nI 2 from rfl, pk_div (by omega) (by decide) (by decide)]
      rw [e]
      by_cases hm : nI ((z - ff) / 2) < nI nn
      · exact ⟨(z - ff) / 2, Nat.le_of_lt ((nI_ltI (by omega) (by omega)).mp hm), by rw [if_pos hm]⟩
      · exact ⟨nn, Nat.le_refl _, by rw [if_neg hm]⟩
theorem sCell_put {M : Mem} {c : Nat → Int32} {q : Nat} (h : isO 4 q) (i : Int32) : sCell (putC M 14 c) q i = sCell M q i := by
  obtain ⟨a1, a2, a3, a4, -⟩ := sq_ne h
  unfold sCell
  rw [rd_o a1 a2, rd_o a3 a4]
theorem sFault_put {M : Mem} {c : Nat → Int32} {q : Nat} (h : isO 4 q) (la : Int32) : sFaultAs (putC M 14 c) q la = sFaultAs M q la := by
  obtain ⟨a1, a2, -⟩ := sq_ne h
  unfold sFaultAs sThere
  rw [rd_o a1 a2]
theorem neg20 {i : Nat} (hi : i ≤ 20) : ¬ (-20 - nI i : Int32) = 0 := by
  intro h
  have h3 := congrArg Int32.toInt h
  have e20 : (-20 : Int32).toInt = -20 := by decide
  rw [Jvm.Kit.i32_sub (by rw [e20, nI_toInt (by omega)]; omega) (by rw [e20, nI_toInt (by omega)]; omega), e20, nI_toInt (by omega)] at h3
  have e0 : (0 : Int32).toInt = 0 := by decide
  rw [e0] at h3
  omega
theorem cs_X7_read_241 : CSV (xmN YX7_read).cls (xmF YX7_read) (xmW YX7_read) 241 1 YX7_sheetAt := ⟨⟨ml_X7_241, ini_X7, cd_X7_sheetAt, by decide +kernel, by decide⟩, im_X7_sheetAt, se_X7_sheetAt⟩
theorem cs_X7_read_85 : CSS (xmN YX7_read).cls (xmF YX7_read) (xmW YX7_read) 85 3 YX7_outside := ⟨⟨ml_X7_85, ini_X7, cd_X7_outside, by decide +kernel, by decide⟩, st_X7_outside⟩
theorem cs_X7_read_250 : CSV (xmN YX7_read).cls (xmF YX7_read) (xmW YX7_read) 250 3 YX4_pairsWhole := ⟨⟨ml_X7_250, ini_X4, cd_X4_pairsWhole, by decide +kernel, by decide⟩, im_X4_pairsWhole, se_X4_pairsWhole⟩
theorem cs_X7_read_254 : CSV (xmN YX7_read).cls (xmF YX7_read) (xmW YX7_read) 254 1 YX4_cellAt := ⟨⟨ml_X7_254, ini_X4, cd_X4_cellAt, by decide +kernel, by decide⟩, im_X4_cellAt, se_X4_cellAt⟩
theorem cs_X7_read_140 : CSS (xmN YX7_read).cls (xmF YX7_read) (xmW YX7_read) 140 2 YX7_isBadTurn := ⟨⟨ml_X7_140, ini_X7, cd_X7_isBadTurn, by decide +kernel, by decide⟩, st_X7_isBadTurn⟩
theorem cs_X7_read_144 : CSV (xmN YX7_read).cls (xmF YX7_read) (xmW YX7_read) 144 2 YX7_turnChurn := ⟨⟨ml_X7_144, ini_X7, cd_X7_turnChurn, by decide +kernel, by decide⟩, im_X7_turnChurn, se_X7_turnChurn⟩
theorem cs_X7_read_257 : CSV (xmN YX7_read).cls (xmF YX7_read) (xmW YX7_read) 257 1 YX4_faultAs := ⟨⟨ml_X7_257, ini_X4, cd_X4_faultAs, by decide +kernel, by decide⟩, im_X4_faultAs, se_X4_faultAs⟩
set_option maxRecDepth 100000 in
theorem c_X7_read {l : Launch} {g : XG} {M : Mem} {k0 la f n0 : Int32} (hR : okR (M 2)) (hsh : ∀ q, isO 4 q → shO M q) : Call l g YX7_read [.ref (ad g 0), .int k0, .int la, .int f, .int n0] M (PI (fun v M' => v = (if (outN k0 4 || (outB la 0 2 || outB n0 0 20)) = true then -1 else if sBadAt M (27 + 2 * k0.toNatClampNeg) f (sPairs M (27 + 2 * k0.toNatClampNeg) la f n0).toNatClampNeg 0 = 0 then (sPairs M (27 + 2 * k0.toNatClampNeg) la f n0) else sBadAt M (27 + 2 * k0.toNatClampNeg) f (sPairs M (27 + 2 * k0.toNatClampNeg) la f n0).toNatClampNeg 0) ∧ M' = (if (outN k0 4 || (outB la 0 2 || outB n0 0 20)) = true then M else if sBadAt M (27 + 2 * k0.toNatClampNeg) f (sPairs M (27 + 2 * k0.toNatClampNeg) la f n0).toNatClampNeg 0 = 0 then mu (putC M 14 (sDo (M 2) M (27 + 2 * k0.toNatClampNeg) f (sPairs M (27 + 2 * k0.toNatClampNeg) la f n0).toNatClampNeg (cX M 14))) 0 11 (if (sPairs M (27 + 2 * k0.toNatClampNeg) la f n0) = n0 then 0 else sFaultAs M (27 + 2 * k0.toNatClampNeg) la) else M))) := by
  refine call_of (by decide +kernel) (Nat.le_of_ble_eq_true rfl) (fun x hxl F R => ?_)
  subst hxl
  refine ex_aload_n F dX7_read_0 rfl rfl ?_
  refine ex_iload_n F dX7_read_1 rfl rfl ?_
  refine ex_callVa F (c_X7_sheetAt) dX7_read_2 cs_X7_read_241 ob_7 rfl rfl rfl rfl (Nat.le_of_ble_eq_true rfl) (fun v2 M2 h2 => ?_)
  obtain ⟨e2, q2⟩ := h2
  rw [q2]
  clear q2
  by_cases hb : outN k0 4 = true
  · rw [if_pos hb] at e2
    subst e2
    refine ex_astoreN F dX7_read_5 (by decide) ?_
    refine ex_aloadN F dX7_read_7 rfl ?_
    refine ex_ifnullN (t := 32) F dX7_read_9 (by decide) ?_
    refine ex_iconst (v := -1) F dX7_read_32 (by decide) ?_
    exact ex_iret F R dX7_read_33 rfl (⟨by rw [if_pos (by simp [hb])], by rw [if_pos (by simp [hb])]⟩)
  · rw [if_neg hb] at e2
    have hq : ∃ q, q = 27 + 2 * k0.toNatClampNeg := ⟨_, rfl⟩
    obtain ⟨q, hq⟩ := hq
    rw [← hq] at e2 R
    subst e2
    have hs : isO 4 q := by
      have lk : k0.toNatClampNeg < 4 := outN_lt (b := 4) (n := 4) (by decide) (by simpa using hb)
      have : k0.toNatClampNeg = 0 ∨ k0.toNatClampNeg = 1 ∨ k0.toNatClampNeg = 2 ∨ k0.toNatClampNeg = 3 := by omega
      rcases this with e | e | e | e <;> (rw [hq, e]; decide)
    have hqn := sq_ne hs
    refine ex_astore F dX7_read_5 (by decide) ?_
    refine ex_aload F dX7_read_7 rfl ?_
    refine ex_ifnull F dX7_read_9 ?_
    refine ex_iload_n F dX7_read_12 rfl rfl ?_
    refine ex_iconst (v := 0) F dX7_read_13 (by decide) ?_
    refine ex_iconst (v := 2) F dX7_read_14 (by decide) ?_
    refine ex_callSi F (c_X7_outside) dX7_read_15 cs_X7_read_85 rfl rfl (Nat.le_of_ble_eq_true rfl) (fun v15 M15 h15 => ?_)
    obtain ⟨rfl, q15⟩ := h15
    rw [q15]
    clear q15
    refine ex_if_ne (t := 32) F dX7_read_18 (by decide) (fun c18 => ?_) (fun c18 => ?_)
    · refine ex_iconst (v := -1) F dX7_read_32 (by decide) ?_
      exact ex_iret F R dX7_read_33 rfl (⟨by rw [if_pos (by simp [b2i_1.mp c18])], by rw [if_pos (by simp [b2i_1.mp c18])]⟩)
    · refine ex_iload F dX7_read_21 rfl ?_
      refine ex_iconst (v := 0) F dX7_read_23 (by decide) ?_
      refine ex_bipush (v := 20) F dX7_read_24 (by decide) ?_
      refine ex_callSi F (c_X7_outside) dX7_read_26 cs_X7_read_85 rfl rfl (Nat.le_of_ble_eq_true rfl) (fun v26 M26 h26 => ?_)
      obtain ⟨rfl, q26⟩ := h26
      rw [q26]
      clear q26
      refine ex_if_eq (t := 34) F dX7_read_29 (by decide) (fun c29 => ?_) (fun c29 => ?_)
      · have hbad : (outN k0 4 || (outB la 0 2 || outB n0 0 20)) = false := by simp [hb, b2i_0.mp c18, b2i_0.mp c29]
        obtain ⟨nn, -, ln, en⟩ := outB_n (a := 0) (b := 20) (by decide) (b2i_0.mp c29) (by decide)
        obtain ⟨wn, lwn, ewn⟩ := pairs_n (la := la) (f := f) (hsh q hs) ln
        rw [← en] at ewn
        have ew2 : (sPairs M q la f n0).toNatClampNeg = wn := by rw [ewn]; exact nI_clamp (by omega)
        rw [ew2] at R
        obtain ⟨B0, hB0⟩ : ∃ B0, sBadAt M q f wn 0 = B0 := ⟨_, rfl⟩
        rw [hB0] at R
        refine ex_aload F dX7_read_34 rfl ?_
        refine ex_iload_n F dX7_read_36 rfl rfl ?_
        refine ex_iload_n F dX7_read_37 rfl rfl ?_
        refine ex_iload F dX7_read_38 rfl ?_
        refine ex_callVi F (c_X4_pairsWhole hs) dX7_read_40 cs_X7_read_250 (ob_4 hs) rfl rfl rfl rfl (Nat.le_of_ble_eq_true rfl) (fun v40 M40 h40 => ?_)
        obtain ⟨e40, q40⟩ := h40
        rw [q40]
        clear q40
        rw [ewn] at e40 R
        subst e40
        refine ex_istore F dX7_read_43 (by decide) ?_
        refine ex_iconst (v := 0) F dX7_read_45 (by decide) ?_
        refine ex_istore F dX7_read_46 (by decide) ?_
        have key : ∀ (m i : Nat) (v : Int32), i + m = wn → v = nI i → sBadAt M q f m i = B0 → EX x g (xmL YX7_read) M 48 [(0, .ref (ad g 0)), (2, .int la), (3, .int f), (4, .int n0), (5, .ref (ad g q)), (6, .int (nI wn)), (7, .int v)] [] := by
          intro m
          induction m with
          | zero =>
            intro i v hi hv hB
            obtain rfl : wn = i := by omega
            subst hv
            have hB : B0 = 0 := hB.symm
            subst hB
            refine ex_iload F dX7_read_48 rfl ?_
            refine ex_iload F dX7_read_50 rfl ?_
            refine ex_icmp_ge (t := 97) F dX7_read_52 (by decide) (fun _ => ?_) (fun c => absurd (Int32.le_refl _) c)
            refine ex_iconst (v := 0) F dX7_read_97 (by decide) ?_
            refine ex_istore F dX7_read_98 (by decide) ?_
            have ngood := sBad_all wn 0 (by omega) hB0
            have key2 : ∀ (m i : Nat) (v : Int32), i + m = wn → v = nI i → EX x g (xmL YX7_read) (putC M 14 (sDo (M 2) M q f i (cX M 14))) 100 [(0, .ref (ad g 0)), (2, .int la), (3, .int f), (4, .int n0), (5, .ref (ad g q)), (6, .int (nI wn)), (7, .int v)] [] := by
              intro m
              induction m with
              | zero =>
                intro i v hi hv
                obtain rfl : wn = i := by omega
                subst hv
                refine ex_iload F dX7_read_100 rfl ?_
                refine ex_iload F dX7_read_102 rfl ?_
                refine ex_icmp_ge (t := 142) F dX7_read_104 (by decide) (fun _ => ?_) (fun c => absurd (Int32.le_refl _) c)
                refine ex_aload_n F dX7_read_142 rfl rfl ?_
                refine ex_iload F dX7_read_143 rfl ?_
                refine ex_iload F dX7_read_145 rfl ?_
                refine ex_icmp_ne (t := 154) F dX7_read_147 (by decide) (fun c147 => ?_) (fun c147 => ?_)
                · refine ex_aload F dX7_read_154 rfl ?_
                  refine ex_iload_n F dX7_read_156 rfl rfl ?_
                  refine ex_callVi F (c_X4_faultAs (M := putC M 14 _) hs) dX7_read_157 cs_X7_read_257 (ob_4 hs) rfl rfl rfl rfl (Nat.le_of_ble_eq_true rfl) (fun v157 M157 h157 => ?_)
                  obtain ⟨e157, q157⟩ := h157
                  rw [sFault_put hs] at e157
                  rw [q157]
                  clear q157
                  subst e157
                  refine pf_7_11 F dX7_read_160 fl_X7_260 ?_
                  refine ex_iload F dX7_read_163 rfl ?_
                  exact ex_iret F R dX7_read_165 rfl (⟨by rw [hbad, if_neg (by decide), if_pos rfl], by rw [hbad, if_neg (by decide), if_pos rfl, if_neg c147]⟩)
                · refine ex_iconst (v := 0) F dX7_read_150 (by decide) ?_
                  refine ex_goto (t := 160) F dX7_read_151 (by decide) ?_
                  refine pf_7_11 F dX7_read_160 fl_X7_260 ?_
                  refine ex_iload F dX7_read_163 rfl ?_
                  exact ex_iret F R dX7_read_165 rfl (⟨by rw [hbad, if_neg (by decide), if_pos rfl], by rw [hbad, if_neg (by decide), if_pos rfl, if_pos c147]⟩)
              | succ m ih =>
                intro i v hi hv
                subst hv
                have hg := ngood i (Nat.zero_le _) (by omega)
                refine ex_iload F dX7_read_100 rfl ?_
                refine ex_iload F dX7_read_102 rfl ?_
                refine ex_icmp_ge (t := 142) F dX7_read_104 (by decide) (fun c => absurd c (nI_ge (by omega) (by omega))) (fun _ => ?_)
                refine ex_aload_n F dX7_read_107 rfl rfl ?_
                refine ex_aload F dX7_read_108 rfl ?_
                refine ex_iload_n F dX7_read_110 rfl rfl ?_
                refine ex_iconst (v := 2) F dX7_read_111 (by decide) ?_
                refine ex_iload F dX7_read_112 rfl ?_
                refine ex_imul F dX7_read_114 ?_
                refine ex_iadd F dX7_read_115 ?_
                refine ex_callVi F (c_X4_cellAt (M := putC M 14 _) hs) dX7_read_116 cs_X7_read_254 (ob_4 hs) rfl rfl rfl rfl (Nat.le_of_ble_eq_true rfl) (fun v116 M116 h116 => ?_)
                obtain ⟨e116, q116⟩ := h116
                rw [sCell_put hs] at e116
                rw [q116]
                clear q116
                subst e116
                refine ex_aload F dX7_read_119 rfl ?_
                refine ex_iload_n F dX7_read_121 rfl rfl ?_
                refine ex_iconst (v := 2) F dX7_read_122 (by decide) ?_
                refine ex_iload F dX7_read_123 rfl ?_
                refine ex_imul F dX7_read_125 ?_
                refine ex_iadd F dX7_read_126 ?_
                refine ex_iconst (v := 1) F dX7_read_127 (by decide) ?_
                refine ex_iadd F dX7_read_128 ?_
                refine ex_callVi F (c_X4_cellAt (M := putC M 14 _) hs) dX7_read_129 cs_X7_read_254 (ob_4 hs) rfl rfl rfl rfl (Nat.le_of_ble_eq_true rfl) (fun v129 M129 h129 => ?_)
                obtain ⟨e129, q129⟩ := h129
                rw [sCell_put hs] at e129
                rw [q129]
                clear q129
                subst e129
                refine ex_callVi F (c_X7_turnChurn (M := putC M 14 _) (n := (sCell M q (f + 2 * nI i)).toNatClampNeg) hR (nI_self (badT_n hg)) (nI_tcn_lt _)) dX7_read_132 cs_X7_read_144 ob_7 rfl rfl rfl rfl (Nat.le_of_ble_eq_true rfl) (fun v132 M132 h132 => ?_)
                obtain ⟨-, q132⟩ := h132
                rw [cX_putC, putC_putC] at q132
                have q132 : M132 = putC M 14 (sDo (M 2) M q f (i + 1) (cX M 14)) := q132
                rw [q132]
                clear q132
                refine ex_pop F dX7_read_135 rfl ?_
                refine ex_iinc (w := _ + 1) F dX7_read_136 rfl rfl (by decide) ?_
                refine ex_goto (t := 100) F dX7_read_139 (by decide) ?_
                exact ex_weak2 (ih (i + 1) _ (by omega) (nI_1 i)) ⟨rfl, rfl, rfl, rfl, rfl, rfl, rfl, trivial⟩
            exact ex_M (putC_cX M 14).symm (ex_weak2 (key2 wn 0 _ (by omega) rfl) ⟨rfl, rfl, rfl, rfl, rfl, rfl, rfl, trivial⟩)
          | succ m ih =>
            intro i v hi hv hB
            subst hv
            rw [sBadAt] at hB
            refine ex_iload F dX7_read_48 rfl ?_
            refine ex_iload F dX7_read_50 rfl ?_
            refine ex_icmp_ge (t := 97) F dX7_read_52 (by decide) (fun c => absurd c (nI_ge (by omega) (by omega))) (fun _ => ?_)
            refine ex_aload F dX7_read_55 rfl ?_
            refine ex_iload_n F dX7_read_57 rfl rfl ?_
            refine ex_iconst (v := 2) F dX7_read_58 (by decide) ?_
            refine ex_iload F dX7_read_59 rfl ?_
            refine ex_imul F dX7_read_61 ?_
            refine ex_iadd F dX7_read_62 ?_
            refine ex_callVi F (c_X4_cellAt hs) dX7_read_63 cs_X7_read_254 (ob_4 hs) rfl rfl rfl rfl (Nat.le_of_ble_eq_true rfl) (fun v63 M63 h63 => ?_)
            obtain ⟨rfl, q63⟩ := h63
            rw [q63]
            clear q63
            refine ex_aload F dX7_read_66 rfl ?_
            refine ex_iload_n F dX7_read_68 rfl rfl ?_
            refine ex_iconst (v := 2) F dX7_read_69 (by decide) ?_
            refine ex_iload F dX7_read_70 rfl ?_
            refine ex_imul F dX7_read_72 ?_
            refine ex_iadd F dX7_read_73 ?_
            refine ex_iconst (v := 1) F dX7_read_74 (by decide) ?_
            refine ex_iadd F dX7_read_75 ?_
            refine ex_callVi F (c_X4_cellAt hs) dX7_read_76 cs_X7_read_254 (ob_4 hs) rfl rfl rfl rfl (Nat.le_of_ble_eq_true rfl) (fun v76 M76 h76 => ?_)
            obtain ⟨rfl, q76⟩ := h76
            rw [q76]
            clear q76
            refine ex_callSi F (c_X7_isBadTurn) dX7_read_79 cs_X7_read_140 rfl rfl (Nat.le_of_ble_eq_true rfl) (fun v79 M79 h79 => ?_)
            obtain ⟨rfl, q79⟩ := h79
            rw [q79]
            clear q79
            refine ex_if_eq (t := 91) F dX7_read_82 (by decide) (fun c82 => ?_) (fun c82 => ?_)
            · refine ex_iinc (w := _ + 1) F dX7_read_91 rfl rfl (by decide) ?_
              refine ex_goto (t := 48) F dX7_read_94 (by decide) ?_
              rw [if_neg (by rw [b2i_0.mp c82]; decide)] at hB
              exact ex_weak2 (ih (i + 1) _ (by omega) (nI_1 i) hB) ⟨rfl, rfl, rfl, rfl, rfl, rfl, rfl, trivial⟩
            · refine ex_bipush (v := -20) F dX7_read_85 (by decide) ?_
              refine ex_iload F dX7_read_87 rfl ?_
              refine ex_isub F dX7_read_89 ?_
              exact ex_iret F R dX7_read_90 rfl (have hB2 : B0 = -20 - nI i := (by rw [← hB, if_pos (b2i_1.mp c82)]); have hn0 : ¬ B0 = 0 := (by rw [hB2]; exact neg20 (by omega)); ⟨by rw [hbad, if_neg (by decide), if_neg hn0, hB2], by rw [hbad, if_neg (by decide), if_neg hn0]⟩)
        exact ex_weak2 (key wn 0 _ (by omega) rfl hB0) ⟨rfl, rfl, rfl, rfl, rfl, rfl, rfl, trivial⟩
      · refine ex_iconst (v := -1) F dX7_read_32 (by decide) ?_
        exact ex_iret F R dX7_read_33 rfl (⟨by rw [if_pos (by simp [b2i_1.mp c29])], by rw [if_pos (by simp [b2i_1.mp c29])]⟩)
