theorem told_hi {A ww : Nat} (hA : A ≤ 64) (h : 10 ≤ ww ∧ ww ≤ 16) : vp_in (nI A + 6 + nI ww - 10) 80 ∧ (nI A + 6 + nI ww - 10).toNatClampNeg = A + (ww - 10 + 6) ∧ (nI ww - 10).toNatClampNeg = ww - 10 := by
  have e : nI A + 6 + nI ww - 10 = nI (A + (ww - 10 + 6)) := by
    rw [show nI A + 6 = nI (A + 6) from nI_add A 6, nI_add]
    rw [show nI (A + 6 + ww) - 10 = nI (A + 6 + ww - 10) from pk_sub (b := 10) (by omega)]
    exact congrArg nI (by omega)
  have e2 : nI ww - 10 = nI (ww - 10) := pk_sub (b := 10) h.1
  rw [e, e2]
  exact ⟨vp_in_nI (by omega) (by decide), nI_clamp (by omega), nI_clamp (by omega)⟩
theorem cs_X8_told_169 : CSV (xmN YX8_told).cls (xmF YX8_told) (xmW YX8_told) 169 1 YX8_hardness := ⟨⟨ml_X8_169, ini_X8, cd_X8_hardness, by decide +kernel, by decide⟩, im_X8_hardness, se_X8_hardness⟩
theorem cs_X8_told_206 : CSV (xmN YX8_told).cls (xmF YX8_told) (xmW YX8_told) 206 1 YX8_left := ⟨⟨ml_X8_206, ini_X8, cd_X8_left, by decide +kernel, by decide⟩, im_X8_left, se_X8_left⟩
theorem cs_X8_told_179 : CSV (xmN YX8_told).cls (xmF YX8_told) (xmW YX8_told) 179 2 YX8_fatFrom := ⟨⟨ml_X8_179, ini_X8, cd_X8_fatFrom, by decide +kernel, by decide⟩, im_X8_fatFrom, se_X8_fatFrom⟩
theorem cs_X8_told_172 : CSV (xmN YX8_told).cls (xmF YX8_told) (xmW YX8_told) 172 1 YX8_isSwollen := ⟨⟨ml_X8_172, ini_X8, cd_X8_isSwollen, by decide +kernel, by decide⟩, im_X8_isSwollen, se_X8_isSwollen⟩
theorem cs_X8_told_209 : CSV (xmN YX8_told).cls (xmF YX8_told) (xmW YX8_told) 209 1 YX8_which := ⟨⟨ml_X8_209, ini_X8, cd_X8_which, by decide +kernel, by decide⟩, im_X8_which, se_X8_which⟩
theorem cs_X8_told_78 : CSS (xmN YX8_told).cls (xmF YX8_told) (xmW YX8_told) 78 3 YX8_in := ⟨⟨ml_X8_78, ini_X8, cd_X8_in, by decide +kernel, by decide⟩, st_X8_in⟩
set_option maxRecDepth 100000 in
theorem c_X8_told {l : Launch} {g : XG} {M : Mem} {A T : Nat} {r : Nat → Int32} (hA : A ≤ 64) (hR : okR r) (hr : mR M r) (hC : okC T (cM M A)) (hO : okM M A) {v0 : Int32} : Call l g YX8_told [.ref (ad g 38), .int (nI A), .int v0] M (PI (fun v M' => v = sTold r (cM M A) v0 ∧ M' = M)) := by
  refine call_of (by decide +kernel) (Nat.le_of_ble_eq_true rfl) (fun x hxl F R => ?_)
  subst hxl
  refine ex_iload_n F dX8_told_0 rfl rfl ?_
  by_cases w1_0 : v0 = 0
  · rw [w1_0]
    refine ex_tswIn (t := 56) F dX8_told_1 (by decide) (by decide) rfl (by decide) ?_
    refine ex_aload_n F dX8_told_56 rfl rfl ?_
    refine gf_8_23 F dX8_told_57 fl_X8_46 ?_
    refine ex_iload_n F dX8_told_60 rfl rfl ?_
    refine ex_iald (n := 80) F dX8_told_61 (by decide) (vp_in_nI (by omega) (by decide)) (j := A) (nI_clamp (by omega)) ?_
    exact ex_iret F R dX8_told_62 rfl (⟨by rw [w1_0, sTold, if_pos (by decide)]; simp [sTell]; exact (cM_o (j := 0) (by decide) (by decide)).symm, rfl⟩)
  by_cases w1_1 : v0 = 1
  · rw [w1_1]
    refine ex_tswIn (t := 63) F dX8_told_1 (by decide) (by decide) rfl (by decide) ?_
    refine ex_aload_n F dX8_told_63 rfl rfl ?_
    refine gf_8_23 F dX8_told_64 fl_X8_46 ?_
    refine ex_iload_n F dX8_told_67 rfl rfl ?_
    refine ex_iconst (v := 1) F dX8_told_68 (by decide) ?_
    refine ex_iadd F dX8_told_69 ?_
    refine ex_iald (n := 80) F dX8_told_70 (by decide) (ixA (k := 1) hA (by decide)) (j := A + 1) (ixB (k := 1) hA (by decide)) ?_
    exact ex_iret F R dX8_told_71 rfl (⟨by rw [w1_1, sTold, if_pos (by decide)]; simp [sTell]; exact (cM_o (by decide) (by decide)).symm, rfl⟩)
  by_cases w1_2 : v0 = 2
  · rw [w1_2]
    refine ex_tswIn (t := 72) F dX8_told_1 (by decide) (by decide) rfl (by decide) ?_
    refine ex_aload_n F dX8_told_72 rfl rfl ?_
    refine ex_iload_n F dX8_told_73 rfl rfl ?_
    refine ex_callVi F (c_X8_hardness hA hR hr hC) dX8_told_74 cs_X8_told_169 ob_8 rfl rfl rfl rfl (Nat.le_of_ble_eq_true rfl) (fun v74 M74 h74 => ?_)
    obtain ⟨rfl, q74⟩ := h74
    rw [q74]
    clear q74
    exact ex_iret F R dX8_told_77 rfl (⟨by rw [w1_2, sTold, if_pos (by decide)]; simp [sTell], rfl⟩)
  by_cases w1_3 : v0 = 3
  · rw [w1_3]
    refine ex_tswIn (t := 78) F dX8_told_1 (by decide) (by decide) rfl (by decide) ?_
    refine ex_aload_n F dX8_told_78 rfl rfl ?_
    refine gf_8_23 F dX8_told_79 fl_X8_46 ?_
    refine ex_iload_n F dX8_told_82 rfl rfl ?_
    refine ex_iconst (v := 3) F dX8_told_83 (by decide) ?_
    refine ex_iadd F dX8_told_84 ?_
    refine ex_iald (n := 80) F dX8_told_85 (by decide) (ixA (k := 3) hA (by decide)) (j := A + 3) (ixB (k := 3) hA (by decide)) ?_
    exact ex_iret F R dX8_told_86 rfl (⟨by rw [w1_3, sTold, if_pos (by decide)]; simp [sTell]; exact (cM_o (by decide) (by decide)).symm, rfl⟩)
  by_cases w1_4 : v0 = 4
  · rw [w1_4]
    refine ex_tswIn (t := 87) F dX8_told_1 (by decide) (by decide) rfl (by decide) ?_
    refine ex_aload_n F dX8_told_87 rfl rfl ?_
    refine gf_8_23 F dX8_told_88 fl_X8_46 ?_
    refine ex_iload_n F dX8_told_91 rfl rfl ?_
    refine ex_iconst (v := 4) F dX8_told_92 (by decide) ?_
    refine ex_iadd F dX8_told_93 ?_
    refine ex_iald (n := 80) F dX8_told_94 (by decide) (ixA (k := 4) hA (by decide)) (j := A + 4) (ixB (k := 4) hA (by decide)) ?_
    exact ex_iret F R dX8_told_95 rfl (⟨by rw [w1_4, sTold, if_pos (by decide)]; simp [sTell]; exact (cM_o (by decide) (by decide)).symm, rfl⟩)
  by_cases w1_5 : v0 = 5
  · rw [w1_5]
    refine ex_tswIn (t := 96) F dX8_told_1 (by decide) (by decide) rfl (by decide) ?_
    refine ex_aload_n F dX8_told_96 rfl rfl ?_
    refine gf_8_23 F dX8_told_97 fl_X8_46 ?_
    refine ex_iload_n F dX8_told_100 rfl rfl ?_
    refine ex_iconst (v := 5) F dX8_told_101 (by decide) ?_
    refine ex_iadd F dX8_told_102 ?_
    refine ex_iald (n := 80) F dX8_told_103 (by decide) (ixA (k := 5) hA (by decide)) (j := A + 5) (ixB (k := 5) hA (by decide)) ?_
    refine ex_if_ne (t := 112) F dX8_told_104 (by decide) (fun c104 => ?_) (fun c104 => ?_)
    · refine ex_aload_n F dX8_told_112 rfl rfl ?_
      refine gf_8_23 F dX8_told_113 fl_X8_46 ?_
      refine ex_iload_n F dX8_told_116 rfl rfl ?_
      refine ex_iconst (v := 5) F dX8_told_117 (by decide) ?_
      refine ex_iadd F dX8_told_118 ?_
      refine ex_iald (n := 80) F dX8_told_119 (by decide) (ixA (k := 5) hA (by decide)) (j := A + 5) (ixB (k := 5) hA (by decide)) ?_
      refine ex_iconst (v := 1) F dX8_told_120 (by decide) ?_
      refine ex_isub F dX8_told_121 ?_
      exact ex_iret F R dX8_told_122 rfl (⟨by rw [w1_5, sTold, if_pos (by decide)]; simp [sTell]; rw [cM_5, if_neg c104], rfl⟩)
    · refine ex_bipush (v := -4) F dX8_told_107 (by decide) ?_
      refine ex_goto (t := 122) F dX8_told_109 (by decide) ?_
      exact ex_iret F R dX8_told_122 rfl (⟨by rw [w1_5, sTold, if_pos (by decide)]; simp [sTell]; rw [cM_5, if_pos c104], rfl⟩)
  by_cases w1_6 : v0 = 6
  · rw [w1_6]
    refine ex_tswIn (t := 123) F dX8_told_1 (by decide) (by decide) rfl (by decide) ?_
    refine ex_aload_n F dX8_told_123 rfl rfl ?_
    refine ex_iload_n F dX8_told_124 rfl rfl ?_
    refine ex_callVi F (c_X8_left hA hR hr) dX8_told_125 cs_X8_told_206 ob_8 rfl rfl rfl rfl (Nat.le_of_ble_eq_true rfl) (fun v125 M125 h125 => ?_)
    obtain ⟨rfl, q125⟩ := h125
    rw [q125]
    clear q125
    exact ex_iret F R dX8_told_128 rfl (⟨by rw [w1_6, sTold, if_pos (by decide)]; simp [sTell], rfl⟩)
  by_cases w1_7 : v0 = 7
  · rw [w1_7]
    refine ex_tswIn (t := 129) F dX8_told_1 (by decide) (by decide) rfl (by decide) ?_
    refine ex_aload_n F dX8_told_129 rfl rfl ?_
    refine ex_iload_n F dX8_told_130 rfl rfl ?_
    refine ex_iconst (v := 0) F dX8_told_131 (by decide) ?_
    refine ex_callVi F (c_X8_fatFrom (i0 := 0) hA (by decide)) dX8_told_132 cs_X8_told_179 ob_8 rfl rfl rfl rfl (Nat.le_of_ble_eq_true rfl) (fun v132 M132 h132 => ?_)
    obtain ⟨rfl, q132⟩ := h132
    rw [q132]
    clear q132
    exact ex_iret F R dX8_told_135 rfl (⟨by rw [w1_7, sTold, if_pos (by decide)]; simp [sTell], rfl⟩)
  by_cases w1_8 : v0 = 8
  · rw [w1_8]
    refine ex_tswIn (t := 136) F dX8_told_1 (by decide) (by decide) rfl (by decide) ?_
    refine ex_aload_n F dX8_told_136 rfl rfl ?_
    refine ex_iload_n F dX8_told_137 rfl rfl ?_
    refine ex_callVi F (c_X8_isSwollen hA hr hO) dX8_told_138 cs_X8_told_172 ob_8 rfl rfl rfl rfl (Nat.le_of_ble_eq_true rfl) (fun v138 M138 h138 => ?_)
    obtain ⟨rfl, q138⟩ := h138
    rw [q138]
    clear q138
    refine ex_if_eq (t := 148) F dX8_told_141 (by decide) (fun c141 => ?_) (fun c141 => ?_)
    · refine ex_iconst (v := 0) F dX8_told_148 (by decide) ?_
      exact ex_iret F R dX8_told_149 rfl (⟨by rw [w1_8, sTold, if_pos (by decide)]; simp [sTell, b2i_0.mp c141]; rfl, rfl⟩)
    · refine ex_iconst (v := 1) F dX8_told_144 (by decide) ?_
      refine ex_goto (t := 149) F dX8_told_145 (by decide) ?_
      exact ex_iret F R dX8_told_149 rfl (⟨by rw [w1_8, sTold, if_pos (by decide)]; simp [sTell, b2i_1.mp c141]; rfl, rfl⟩)
  by_cases w1_9 : v0 = 9
  · rw [w1_9]
    refine ex_tswIn (t := 150) F dX8_told_1 (by decide) (by decide) rfl (by decide) ?_
    refine ex_aload_n F dX8_told_150 rfl rfl ?_
    refine ex_iload_n F dX8_told_151 rfl rfl ?_
    refine ex_callVi F (c_X8_which hA hR hr hC hO) dX8_told_152 cs_X8_told_209 ob_8 rfl rfl rfl rfl (Nat.le_of_ble_eq_true rfl) (fun v152 M152 h152 => ?_)
    obtain ⟨rfl, q152⟩ := h152
    rw [q152]
    clear q152
    exact ex_iret F R dX8_told_155 rfl (⟨by rw [w1_9, sTold, if_pos (by decide)]; simp [sTell], rfl⟩)
  refine ex_tswOut (t := 156) F dX8_told_1 (tsw_out 9 (by decide) (fun k hk => match k, hk with | 0, _ => w1_0 | 1, _ => w1_1 | 2, _ => w1_2 | 3, _ => w1_3 | 4, _ => w1_4 | 5, _ => w1_5 | 6, _ => w1_6 | 7, _ => w1_7 | 8, _ => w1_8 | 9, _ => w1_9 | n + 10, h => absurd h (by omega))) (by decide) ?_
  refine ex_iload_n F dX8_told_156 rfl rfl ?_
  refine ex_i2l F dX8_told_157 ?_
  refine ex_ldc2 F dX8_told_158 kc_X8_155 ?_
  refine ex_ldc2 F dX8_told_161 kc_X8_212 ?_
  refine ex_callSi F (c_X8_in) dX8_told_164 cs_X8_told_78 rfl rfl (Nat.le_of_ble_eq_true rfl) (fun v164 M164 h164 => ?_)
  obtain ⟨e164, q164⟩ := h164
  rw [q164]
  clear q164
  rw [in_out (lo := 10) (hi := 16) (by decide) (by decide)] at e164
  subst e164
  refine ex_if_eq (t := 187) F dX8_told_167 (by decide) (fun c167 => ?_) (fun c167 => ?_)
  · refine ex_iconst (v := -1) F dX8_told_187 (by decide) ?_
    exact ex_iret F R dX8_told_188 rfl (⟨by rw [sTold, if_pos (by have q := b2i_0.mp c167; simpa using q)]; simp [sTell, w1_0, w1_1, w1_2, w1_3, w1_4, w1_5, w1_6, w1_7, w1_8, w1_9], rfl⟩)
  · have ho : outB v0 10 16 = false := by
      have q := b2i_1.mp c167
      simpa using q
    obtain ⟨ww, hw1, hw2, rfl⟩ := outB_n (a := 10) (b := 16) (by decide) ho (by decide)
    have hw : 10 ≤ ww ∧ ww ≤ 16 := ⟨hw1, hw2⟩
    refine ex_aload_n F dX8_told_170 rfl rfl ?_
    refine gf_8_23 F dX8_told_171 fl_X8_46 ?_
    refine ex_iload_n F dX8_told_174 rfl rfl ?_
    refine ex_bipush (v := 6) F dX8_told_175 (by decide) ?_
    refine ex_iadd F dX8_told_177 ?_
    refine ex_iload_n F dX8_told_178 rfl rfl ?_
    refine ex_iadd F dX8_told_179 ?_
    refine ex_bipush (v := 10) F dX8_told_180 (by decide) ?_
    refine ex_isub F dX8_told_182 ?_
    refine ex_iald (n := 80) F dX8_told_183 (by decide) (told_hi hA hw).1 (j := A + (ww - 10 + 6)) (told_hi hA hw).2.1 ?_
    refine ex_goto (t := 188) F dX8_told_184 (by decide) ?_
    exact ex_iret F R dX8_told_188 rfl (⟨by rw [sTold, if_neg (by rw [ho]; decide), (told_hi hA hw).2.2, cM_o (by omega) (by omega)], rfl⟩)
theorem till_step {r c : Nat → Int32} {p tl : Int32} {n : Nat} (e : sTillN r p c 400 1 = tl) (hn : n < 400) (h : sCome (itT r p n c) = false) (hJ : n = 0 ∨ tl = sTillN r p c (401 - n) n) : tl = sTillN r p c (401 - (n + 1)) (n + 1) := by
  rcases hJ with rfl | hJ
  · exact e.symm
  · rw [hJ, show 401 - n = (400 - n) + 1 by omega, sTillN, if_neg (by rw [h]; decide), show 401 - (n + 1) = 400 - n by omega]
theorem till_hit {r c : Nat → Int32} {p tl : Int32} {n : Nat} (hn : n ≤ 400) (h0 : sCome c = false) (h : sCome (itT r p n c) = true) (hJ : n = 0 ∨ tl = sTillN r p c (401 - n) n) : tl = nI n ∧ 1 ≤ n := by
  rcases hJ with rfl | hJ
  · rw [show itT r p 0 c = c from rfl, h0] at h; exact absurd h (by decide)
  · rcases Nat.eq_zero_or_pos n with q | q
    · subst q; rw [show itT r p 0 c = c from rfl, h0] at h; exact absurd h (by decide)
    · exact ⟨by rw [hJ, show 401 - n = (400 - n) + 1 by omega, sTillN, if_pos h], q⟩
theorem till_miss {r c : Nat → Int32} {p tl : Int32} {n : Nat} (hn : n = 400) (h : sCome (itT r p n c) = false) (hJ : n = 0 ∨ tl = sTillN r p c (401 - n) n) : tl = -4 := by
  rcases hJ with q | hJ
  · omega
  · rw [hJ, show 401 - n = 0 + 1 by omega, sTillN, if_neg (by rw [h]; decide), sTillN]
theorem cs_X8_tillCome_196 : CSV (xmN YX8_tillCome).cls (xmF YX8_tillCome) (xmW YX8_tillCome) 196 2 YX8_turns := ⟨⟨ml_X8_196, ini_X8, cd_X8_turns, by decide +kernel, by decide⟩, im_X8_turns, se_X8_turns⟩
set_option maxRecDepth 100000 in
theorem c_X8_tillCome {l : Launch} {g : XG} {M : Mem} {A T : Nat} {r : Nat → Int32} (hA : A ≤ 64) (hR : okR r) (hr : mR M r) (hC : okC T (cM M A)) (hO : okM M A) (hT : T + 402 < 2 ^ 31) {p : Int32} {pp : Nat} (hp : p = nI pp) (lp : pp ≤ 9) (h0 : sCome (cM M A) = false) : Call l g YX8_tillCome [.ref (ad g 38), .int (nI A), .int p] M (PI (fun v M' => v = sTillN r p (cM M A) 400 1 ∧ ∃ n, n ≤ 400 ∧ cM M' A = itT r p n (cM M A) ∧ frS M M' A ∧ okM M' A ∧ (v ≠ -4 → v = nI n ∧ 1 ≤ n))) := by
  refine call_of (by decide +kernel) (Nat.le_of_ble_eq_true rfl) (fun x hxl F R => ?_)
  subst hxl
  refine ex_iconst (v := 0) F dX8_tillCome_0 (by decide) ?_
  refine ex_istore_n F dX8_tillCome_1 rfl (by decide) ?_
  generalize htl : sTillN r p (cM M A) 400 1 = tl at R
  have key : ∀ (m n : Nat) (u : Int32) (N : Mem), n + m = 400 → u = nI n → cM N A = itT r p n (cM M A) → frS M N A → okM N A → (n = 0 ∨ tl = sTillN r p (cM M A) (401 - n) n) → EX x g (xmL YX8_tillCome) N 2 [(0, .ref (ad g 38)), (1, .int (nI A)), (2, .int p), (3, .int u)] [] := by
    intro m
    induction m with
    | zero =>
      intro n u N hi hu h1 h2 h3 hJ
      have hn4 : n = 400 := by omega
      have hle : n ≤ 400 := by omega
      subst hu
      have hsc := cM_come h3
      rw [h1] at hsc
      refine ex_aload_n F dX8_tillCome_2 rfl rfl ?_
      refine gf_8_23 F dX8_tillCome_3 fl_X8_46 ?_
      refine ex_iload_n F dX8_tillCome_6 rfl rfl ?_
      refine ex_iconst (v := 5) F dX8_tillCome_7 (by decide) ?_
      refine ex_iadd F dX8_tillCome_8 ?_
      refine ex_iald (n := 80) F dX8_tillCome_9 (by decide) (ixA (k := 5) hA (by decide)) (j := A + 5) (ixB (k := 5) hA (by decide)) ?_
      refine ex_if_ne (t := 33) F dX8_tillCome_10 (by decide) (fun c10 => ?_) (fun c10 => ?_)
      · refine ex_aload_n F dX8_tillCome_33 rfl rfl ?_
        refine gf_8_23 F dX8_tillCome_34 fl_X8_46 ?_
        refine ex_iload_n F dX8_tillCome_37 rfl rfl ?_
        refine ex_iconst (v := 5) F dX8_tillCome_38 (by decide) ?_
        refine ex_iadd F dX8_tillCome_39 ?_
        refine ex_iald (n := 80) F dX8_tillCome_40 (by decide) (ixA (k := 5) hA (by decide)) (j := A + 5) (ixB (k := 5) hA (by decide)) ?_
        refine ex_if_ne (t := 49) F dX8_tillCome_41 (by decide) (fun c41 => ?_) (fun c41 => ?_)
        · refine ex_iload_n F dX8_tillCome_49 rfl rfl ?_
          exact ex_iret F R dX8_tillCome_50 rfl (⟨(till_hit hle h0 (by rw [hsc, decide_eq_false c41]; rfl) hJ).1.symm, n, hle, h1, h2, h3, fun _ => ⟨rfl, (till_hit hle h0 (by rw [hsc, decide_eq_false c41]; rfl) hJ).2⟩⟩)
        · refine ex_bipush (v := -4) F dX8_tillCome_44 (by decide) ?_
          refine ex_goto (t := 50) F dX8_tillCome_46 (by decide) ?_
          exact ex_iret F R dX8_tillCome_50 rfl (absurd c41 c10)
      · refine ex_iload_n F dX8_tillCome_13 rfl rfl ?_
        refine ex_sipush (v := 400) F dX8_tillCome_14 (by decide) ?_
        refine ex_icmp_ge (t := 33) F dX8_tillCome_17 (by decide) (fun _ => ?_) (fun c => absurd (by rw [hn4]; decide) c)
        refine ex_aload_n F dX8_tillCome_33 rfl rfl ?_
        refine gf_8_23 F dX8_tillCome_34 fl_X8_46 ?_
        refine ex_iload_n F dX8_tillCome_37 rfl rfl ?_
        refine ex_iconst (v := 5) F dX8_tillCome_38 (by decide) ?_
        refine ex_iadd F dX8_tillCome_39 ?_
        refine ex_iald (n := 80) F dX8_tillCome_40 (by decide) (ixA (k := 5) hA (by decide)) (j := A + 5) (ixB (k := 5) hA (by decide)) ?_
        refine ex_if_ne (t := 49) F dX8_tillCome_41 (by decide) (fun c41 => ?_) (fun c41 => ?_)
        · refine ex_iload_n F dX8_tillCome_49 rfl rfl ?_
          exact ex_iret F R dX8_tillCome_50 rfl (⟨(till_hit hle h0 (by rw [hsc, decide_eq_false c41]; rfl) hJ).1.symm, n, hle, h1, h2, h3, fun _ => ⟨rfl, (till_hit hle h0 (by rw [hsc, decide_eq_false c41]; rfl) hJ).2⟩⟩)
        · refine ex_bipush (v := -4) F dX8_tillCome_44 (by decide) ?_
          refine ex_goto (t := 50) F dX8_tillCome_46 (by decide) ?_
          exact ex_iret F R dX8_tillCome_50 rfl (⟨(till_miss hn4 (by rw [hsc, decide_eq_true c41]; rfl) hJ).symm, n, hle, h1, h2, h3, fun q => absurd rfl q⟩)
    | succ m ih =>
      intro n u N hi hu h1 h2 h3 hJ
      have hle : n ≤ 400 := by omega
      subst hu
      have hsc := cM_come h3
      rw [h1] at hsc
      refine ex_aload_n F dX8_tillCome_2 rfl rfl ?_
      refine gf_8_23 F dX8_tillCome_3 fl_X8_46 ?_
      refine ex_iload_n F dX8_tillCome_6 rfl rfl ?_
      refine ex_iconst (v := 5) F dX8_tillCome_7 (by decide) ?_
      refine ex_iadd F dX8_tillCome_8 ?_
      refine ex_iald (n := 80) F dX8_tillCome_9 (by decide) (ixA (k := 5) hA (by decide)) (j := A + 5) (ixB (k := 5) hA (by decide)) ?_
      refine ex_if_ne (t := 33) F dX8_tillCome_10 (by decide) (fun c10 => ?_) (fun c10 => ?_)
      · refine ex_aload_n F dX8_tillCome_33 rfl rfl ?_
        refine gf_8_23 F dX8_tillCome_34 fl_X8_46 ?_
        refine ex_iload_n F dX8_tillCome_37 rfl rfl ?_
        refine ex_iconst (v := 5) F dX8_tillCome_38 (by decide) ?_
        refine ex_iadd F dX8_tillCome_39 ?_
        refine ex_iald (n := 80) F dX8_tillCome_40 (by decide) (ixA (k := 5) hA (by decide)) (j := A + 5) (ixB (k := 5) hA (by decide)) ?_
        refine ex_if_ne (t := 49) F dX8_tillCome_41 (by decide) (fun c41 => ?_) (fun c41 => ?_)
        · refine ex_iload_n F dX8_tillCome_49 rfl rfl ?_
          exact ex_iret F R dX8_tillCome_50 rfl (⟨(till_hit hle h0 (by rw [hsc, decide_eq_false c41]; rfl) hJ).1.symm, n, hle, h1, h2, h3, fun _ => ⟨rfl, (till_hit hle h0 (by rw [hsc, decide_eq_false c41]; rfl) hJ).2⟩⟩)
        · refine ex_bipush (v := -4) F dX8_tillCome_44 (by decide) ?_
          refine ex_goto (t := 50) F dX8_tillCome_46 (by decide) ?_
          exact ex_iret F R dX8_tillCome_50 rfl (absurd c41 c10)
      · refine ex_iload_n F dX8_tillCome_13 rfl rfl ?_
        refine ex_sipush (v := 400) F dX8_tillCome_14 (by decide) ?_
        refine ex_icmp_ge (t := 33) F dX8_tillCome_17 (by decide) (fun c => absurd c (nI_ge (b := 400) (by omega) (by decide))) (fun _ => ?_)
        refine ex_aload_n F dX8_tillCome_20 rfl rfl ?_
        refine ex_iload_n F dX8_tillCome_21 rfl rfl ?_
        refine ex_iload_n F dX8_tillCome_22 rfl rfl ?_
        refine ex_callVi F (c_X8_turns (T := T + n) hA hR (mR_fr hr h2) (by rw [h1]; exact okC_it hC hp lp n) h3 (by omega)) dX8_tillCome_23 cs_X8_tillCome_196 ob_8 rfl rfl rfl rfl (Nat.le_of_ble_eq_true rfl) (fun v23 M23 h23 => ?_)
        obtain ⟨-, hn1, hn2, hn3⟩ := h23
        rw [h1] at hn1
        refine ex_pop F dX8_tillCome_26 rfl ?_
        refine ex_iinc (w := _ + 1) F dX8_tillCome_27 rfl rfl (by decide) ?_
        refine ex_goto (t := 2) F dX8_tillCome_30 (by decide) ?_
        exact ex_weak2 (ih (n + 1) _ _ (by omega) (nI_1 n) hn1 (frS_tr h2 hn2) hn3 (Or.inr (till_step htl (by omega) (by rw [hsc, decide_eq_true c10]; rfl) hJ))) ⟨rfl, rfl, rfl, rfl, trivial⟩
  exact ex_weak2 (key 400 0 _ M (by omega) rfl rfl (frS_rf M A) hO (Or.inl rfl)) ⟨rfl, rfl, rfl, rfl, trivial⟩
