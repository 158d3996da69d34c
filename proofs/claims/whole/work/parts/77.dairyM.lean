theorem TK_0 {K M : Mem} {n P Q : Nat} (h : TK K M n P Q) (h1 : M 38 7 = 0) (hb : M 38 3 = 0) : K 7 2 = 0 := by
  rcases h with ⟨a, -⟩ | ⟨-, ⟨-, a, -⟩ | ⟨-, a, -⟩ | ⟨-, a, -⟩ | ⟨-, a, -⟩⟩
  · exact a
  · rw [h1] at a; exact absurd a (by decide)
  · rw [h1] at a; exact absurd a (by decide)
  · rw [h1] at a; exact absurd a (by decide)
  · rw [hb] at a; exact absurd a (by decide)
theorem TK_n0 {K M : Mem} {n P Q : Nat} (h : TK K M n P Q) (h1 : ¬ M 38 7 = 0) (hb : M 38 3 = 0) : ¬ K 7 2 = 0 := by
  intro q
  rcases h with ⟨-, a, -⟩ | ⟨-, ⟨a, -⟩ | ⟨a, -⟩ | ⟨a, -⟩ | ⟨a, -⟩⟩
  · exact h1 a
  · rw [q] at a; exact absurd a (by decide)
  · rw [q] at a; exact absurd a (by decide)
  · rw [q] at a; exact absurd a (by decide)
  · rw [q] at a; exact absurd a (by decide)
def DLV (K N : Mem) (n : Nat) (u : Int32) (f : Nat) : Prop := ∃ m K' c a b, 321 ≤ m + f ∧ Rch m (advM (inR K)) K' ∧ TS K' N n ∧ K' 6 2 = -1 ∧ K' 6 6 = 0 ∧ DR K' N c a b false ∧ K' 6 4 = u
theorem dl_bad {K N : Mem} {n P : Nat} {u : Int32} {f : Nat} (hC : CI (advM (inR K)) n P) (h : BR (advM (inR K)) N ∨ DLV K N n u f) (hb : ¬ N 38 3 = 0) : FIN K N u := by
  rcases h with h | ⟨m, K', c, a, b, lm, hR, ⟨hT, hY, P', Q, hP, hQ, lPQ, lQ, lP, hh, hTK⟩, h2, h6, hD, hu⟩
  · exact fin_bad hC h
  · obtain ⟨k5, hBK⟩ := BK_w hP hTK hb
    exact fin_bad hC ⟨m, K', hR, fun q => absurd (k5.symm.trans q.1) (by decide), hBK⟩
theorem dl_end {K N : Mem} {n P : Nat} {u : Int32} {f : Nat} (hC : CI (advM (inR K)) n P) (h : BR (advM (inR K)) N ∨ DLV K N n u f) (hb : N 38 3 = 0) (h7 : N 38 7 = 0) : FIN K N u := by
  rcases h with h | ⟨m, K', c, a, b, lm, hR, ⟨hT, hY, P', Q, hP, hQ, lPQ, lQ, lP, hh, hTK⟩, h2, h6, hD, hu⟩
  · exact absurd hb (fun q => by have := BR_pos h; rw [q] at this; exact absurd this (by decide))
  · exact fin_end hC hR ⟨TK_0 hTK h7 hb, h2⟩ h6 hu hD hb
theorem dl_more {K N : Mem} {n : Nat} {u : Int32} {f : Nat} (h : BR (advM (inR K)) N ∨ DLV K N n u f) (hb : N 38 3 = 0) (h7 : ¬ N 38 7 = 0) : ∃ K' c a b, TS K' N n ∧ DR K' N c a b false ∧ K' 6 2 = -1 ∧ K' 6 6 = 0 ∧ ¬ K' 7 2 = 0 ∧ ∀ M', LN K' N n M' → frl N M' ∧ ∀ f', f ≤ f' + 1 → (BR (advM (inR K)) M' ∨ DLV K M' n (u + 1) f') := by
  rcases h with h | ⟨m, K', c, a, b, lm, hR, hTS, h2, h6, hD, hu⟩
  · exact absurd hb (fun q => by have := BR_pos h; rw [q] at this; exact absurd this (by decide))
  · obtain ⟨hT, hY, P', Q, hP, hQ, lPQ, lQ, lP, hh, hTK⟩ := id hTS
    refine ⟨K', c, a, b, hTS, hD, h2, h6, TK_n0 hTK h7 hb, fun M' hL => ⟨hL.1, fun f' hf => ?_⟩⟩
    obtain ⟨-, hL⟩ := hL
    refine hL.imp (fun z => ?_) (fun z => ?_)
    · obtain ⟨m2, K2, r2, s2, t2⟩ := z
      exact ⟨m + m2, K2, Rch_tr hR r2, s2, t2⟩
    · obtain ⟨m2, K2, c2, a2, b2, r2, t2, x2, x6, xD, x4⟩ := z
      exact ⟨m + (m2 + 1), K2, c2, a2, b2, by omega, Rch_tr hR r2, t2, x2, x6, xD, by rw [x4, hu]⟩
theorem cs_X8_dairy_116 : CSV (xmN YX8_dairy).cls (xmF YX8_dairy) (xmW YX8_dairy) 116 0 YX8_step := ⟨⟨ml_X8_116, ini_X8, cd_X8_step, by decide +kernel, by decide⟩, im_X8_step, se_X8_step⟩
theorem cs_X8_dairy_133 : CSV (xmN YX8_dairy).cls (xmF YX8_dairy) (xmW YX8_dairy) 133 0 YX8_readLine := ⟨⟨ml_X8_133, ini_X8, cd_X8_readLine, by decide +kernel, by decide⟩, im_X8_readLine, se_X8_readLine⟩
theorem cs_X8_dairy_145 : CSV (xmN YX8_dairy).cls (xmF YX8_dairy) (xmW YX8_dairy) 145 3 YX8_fills := ⟨⟨ml_X8_145, ini_X8, cd_X8_fills, by decide +kernel, by decide⟩, im_X8_fills, se_X8_fills⟩
set_option maxRecDepth 100000 in
theorem c_X8_dairy {l : Launch} {g : XG} {M : Mem} {K : Mem} {T : Nat} (hU : BU K M T) : Call l g YX8_dairy [.ref (ad g 38)] M (PI (fun v M' => v = dyV (rdm 321 (inR K)) ∧ BU (dyM (rdm 321 (inR K))) M' T ∧ ∀ q, q < 38 → M' q = M q)) := by
  refine call_of (by decide +kernel) (Nat.le_of_ble_eq_true rfl) (fun x hxl F R => ?_)
  subst hxl
  obtain ⟨n, hT⟩ := hU.2.2.2.2.2.1
  have hY : BY K := hU.2.2.2.2.2.2.1
  have hKM : KM M := hU.2.2.2.2.2.2.2.1
  obtain ⟨F1, F2, F3, F4, F5, F6, F7, F8, F9, F10⟩ := inR_f K
  have tail : ∀ N u, frl M N → FIN K N u → EX x g (xmL YX8_dairy) N 76 [(0, .ref (ad g 38)), (1, .int u)] [] := by
    intro N u hf hF
    rcases hF with ⟨f1, f2, f3, f4⟩ | ⟨f1, f2, f3, c, a, b, hD⟩
    · refine ex_aload_n F dX8_dairy_76 rfl rfl ?_
      refine ex_iconst (v := 0) F dX8_dairy_77 (by decide) ?_
      refine pf_8_1 F dX8_dairy_78 fl_X8_74 ?_
      refine ex_aload_n F dX8_dairy_81 rfl rfl ?_
      refine ex_aload_n F dX8_dairy_82 rfl rfl ?_
      refine gf_8_3 F dX8_dairy_83 fl_X8_82 ?_
      rw [mu_j _ _ _ _ _ (by decide)]
      refine pf_8_2 F dX8_dairy_86 fl_X8_136 ?_
      refine ex_aload_n F dX8_dairy_89 rfl rfl ?_
      refine gf_8_3 F dX8_dairy_90 fl_X8_82 ?_
      rw [mu_j _ _ _ _ _ (by decide), mu_j _ _ _ _ _ (by decide)]
      refine ex_if_le (t := 104) F dX8_dairy_93 (by decide) (fun c => absurd c (Int32.not_le.mpr f1)) (fun _ => ?_)
      refine ex_bipush (v := -10) F dX8_dairy_96 (by decide) ?_
      refine ex_aload_n F dX8_dairy_98 rfl rfl ?_
      refine gf_8_4 F dX8_dairy_99 fl_X8_88 ?_
      rw [mu_j _ _ _ _ _ (by decide), mu_j _ _ _ _ _ (by decide)]
      refine ex_isub F dX8_dairy_102 ?_
      exact ex_iret F R dX8_dairy_103 rfl (⟨by rw [dyV, if_neg f4, f3], dy_bad hU hf f4 f2, fun q hq => by rw [mu_k _ _ _ _ _ (by omega), mu_k _ _ _ _ _ (by omega), hf.1 q (by omega) (by omega) (by omega)]⟩)
    · refine ex_aload_n F dX8_dairy_76 rfl rfl ?_
      refine ex_iconst (v := 0) F dX8_dairy_77 (by decide) ?_
      refine pf_8_1 F dX8_dairy_78 fl_X8_74 ?_
      refine ex_aload_n F dX8_dairy_81 rfl rfl ?_
      refine ex_aload_n F dX8_dairy_82 rfl rfl ?_
      refine gf_8_3 F dX8_dairy_83 fl_X8_82 ?_
      rw [mu_j _ _ _ _ _ (by decide)]
      refine pf_8_2 F dX8_dairy_86 fl_X8_136 ?_
      refine ex_aload_n F dX8_dairy_89 rfl rfl ?_
      refine gf_8_3 F dX8_dairy_90 fl_X8_82 ?_
      rw [mu_j _ _ _ _ _ (by decide), mu_j _ _ _ _ _ (by decide)]
      refine ex_if_le (t := 104) F dX8_dairy_93 (by decide) (fun _ => ?_) (fun c => absurd (by rw [f1]; decide) c)
      refine ex_iconst (v := 0) F dX8_dairy_104 (by decide) ?_
      refine ex_istore_n F dX8_dairy_105 rfl (by decide) ?_
      rw [f1]
      obtain ⟨N2, hN2⟩ : ∃ N2, mu (mu N 38 1 0) 38 2 0 = N2 := ⟨_, rfl⟩
      rw [hN2]
      have o2 : ∀ q, q ≠ 38 → N2 q = N q := fun q a => by rw [← hN2, mu_k _ _ _ _ _ a, mu_k _ _ _ _ _ a]
      have j2 : ∀ j, 2 < j → N2 38 j = N 38 j := fun j a => by rw [← hN2, mu_j _ _ _ _ _ (by omega), mu_j _ _ _ _ _ (by omega)]
      have t2 : N2 38 1 = 0 ∧ N2 38 2 = 0 := by rw [← hN2]; exact ⟨by rw [mu_j _ _ _ _ _ (by decide), mu_same], mu_same _ _ _ _⟩
      obtain ⟨c8, d2, d3, -⟩ := id hD
      have tail2 : EX x g (xmL YX8_dairy) (cpR N2 16) 148 [(0, .ref (ad g 38)), (1, .int u)] [] := by
        refine ex_aload_n F dX8_dairy_148 rfl rfl ?_
        refine ex_aload_n F dX8_dairy_149 rfl rfl ?_
        refine gf_8_21 F dX8_dairy_150 fl_X8_123 ?_
        rw [cpR_o _ _ (by decide) (by decide), j2 21 (by decide), d3]
        refine pf_8_18 F dX8_dairy_153 fl_X8_139 ?_
        refine ex_aload_n F dX8_dairy_156 rfl rfl ?_
        refine ex_iconst (v := 0) F dX8_dairy_157 (by decide) ?_
        refine pf_8_28 F dX8_dairy_158 fl_X8_142 ?_
        refine ex_aload_n F dX8_dairy_161 rfl rfl ?_
        refine gf_8_30 F dX8_dairy_162 fl_X8_61 ?_
        refine ex_iconst (v := 0) F dX8_dairy_165 (by decide) ?_
        refine ex_iconst (v := 0) F dX8_dairy_166 (by decide) ?_
        refine ex_zast (n := 2) F dX8_dairy_167 (by decide) (vpd (by decide)) (j := 0) (by decide) ?_
        refine ex_aload_n F dX8_dairy_168 rfl rfl ?_
        refine gf_8_30 F dX8_dairy_169 fl_X8_61 ?_
        refine ex_iconst (v := 1) F dX8_dairy_172 (by decide) ?_
        refine ex_iconst (v := 0) F dX8_dairy_173 (by decide) ?_
        refine ex_zast (n := 2) F dX8_dairy_174 (by decide) (vpd (by decide)) (j := 1) (by decide) ?_
        obtain ⟨Y, hY9⟩ : ∃ Y, mu (mu (mu (mu (cpR N2 16) 38 18 (nI c)) 38 28 0) 56 0 (vp_nar .boolean 0)) 56 1 (vp_nar .boolean 0) = Y := ⟨_, rfl⟩
        rw [hY9]
        have y38 : ∀ j, j ≠ 18 → j ≠ 28 → Y 38 j = N2 38 j := fun j a b => by rw [← hY9, mu_k _ _ _ 38 _ (by decide), mu_k _ _ _ 38 _ (by decide), mu_j _ _ _ _ _ b, mu_j _ _ _ _ _ a, cpR_o _ _ (by decide) (by decide)]
        have y18 : Y 38 18 = nI c := by rw [← hY9, mu_k _ _ _ 38 _ (by decide), mu_k _ _ _ 38 _ (by decide), mu_j _ _ _ _ _ (by decide), mu_same]
        have y28 : Y 38 28 = 0 := by rw [← hY9, mu_k _ _ _ 38 _ (by decide), mu_k _ _ _ 38 _ (by decide), mu_same]
        have y56 : Y 56 0 = 0 ∧ Y 56 1 = 0 := by rw [← hY9]; exact ⟨by rw [mu_j _ _ _ _ _ (by decide), mu_same]; rfl, by rw [mu_same]; rfl⟩
        have yo : ∀ q, q ≠ 38 → q ≠ 56 → Y q = cpR N2 16 q := fun q a b => by rw [← hY9, mu_k _ _ _ _ _ b, mu_k _ _ _ _ _ b, mu_k _ _ _ _ _ a, mu_k _ _ _ _ _ a]
        refine ex_aload_n F dX8_dairy_175 rfl rfl ?_
        refine ex_iconst (v := 0) F dX8_dairy_176 (by decide) ?_
        refine ex_iconst (v := 1) F dX8_dairy_177 (by decide) ?_
        refine ex_aload_n F dX8_dairy_178 rfl rfl ?_
        refine gf_8_18 F dX8_dairy_179 fl_X8_139 ?_
        rw [y18]
        refine ex_ishl F dX8_dairy_182 ?_
        refine ex_iconst (v := 1) F dX8_dairy_183 (by decide) ?_
        refine ex_isub F dX8_dairy_184 ?_
        have eA : (1 : Int32) <<< (nI c &&& 31) - 1 = sAll (nI c) := rfl
        rw [eA]
        refine ex_aload_n F dX8_dairy_185 rfl rfl ?_
        refine gf_8_16 F dX8_dairy_186 fl_X8_34 ?_
        refine ex_iconst (v := 1) F dX8_dairy_189 (by decide) ?_
        refine ex_iald (n := 13) F dX8_dairy_190 (by decide) (vpd (by decide)) (j := 1) (by decide) ?_
        refine ex_callVv F (c_X8_fills (M := Y) (A := 0) (n := c) (b := sAll (nI c)) (wm := Y 47 1) (by decide) y18 c8) dX8_dairy_191 cs_X8_dairy_145 ob_8 rfl rfl rfl rfl (Nat.le_of_ble_eq_true rfl) (fun M191 h191 => ?_)
        obtain ⟨k1, k2, k3⟩ := h191
        refine ex_aload_n F dX8_dairy_194 rfl rfl ?_
        refine ex_iconst (v := 1) F dX8_dairy_195 (by decide) ?_
        refine pf_8_24 F dX8_dairy_196 fl_X8_149 (by first | exact Or.inl rfl | exact Or.inr rfl | assumption) ?_
        refine ex_iload_n F dX8_dairy_199 rfl rfl ?_
        exact ex_iret F R dX8_dairy_200 rfl (⟨by rw [dyV, if_pos f2, f3], dy_good hU hf f2 hD (fun j hj => by rw [yo 47 (by decide) (by decide)]; show (if j < 16 ∧ j < 13 then N2 49 j else N2 47 j) = _; rw [if_pos ⟨by omega, hj⟩, o2 49 (by decide)]) (fun j hj => by rw [yo 48 (by decide) (by decide)]; show (if j < 16 then N2 50 j else N2 48 j) = _; rw [if_pos hj, o2 50 (by decide)]) y18 y28 y56 (by rw [y38 1 (by decide) (by decide)]; exact t2.1) (by rw [y38 2 (by decide) (by decide)]; exact t2.2) (by rw [y38 34 (by decide) (by decide), j2 34 (by decide), hf.2 34 (by decide) (by decide) (by decide)]) (fun q e1 e2 e3 e4 e5 e6 e7 => by rw [yo q (by omega) e7, cpR_o _ _ e4 e3, o2 q (by omega), hf.1 q (by omega) e5 e6]) rfl k1 k2 k3, fun q hq => by rw [mu_k _ _ _ _ _ (by omega), k2.1 q (by omega) (by omega), yo q (by omega) (by omega), cpR_o _ _ (by omega) (by omega), o2 q (by omega), hf.1 q (by omega) (by omega) (by omega)]⟩)
      have key : ∀ (m k : Nat), k + m = 16 → EX x g (xmL YX8_dairy) (cpR N2 k) 106 [(0, .ref (ad g 38)), (1, .int u), (2, .int (nI k))] [] := by
        intro m
        induction m with
        | zero =>
          intro k hk
          obtain rfl : k = 16 := by omega
          refine ex_iload_n F dX8_dairy_106 rfl rfl ?_
          refine ex_bipush (v := 16) F dX8_dairy_107 (by decide) ?_
          refine ex_icmp_ge (t := 148) F dX8_dairy_109 (by decide) (fun _ => ?_) (fun c => absurd (by decide) c)
          exact ex_weak2 tail2 ⟨rfl, rfl, trivial⟩
        | succ m ih =>
          intro k hk
          have lk13 : k % 13 < 13 := Nat.mod_lt _ (by decide)
          refine ex_iload_n F dX8_dairy_106 rfl rfl ?_
          refine ex_bipush (v := 16) F dX8_dairy_107 (by decide) ?_
          refine ex_icmp_ge (t := 148) F dX8_dairy_109 (by decide) (fun c => absurd c (nI_ge (b := 16) (by omega) (by decide))) (fun _ => ?_)
          refine ex_aload_n F dX8_dairy_112 rfl rfl ?_
          refine gf_8_17 F dX8_dairy_113 fl_X8_37 ?_
          refine ex_iload_n F dX8_dairy_116 rfl rfl ?_
          refine ex_aload_n F dX8_dairy_117 rfl rfl ?_
          refine gf_8_20 F dX8_dairy_118 fl_X8_43 ?_
          refine ex_iload_n F dX8_dairy_121 rfl rfl ?_
          refine ex_iald (n := 16) F dX8_dairy_122 (by decide) (vp_in_nI (by omega) (by decide)) (j := k) (nI_clamp (by omega)) ?_
          refine ex_iast (n := 16) F dX8_dairy_123 (by decide) (vp_in_nI (by omega) (by decide)) (j := k) (nI_clamp (by omega)) ?_
          refine ex_aload_n F dX8_dairy_124 rfl rfl ?_
          refine gf_8_16 F dX8_dairy_125 fl_X8_34 ?_
          refine ex_iload_n F dX8_dairy_128 rfl rfl ?_
          refine ex_bipush (v := 13) F dX8_dairy_129 (by decide) ?_
          refine ex_irem F dX8_dairy_131 (by decide) ?_
          rw [mod13 k (by omega)]
          refine ex_aload_n F dX8_dairy_132 rfl rfl ?_
          refine gf_8_19 F dX8_dairy_133 fl_X8_40 ?_
          refine ex_iload_n F dX8_dairy_136 rfl rfl ?_
          refine ex_bipush (v := 13) F dX8_dairy_137 (by decide) ?_
          refine ex_irem F dX8_dairy_139 (by decide) ?_
          rw [mod13 k (by omega)]
          refine ex_iald (n := 13) F dX8_dairy_140 (by decide) (vp_in_nI (by omega) (by decide)) (j := k % 13) (nI_clamp (by omega)) ?_
          refine ex_iast (n := 13) F dX8_dairy_141 (by decide) (vp_in_nI (by omega) (by decide)) (j := k % 13) (nI_clamp (by omega)) ?_
          refine ex_iinc (w := _ + 1) F dX8_dairy_142 rfl rfl (by decide) ?_
          rw [nI_1]
          refine ex_goto (t := 106) F dX8_dairy_145 (by decide) ?_
          refine ex_M (M1 := cpR N2 (k + 1)) ?_ (ex_weak2 (ih (k + 1) (by omega)) ⟨rfl, rfl, rfl, trivial⟩)
          rw [cpR_o N2 k (q := 50) (by decide) (by decide), mu_k _ _ _ 49 _ (by decide), cpR_o N2 k (q := 49) (by decide) (by decide), cpR_S N2 k (by omega)]
      exact ex_M (cpR_0 N2).symm (ex_weak2 (key 16 0 (by omega)) ⟨rfl, rfl, rfl, trivial⟩)
  refine ex_aload_n F dX8_dairy_0 rfl rfl ?_
  refine ex_iconst (v := 0) F dX8_dairy_1 (by decide) ?_
  refine pf_8_3 F dX8_dairy_2 fl_X8_82 ?_
  refine ex_aload_n F dX8_dairy_5 rfl rfl ?_
  refine ex_iconst (v := 0) F dX8_dairy_6 (by decide) ?_
  refine pf_8_5 F dX8_dairy_7 fl_X8_94 ?_
  refine ex_aload_n F dX8_dairy_10 rfl rfl ?_
  refine ex_iconst (v := 0) F dX8_dairy_11 (by decide) ?_
  refine pf_8_22 F dX8_dairy_12 fl_X8_130 ?_
  refine ex_aload_n F dX8_dairy_15 rfl rfl ?_
  refine ex_iconst (v := 0) F dX8_dairy_16 (by decide) ?_
  refine pf_8_21 F dX8_dairy_17 fl_X8_123 ?_
  refine ex_iconst (v := 0) F dX8_dairy_20 (by decide) ?_
  refine ex_istore_n F dX8_dairy_21 rfl (by decide) ?_
  refine ex_iconst (v := 0) F dX8_dairy_22 (by decide) ?_
  refine ex_istore_n F dX8_dairy_23 rfl (by decide) ?_
  obtain ⟨I, hI⟩ : ∃ I, mu (mu (mu (mu M 38 3 0) 38 5 0) 38 22 0) 38 21 0 = I := ⟨_, rfl⟩
  rw [hI]
  have oI : ∀ q, q ≠ 38 → I q = M q := fun q a => by rw [← hI, mu_k _ _ _ _ _ a, mu_k _ _ _ _ _ a, mu_k _ _ _ _ _ a, mu_k _ _ _ _ _ a]
  have fI : frl M I := ⟨fun q a _ _ => oI q a, fun j a b c => by rw [← hI, mu_j _ _ _ _ _ b, mu_j _ _ _ _ _ c, mu_j _ _ _ _ _ (by omega), mu_j _ _ _ _ _ (by omega)]⟩
  have i3 : I 38 3 = 0 ∧ I 38 5 = 0 ∧ I 38 22 = 0 ∧ I 38 21 = 0 := by
    rw [← hI]
    exact ⟨by rw [mu_j _ _ _ _ _ (by decide), mu_j _ _ _ _ _ (by decide), mu_j _ _ _ _ _ (by decide), mu_same], by rw [mu_j _ _ _ _ _ (by decide), mu_j _ _ _ _ _ (by decide), mu_same], by rw [mu_j _ _ _ _ _ (by decide), mu_same], mu_same _ _ _ _⟩
  have tail3 : EX x g (xmL YX8_dairy) (plC I 13) 48 [(0, .ref (ad g 38)), (1, .int 0)] [] := by
    have hTI : RT (inR K) (plC I 13) n := ⟨hT.1, hT.2.1, by rw [plC_o _ _ (by decide), fI.2 1 (by decide) (by decide) (by decide)]; exact hT.2.2.1, fun i hi => by rw [plC_o _ _ (by decide), oI 39 (by decide)]; exact hT.2.2.2 i hi⟩
    have hYI : BY (inR K) := hY
    refine ex_aload_n F dX8_dairy_48 rfl rfl ?_
    refine ex_callVv F (c_X8_step (M := plC I 13) (K := inR K) (n := n) (s := 0) hTI hYI (by rw [plC_o _ _ (by decide)]; exact i3.1) (by rw [plC_o _ _ (by decide)]; exact i3.2.1) (by decide)) dX8_dairy_49 cs_X8_dairy_116 ob_8 rfl rfl rfl rfl (Nat.le_of_ble_eq_true rfl) (fun M49 h49 => ?_)
    rw [h49]
    have hTS0 := TS_step hTI hYI (s := 0) F1 (by decide)
    have fr0 := frs_stp (inR K) (plC I 13) n 0
    obtain ⟨P, hC⟩ := CI_TS hTS0
    have fN0 : frl M (stp (inR K) (plC I 13) n 0) := frl_tr (frl_tr fI ⟨fun q a b _ => plC_o _ _ b, fun j _ _ _ => by rw [plC_o _ _ (by decide)]⟩) (frl_s fr0)
    have hD0 : DR (inR K) (stp (inR K) (plC I 13) n 0) 0 0 0 false := by
      refine DR_in (fun j hj => ?_) ?_ ?_
      · rw [fr0.1 49 (by decide)]
        show (if j < 13 then nI (plaL j) else I 49 j) = _
        rw [if_pos hj]
      · rw [fr0.2 21 (by decide), plC_o _ _ (by decide)]; exact i3.2.2.2
      · rw [fr0.2 22 (by decide), plC_o _ _ (by decide)]; exact i3.2.2.1
    have hD1 : DR (advM (inR K)) (stp (inR K) (plC I 13) n 0) 0 0 0 false := DR_of hD0 (by rw [advM_o _ (by decide)]) (advM_o _ (by decide)) (advM_o _ (by decide)) (advM_o _ (by decide)) (advM_o _ (by decide)) (by rw [advM_o _ (by decide)]) rfl rfl rfl rfl
    have key : ∀ (f : Nat) (u : Int32) (N : Mem), frl M N → (BR (advM (inR K)) N ∨ DLV K N n u f) → EX x g (xmL YX8_dairy) N 52 [(0, .ref (ad g 38)), (1, .int u)] [] := by
      intro f
      induction f with
      | zero =>
        intro u N hf hL
        have hB : BR (advM (inR K)) N := by
          rcases hL with h | ⟨m, K', c, a, b, lm, hR, -⟩
          · exact h
          · exfalso
            rcases Rch_len hC hR with e | e <;> omega
        refine ex_aload_n F dX8_dairy_52 rfl rfl ?_
        refine gf_8_3 F dX8_dairy_53 fl_X8_82 ?_
        refine ex_if_ne (t := 76) F dX8_dairy_56 (by decide) (fun _ => ?_) (fun c => absurd c (fun q => by have := BR_pos hB; rw [q] at this; exact absurd this (by decide)))
        exact ex_weak2 (tail N u hf (fin_bad hC hB)) ⟨rfl, rfl, trivial⟩
      | succ f ih =>
        intro u N hf hL
        refine ex_aload_n F dX8_dairy_52 rfl rfl ?_
        refine gf_8_3 F dX8_dairy_53 fl_X8_82 ?_
        refine ex_if_ne (t := 76) F dX8_dairy_56 (by decide) (fun c56 => ?_) (fun c56 => ?_)
        · exact ex_weak2 (tail N u hf (dl_bad hC hL c56)) ⟨rfl, rfl, trivial⟩
        · refine ex_aload_n F dX8_dairy_59 rfl rfl ?_
          refine gf_8_7 F dX8_dairy_60 fl_X8_91 ?_
          refine ex_if_eq (t := 76) F dX8_dairy_63 (by decide) (fun c63 => ?_) (fun c63 => ?_)
          · exact ex_weak2 (tail N u hf (dl_end hC hL c56 c63)) ⟨rfl, rfl, trivial⟩
          · obtain ⟨K9, c9, a9, b9, hTS9, hD9, h29, h69, h09, hm9⟩ := dl_more hL c56 c63
            refine ex_aload_n F dX8_dairy_66 rfl rfl ?_
            refine ex_callVv F (c_X8_readLine hTS9 (KM_l hKM hf) hD9 h29 h69 h09 c56) dX8_dairy_67 cs_X8_dairy_133 ob_8 rfl rfl rfl rfl (Nat.le_of_ble_eq_true rfl) (fun M67 h67 => ?_)
            obtain ⟨fr67, h67b⟩ := hm9 _ h67
            refine ex_iinc (w := _ + 1) F dX8_dairy_70 rfl rfl (by decide) ?_
            refine ex_goto (t := 52) F dX8_dairy_73 (by decide) ?_
            exact ex_weak2 (ih (u + 1) _ (frl_tr hf fr67) (h67b f (by omega))) ⟨rfl, rfl, trivial⟩
    exact ex_weak2 (key 321 0 _ fN0 (Or.inr ⟨0, advM (inR K), 0, 0, 0, by decide, rfl, hTS0, by rw [advM_o _ (by decide)]; exact F2, by rw [advM_o _ (by decide)]; exact F5, hD1, by rw [advM_o _ (by decide)]; exact F3⟩)) ⟨rfl, rfl, trivial⟩
  have key : ∀ (m k : Nat), k + m = 13 → EX x g (xmL YX8_dairy) (plC I k) 24 [(0, .ref (ad g 38)), (1, .int 0), (2, .int (nI k))] [] := by
    intro m
    induction m with
    | zero =>
      intro k hk
      obtain rfl : k = 13 := by omega
      refine ex_iload_n F dX8_dairy_24 rfl rfl ?_
      refine ex_bipush (v := 13) F dX8_dairy_25 (by decide) ?_
      refine ex_icmp_ge (t := 48) F dX8_dairy_27 (by decide) (fun _ => ?_) (fun c => absurd (by decide) c)
      exact ex_weak2 tail3 ⟨rfl, rfl, trivial⟩
    | succ m ih =>
      intro k hk
      refine ex_iload_n F dX8_dairy_24 rfl rfl ?_
      refine ex_bipush (v := 13) F dX8_dairy_25 (by decide) ?_
      refine ex_icmp_ge (t := 48) F dX8_dairy_27 (by decide) (fun c => absurd c (nI_ge (b := 13) (by omega) (by decide))) (fun _ => ?_)
      refine ex_aload_n F dX8_dairy_30 rfl rfl ?_
      refine gf_8_19 F dX8_dairy_31 fl_X8_40 ?_
      refine ex_iload_n F dX8_dairy_34 rfl rfl ?_
      refine ex_aload_n F dX8_dairy_35 rfl rfl ?_
      refine gf_8_15 F dX8_dairy_36 fl_X8_31 ?_
      refine ex_iload_n F dX8_dairy_39 rfl rfl ?_
      refine ex_iald (n := 13) F dX8_dairy_40 (by decide) (vp_in_nI (by omega) (by decide)) (j := k) (nI_clamp (by omega)) ?_
      rw [plC_o _ _ (by decide), oI 46 (by decide), hKM.pla k (by omega)]
      refine ex_iast (n := 13) F dX8_dairy_41 (by decide) (vp_in_nI (by omega) (by decide)) (j := k) (nI_clamp (by omega)) ?_
      refine ex_iinc (w := _ + 1) F dX8_dairy_42 rfl rfl (by decide) ?_
      rw [nI_1]
      refine ex_goto (t := 24) F dX8_dairy_45 (by decide) ?_
      exact ex_M (plC_S I k) (ex_weak2 (ih (k + 1) (by omega)) ⟨rfl, rfl, rfl, trivial⟩)
  exact ex_M (plC_0 I).symm (ex_weak2 (key 13 0 (by omega)) ⟨rfl, rfl, rfl, trivial⟩)
