theorem in_n {i a b : Nat} {x y : Int64} (hx : (nI a).toInt64 = x) (hy : (nI b).toInt64 = y) (hi : i < 2 ^ 31) (ha : a < 2 ^ 31) (hb : b < 2 ^ 31) : inB (nI i).toInt64 x y = decide (a ≤ i ∧ i ≤ b) := by
  subst hx; subst hy
  unfold inB
  simp only [w_le, nI_leI ha hi, nI_leI hi hb, Bool.decide_and]
theorem ix2 (i : Nat) : (2 : Int32) * nI i = nI (2 * i) := pk_mul 2 i
theorem and1 (x : Int32) : x &&& 1 = 1 ↔ ¬ x &&& 1 = 0 := by
  obtain ⟨j, hj, e⟩ := pk_andE x (m := 1) 1 (by decide)
  rw [e]
  match j, hj with
  | 0, _ => decide
  | 1, _ => decide
def liM (M : Mem) : Nat → Int32 := fun i => M 48 (2 * i)
def haM (M : Mem) : Nat → Int32 := fun i => M 48 (2 * i + 1)
def drM (M : Mem) : Nat → Int32 := fun i => M 47 (9 + i)
def rowN (M : Mem) (n : Nat) (b w : Int32) : Nat → Int32 := sFill (sLitN (liM M) b n) (if sLitN (liM M) b n = 0 then 0 else sSumN (liM M) (haM M) b n / sLitN (liM M) b n) w (drM M)
def lay16 (M : Mem) (A : Nat) (l : Int32) (k y : Nat) : Int32 := if A ≤ y ∧ y < A + k then (if 6 ≤ y - A ∧ y - A ≤ 9 then l * drM M (y - A - 6) else 0) else M 51 y
theorem cM_fill {M N : Mem} {A : Nat} {l h wm : Int32} (h1 : ∀ y, N 51 y = if y = A + 2 then h else if y = A + 1 then wm else if y = A then l else lay16 M A l 16 y) : cM N A = sFill l h wm (drM M) := by
  funext j
  by_cases h13 : j < 13
  · have e : j = 0 ∨ j = 1 ∨ j = 2 ∨ j = 3 ∨ j = 4 ∨ j = 5 ∨ 6 ≤ j := by omega
    rcases e with rfl | rfl | rfl | rfl | rfl | rfl | e
    · rw [cM_o (by decide) (by decide), h1, if_neg (by omega), if_neg (by omega), if_pos (by omega)]; rfl
    · rw [cM_o (by decide) (by decide), h1, if_neg (by omega), if_pos (by omega)]; rfl
    · rw [cM_o (by decide) (by decide), h1, if_pos (by omega)]; rfl
    · rw [cM_o (by decide) (by decide), h1, if_neg (by omega), if_neg (by omega), if_neg (by omega), lay16, if_pos (by omega), if_neg (by omega)]; rfl
    · rw [cM_o (by decide) (by decide), h1, if_neg (by omega), if_neg (by omega), if_neg (by omega), lay16, if_pos (by omega), if_neg (by omega)]; rfl
    · rw [cM_5, if_pos (by rw [h1, if_neg (by omega), if_neg (by omega), if_neg (by omega), lay16, if_pos (by omega), if_neg (by omega)])]; rfl
    · rw [cM_o (by omega) h13, h1, if_neg (by omega), if_neg (by omega), if_neg (by omega), lay16, if_pos (by omega), show A + j - A = j by omega]
      unfold sFill sFillN
      rw [if_neg (show ¬ j = 0 by omega), if_neg (show ¬ j = 1 by omega), if_neg (show ¬ j = 2 by omega), if_neg (show ¬ j = 3 by omega), if_neg (show ¬ j = 4 by omega), if_neg (show ¬ j = 5 by omega), if_pos (show j < 6 + 7 by omega)]
      by_cases h10 : j < 10
      · rw [if_pos (by omega), if_pos h10]
      · rw [if_neg (by omega), if_neg h10]
  · rw [cM_z N A j (by omega), zC_fill _ _ _ _ j (by omega)]

def sTold (r c : Nat → Int32) (v : Int32) : Int32 := if outB v 10 16 = true then sTell r c v else c ((v - 10).toNatClampNeg + 6)
set_option maxRecDepth 100000 in
theorem c_X8_copies {l : Launch} {g : XG} {M : Mem} {A B : Nat} (hA : A ≤ 64) (hB : B ≤ 64) (hAB : A + 16 ≤ B ∨ B + 16 ≤ A) : Call l g YX8_copies [.ref (ad g 38), .int (nI A), .int (nI B)] M (PV (fun M' => (∀ i, i < 16 → M' 51 (B + i) = M 51 (A + i)) ∧ frT M M' B)) := by
  refine call_of (by decide +kernel) (Nat.le_of_ble_eq_true rfl) (fun x hxl F R => ?_)
  subst hxl
  refine ex_iconst (v := 0) F dX8_copies_0 (by decide) ?_
  refine ex_istore_n F dX8_copies_1 rfl (by decide) ?_
  have key : ∀ (m i : Nat) (u : Int32) (N : Mem), i + m = 16 → u = nI i → (∀ j, j < i → N 51 (B + j) = M 51 (A + j)) → frT M N B → EX x g (xmL YX8_copies) N 2 [(0, .ref (ad g 38)), (1, .int (nI A)), (2, .int (nI B)), (3, .int u)] [] := by
    intro m
    induction m with
    | zero =>
      intro i u N hi hu h1 h2
      obtain rfl : i = 16 := by omega
      subst hu
      refine ex_iload_n F dX8_copies_2 rfl rfl ?_
      refine ex_bipush (v := 16) F dX8_copies_3 (by decide) ?_
      refine ex_icmp_ge (t := 30) F dX8_copies_5 (by decide) (fun _ => ?_) (fun c => absurd (by decide) c)
      exact ex_vret F R dX8_copies_30 rfl (⟨h1, h2⟩)
    | succ m ih =>
      intro i u N hi hu h1 h2
      subst hu
      refine ex_iload_n F dX8_copies_2 rfl rfl ?_
      refine ex_bipush (v := 16) F dX8_copies_3 (by decide) ?_
      refine ex_icmp_ge (t := 30) F dX8_copies_5 (by decide) (fun c => absurd c (nI_ge (b := 16) (by omega) (by decide))) (fun _ => ?_)
      refine ex_aload_n F dX8_copies_8 rfl rfl ?_
      refine gf_8_23 F dX8_copies_9 fl_X8_46 ?_
      refine ex_iload_n F dX8_copies_12 rfl rfl ?_
      refine ex_iload_n F dX8_copies_13 rfl rfl ?_
      refine ex_iadd F dX8_copies_14 ?_
      refine ex_aload_n F dX8_copies_15 rfl rfl ?_
      refine gf_8_23 F dX8_copies_16 fl_X8_46 ?_
      refine ex_iload_n F dX8_copies_19 rfl rfl ?_
      refine ex_iload_n F dX8_copies_20 rfl rfl ?_
      refine ex_iadd F dX8_copies_21 ?_
      refine ex_iald (n := 80) F dX8_copies_22 (by decide) (by rw [nI_add]; exact vp_in_nI (by omega) (by decide)) (j := A + i) (by rw [nI_add]; exact nI_clamp (by omega)) ?_
      refine ex_iast (n := 80) F dX8_copies_23 (by decide) (by rw [nI_add]; exact vp_in_nI (by omega) (by decide)) (j := B + i) (by rw [nI_add]; exact nI_clamp (by omega)) ?_
      refine ex_iinc (w := _ + 1) F dX8_copies_24 rfl rfl (by decide) ?_
      refine ex_goto (t := 2) F dX8_copies_27 (by decide) ?_
      refine ex_weak2 (ih (i + 1) _ _ (by omega) (nI_1 i) (fun j hj => ?_) (frT_tr h2 ⟨fun q a b => mu_k _ _ _ _ _ a, fun y hy => mu_j _ _ _ _ _ (by omega)⟩)) ⟨rfl, rfl, rfl, rfl, trivial⟩
      by_cases e : j = i
      · subst e
        rw [mu_same, h2.2 (A + j) (by omega)]
      · rw [mu_j _ _ _ _ _ (by omega)]; exact h1 j (by omega)
  exact ex_weak2 (key 16 0 _ M (by omega) rfl (fun j hj => absurd hj (Nat.not_lt_zero j)) (frT_rf M B)) ⟨rfl, rfl, rfl, rfl, trivial⟩
set_option maxRecDepth 100000 in
theorem c_X8_awake {l : Launch} {g : XG} {M : Mem}  : Call l g YX8_awake [.ref (ad g 38)] M (PV (fun M' => M' = if M 38 24 = 0 then mu (mu M 51 1 (M 47 1)) 38 24 1 else M)) := by
  refine call_of (by decide +kernel) (Nat.le_of_ble_eq_true rfl) (fun x hxl F R => ?_)
  subst hxl
  refine ex_aload_n F dX8_awake_0 rfl rfl ?_
  refine gf_8_24 F dX8_awake_1 fl_X8_149 ?_
  refine ex_if_ne (t := 24) F dX8_awake_4 (by decide) (fun c4 => ?_) (fun c4 => ?_)
  · exact ex_vret F R dX8_awake_24 rfl (by rw [if_neg c4])
  · refine ex_aload_n F dX8_awake_7 rfl rfl ?_
    refine gf_8_23 F dX8_awake_8 fl_X8_46 ?_
    refine ex_iconst (v := 1) F dX8_awake_11 (by decide) ?_
    refine ex_aload_n F dX8_awake_12 rfl rfl ?_
    refine gf_8_16 F dX8_awake_13 fl_X8_34 ?_
    refine ex_iconst (v := 1) F dX8_awake_16 (by decide) ?_
    refine ex_iald (n := 13) F dX8_awake_17 (by decide) (vpd (by decide)) (j := 1) (by decide) ?_
    refine ex_iast (n := 80) F dX8_awake_18 (by decide) (vpd (by decide)) (j := 1) (by decide) ?_
    refine ex_aload_n F dX8_awake_19 rfl rfl ?_
    refine ex_iconst (v := 1) F dX8_awake_20 (by decide) ?_
    refine pf_8_24 F dX8_awake_21 fl_X8_149 (by first | exact Or.inl rfl | exact Or.inr rfl | assumption) ?_
    exact ex_vret F R dX8_awake_24 rfl (by rw [if_pos c4])
theorem cs_X8_fills_78 : CSS (xmN YX8_fills).cls (xmF YX8_fills) (xmW YX8_fills) 78 3 YX8_in := ⟨⟨ml_X8_78, ini_X8, cd_X8_in, by decide +kernel, by decide⟩, st_X8_in⟩
set_option maxRecDepth 100000 in
theorem c_X8_fills {l : Launch} {g : XG} {M : Mem} {A n : Nat} {b wm : Int32} (hA : A ≤ 64) (hn : M 38 18 = nI n) (ln : n ≤ 8) : Call l g YX8_fills [.ref (ad g 38), .int (nI A), .int b, .int wm] M (PV (fun M' => cM M' A = rowN M n b wm ∧ frT M M' A ∧ M' 51 (A + 5) = 0)) := by
  refine call_of (by decide +kernel) (Nat.le_of_ble_eq_true rfl) (fun x hxl F R => ?_)
  subst hxl
  refine ex_iconst (v := 0) F dX8_fills_0 (by decide) ?_
  refine ex_istore F dX8_fills_1 (by decide) ?_
  refine ex_iconst (v := 0) F dX8_fills_3 (by decide) ?_
  refine ex_istore F dX8_fills_4 (by decide) ?_
  refine ex_iconst (v := 0) F dX8_fills_6 (by decide) ?_
  refine ex_istore F dX8_fills_7 (by decide) ?_
  have key2 : ∀ (m i : Nat) (u L S : Int32) (N : Mem), i + m = 16 → u = nI i → L = sLitN (liM M) b n → S = sSumN (liM M) (haM M) b n → (∀ y, N 51 y = lay16 M A L i y) → (∀ q, q ≠ 51 → N q = M q) → EX x g (xmL YX8_fills) N 77 [(0, .ref (ad g 38)), (1, .int (nI A)), (2, .int b), (3, .int wm), (4, .int L), (5, .int S), (6, .int u)] [] := by
    intro m
    induction m with
    | zero =>
      intro i u L S N hi hu hL hS h1 h2
      obtain rfl : i = 16 := by omega
      subst hu
      refine ex_iload F dX8_fills_77 rfl ?_
      refine ex_bipush (v := 16) F dX8_fills_79 (by decide) ?_
      refine ex_icmp_ge (t := 134) F dX8_fills_81 (by decide) (fun _ => ?_) (fun c => absurd (by decide) c)
      refine ex_aload_n F dX8_fills_134 rfl rfl ?_
      refine gf_8_23 F dX8_fills_135 fl_X8_46 ?_
      refine ex_iload_n F dX8_fills_138 rfl rfl ?_
      refine ex_iload F dX8_fills_139 rfl ?_
      refine ex_iast (n := 80) F dX8_fills_141 (by decide) (vp_in_nI (by omega) (by decide)) (j := A) (nI_clamp (by omega)) ?_
      refine ex_aload_n F dX8_fills_142 rfl rfl ?_
      refine gf_8_23 F dX8_fills_143 fl_X8_46 ?_
      refine ex_iload_n F dX8_fills_146 rfl rfl ?_
      refine ex_iconst (v := 1) F dX8_fills_147 (by decide) ?_
      refine ex_iadd F dX8_fills_148 ?_
      refine ex_iload_n F dX8_fills_149 rfl rfl ?_
      refine ex_iast (n := 80) F dX8_fills_150 (by decide) (ixA (k := 1) hA (by decide)) (j := A + 1) (ixB (k := 1) hA (by decide)) ?_
      refine ex_aload_n F dX8_fills_151 rfl rfl ?_
      refine gf_8_23 F dX8_fills_152 fl_X8_46 ?_
      refine ex_iload_n F dX8_fills_155 rfl rfl ?_
      refine ex_iconst (v := 2) F dX8_fills_156 (by decide) ?_
      refine ex_iadd F dX8_fills_157 ?_
      refine ex_iload F dX8_fills_158 rfl ?_
      refine ex_if_ne (t := 167) F dX8_fills_160 (by decide) (fun c160 => ?_) (fun c160 => ?_)
      · refine ex_iload F dX8_fills_167 rfl ?_
        refine ex_iload F dX8_fills_169 rfl ?_
        refine ex_idiv F dX8_fills_171 c160 ?_
        refine ex_iast (n := 80) F dX8_fills_172 (by decide) (ixA (k := 2) hA (by decide)) (j := A + 2) (ixB (k := 2) hA (by decide)) ?_
        exact ex_vret F R dX8_fills_173 rfl (by
                    refine ⟨?_, ⟨fun q q1 _ => ?_, fun y hy => ?_⟩, ?_⟩
                    · rw [rowN, ← hL, ← hS, if_neg c160]
                      exact cM_fill (fun y => by
                        by_cases e2 : y = A + 2
                        · subst e2; rw [mu_same, if_pos rfl]
                        · rw [mu_j _ _ _ _ _ e2, if_neg e2]
                          by_cases e1 : y = A + 1
                          · subst e1; rw [mu_same, if_pos rfl]
                          · rw [mu_j _ _ _ _ _ e1, if_neg e1]
                            by_cases e0 : y = A
                            · subst e0; rw [mu_same, if_pos rfl]
                            · rw [mu_j _ _ _ _ _ e0, if_neg e0]; exact h1 y)
                    · rw [mu_k _ _ _ _ _ q1, mu_k _ _ _ _ _ q1, mu_k _ _ _ _ _ q1]; exact h2 q q1
                    · rw [mu_j _ _ _ _ _ (by omega), mu_j _ _ _ _ _ (by omega), mu_j _ _ _ _ _ (by omega), h1 y, lay16, if_neg (by omega)]
                    · rw [mu_j _ _ _ _ _ (by omega), mu_j _ _ _ _ _ (by omega), mu_j _ _ _ _ _ (by omega), h1, lay16, if_pos (by omega), if_neg (by omega)])
      · refine ex_iconst (v := 0) F dX8_fills_163 (by decide) ?_
        refine ex_goto (t := 172) F dX8_fills_164 (by decide) ?_
        refine ex_iast (n := 80) F dX8_fills_172 (by decide) (ixA (k := 2) hA (by decide)) (j := A + 2) (ixB (k := 2) hA (by decide)) ?_
        exact ex_vret F R dX8_fills_173 rfl (by
                    refine ⟨?_, ⟨fun q q1 _ => ?_, fun y hy => ?_⟩, ?_⟩
                    · rw [rowN, ← hL, ← hS, if_pos c160]
                      exact cM_fill (fun y => by
                        by_cases e2 : y = A + 2
                        · subst e2; rw [mu_same, if_pos rfl]
                        · rw [mu_j _ _ _ _ _ e2, if_neg e2]
                          by_cases e1 : y = A + 1
                          · subst e1; rw [mu_same, if_pos rfl]
                          · rw [mu_j _ _ _ _ _ e1, if_neg e1]
                            by_cases e0 : y = A
                            · subst e0; rw [mu_same, if_pos rfl]
                            · rw [mu_j _ _ _ _ _ e0, if_neg e0]; exact h1 y)
                    · rw [mu_k _ _ _ _ _ q1, mu_k _ _ _ _ _ q1, mu_k _ _ _ _ _ q1]; exact h2 q q1
                    · rw [mu_j _ _ _ _ _ (by omega), mu_j _ _ _ _ _ (by omega), mu_j _ _ _ _ _ (by omega), h1 y, lay16, if_neg (by omega)]
                    · rw [mu_j _ _ _ _ _ (by omega), mu_j _ _ _ _ _ (by omega), mu_j _ _ _ _ _ (by omega), h1, lay16, if_pos (by omega), if_neg (by omega)])
    | succ m ih =>
      intro i u L S N hi hu hL hS h1 h2
      subst hu
      have hi9 := in_n (i := i) (a := 6) (b := 9) (x := 6) (y := 9) (by decide) (by decide) (by omega) (by decide) (by decide)
      refine ex_iload F dX8_fills_77 rfl ?_
      refine ex_bipush (v := 16) F dX8_fills_79 (by decide) ?_
      refine ex_icmp_ge (t := 134) F dX8_fills_81 (by decide) (fun c => absurd c (nI_ge (b := 16) (by omega) (by decide))) (fun _ => ?_)
      refine ex_aload_n F dX8_fills_84 rfl rfl ?_
      refine gf_8_23 F dX8_fills_85 fl_X8_46 ?_
      refine ex_iload_n F dX8_fills_88 rfl rfl ?_
      refine ex_iload F dX8_fills_89 rfl ?_
      refine ex_iadd F dX8_fills_91 ?_
      refine ex_iload F dX8_fills_92 rfl ?_
      refine ex_i2l F dX8_fills_94 ?_
      refine ex_ldc2 F dX8_fills_95 kc_X8_165 ?_
      refine ex_ldc2 F dX8_fills_98 kc_X8_167 ?_
      refine ex_callSi F (c_X8_in) dX8_fills_101 cs_X8_fills_78 rfl rfl (Nat.le_of_ble_eq_true rfl) (fun v101 M101 h101 => ?_)
      obtain ⟨rfl, q101⟩ := h101
      rw [q101]
      clear q101
      refine ex_if_eq (t := 126) F dX8_fills_104 (by decide) (fun c104 => ?_) (fun c104 => ?_)
      · refine ex_iconst (v := 0) F dX8_fills_126 (by decide) ?_
        refine ex_iast (n := 80) F dX8_fills_127 (by decide) (by rw [nI_add]; exact vp_in_nI (by omega) (by decide)) (j := A + i) (by rw [nI_add]; exact nI_clamp (by omega)) ?_
        refine ex_iinc (w := _ + 1) F dX8_fills_128 rfl rfl (by decide) ?_
        refine ex_goto (t := 77) F dX8_fills_131 (by decide) ?_
        have hin := (b2i_0.mp c104)
        rw [hi9] at hin
        refine ex_weak2 (ih (i + 1) _ L S _ (by omega) (nI_1 i) hL hS (fun y => ?_) (fun q hq => by rw [mu_k _ _ _ _ _ hq]; exact h2 q hq)) ⟨rfl, rfl, rfl, rfl, rfl, rfl, rfl, trivial⟩
        by_cases hy : y = A + i
        · subst hy
          rw [mu_same, lay16, if_pos (by omega), show A + i - A = i by omega]
          rw [if_neg (of_decide_eq_false hin)]
        · rw [mu_j _ _ _ _ _ hy, h1 y, lay16, lay16]
          by_cases hz : A ≤ y ∧ y < A + i
          · rw [if_pos hz, if_pos (show A ≤ y ∧ y < A + (i + 1) by omega)]
          · rw [if_neg hz, if_neg (show ¬ (A ≤ y ∧ y < A + (i + 1)) by omega)]
      · refine ex_iload F dX8_fills_107 rfl ?_
        refine ex_aload_n F dX8_fills_109 rfl rfl ?_
        refine gf_8_16 F dX8_fills_110 fl_X8_34 ?_
        refine ex_bipush (v := 9) F dX8_fills_113 (by decide) ?_
        refine ex_iload F dX8_fills_115 rfl ?_
        refine ex_iadd F dX8_fills_117 ?_
        refine ex_bipush (v := 6) F dX8_fills_118 (by decide) ?_
        refine ex_isub F dX8_fills_120 ?_
        have hix : 6 ≤ i ∧ i ≤ 9 → vp_in ((9 : Int32) + nI i - 6) 13 ∧ ((9 : Int32) + nI i - 6).toNatClampNeg = 9 + i - 6 := by
          intro q
          have e : (9 : Int32) + nI i - 6 = nI (9 + i - 6) := by rw [show (9 : Int32) + nI i = nI (9 + i) from nI_add 9 i]; exact pk_sub (b := 6) (by omega)
          rw [e]
          exact ⟨vp_in_nI (by omega) (by decide), nI_clamp (by omega)⟩
        refine ex_iald (n := 13) F dX8_fills_121 (by decide) (hix (of_decide_eq_true (hi9 ▸ b2i_1.mp c104))).1 (j := 9 + i - 6) (hix (of_decide_eq_true (hi9 ▸ b2i_1.mp c104))).2 ?_
        refine ex_imul F dX8_fills_122 ?_
        refine ex_goto (t := 127) F dX8_fills_123 (by decide) ?_
        refine ex_iast (n := 80) F dX8_fills_127 (by decide) (by rw [nI_add]; exact vp_in_nI (by omega) (by decide)) (j := A + i) (by rw [nI_add]; exact nI_clamp (by omega)) ?_
        refine ex_iinc (w := _ + 1) F dX8_fills_128 rfl rfl (by decide) ?_
        refine ex_goto (t := 77) F dX8_fills_131 (by decide) ?_
        have hin := (b2i_1.mp c104)
        rw [hi9] at hin
        refine ex_weak2 (ih (i + 1) _ L S _ (by omega) (nI_1 i) hL hS (fun y => ?_) (fun q hq => by rw [mu_k _ _ _ _ _ hq]; exact h2 q hq)) ⟨rfl, rfl, rfl, rfl, rfl, rfl, rfl, trivial⟩
        by_cases hy : y = A + i
        · subst hy
          rw [mu_same, lay16, if_pos (by omega), show A + i - A = i by omega]
          have hin2 := of_decide_eq_true hin
          rw [if_pos hin2, drM, h2 47 (by decide), show 9 + (i - 6) = 9 + i - 6 by omega]
        · rw [mu_j _ _ _ _ _ hy, h1 y, lay16, lay16]
          by_cases hz : A ≤ y ∧ y < A + i
          · rw [if_pos hz, if_pos (show A ≤ y ∧ y < A + (i + 1) by omega)]
          · rw [if_neg hz, if_neg (show ¬ (A ≤ y ∧ y < A + (i + 1)) by omega)]
  have key1 : ∀ (m i : Nat) (u L S : Int32), i + m = n → u = nI i → L = sLitN (liM M) b i → S = sSumN (liM M) (haM M) b i → EX x g (xmL YX8_fills) M 9 [(0, .ref (ad g 38)), (1, .int (nI A)), (2, .int b), (3, .int wm), (4, .int L), (5, .int S), (6, .int u)] [] := by
    intro m
    induction m with
    | zero =>
      intro i u L S hi hu hL hS
      obtain rfl : i = n := by omega
      subst hu
      refine ex_iload F dX8_fills_9 rfl ?_
      refine ex_aload_n F dX8_fills_11 rfl rfl ?_
      refine gf_8_18 F dX8_fills_12 fl_X8_139 ?_
      rw [hn]
      refine ex_icmp_ge (t := 74) F dX8_fills_15 (by decide) (fun _ => ?_) (fun c => absurd (Int32.le_refl _) c)
      refine ex_iconst (v := 0) F dX8_fills_74 (by decide) ?_
      refine ex_istore F dX8_fills_75 (by decide) ?_
      refine ex_weak2 (key2 16 0 _ _ _ M (by omega) rfl hL hS (fun y => by rw [lay16, if_neg (by omega)]) (fun _ _ => rfl)) ⟨rfl, rfl, rfl, rfl, rfl, rfl, rfl, trivial⟩
    | succ m ih =>
      intro i u L S hi hu hL hS
      subst hu
      refine ex_iload F dX8_fills_9 rfl ?_
      refine ex_aload_n F dX8_fills_11 rfl rfl ?_
      refine gf_8_18 F dX8_fills_12 fl_X8_139 ?_
      rw [hn]
      refine ex_icmp_ge (t := 74) F dX8_fills_15 (by decide) (fun c => absurd c (nI_ge (by omega) (by omega))) (fun _ => ?_)
      refine ex_iload_n F dX8_fills_18 rfl rfl ?_
      refine ex_iload F dX8_fills_19 rfl ?_
      refine ex_ishr F dX8_fills_21 ?_
      refine ex_iconst (v := 1) F dX8_fills_22 (by decide) ?_
      refine ex_iand F dX8_fills_23 ?_
      refine ex_iconst (v := 1) F dX8_fills_24 (by decide) ?_
      refine ex_icmp_ne (t := 68) F dX8_fills_25 (by decide) (fun c25 => ?_) (fun c25 => ?_)
      · refine ex_iinc (w := _ + 1) F dX8_fills_68 rfl rfl (by decide) ?_
        refine ex_goto (t := 9) F dX8_fills_71 (by decide) ?_
        have e : ¬ bitI b i = true := by rw [bitI, decide_eq_true (Classical.byContradiction (fun q => c25 ((and1 _).mpr q)))]; decide
        refine ex_weak2 (ih (i + 1) _ _ _ (by omega) (nI_1 i) ?_ ?_) ⟨rfl, rfl, rfl, rfl, rfl, rfl, rfl, trivial⟩
        · rw [sLitN, if_neg e]; exact hL
        · rw [sSumN, if_neg e]; exact hS
      · refine ex_iload F dX8_fills_28 rfl ?_
        refine ex_aload_n F dX8_fills_30 rfl rfl ?_
        refine gf_8_17 F dX8_fills_31 fl_X8_37 ?_
        refine ex_iconst (v := 2) F dX8_fills_34 (by decide) ?_
        refine ex_iload F dX8_fills_35 rfl ?_
        refine ex_imul F dX8_fills_37 ?_
        refine ex_iald (n := 16) F dX8_fills_38 (by decide) (by rw [ix2]; exact vp_in_nI (by omega) (by decide)) (j := 2 * i) (by rw [ix2]; exact nI_clamp (by omega)) ?_
        refine ex_iadd F dX8_fills_39 ?_
        refine ex_istore F dX8_fills_40 (by decide) ?_
        refine ex_iload F dX8_fills_42 rfl ?_
        refine ex_aload_n F dX8_fills_44 rfl rfl ?_
        refine gf_8_17 F dX8_fills_45 fl_X8_37 ?_
        refine ex_iconst (v := 2) F dX8_fills_48 (by decide) ?_
        refine ex_iload F dX8_fills_49 rfl ?_
        refine ex_imul F dX8_fills_51 ?_
        refine ex_iald (n := 16) F dX8_fills_52 (by decide) (by rw [ix2]; exact vp_in_nI (by omega) (by decide)) (j := 2 * i) (by rw [ix2]; exact nI_clamp (by omega)) ?_
        refine ex_aload_n F dX8_fills_53 rfl rfl ?_
        refine gf_8_17 F dX8_fills_54 fl_X8_37 ?_
        refine ex_iconst (v := 2) F dX8_fills_57 (by decide) ?_
        refine ex_iload F dX8_fills_58 rfl ?_
        refine ex_imul F dX8_fills_60 ?_
        refine ex_iconst (v := 1) F dX8_fills_61 (by decide) ?_
        refine ex_iadd F dX8_fills_62 ?_
        refine ex_iald (n := 16) F dX8_fills_63 (by decide) (by rw [ix2, nI_1]; exact vp_in_nI (by omega) (by decide)) (j := 2 * i + 1) (by rw [ix2, nI_1]; exact nI_clamp (by omega)) ?_
        refine ex_imul F dX8_fills_64 ?_
        refine ex_iadd F dX8_fills_65 ?_
        refine ex_istore F dX8_fills_66 (by decide) ?_
        refine ex_iinc (w := _ + 1) F dX8_fills_68 rfl rfl (by decide) ?_
        refine ex_goto (t := 9) F dX8_fills_71 (by decide) ?_
        have e : bitI b i = true := by rw [bitI, decide_eq_false ((and1 _).mp c25)]; rfl
        refine ex_weak2 (ih (i + 1) _ _ _ (by omega) (nI_1 i) ?_ ?_) ⟨rfl, rfl, rfl, rfl, rfl, rfl, rfl, trivial⟩
        · rw [sLitN, if_pos e, hL]; rfl
        · rw [sSumN, if_pos e, hS]; rfl
  exact ex_weak2 (key1 n 0 _ _ _ (by omega) rfl rfl rfl) ⟨rfl, rfl, rfl, rfl, rfl, rfl, rfl, trivial⟩
