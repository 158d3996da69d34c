def sWoN (M : Mem) (all : Int32) : Nat → Int32
  | 0 => -4
  | k + 1 => if (sWoN M all k = -4 ∨ bcX (nI k) < bcX (sWoN M all k)) ∧ sGood (M 2) (sHardOf (M 4) (M 5) (all &&& (nI k ^^^ -1))) = true then nI k else sWoN M all k
def sMo (t : Int32) : Nat := if 0 < t then t.toNatClampNeg else 400
def sSo1 (M : Mem) (w p : Int32) (i : Nat) : Bool := decide (sTillN (M 2) p (sRowB M (M 35 i) w) (sMo (M 36 i)) 1 = (if 0 < M 36 i then M 36 i else -4))
def sSoN (M : Mem) (w p : Int32) : Nat → Nat → Bool
  | 0, _ => true
  | m + 1, i => if sSo1 M w p i = true then sSoN M w p m (i + 1) else false
def seenO (M : Mem) (k : Nat) : Prop := k ≤ 8 ∧ M 0 10 = nI k ∧ ∀ i, i < k → sHasCows (M 1 4) (M 35 i) = true ∧ ∃ t, t ≤ 400 ∧ M 36 i = nI t
def sS (M : Mem) (k q : Nat) : Bool := sSoN M (nI (20 * (q / 9))) (nI (q % 9 + 1)) k 0
theorem sS_at (M : Mem) (k : Nat) {a q : Nat} (hq : q < 9) : sS M k (9 * a + q) = sSoN M (nI (20 * a)) (nI (q + 1)) k 0 := by
  unfold sS
  rw [show (9 * a + q) / 9 = a by omega, show (9 * a + q) % 9 = q by omega]
theorem sSoN_put (M : Mem) (c : Nat → Int32) (w p : Int32) : ∀ m i, sSoN (putC M 16 c) w p m i = sSoN M w p m i := by
  intro m
  induction m with
  | zero => intro i; rfl
  | succ m ih => intro i; rw [sSoN, sSoN, ih, show sSo1 (putC M 16 c) w p i = sSo1 M w p i from rfl]
def sWhyN (M : Mem) (k : Nat) (wh : Int32) : Nat → Nat → Int32 → Int32
  | 0, _, cnt => if wh = 0 then cnt else -4
  | m + 1, q, cnt => if sS M k q = true then (if wh = 0 then sWhyN M k wh m (q + 1) (cnt + 1) else if wh = 1 then nI (20 * (q / 9)) else nI (q % 9 + 1)) else sWhyN M k wh m (q + 1) cnt

theorem cs_X7_without_85 : CSS (xmN YX7_without).cls (xmF YX7_without) (xmW YX7_without) 85 3 YX7_outside := ⟨⟨ml_X7_85, ini_X7, cd_X7_outside, by decide +kernel, by decide⟩, st_X7_outside⟩
theorem cs_X7_without_105 : CSV (xmN YX7_without).cls (xmF YX7_without) (xmW YX7_without) 105 0 YX6_allCows := ⟨⟨ml_X7_105, ini_X6, cd_X6_allCows, by decide +kernel, by decide⟩, im_X6_allCows, se_X6_allCows⟩
theorem cs_X7_without_176 : CSS (xmN YX7_without).cls (xmF YX7_without) (xmW YX7_without) 176 1 YJ6_bitCount_0f7a4 := ⟨⟨ml_X7_176, ini_J6, cd_J6_bitCount_0f7a4, by decide +kernel, by decide⟩, st_J6_bitCount_0f7a4⟩
theorem cs_X7_without_181 : CSV (xmN YX7_without).cls (xmF YX7_without) (xmW YX7_without) 181 1 YX6_hardOf := ⟨⟨ml_X7_181, ini_X6, cd_X6_hardOf, by decide +kernel, by decide⟩, im_X6_hardOf, se_X6_hardOf⟩
theorem cs_X7_without_184 : CSV (xmN YX7_without).cls (xmF YX7_without) (xmW YX7_without) 184 1 YX6_isGood := ⟨⟨ml_X7_184, ini_X6, cd_X6_isGood, by decide +kernel, by decide⟩, im_X6_isGood, se_X6_isGood⟩
set_option maxRecDepth 100000 in
theorem c_X7_without {l : Launch} {g : XG} {M : Mem} {wh : Int32} {n : Nat} (hn : M 1 4 = nI n) (ln : n ≤ 8) : Call l g YX7_without [.ref (ad g 0), .int wh] M (PI (fun v M' => v = (if outB wh 0 1 = true then -1 else if sWoN M (nI (2 ^ n - 1)) (2 ^ n - 1) = -4 ∨ wh = 1 then sWoN M (nI (2 ^ n - 1)) (2 ^ n - 1) else bcX (sWoN M (nI (2 ^ n - 1)) (2 ^ n - 1))) ∧ M' = M)) := by
  refine call_of (by decide +kernel) (Nat.le_of_ble_eq_true rfl) (fun x hxl F R => ?_)
  subst hxl
  refine ex_iload_n F dX7_without_0 rfl rfl ?_
  refine ex_iconst (v := 0) F dX7_without_1 (by decide) ?_
  refine ex_iconst (v := 1) F dX7_without_2 (by decide) ?_
  refine ex_callSi F (c_X7_outside) dX7_without_3 cs_X7_without_85 rfl rfl (Nat.le_of_ble_eq_true rfl) (fun v3 M3 h3 => ?_)
  obtain ⟨rfl, q3⟩ := h3
  rw [q3]
  clear q3
  refine ex_if_eq (t := 11) F dX7_without_6 (by decide) (fun c6 => ?_) (fun c6 => ?_)
  · refine ex_aload_n F dX7_without_11 rfl rfl ?_
    refine gf_7_0 F dX7_without_12 fl_X7_10 ?_
    refine ex_callVi F (c_X6_allCows) dX7_without_15 cs_X7_without_105 (ob_6 (by decide)) rfl rfl rfl rfl (Nat.le_of_ble_eq_true rfl) (fun v15 M15 h15 => ?_)
    obtain ⟨e15, q15⟩ := h15
    rw [q15]
    clear q15
    rw [hn, sAll_n n ln] at e15
    subst e15
    have l8 := pow8 ln
    generalize hal : 2 ^ n - 1 = al at R ⊢
    have lal : al ≤ 256 := by omega
    refine ex_istore_n F dX7_without_18 rfl (by decide) ?_
    refine ex_bipush (v := -4) F dX7_without_19 (by decide) ?_
    refine ex_istore_n F dX7_without_21 rfl (by decide) ?_
    refine ex_iconst (v := 0) F dX7_without_22 (by decide) ?_
    refine ex_istore F dX7_without_23 (by decide) ?_
    have key : ∀ (m i : Nat) (v o : Int32), i + m = al → v = nI i → o = sWoN M (nI al) i → EX x g (xmL YX7_without) M 25 [(0, .ref (ad g 0)), (1, .int wh), (2, .int (nI al)), (3, .int o), (4, .int v)] [] := by
      intro m
      induction m with
      | zero =>
        intro i v o hi hv ho
        obtain rfl : i = al := by omega
        subst hv
        refine ex_iload F dX7_without_25 rfl ?_
        refine ex_iload_n F dX7_without_27 rfl rfl ?_
        refine ex_icmp_ge (t := 93) F dX7_without_28 (by decide) (fun _ => ?_) (fun c => absurd (Int32.le_refl _) c)
        refine ex_iload_n F dX7_without_93 rfl rfl ?_
        refine ex_bipush (v := -4) F dX7_without_94 (by decide) ?_
        refine ex_icmp_eq (t := 104) F dX7_without_96 (by decide) (fun c96 => ?_) (fun c96 => ?_)
        · refine ex_iload_n F dX7_without_104 rfl rfl ?_
          refine ex_goto (t := 112) F dX7_without_105 (by decide) ?_
          exact ex_iret F R dX7_without_112 rfl (⟨by rw [if_neg (by rw [b2i_0.mp c6]; decide), ← ho]; rw [if_pos (Or.inl c96)], rfl⟩)
        · refine ex_iload_n F dX7_without_99 rfl rfl ?_
          refine ex_iconst (v := 1) F dX7_without_100 (by decide) ?_
          refine ex_icmp_ne (t := 108) F dX7_without_101 (by decide) (fun c101 => ?_) (fun c101 => ?_)
          · refine ex_iload_n F dX7_without_108 rfl rfl ?_
            refine ex_callSi F (c_J6_bitCount_0f7a4) dX7_without_109 cs_X7_without_176 rfl rfl (Nat.le_of_ble_eq_true rfl) (fun v109 M109 h109 => ?_)
            obtain ⟨rfl, q109⟩ := h109
            rw [q109]
            clear q109
            exact ex_iret F R dX7_without_112 rfl (⟨by rw [if_neg (by rw [b2i_0.mp c6]; decide), ← ho]; rw [if_neg (fun q => q.elim c96 c101)], rfl⟩)
          · refine ex_iload_n F dX7_without_104 rfl rfl ?_
            refine ex_goto (t := 112) F dX7_without_105 (by decide) ?_
            exact ex_iret F R dX7_without_112 rfl (⟨by rw [if_neg (by rw [b2i_0.mp c6]; decide), ← ho]; rw [if_pos (Or.inr c101)], rfl⟩)
      | succ m ih =>
        intro i v o hi hv ho
        subst hv
        refine ex_iload F dX7_without_25 rfl ?_
        refine ex_iload_n F dX7_without_27 rfl rfl ?_
        refine ex_icmp_ge (t := 93) F dX7_without_28 (by decide) (fun c => absurd c (nI_ge (by omega) (by omega))) (fun _ => ?_)
        refine ex_iload_n F dX7_without_31 rfl rfl ?_
        refine ex_bipush (v := -4) F dX7_without_32 (by decide) ?_
        refine ex_icmp_eq (t := 49) F dX7_without_34 (by decide) (fun c34 => ?_) (fun c34 => ?_)
        · refine ex_iconst (v := 1) F dX7_without_49 (by decide) ?_
          refine ex_goto (t := 54) F dX7_without_50 (by decide) ?_
          refine ex_istore F dX7_without_54 (by decide) ?_
          refine ex_iload F dX7_without_56 rfl ?_
          refine ex_if_eq (t := 87) F dX7_without_58 (by decide) (fun c => absurd c (by decide)) (fun _ => ?_)
          refine ex_aload_n F dX7_without_61 rfl rfl ?_
          refine gf_7_0 F dX7_without_62 fl_X7_10 ?_
          refine ex_aload_n F dX7_without_65 rfl rfl ?_
          refine gf_7_0 F dX7_without_66 fl_X7_10 ?_
          refine ex_iload_n F dX7_without_69 rfl rfl ?_
          refine ex_iload F dX7_without_70 rfl ?_
          refine ex_iconst (v := -1) F dX7_without_72 (by decide) ?_
          refine ex_ixor F dX7_without_73 ?_
          refine ex_iand F dX7_without_74 ?_
          refine ex_callVi F (c_X6_hardOf) dX7_without_75 cs_X7_without_181 (ob_6 (by decide)) rfl rfl rfl rfl (Nat.le_of_ble_eq_true rfl) (fun v75 M75 h75 => ?_)
          obtain ⟨rfl, q75⟩ := h75
          rw [q75]
          clear q75
          refine ex_callVi F (c_X6_isGood) dX7_without_78 cs_X7_without_184 (ob_6 (by decide)) rfl rfl rfl rfl (Nat.le_of_ble_eq_true rfl) (fun v78 M78 h78 => ?_)
          obtain ⟨rfl, q78⟩ := h78
          rw [q78]
          clear q78
          refine ex_if_eq (t := 87) F dX7_without_81 (by decide) (fun c81 => ?_) (fun c81 => ?_)
          · refine ex_iinc (w := _ + 1) F dX7_without_87 rfl rfl (by decide) ?_
            refine ex_goto (t := 25) F dX7_without_90 (by decide) ?_
            refine ex_weak2 (ih (i + 1) _ _ (by omega) (nI_1 i) ?_) ⟨rfl, rfl, rfl, rfl, rfl, trivial⟩
            rw [sWoN, ← ho, if_neg (fun q => by rw [b2i_0.mp c81] at q; exact absurd q.2 (by decide))]
          · refine ex_iload F dX7_without_84 rfl ?_
            refine ex_istore_n F dX7_without_86 rfl (by decide) ?_
            refine ex_iinc (w := _ + 1) F dX7_without_87 rfl rfl (by decide) ?_
            refine ex_goto (t := 25) F dX7_without_90 (by decide) ?_
            refine ex_weak2 (ih (i + 1) _ _ (by omega) (nI_1 i) ?_) ⟨rfl, rfl, rfl, rfl, rfl, trivial⟩
            rw [sWoN, ← ho, if_pos ⟨Or.inl c34, b2i_1.mp c81⟩]
        · refine ex_iload F dX7_without_37 rfl ?_
          refine ex_callSi F (c_J6_bitCount_0f7a4) dX7_without_39 cs_X7_without_176 rfl rfl (Nat.le_of_ble_eq_true rfl) (fun v39 M39 h39 => ?_)
          obtain ⟨rfl, q39⟩ := h39
          rw [q39]
          clear q39
          refine ex_iload_n F dX7_without_42 rfl rfl ?_
          refine ex_callSi F (c_J6_bitCount_0f7a4) dX7_without_43 cs_X7_without_176 rfl rfl (Nat.le_of_ble_eq_true rfl) (fun v43 M43 h43 => ?_)
          obtain ⟨rfl, q43⟩ := h43
          rw [q43]
          clear q43
          refine ex_icmp_ge (t := 53) F dX7_without_46 (by decide) (fun c46 => ?_) (fun c46 => ?_)
          · refine ex_iconst (v := 0) F dX7_without_53 (by decide) ?_
            refine ex_istore F dX7_without_54 (by decide) ?_
            refine ex_iload F dX7_without_56 rfl ?_
            refine ex_if_eq (t := 87) F dX7_without_58 (by decide) (fun _ => ?_) (fun c => absurd (by decide) c)
            refine ex_iinc (w := _ + 1) F dX7_without_87 rfl rfl (by decide) ?_
            refine ex_goto (t := 25) F dX7_without_90 (by decide) ?_
            refine ex_weak2 (ih (i + 1) _ _ (by omega) (nI_1 i) ?_) ⟨rfl, rfl, rfl, rfl, rfl, trivial⟩
            rw [sWoN, ← ho, if_neg (fun q => q.1.elim c34 (fun z => absurd z (Int32.not_lt.mpr c46)))]
          · refine ex_iconst (v := 1) F dX7_without_49 (by decide) ?_
            refine ex_goto (t := 54) F dX7_without_50 (by decide) ?_
            refine ex_istore F dX7_without_54 (by decide) ?_
            refine ex_iload F dX7_without_56 rfl ?_
            refine ex_if_eq (t := 87) F dX7_without_58 (by decide) (fun c => absurd c (by decide)) (fun _ => ?_)
            refine ex_aload_n F dX7_without_61 rfl rfl ?_
            refine gf_7_0 F dX7_without_62 fl_X7_10 ?_
            refine ex_aload_n F dX7_without_65 rfl rfl ?_
            refine gf_7_0 F dX7_without_66 fl_X7_10 ?_
            refine ex_iload_n F dX7_without_69 rfl rfl ?_
            refine ex_iload F dX7_without_70 rfl ?_
            refine ex_iconst (v := -1) F dX7_without_72 (by decide) ?_
            refine ex_ixor F dX7_without_73 ?_
            refine ex_iand F dX7_without_74 ?_
            refine ex_callVi F (c_X6_hardOf) dX7_without_75 cs_X7_without_181 (ob_6 (by decide)) rfl rfl rfl rfl (Nat.le_of_ble_eq_true rfl) (fun v75 M75 h75 => ?_)
            obtain ⟨rfl, q75⟩ := h75
            rw [q75]
            clear q75
            refine ex_callVi F (c_X6_isGood) dX7_without_78 cs_X7_without_184 (ob_6 (by decide)) rfl rfl rfl rfl (Nat.le_of_ble_eq_true rfl) (fun v78 M78 h78 => ?_)
            obtain ⟨rfl, q78⟩ := h78
            rw [q78]
            clear q78
            refine ex_if_eq (t := 87) F dX7_without_81 (by decide) (fun c81 => ?_) (fun c81 => ?_)
            · refine ex_iinc (w := _ + 1) F dX7_without_87 rfl rfl (by decide) ?_
              refine ex_goto (t := 25) F dX7_without_90 (by decide) ?_
              refine ex_weak2 (ih (i + 1) _ _ (by omega) (nI_1 i) ?_) ⟨rfl, rfl, rfl, rfl, rfl, trivial⟩
              rw [sWoN, ← ho, if_neg (fun q => by rw [b2i_0.mp c81] at q; exact absurd q.2 (by decide))]
            · refine ex_iload F dX7_without_84 rfl ?_
              refine ex_istore_n F dX7_without_86 rfl (by decide) ?_
              refine ex_iinc (w := _ + 1) F dX7_without_87 rfl rfl (by decide) ?_
              refine ex_goto (t := 25) F dX7_without_90 (by decide) ?_
              refine ex_weak2 (ih (i + 1) _ _ (by omega) (nI_1 i) ?_) ⟨rfl, rfl, rfl, rfl, rfl, trivial⟩
              rw [sWoN, ← ho, if_pos ⟨Or.inr (Int32.not_le.mp c46), b2i_1.mp c81⟩]
    exact ex_weak2 (key al 0 _ _ (by omega) rfl rfl) ⟨rfl, rfl, rfl, rfl, rfl, trivial⟩
  · refine ex_iconst (v := -1) F dX7_without_9 (by decide) ?_
    exact ex_iret F R dX7_without_10 rfl (⟨by rw [if_pos (b2i_1.mp c6)], rfl⟩)
theorem cs_X7_isAsSeen_108 : CSV (xmN YX7_isAsSeen).cls (xmF YX7_isAsSeen) (xmW YX7_isAsSeen) 108 3 YX1_fillWith := ⟨⟨ml_X7_108, ini_X1, cd_X1_fillWith, by decide +kernel, by decide⟩, im_X1_fillWith, se_X1_fillWith⟩
theorem cs_X7_isAsSeen_166 : CSV (xmN YX7_isAsSeen).cls (xmF YX7_isAsSeen) (xmW YX7_isAsSeen) 166 2 YX7_turnTrialTillCome := ⟨⟨ml_X7_166, ini_X7, cd_X7_turnTrialTillCome, by decide +kernel, by decide⟩, im_X7_turnTrialTillCome, se_X7_turnTrialTillCome⟩
set_option maxRecDepth 100000 in
theorem c_X7_isAsSeen {l : Launch} {g : XG} {M : Mem} {w0 p : Int32} {xx pp k : Nat} (hR : okR (M 2)) (hO : tO M) (h16 : zC (cX M 16)) (lx : xx ≤ 400) (hw : w0 = nI xx) (hp : p = nI pp) (lp : pp ≤ 9) (hSe : seenO M k) : Call l g YX7_isAsSeen [.ref (ad g 0), .int w0, .int p] M (PI (fun v M' => v = b2i (sSoN M w0 p k 0) ∧ ∃ c, zC c ∧ M' = putC M 16 c)) := by
  refine call_of (by decide +kernel) (Nat.le_of_ble_eq_true rfl) (fun x hxl F R => ?_)
  subst hxl
  obtain ⟨lk, hk, hS⟩ := hSe
  refine ex_iconst (v := 0) F dX7_isAsSeen_0 (by decide) ?_
  refine ex_istore_n F dX7_isAsSeen_1 rfl (by decide) ?_
  have key : ∀ (m i : Nat) (v : Int32) (c : Nat → Int32), i + m = k → v = nI i → zC c → sSoN M w0 p m i = sSoN M w0 p k 0 → EX x g (xmL YX7_isAsSeen) (putC M 16 c) 2 [(0, .ref (ad g 0)), (1, .int w0), (2, .int p), (3, .int v)] [] := by
    intro m
    induction m with
    | zero =>
      intro i v c hi hv hz hs
      obtain rfl : i = k := by omega
      subst hv
      refine ex_iload_n F dX7_isAsSeen_2 rfl rfl ?_
      refine ex_aload_n F dX7_isAsSeen_3 rfl rfl ?_
      refine gf_7_10 F dX7_isAsSeen_4 fl_X7_112 ?_
      refine ex_icmp_ge (t := 119) F dX7_isAsSeen_7 (by decide) (fun _ => ?_) (fun c => absurd (show M 0 10 ≤ nI i from by rw [hk]; exact Int32.le_refl _) c)
      refine ex_iconst (v := 1) F dX7_isAsSeen_119 (by decide) ?_
      exact ex_zret (ty := .boolean) F R dX7_isAsSeen_120 rfl (rfl) (⟨by rw [← hs]; rfl, c, hz, rfl⟩)
    | succ m ih =>
      intro i v c hi hv hz hs
      subst hv
      obtain ⟨hbi, t, lt, ht⟩ := hS i (by omega)
      have hCf : okC 0 (sRowB M (M 35 i) w0) := row_ok hO hbi lx hw
      refine ex_iload_n F dX7_isAsSeen_2 rfl rfl ?_
      refine ex_aload_n F dX7_isAsSeen_3 rfl rfl ?_
      refine gf_7_10 F dX7_isAsSeen_4 fl_X7_112 ?_
      refine ex_icmp_ge (t := 119) F dX7_isAsSeen_7 (by decide) (fun c => absurd c (show ¬ M 0 10 ≤ nI i from by rw [hk]; exact nI_ge (by omega) (by omega))) (fun _ => ?_)
      refine ex_iload_n F dX7_isAsSeen_10 rfl rfl ?_
      refine ex_aload_n F dX7_isAsSeen_11 rfl rfl ?_
      refine gf_7_7 F dX7_isAsSeen_12 fl_X7_54 ?_
      refine ex_ilen (n := 8) (v := 8) F dX7_isAsSeen_15 (by decide) (by decide) ?_
      refine ex_icmp_ge (t := 119) F dX7_isAsSeen_16 (by decide) (fun c => absurd c (nI_ge (b := 8) (by omega) (by decide))) (fun _ => ?_)
      refine ex_iload_n F dX7_isAsSeen_19 rfl rfl ?_
      refine ex_aload_n F dX7_isAsSeen_20 rfl rfl ?_
      refine gf_7_8 F dX7_isAsSeen_21 fl_X7_58 ?_
      refine ex_ilen (n := 8) (v := 8) F dX7_isAsSeen_24 (by decide) (by decide) ?_
      refine ex_icmp_ge (t := 119) F dX7_isAsSeen_25 (by decide) (fun c => absurd c (nI_ge (b := 8) (by omega) (by decide))) (fun _ => ?_)
      refine ex_aload_n F dX7_isAsSeen_28 rfl rfl ?_
      refine gf_7_8 F dX7_isAsSeen_29 fl_X7_58 ?_
      refine ex_iload_n F dX7_isAsSeen_32 rfl rfl ?_
      refine ex_iald (n := 8) F dX7_isAsSeen_33 (by decide) (vp_in_nI (by omega) (by decide)) (j := i) (nI_clamp (by omega)) ?_
      refine ex_if_le (t := 41) F dX7_isAsSeen_34 (by decide) (fun c34 => ?_) (fun c34 => ?_)
      · refine ex_iconst (v := 0) F dX7_isAsSeen_41 (by decide) ?_
        refine ex_istore F dX7_isAsSeen_42 (by decide) ?_
        refine ex_iload F dX7_isAsSeen_44 rfl ?_
        refine ex_if_eq (t := 58) F dX7_isAsSeen_46 (by decide) (fun _ => ?_) (fun c => absurd (by decide) c)
        refine ex_sipush (v := 400) F dX7_isAsSeen_58 (by decide) ?_
        refine ex_istore F dX7_isAsSeen_61 (by decide) ?_
        refine ex_aload_n F dX7_isAsSeen_63 rfl rfl ?_
        refine gf_7_3 F dX7_isAsSeen_64 fl_X7_30 ?_
        refine ex_aload_n F dX7_isAsSeen_67 rfl rfl ?_
        refine gf_7_0 F dX7_isAsSeen_68 fl_X7_10 ?_
        refine ex_aload_n F dX7_isAsSeen_71 rfl rfl ?_
        refine gf_7_7 F dX7_isAsSeen_72 fl_X7_54 ?_
        refine ex_iload_n F dX7_isAsSeen_75 rfl rfl ?_
        refine ex_iald (n := 8) F dX7_isAsSeen_76 (by decide) (vp_in_nI (by omega) (by decide)) (j := i) (nI_clamp (by omega)) ?_
        refine ex_iload_n F dX7_isAsSeen_77 rfl rfl ?_
        refine ex_callVv F (c_X1_fillWith (M := putC M 16 c) (k := 16) (by decide)) dX7_isAsSeen_78 cs_X7_isAsSeen_108 (ob_1 (by decide)) rfl rfl rfl rfl (Nat.le_of_ble_eq_true rfl) (fun M78 h78 => ?_)
        rw [cX_putC, fill_z hz, putC_putC] at h78
        have h78 : M78 = putC M 16 (sRowB M (M 35 i) w0) := h78
        rw [h78]
        clear h78
        refine ex_aload_n F dX7_isAsSeen_81 rfl rfl ?_
        refine ex_iload_n F dX7_isAsSeen_82 rfl rfl ?_
        refine ex_iload F dX7_isAsSeen_83 rfl ?_
        refine ex_callVi F (c_X7_turnTrialTillCome (M := putC M 16 _) (mm := 400) (T := 0) hR (by rw [cX_putC]; exact hCf) (by decide) (by decide) hp lp rfl (by rw [cX_putC]; rfl)) dX7_isAsSeen_85 cs_X7_isAsSeen_166 ob_7 rfl rfl rfl rfl (Nat.le_of_ble_eq_true rfl) (fun v85 M85 h85 => ?_)
        obtain ⟨e85, n85, -, q85, -⟩ := h85
        rw [cX_putC] at e85
        rw [cX_putC, putC_putC] at q85
        have e85 : v85 = sTillN (M 2) p (sRowB M (M 35 i) w0) 400 1 := e85
        have q85 : M85 = putC M 16 (itT (M 2) p n85 (sRowB M (M 35 i) w0)) := q85
        have hz2 : zC (itT (M 2) p n85 (sRowB M (M 35 i) w0)) := zC_it _ hCf.2.2.2.2
        rw [q85]
        clear q85
        have g34 : ¬ 0 < M 36 i := Int32.not_lt.mpr c34
        have em : sMo (M 36 i) = 400 := by rw [sMo, if_neg g34]
        refine ex_istore F dX7_isAsSeen_88 (by decide) ?_
        refine ex_iload F dX7_isAsSeen_90 rfl ?_
        refine ex_iload F dX7_isAsSeen_92 rfl ?_
        refine ex_if_eq (t := 106) F dX7_isAsSeen_94 (by decide) (fun _ => ?_) (fun c => absurd (by decide) c)
        refine ex_bipush (v := -4) F dX7_isAsSeen_106 (by decide) ?_
        refine ex_icmp_eq (t := 113) F dX7_isAsSeen_108 (by decide) (fun c108 => ?_) (fun c108 => ?_)
        · refine ex_iinc (w := _ + 1) F dX7_isAsSeen_113 rfl rfl (by decide) ?_
          refine ex_goto (t := 2) F dX7_isAsSeen_116 (by decide) ?_
          refine ex_weak2 (ih (i + 1) _ _ (by omega) (nI_1 i) hz2 ?_) ⟨rfl, rfl, rfl, rfl, trivial⟩
          have hf : sSo1 M w0 p i = true := by rw [sSo1, em, ← e85, if_neg g34]; exact decide_eq_true c108
          rw [← hs, sSoN, if_pos hf]
        · refine ex_iconst (v := 0) F dX7_isAsSeen_111 (by decide) ?_
          exact ex_zret (ty := .boolean) F R dX7_isAsSeen_112 rfl (rfl) (⟨by have hf : sSo1 M w0 p i = false := (by rw [sSo1, em, ← e85, if_neg g34]; exact decide_eq_false c108); rw [← hs, sSoN, if_neg (by rw [hf]; decide)]; rfl, _, hz2, rfl⟩)
      · refine ex_iconst (v := 1) F dX7_isAsSeen_37 (by decide) ?_
        refine ex_goto (t := 42) F dX7_isAsSeen_38 (by decide) ?_
        refine ex_istore F dX7_isAsSeen_42 (by decide) ?_
        refine ex_iload F dX7_isAsSeen_44 rfl ?_
        refine ex_if_eq (t := 58) F dX7_isAsSeen_46 (by decide) (fun c => absurd c (by decide)) (fun _ => ?_)
        refine ex_aload_n F dX7_isAsSeen_49 rfl rfl ?_
        refine gf_7_8 F dX7_isAsSeen_50 fl_X7_58 ?_
        refine ex_iload_n F dX7_isAsSeen_53 rfl rfl ?_
        refine ex_iald (n := 8) F dX7_isAsSeen_54 (by decide) (vp_in_nI (by omega) (by decide)) (j := i) (nI_clamp (by omega)) ?_
        refine ex_goto (t := 61) F dX7_isAsSeen_55 (by decide) ?_
        refine ex_istore F dX7_isAsSeen_61 (by decide) ?_
        refine ex_aload_n F dX7_isAsSeen_63 rfl rfl ?_
        refine gf_7_3 F dX7_isAsSeen_64 fl_X7_30 ?_
        refine ex_aload_n F dX7_isAsSeen_67 rfl rfl ?_
        refine gf_7_0 F dX7_isAsSeen_68 fl_X7_10 ?_
        refine ex_aload_n F dX7_isAsSeen_71 rfl rfl ?_
        refine gf_7_7 F dX7_isAsSeen_72 fl_X7_54 ?_
        refine ex_iload_n F dX7_isAsSeen_75 rfl rfl ?_
        refine ex_iald (n := 8) F dX7_isAsSeen_76 (by decide) (vp_in_nI (by omega) (by decide)) (j := i) (nI_clamp (by omega)) ?_
        refine ex_iload_n F dX7_isAsSeen_77 rfl rfl ?_
        refine ex_callVv F (c_X1_fillWith (M := putC M 16 c) (k := 16) (by decide)) dX7_isAsSeen_78 cs_X7_isAsSeen_108 (ob_1 (by decide)) rfl rfl rfl rfl (Nat.le_of_ble_eq_true rfl) (fun M78 h78 => ?_)
        rw [cX_putC, fill_z hz, putC_putC] at h78
        have h78 : M78 = putC M 16 (sRowB M (M 35 i) w0) := h78
        rw [h78]
        clear h78
        refine ex_aload_n F dX7_isAsSeen_81 rfl rfl ?_
        refine ex_iload_n F dX7_isAsSeen_82 rfl rfl ?_
        refine ex_iload F dX7_isAsSeen_83 rfl ?_
        refine ex_callVi F (c_X7_turnTrialTillCome (M := putC M 16 _) (mm := t) (T := 0) hR (by rw [cX_putC]; exact hCf) (by omega) (by omega) hp lp ht (by rw [cX_putC]; rfl)) dX7_isAsSeen_85 cs_X7_isAsSeen_166 ob_7 rfl rfl rfl rfl (Nat.le_of_ble_eq_true rfl) (fun v85 M85 h85 => ?_)
        obtain ⟨e85, n85, -, q85, -⟩ := h85
        rw [cX_putC] at e85
        rw [cX_putC, putC_putC] at q85
        have e85 : v85 = sTillN (M 2) p (sRowB M (M 35 i) w0) t 1 := e85
        have q85 : M85 = putC M 16 (itT (M 2) p n85 (sRowB M (M 35 i) w0)) := q85
        have hz2 : zC (itT (M 2) p n85 (sRowB M (M 35 i) w0)) := zC_it _ hCf.2.2.2.2
        rw [q85]
        clear q85
        have g34 : 0 < M 36 i := Int32.not_le.mp c34
        have em : sMo (M 36 i) = t := by rw [sMo, if_pos g34, ht]; exact nI_clamp (by omega)
        refine ex_istore F dX7_isAsSeen_88 (by decide) ?_
        refine ex_iload F dX7_isAsSeen_90 rfl ?_
        refine ex_iload F dX7_isAsSeen_92 rfl ?_
        refine ex_if_eq (t := 106) F dX7_isAsSeen_94 (by decide) (fun c => absurd c (by decide)) (fun _ => ?_)
        refine ex_aload_n F dX7_isAsSeen_97 rfl rfl ?_
        refine gf_7_8 F dX7_isAsSeen_98 fl_X7_58 ?_
        refine ex_iload_n F dX7_isAsSeen_101 rfl rfl ?_
        refine ex_iald (n := 8) F dX7_isAsSeen_102 (by decide) (vp_in_nI (by omega) (by decide)) (j := i) (nI_clamp (by omega)) ?_
        refine ex_goto (t := 108) F dX7_isAsSeen_103 (by decide) ?_
        refine ex_icmp_eq (t := 113) F dX7_isAsSeen_108 (by decide) (fun c108 => ?_) (fun c108 => ?_)
        · refine ex_iinc (w := _ + 1) F dX7_isAsSeen_113 rfl rfl (by decide) ?_
          refine ex_goto (t := 2) F dX7_isAsSeen_116 (by decide) ?_
          refine ex_weak2 (ih (i + 1) _ _ (by omega) (nI_1 i) hz2 ?_) ⟨rfl, rfl, rfl, rfl, trivial⟩
          have hf : sSo1 M w0 p i = true := by rw [sSo1, em, ← e85, if_pos g34]; exact decide_eq_true c108
          rw [← hs, sSoN, if_pos hf]
        · refine ex_iconst (v := 0) F dX7_isAsSeen_111 (by decide) ?_
          exact ex_zret (ty := .boolean) F R dX7_isAsSeen_112 rfl (rfl) (⟨by have hf : sSo1 M w0 p i = false := (by rw [sSo1, em, ← e85, if_pos g34]; exact decide_eq_false c108); rw [← hs, sSoN, if_neg (by rw [hf]; decide)]; rfl, _, hz2, rfl⟩)
  exact ex_M (putC_cX M 16).symm (ex_weak2 (key k 0 _ _ (by omega) rfl h16 rfl) ⟨rfl, rfl, rfl, rfl, trivial⟩)
theorem cs_X7_why_85 : CSS (xmN YX7_why).cls (xmF YX7_why) (xmW YX7_why) 85 3 YX7_outside := ⟨⟨ml_X7_85, ini_X7, cd_X7_outside, by decide +kernel, by decide⟩, st_X7_outside⟩
theorem cs_X7_why_187 : CSV (xmN YX7_why).cls (xmF YX7_why) (xmW YX7_why) 187 2 YX7_isAsSeen := ⟨⟨ml_X7_187, ini_X7, cd_X7_isAsSeen, by decide +kernel, by decide⟩, im_X7_isAsSeen, se_X7_isAsSeen⟩
set_option maxRecDepth 100000 in
theorem c_X7_why {l : Launch} {g : XG} {M : Mem} {wh : Int32} {k : Nat} (hR : okR (M 2)) (hO : tO M) (h16 : zC (cX M 16)) (hSe : seenO M k) : Call l g YX7_why [.ref (ad g 0), .int wh] M (PI (fun v M' => v = (if outB wh 0 2 = true then -1 else sWhyN M k wh 189 0 0) ∧ jX M M')) := by
  refine call_of (by decide +kernel) (Nat.le_of_ble_eq_true rfl) (fun x hxl F R => ?_)
  subst hxl
  refine ex_iload_n F dX7_why_0 rfl rfl ?_
  refine ex_iconst (v := 0) F dX7_why_1 (by decide) ?_
  refine ex_iconst (v := 2) F dX7_why_2 (by decide) ?_
  refine ex_callSi F (c_X7_outside) dX7_why_3 cs_X7_why_85 rfl rfl (Nat.le_of_ble_eq_true rfl) (fun v3 M3 h3 => ?_)
  obtain ⟨rfl, q3⟩ := h3
  rw [q3]
  clear q3
  refine ex_if_eq (t := 11) F dX7_why_6 (by decide) (fun c6 => ?_) (fun c6 => ?_)
  · refine ex_iconst (v := 0) F dX7_why_11 (by decide) ?_
    refine ex_istore_n F dX7_why_12 rfl (by decide) ?_
    refine ex_iconst (v := 0) F dX7_why_13 (by decide) ?_
    refine ex_istore_n F dX7_why_14 rfl (by decide) ?_
    have key : ∀ (m a z : Nat) (v cnt : Int32) (c : Nat → Int32), a + m = 21 → z + 9 * a = 189 → v = nI (20 * a) → zC c → sWhyN M k wh z (9 * a) cnt = sWhyN M k wh 189 0 0 → EX x g (xmL YX7_why) (putC M 16 c) 15 [(0, .ref (ad g 0)), (1, .int wh), (2, .int cnt), (3, .int v)] [] := by
      generalize sWhyN M k wh 189 0 0 = W0 at R
      intro m
      induction m with
      | zero =>
        intro a z v cnt c ha hz9 hv hz hs
        obtain rfl : a = 21 := by omega
        obtain rfl : z = 0 := by omega
        subst hv
        refine ex_iload_n F dX7_why_15 rfl rfl ?_
        refine ex_sipush (v := 400) F dX7_why_16 (by decide) ?_
        refine ex_icmp_gt (t := 73) F dX7_why_19 (by decide) (fun _ => ?_) (fun c => absurd (by decide) c)
        refine ex_iload_n F dX7_why_73 rfl rfl ?_
        refine ex_if_ne (t := 81) F dX7_why_74 (by decide) (fun c74 => ?_) (fun c74 => ?_)
        · refine ex_bipush (v := -4) F dX7_why_81 (by decide) ?_
          exact ex_iret F R dX7_why_83 rfl (⟨by rw [if_neg (by rw [b2i_0.mp c6]; decide), ← hs, sWhyN, if_neg c74], jX_put hz⟩)
        · refine ex_iload_n F dX7_why_77 rfl rfl ?_
          refine ex_goto (t := 83) F dX7_why_78 (by decide) ?_
          exact ex_iret F R dX7_why_83 rfl (⟨by rw [if_neg (by rw [b2i_0.mp c6]; decide), ← hs, sWhyN, if_pos c74], jX_put hz⟩)
      | succ m ih =>
        intro a z v cnt c ha hz9 hv hz hs
        subst hv
        have inner : ∀ (kk q z : Nat) (u cnt : Int32) (c : Nat → Int32), q + kk = 9 → z + (9 * a + q) = 189 → u = nI (q + 1) → zC c → sWhyN M k wh z (9 * a + q) cnt = W0 → EX x g (xmL YX7_why) (putC M 16 c) 25 [(0, .ref (ad g 0)), (1, .int wh), (2, .int cnt), (3, .int (nI (20 * a))), (4, .int u)] [] := by
          intro kk
          induction kk with
          | zero =>
            intro q z u cnt c hq hz9 hu hz hs
            obtain rfl : q = 9 := by omega
            subst hu
            refine ex_iload F dX7_why_25 rfl ?_
            refine ex_bipush (v := 9) F dX7_why_27 (by decide) ?_
            refine ex_icmp_gt (t := 67) F dX7_why_29 (by decide) (fun _ => ?_) (fun c => absurd (by decide) c)
            refine ex_iinc (w := _ + 20) F dX7_why_67 rfl rfl (by decide) ?_
            refine ex_goto (t := 15) F dX7_why_70 (by decide) ?_
            refine ex_weak2 (ih (a + 1) z _ cnt c (by omega) (by omega) ?_ hz hs) ⟨rfl, rfl, rfl, rfl, trivial⟩
            rw [show (20 : Int32) = nI 20 from rfl, nI_add]; rfl
          | succ kk ih2 =>
            intro q z u cnt c hq hz9 hu hz hs
            subst hu
            obtain ⟨z, rfl⟩ : ∃ y, z = y + 1 := ⟨z - 1, by omega⟩
            refine ex_iload F dX7_why_25 rfl ?_
            refine ex_bipush (v := 9) F dX7_why_27 (by decide) ?_
            refine ex_icmp_gt (t := 67) F dX7_why_29 (by decide) (fun c => absurd c (nI_nlt (b := q + 1) (a := 9) (by omega) (by decide))) (fun _ => ?_)
            refine ex_aload_n F dX7_why_32 rfl rfl ?_
            refine ex_iload_n F dX7_why_33 rfl rfl ?_
            refine ex_iload F dX7_why_34 rfl ?_
            refine ex_callVi F (c_X7_isAsSeen (M := putC M 16 c) (xx := 20 * a) (pp := q + 1) (k := k) hR hO (by rw [cX_putC]; exact hz) (by omega) rfl rfl (by omega) hSe) dX7_why_36 cs_X7_why_187 ob_7 rfl rfl rfl rfl (Nat.le_of_ble_eq_true rfl) (fun v36 M36 h36 => ?_)
            obtain ⟨e36, c2, hz2, q36⟩ := h36
            rw [putC_putC] at q36
            rw [sSoN_put] at e36
            have e36 : v36 = b2i (sSoN M (nI (20 * a)) (nI (q + 1)) k 0) := e36
            subst e36
            rw [q36]
            clear q36
            refine ex_if_eq (t := 61) F dX7_why_39 (by decide) (fun c39 => ?_) (fun c39 => ?_)
            · refine ex_iinc (w := _ + 1) F dX7_why_61 rfl rfl (by decide) ?_
              refine ex_goto (t := 25) F dX7_why_64 (by decide) ?_
              refine ex_weak2 (ih2 (q + 1) z _ _ _ (by omega) (by omega) (nI_1 (q + 1)) hz2 ?_) ⟨rfl, rfl, rfl, rfl, rfl, trivial⟩
              rw [sWhyN, sS_at M k (by omega), if_neg (by rw [b2i_0.mp c39]; decide)] at hs
              exact hs
            · refine ex_iload_n F dX7_why_42 rfl rfl ?_
              refine ex_if_eq (t := 58) F dX7_why_43 (by decide) (fun c43 => ?_) (fun c43 => ?_)
              · refine ex_iinc (w := _ + 1) F dX7_why_58 rfl rfl (by decide) ?_
                refine ex_iinc (w := _ + 1) F dX7_why_61 rfl rfl (by decide) ?_
                refine ex_goto (t := 25) F dX7_why_64 (by decide) ?_
                refine ex_weak2 (ih2 (q + 1) z _ _ _ (by omega) (by omega) (nI_1 (q + 1)) hz2 ?_) ⟨rfl, rfl, rfl, rfl, rfl, trivial⟩
                rw [sWhyN, sS_at M k (by omega), if_pos (b2i_1.mp c39), if_pos c43] at hs
                exact hs
              · refine ex_iload_n F dX7_why_46 rfl rfl ?_
                refine ex_iconst (v := 1) F dX7_why_47 (by decide) ?_
                refine ex_icmp_ne (t := 55) F dX7_why_48 (by decide) (fun c48 => ?_) (fun c48 => ?_)
                · refine ex_iload F dX7_why_55 rfl ?_
                  exact ex_iret F R dX7_why_57 rfl (⟨by rw [if_neg (by rw [b2i_0.mp c6]; decide), ← hs, sWhyN, sS_at M k (by omega), if_pos (b2i_1.mp c39), if_neg c43, if_neg c48, show (9 * a + q) % 9 = q by omega], jX_put hz2⟩)
                · refine ex_iload_n F dX7_why_51 rfl rfl ?_
                  refine ex_goto (t := 57) F dX7_why_52 (by decide) ?_
                  exact ex_iret F R dX7_why_57 rfl (⟨by rw [if_neg (by rw [b2i_0.mp c6]; decide), ← hs, sWhyN, sS_at M k (by omega), if_pos (b2i_1.mp c39), if_neg c43, if_pos c48, show (9 * a + q) / 9 = a by omega], jX_put hz2⟩)
        refine ex_iload_n F dX7_why_15 rfl rfl ?_
        refine ex_sipush (v := 400) F dX7_why_16 (by decide) ?_
        refine ex_icmp_gt (t := 73) F dX7_why_19 (by decide) (fun c => absurd c (nI_nlt (b := 20 * a) (a := 400) (by omega) (by decide))) (fun _ => ?_)
        refine ex_iconst (v := 1) F dX7_why_22 (by decide) ?_
        refine ex_istore F dX7_why_23 (by decide) ?_
        exact ex_weak2 (inner 9 0 z _ cnt c (by omega) (by omega) rfl hz hs) ⟨rfl, rfl, rfl, rfl, rfl, trivial⟩
    exact ex_M (putC_cX M 16).symm (ex_weak2 (key 21 0 189 _ _ _ (by omega) (by omega) rfl h16 rfl) ⟨rfl, rfl, rfl, rfl, trivial⟩)
  · refine ex_iconst (v := -1) F dX7_why_9 (by decide) ?_
    exact ex_iret F R dX7_why_10 rfl (⟨by rw [if_pos (b2i_1.mp c6)], jX_rf h16⟩)
theorem cs_X7_saw_135 : CSV (xmN YX7_saw).cls (xmF YX7_saw) (xmW YX7_saw) 135 1 YX6_hasCows := ⟨⟨ml_X7_135, ini_X6, cd_X6_hasCows, by decide +kernel, by decide⟩, im_X6_hasCows, se_X6_hasCows⟩
theorem cs_X7_saw_85 : CSS (xmN YX7_saw).cls (xmF YX7_saw) (xmW YX7_saw) 85 3 YX7_outside := ⟨⟨ml_X7_85, ini_X7, cd_X7_outside, by decide +kernel, by decide⟩, st_X7_outside⟩
set_option maxRecDepth 100000 in
theorem c_X7_saw {l : Launch} {g : XG} {M : Mem} {b t : Int32} {k : Nat} (hk : M 0 10 = nI k) (lk : k ≤ 8) : Call l g YX7_saw [.ref (ad g 0), .int b, .int t] M (PI (fun v M' => v = (if (!sHasCows (M 1 4) b || outB t 0 400) = true then -1 else if k < 8 then nI (k + 1) else -3) ∧ M' = (if (!sHasCows (M 1 4) b || outB t 0 400) = true then M else if k < 8 then mu (mu (mu M 35 k b) 36 k t) 0 10 (nI (k + 1)) else M))) := by
  refine call_of (by decide +kernel) (Nat.le_of_ble_eq_true rfl) (fun x hxl F R => ?_)
  subst hxl
  refine ex_aload_n F dX7_saw_0 rfl rfl ?_
  refine gf_7_0 F dX7_saw_1 fl_X7_10 ?_
  refine ex_iload_n F dX7_saw_4 rfl rfl ?_
  refine ex_callVi F (c_X6_hasCows) dX7_saw_5 cs_X7_saw_135 (ob_6 (by decide)) rfl rfl rfl rfl (Nat.le_of_ble_eq_true rfl) (fun v5 M5 h5 => ?_)
  obtain ⟨rfl, q5⟩ := h5
  rw [q5]
  clear q5
  refine ex_if_eq (t := 22) F dX7_saw_8 (by decide) (fun c8 => ?_) (fun c8 => ?_)
  · refine ex_iconst (v := -1) F dX7_saw_22 (by decide) ?_
    exact ex_iret F R dX7_saw_23 rfl (⟨by simp [b2i_0.mp c8], by simp [b2i_0.mp c8]⟩)
  · refine ex_iload_n F dX7_saw_11 rfl rfl ?_
    refine ex_iconst (v := 0) F dX7_saw_12 (by decide) ?_
    refine ex_sipush (v := 400) F dX7_saw_13 (by decide) ?_
    refine ex_callSi F (c_X7_outside) dX7_saw_16 cs_X7_saw_85 rfl rfl (Nat.le_of_ble_eq_true rfl) (fun v16 M16 h16 => ?_)
    obtain ⟨rfl, q16⟩ := h16
    rw [q16]
    clear q16
    refine ex_if_eq (t := 24) F dX7_saw_19 (by decide) (fun c19 => ?_) (fun c19 => ?_)
    · refine ex_aload_n F dX7_saw_24 rfl rfl ?_
      refine gf_7_10 F dX7_saw_25 fl_X7_112 ?_
      refine ex_aload_n F dX7_saw_28 rfl rfl ?_
      refine gf_7_7 F dX7_saw_29 fl_X7_54 ?_
      refine ex_ilen (n := 8) (v := 8) F dX7_saw_32 (by decide) (by decide) ?_
      refine ex_icmp_ge (t := 48) F dX7_saw_33 (by decide) (fun c33 => ?_) (fun c33 => ?_)
      · refine ex_bipush (v := -3) F dX7_saw_48 (by decide) ?_
        exact ex_iret F R dX7_saw_50 rfl (⟨by have l8 : ¬ k < 8 := (fun q => nI_ge (b := 8) q (by decide) (by rw [hk] at c33; exact c33)); simp [b2i_1.mp c8, b2i_0.mp c19, l8], by have l8 : ¬ k < 8 := (fun q => nI_ge (b := 8) q (by decide) (by rw [hk] at c33; exact c33)); simp [b2i_1.mp c8, b2i_0.mp c19, l8]⟩)
      · have l8 : k < 8 := nI_ltof (b := 8) (by omega) (by rw [hk] at c33; exact c33)
        refine ex_aload_n F dX7_saw_36 rfl rfl ?_
        refine gf_7_10 F dX7_saw_37 fl_X7_112 ?_
        refine ex_aload_n F dX7_saw_40 rfl rfl ?_
        refine gf_7_8 F dX7_saw_41 fl_X7_58 ?_
        refine ex_ilen (n := 8) (v := 8) F dX7_saw_44 (by decide) (by decide) ?_
        refine ex_icmp_lt (t := 51) F dX7_saw_45 (by decide) (fun c45 => ?_) (fun c45 => ?_)
        · refine ex_aload_n F dX7_saw_51 rfl rfl ?_
          refine gf_7_7 F dX7_saw_52 fl_X7_54 ?_
          refine ex_aload_n F dX7_saw_55 rfl rfl ?_
          refine gf_7_10 F dX7_saw_56 fl_X7_112 ?_
          refine ex_iload_n F dX7_saw_59 rfl rfl ?_
          refine ex_iast (n := 8) F dX7_saw_60 (by decide) (by rw [hk]; exact vp_in_nI (by omega) (by decide)) (j := k) (by rw [hk]; exact nI_clamp (by omega)) ?_
          refine ex_aload_n F dX7_saw_61 rfl rfl ?_
          refine gf_7_8 F dX7_saw_62 fl_X7_58 ?_
          refine ex_aload_n F dX7_saw_65 rfl rfl ?_
          refine gf_7_10 F dX7_saw_66 fl_X7_112 ?_
          refine ex_iload_n F dX7_saw_69 rfl rfl ?_
          refine ex_iast (n := 8) F dX7_saw_70 (by decide) (show vp_in (M 0 10) 8 from by rw [hk]; exact vp_in_nI (by omega) (by decide)) (j := k) (show (M 0 10).toNatClampNeg = k from by rw [hk]; exact nI_clamp (by omega)) ?_
          refine ex_aload_n F dX7_saw_71 rfl rfl ?_
          refine ex_dup F dX7_saw_72 rfl ?_
          refine gf_7_10 F dX7_saw_73 fl_X7_112 ?_
          refine ex_iconst (v := 1) F dX7_saw_76 (by decide) ?_
          refine ex_iadd F dX7_saw_77 ?_
          refine pf_7_10 F dX7_saw_78 fl_X7_112 ?_
          refine ex_aload_n F dX7_saw_81 rfl rfl ?_
          refine gf_7_10 F dX7_saw_82 fl_X7_112 ?_
          exact ex_iret F R dX7_saw_85 rfl (⟨by simp [b2i_1.mp c8, b2i_0.mp c19, l8]; show M 0 10 + 1 = _; rw [hk, nI_1], by simp [b2i_1.mp c8, b2i_0.mp c19, l8]; show mu _ 0 10 (M 0 10 + 1) = _; rw [hk, nI_1]⟩)
        · refine ex_bipush (v := -3) F dX7_saw_48 (by decide) ?_
          exact ex_iret F R dX7_saw_50 rfl (⟨by exact absurd (by rw [hk]; exact nI_lt (b := 8) l8 (by decide)) c45, by exact absurd (by rw [hk]; exact nI_lt (b := 8) l8 (by decide)) c45⟩)
    · refine ex_iconst (v := -1) F dX7_saw_22 (by decide) ?_
      exact ex_iret F R dX7_saw_23 rfl (⟨by simp [b2i_1.mp c8, b2i_1.mp c19], by simp [b2i_1.mp c8, b2i_1.mp c19]⟩)
set_option maxRecDepth 100000 in
theorem c_X7_forget {l : Launch} {g : XG} {M : Mem}  : Call l g YX7_forget [.ref (ad g 0)] M (PI (fun v M' => v = M 0 10 ∧ M' = mu M 0 10 0)) := by
  refine call_of (by decide +kernel) (Nat.le_of_ble_eq_true rfl) (fun x hxl F R => ?_)
  subst hxl
  refine ex_aload_n F dX7_forget_0 rfl rfl ?_
  refine gf_7_10 F dX7_forget_1 fl_X7_112 ?_
  refine ex_istore_n F dX7_forget_4 rfl (by decide) ?_
  refine ex_aload_n F dX7_forget_5 rfl rfl ?_
  refine ex_iconst (v := 0) F dX7_forget_6 (by decide) ?_
  refine pf_7_10 F dX7_forget_7 fl_X7_112 ?_
  refine ex_iload_n F dX7_forget_10 rfl rfl ?_
  exact ex_iret F R dX7_forget_11 rfl (⟨rfl, rfl⟩)
