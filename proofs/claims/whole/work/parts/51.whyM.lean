theorem mask_n {n : Nat} (hn : n ≤ 8) (y : Int32) : ∃ bb, bb < 2 ^ n ∧ nI (2 ^ n - 1) &&& y = nI bb := by
  have h8 := pow8 hn
  have h1 : 0 < 2 ^ n := Nat.two_pow_pos n
  obtain ⟨j, hj, e⟩ := pk_andE y (m := nI (2 ^ n - 1)) n (by rw [pk_tn (by omega)])
  exact ⟨j, hj, by rw [Int32.and_comm, e]⟩
theorem wo_n (K : Mem) (al : Int32) : ∀ i, sWoN K al i = -4 ∨ ∃ j, j < i ∧ sWoN K al i = nI j := by
  intro i
  induction i with
  | zero => exact Or.inl rfl
  | succ i ih =>
    rw [sWoN]
    split
    · exact Or.inr ⟨i, by omega, rfl⟩
    · rcases ih with h | ⟨j, h1, h2⟩
      · exact Or.inl h
      · exact Or.inr ⟨j, by omega, h2⟩
theorem wo_bits {K : Mem} {al o : Int32} {i : Nat} (h : o = sWoN K al i) (hi : i ≤ 256) (h4 : ¬ o = -4) : bitsN o 8 = bcX o := by
  rcases wo_n K al i with q | ⟨j, h1, h2⟩
  · exact absurd (h.trans q) h4
  · rw [h, h2]; exact bits_bc j (by omega)
theorem till_char (r : Nat → Int32) (p : Int32) (c : Nat → Int32) : ∀ m i, (sTillN r p c m i = -4 ∧ ∀ j, i ≤ j → j < i + m → sCome (itT r p j c) = false) ∨ ∃ j, i ≤ j ∧ j < i + m ∧ sTillN r p c m i = nI j ∧ sCome (itT r p j c) = true ∧ ∀ z, i ≤ z → z < j → sCome (itT r p z c) = false := by
  intro m
  induction m with
  | zero => intro i; exact Or.inl ⟨rfl, fun j h1 h2 => by omega⟩
  | succ m ih =>
    intro i
    cases hc : sCome (itT r p i c) with
    | true => exact Or.inr ⟨i, Nat.le_refl _, by omega, by rw [sTillN, if_pos hc], hc, fun z h1 h2 => by omega⟩
    | false =>
      rw [sTillN, if_neg (by rw [hc]; decide)]
      rcases ih (i + 1) with ⟨h1, h2⟩ | ⟨j, h1, h2, h3, h4, h5⟩
      · refine Or.inl ⟨h1, fun j a b => ?_⟩
        by_cases e : j = i
        · subst e; exact hc
        · exact h2 j (by omega) (by omega)
      · refine Or.inr ⟨j, by omega, by omega, h3, h4, fun z a b => ?_⟩
        by_cases e : z = i
        · subst e; exact hc
        · exact h5 z (by omega) b
theorem nI_m4 {j : Nat} (h : j < 2 ^ 31) : ¬ nI j = -4 := by
  intro q
  have q1 := congrArg Int32.toInt q
  rw [nI_toInt h, show (-4 : Int32).toInt = -4 by decide] at q1
  omega
theorem nI_inj {i j : Nat} (hi : i < 2 ^ 31) (hj : j < 2 ^ 31) (h : nI i = nI j) : i = j := by
  have := congrArg Int32.toNatClampNeg h
  rw [nI_clamp hi, nI_clamp hj] at this
  exact this
theorem so1_eq {K : Mem} {wm p S : Int32} {i t : Nat} (hS : S = sTillN (K 2) p (sRowB K (K 35 i) wm) 400 1) (ht : K 36 i = nI t) (lt : t ≤ 400) : sSo1 K wm p i = decide ((if S = -4 then 0 else S) = nI t) := by
  rw [sSo1, ht]
  generalize sRowB K (K 35 i) wm = c at hS ⊢
  have c4 := till_char (K 2) p c 400 1
  rw [← hS] at c4
  rcases Nat.eq_zero_or_pos t with z | z
  · subst z
    rw [show sMo (nI 0) = 400 from rfl, ← hS, show (if (0 : Int32) < nI 0 then nI 0 else -4) = -4 from rfl]
    rcases c4 with ⟨e, -⟩ | ⟨j, h1, h2, e, -⟩
    · rw [e]; rfl
    · rw [e, if_neg (nI_m4 (by omega)), decide_eq_false (nI_m4 (by omega)), decide_eq_false (show ¬ nI j = nI 0 from fun q => by have := nI_inj (by omega) (by decide) q; omega)]
  · have z0 : (0 : Int32) < nI t := nI_lt (a := 0) z (by omega)
    rw [show sMo (nI t) = t by rw [sMo, if_pos z0, nI_clamp (by omega)], if_pos z0]
    congr 1
    have ct := till_char (K 2) p c t 1
    apply propext
    constructor
    · intro q
      rcases ct with ⟨e, -⟩ | ⟨j, h1, h2, e, h4, h5⟩
      · rw [e] at q; exact absurd q.symm (nI_m4 (by omega))
      · rw [e] at q
        have := nI_inj (by omega) (by omega) q
        subst this
        rcases c4 with ⟨-, g⟩ | ⟨y, g1, g2, g3, g4, g5⟩
        · rw [g j h1 (by omega)] at h4; exact absurd h4 (by decide)
        · rw [g3, if_neg (nI_m4 (by omega))]
          rcases Nat.lt_trichotomy y j with k | k | k
          · rw [h5 y g1 k] at g4; exact absurd g4 (by decide)
          · rw [k]
          · rw [g5 j h1 k] at h4; exact absurd h4 (by decide)
    · intro q
      rcases c4 with ⟨e, -⟩ | ⟨j, h1, h2, e, h4, h5⟩
      · rw [e, if_pos rfl] at q
        have := nI_inj (i := 0) (by decide) (by omega) q
        omega
      · rw [e, if_neg (nI_m4 (by omega))] at q
        have := nI_inj (by omega) (by omega) q
        subst this
        rcases ct with ⟨-, g⟩ | ⟨y, g1, g2, g3, g4, g5⟩
        · rw [g j h1 (by omega)] at h4; exact absurd h4 (by decide)
        · rw [g3]
          rcases Nat.lt_trichotomy y j with k | k | k
          · rw [h5 y g1 k] at g4; exact absurd g4 (by decide)
          · rw [k]
          · omega
def RS (K M : Mem) (k : Nat) : Prop := seenO K k ∧ M 38 28 = nI k ∧ ∀ i, i < k → M 54 (2 * i) = K 35 i ∧ M 54 (2 * i + 1) = K 36 i
theorem RS_fr {K M M' : Mem} {k : Nat} (h : RS K M k) (hf : frB M M') : RS K M' k := by
  have e : M' 54 = M 54 := hf.1 54 (by decide) (by decide) (by decide) (by decide) (by decide)
  exact ⟨h.1, by rw [hf.2.1 28 (by decide)]; exact h.2.1, fun i hi => by rw [e]; exact h.2.2 i hi⟩
theorem cs_X8_without_78 : CSS (xmN YX8_without).cls (xmF YX8_without) (xmW YX8_without) 78 3 YX8_in := ⟨⟨ml_X8_78, ini_X8, cd_X8_in, by decide +kernel, by decide⟩, st_X8_in⟩
theorem cs_X8_without_145 : CSV (xmN YX8_without).cls (xmF YX8_without) (xmW YX8_without) 145 3 YX8_fills := ⟨⟨ml_X8_145, ini_X8, cd_X8_fills, by decide +kernel, by decide⟩, im_X8_fills, se_X8_fills⟩
theorem cs_X8_without_225 : CSS (xmN YX8_without).cls (xmF YX8_without) (xmW YX8_without) 225 1 YX8_bitsOf := ⟨⟨ml_X8_225, ini_X8, cd_X8_bitsOf, by decide +kernel, by decide⟩, st_X8_bitsOf⟩
set_option maxRecDepth 100000 in
theorem c_X8_without {l : Launch} {g : XG} {M : Mem} {K : Mem} {n : Nat} (hB : RB K M n) {wh : Int32} : Call l g YX8_without [.ref (ad g 38), .int wh] M (PI (fun v M' => v = (if outB wh 0 1 = true then -1 else if sWoN K (nI (2 ^ n - 1)) (2 ^ n - 1) = -4 ∨ wh = 1 then sWoN K (nI (2 ^ n - 1)) (2 ^ n - 1) else bcX (sWoN K (nI (2 ^ n - 1)) (2 ^ n - 1))) ∧ jM M M')) := by
  refine call_of (by decide +kernel) (Nat.le_of_ble_eq_true rfl) (fun x hxl F R => ?_)
  subst hxl
  have hmk := mask_n hB.n8
  have hal : (1 : Int32) <<< (M 38 18 &&& 31) - 1 = nI (2 ^ n - 1) := by rw [hB.mn]; exact sAll_n n hB.n8
  have l8 := pow8 hB.n8
  generalize hale : 2 ^ n - 1 = al at R hal hmk
  have lal : al ≤ 256 := by omega
  refine ex_iload_n F dX8_without_0 rfl rfl ?_
  refine ex_i2l F dX8_without_1 ?_
  refine ex_lconst (v := 0) F dX8_without_2 (by decide) ?_
  refine ex_lconst (v := 1) F dX8_without_3 (by decide) ?_
  refine ex_callSi F (c_X8_in) dX8_without_4 cs_X8_without_78 rfl rfl (Nat.le_of_ble_eq_true rfl) (fun v4 M4 h4 => ?_)
  obtain ⟨e4, q4⟩ := h4
  rw [q4]
  clear q4
  rw [in_out (lo := 0) (hi := 1) (by decide) (by decide)] at e4
  subst e4
  refine ex_if_ne (t := 12) F dX8_without_7 (by decide) (fun c7 => ?_) (fun c7 => ?_)
  · refine ex_iconst (v := 1) F dX8_without_12 (by decide) ?_
    refine ex_aload_n F dX8_without_13 rfl rfl ?_
    refine gf_8_18 F dX8_without_14 fl_X8_139 ?_
    refine ex_ishl F dX8_without_17 ?_
    refine ex_iconst (v := 1) F dX8_without_18 (by decide) ?_
    refine ex_isub F dX8_without_19 ?_
    rw [hal]
    refine ex_istore_n F dX8_without_20 rfl (by decide) ?_
    refine ex_bipush (v := -4) F dX8_without_21 (by decide) ?_
    refine ex_istore_n F dX8_without_23 rfl (by decide) ?_
    refine ex_iconst (v := 0) F dX8_without_24 (by decide) ?_
    refine ex_istore F dX8_without_25 (by decide) ?_
    have key : ∀ (m i : Nat) (v o : Int32) (N : Mem), i + m = al → v = nI i → o = sWoN K (nI al) i → jM M N → EX x g (xmL YX8_without) N 27 [(0, .ref (ad g 38)), (1, .int wh), (2, .int (nI al)), (3, .int o), (4, .int v)] [] := by
      intro m
      induction m with
      | zero =>
        intro i v o N hi hv ho hj
        obtain rfl : i = al := by omega
        subst hv
        refine ex_iload F dX8_without_27 rfl ?_
        refine ex_iload_n F dX8_without_29 rfl rfl ?_
        refine ex_icmp_ge (t := 111) F dX8_without_30 (by decide) (fun _ => ?_) (fun c => absurd (Int32.le_refl _) c)
        refine ex_iload_n F dX8_without_111 rfl rfl ?_
        refine ex_bipush (v := -4) F dX8_without_112 (by decide) ?_
        refine ex_icmp_eq (t := 122) F dX8_without_114 (by decide) (fun c114 => ?_) (fun c114 => ?_)
        · refine ex_iload_n F dX8_without_122 rfl rfl ?_
          refine ex_goto (t := 130) F dX8_without_123 (by decide) ?_
          exact ex_iret F R dX8_without_130 rfl (⟨by rw [ifn (by simpa using b2i_1.mp c7), ← ho]; rw [if_pos (Or.inl c114)], hj⟩)
        · refine ex_iload_n F dX8_without_117 rfl rfl ?_
          refine ex_iconst (v := 1) F dX8_without_118 (by decide) ?_
          refine ex_icmp_ne (t := 126) F dX8_without_119 (by decide) (fun c119 => ?_) (fun c119 => ?_)
          · refine ex_iload_n F dX8_without_126 rfl rfl ?_
            refine ex_callSi F (c_X8_bitsOf) dX8_without_127 cs_X8_without_225 rfl rfl (Nat.le_of_ble_eq_true rfl) (fun v127 M127 h127 => ?_)
            obtain ⟨rfl, q127⟩ := h127
            rw [q127]
            clear q127
            exact ex_iret F R dX8_without_130 rfl (⟨by rw [ifn (by simpa using b2i_1.mp c7), ← ho]; rw [if_neg (fun q => q.elim c114 c119)]; exact wo_bits ho (by omega) c114, hj⟩)
          · refine ex_iload_n F dX8_without_122 rfl rfl ?_
            refine ex_goto (t := 130) F dX8_without_123 (by decide) ?_
            exact ex_iret F R dX8_without_130 rfl (⟨by rw [ifn (by simpa using b2i_1.mp c7), ← ho]; rw [if_pos (Or.inr c119)], hj⟩)
      | succ m ih =>
        intro i v o N hi hv ho hj
        subst hv
        have hN := jM_RB hB hj
        have hwo := wo_n K (nI al) i
        rw [← ho] at hwo
        refine ex_iload F dX8_without_27 rfl ?_
        refine ex_iload_n F dX8_without_29 rfl rfl ?_
        refine ex_icmp_ge (t := 111) F dX8_without_30 (by decide) (fun c => absurd c (nI_ge (by omega) (by omega))) (fun _ => ?_)
        refine ex_aload_n F dX8_without_33 rfl rfl ?_
        refine ex_bipush (v := 16) F dX8_without_34 (by decide) ?_
        refine ex_iload_n F dX8_without_36 rfl rfl ?_
        refine ex_iload F dX8_without_37 rfl ?_
        refine ex_iconst (v := -1) F dX8_without_39 (by decide) ?_
        refine ex_ixor F dX8_without_40 ?_
        refine ex_iand F dX8_without_41 ?_
        refine ex_iconst (v := 0) F dX8_without_42 (by decide) ?_
        refine ex_callVv F (c_X8_fills (A := 16) (n := n) (by decide) hN.mn hN.n8) dX8_without_43 cs_X8_without_145 ob_8 rfl rfl rfl rfl (Nat.le_of_ble_eq_true rfl) (fun M43 h43 => ?_)
        obtain ⟨k1, k2, k3⟩ := h43
        obtain ⟨bb, lb, eb⟩ := hmk (nI i ^^^ -1)
        rw [eb, row_n hN lb, ← eb] at k1
        have hh : M43 51 18 = sHardOf (K 4) (K 5) (nI al &&& (nI i ^^^ -1)) := by
          have q := congrFun k1 2
          rw [cM_o (by decide) (by decide)] at q
          exact q
        have hr43 := mR_frT hN.ru k2
        refine ex_aload_n F dX8_without_46 rfl rfl ?_
        refine gf_8_23 F dX8_without_47 fl_X8_46 ?_
        refine ex_bipush (v := 18) F dX8_without_50 (by decide) ?_
        refine ex_iald (n := 80) F dX8_without_52 (by decide) (vpd (by decide)) (j := 18) (by decide) ?_
        refine ex_i2l F dX8_without_53 ?_
        refine ex_aload_n F dX8_without_54 rfl rfl ?_
        refine gf_8_16 F dX8_without_55 fl_X8_34 ?_
        refine ex_bipush (v := 7) F dX8_without_58 (by decide) ?_
        refine ex_iald (n := 13) F dX8_without_60 (by decide) (vpd (by decide)) (j := 7) (by decide) ?_
        refine ex_i2l F dX8_without_61 ?_
        refine ex_aload_n F dX8_without_62 rfl rfl ?_
        refine gf_8_16 F dX8_without_63 fl_X8_34 ?_
        refine ex_bipush (v := 8) F dX8_without_66 (by decide) ?_
        refine ex_iald (n := 13) F dX8_without_68 (by decide) (vpd (by decide)) (j := 8) (by decide) ?_
        refine ex_i2l F dX8_without_69 ?_
        refine ex_callSi F (c_X8_in) dX8_without_70 cs_X8_without_78 rfl rfl (Nat.le_of_ble_eq_true rfl) (fun v70 M70 h70 => ?_)
        obtain ⟨e70, q70⟩ := h70
        rw [q70]
        clear q70
        rw [hr43 7 (by decide), hr43 8 (by decide), in_good, hh] at e70
        subst e70
        refine ex_istore F dX8_without_73 (by decide) ?_
        refine ex_iload F dX8_without_75 rfl ?_
        refine ex_if_eq (t := 103) F dX8_without_77 (by decide) (fun c77 => ?_) (fun c77 => ?_)
        · refine ex_iload_n F dX8_without_103 rfl rfl ?_
          refine ex_istore_n F dX8_without_104 rfl (by decide) ?_
          refine ex_iinc (w := _ + 1) F dX8_without_105 rfl rfl (by decide) ?_
          refine ex_goto (t := 27) F dX8_without_108 (by decide) ?_
          refine ex_weak2 (ih (i + 1) _ _ _ (by omega) (nI_1 i) ?_ (jM_tr hj (jM_T k2))) ⟨rfl, rfl, rfl, rfl, rfl, trivial⟩
          rw [sWoN, ← ho, if_neg (fun q => by rw [b2i_0.mp c77] at q; exact absurd q.2 (by decide))]
        · refine ex_iload_n F dX8_without_80 rfl rfl ?_
          refine ex_bipush (v := -4) F dX8_without_81 (by decide) ?_
          refine ex_icmp_eq (t := 98) F dX8_without_83 (by decide) (fun c83 => ?_) (fun c83 => ?_)
          · refine ex_iload F dX8_without_98 rfl ?_
            refine ex_goto (t := 104) F dX8_without_100 (by decide) ?_
            refine ex_istore_n F dX8_without_104 rfl (by decide) ?_
            refine ex_iinc (w := _ + 1) F dX8_without_105 rfl rfl (by decide) ?_
            refine ex_goto (t := 27) F dX8_without_108 (by decide) ?_
            refine ex_weak2 (ih (i + 1) _ _ _ (by omega) (nI_1 i) ?_ (jM_tr hj (jM_T k2))) ⟨rfl, rfl, rfl, rfl, rfl, trivial⟩
            rw [sWoN, ← ho, if_pos ⟨Or.inl c83, b2i_1.mp c77⟩]
          · refine ex_iload F dX8_without_86 rfl ?_
            refine ex_callSi F (c_X8_bitsOf) dX8_without_88 cs_X8_without_225 rfl rfl (Nat.le_of_ble_eq_true rfl) (fun v88 M88 h88 => ?_)
            obtain ⟨rfl, q88⟩ := h88
            rw [q88]
            clear q88
            refine ex_iload_n F dX8_without_91 rfl rfl ?_
            refine ex_callSi F (c_X8_bitsOf) dX8_without_92 cs_X8_without_225 rfl rfl (Nat.le_of_ble_eq_true rfl) (fun v92 M92 h92 => ?_)
            obtain ⟨rfl, q92⟩ := h92
            rw [q92]
            clear q92
            refine ex_icmp_ge (t := 103) F dX8_without_95 (by decide) (fun c95 => ?_) (fun c95 => ?_)
            · refine ex_iload_n F dX8_without_103 rfl rfl ?_
              refine ex_istore_n F dX8_without_104 rfl (by decide) ?_
              refine ex_iinc (w := _ + 1) F dX8_without_105 rfl rfl (by decide) ?_
              refine ex_goto (t := 27) F dX8_without_108 (by decide) ?_
              have hbo := wo_bits ho (by omega) c83
              rw [bits_bc i (by omega), hbo] at c95
              refine ex_weak2 (ih (i + 1) _ _ _ (by omega) (nI_1 i) ?_ (jM_tr hj (jM_T k2))) ⟨rfl, rfl, rfl, rfl, rfl, trivial⟩
              rw [sWoN, ← ho, if_neg (fun q => q.1.elim c83 (fun z => absurd z (Int32.not_lt.mpr c95)))]
            · refine ex_iload F dX8_without_98 rfl ?_
              refine ex_goto (t := 104) F dX8_without_100 (by decide) ?_
              refine ex_istore_n F dX8_without_104 rfl (by decide) ?_
              refine ex_iinc (w := _ + 1) F dX8_without_105 rfl rfl (by decide) ?_
              refine ex_goto (t := 27) F dX8_without_108 (by decide) ?_
              have hbo := wo_bits ho (by omega) c83
              rw [bits_bc i (by omega), hbo] at c95
              refine ex_weak2 (ih (i + 1) _ _ _ (by omega) (nI_1 i) ?_ (jM_tr hj (jM_T k2))) ⟨rfl, rfl, rfl, rfl, rfl, trivial⟩
              rw [sWoN, ← ho, if_pos ⟨Or.inr (Int32.not_le.mp c95), b2i_1.mp c77⟩]
    exact ex_weak2 (key al 0 _ _ M (by omega) rfl rfl (jM_rf M)) ⟨rfl, rfl, rfl, rfl, rfl, trivial⟩
  · refine ex_iconst (v := -1) F dX8_without_10 (by decide) ?_
    exact ex_iret F R dX8_without_11 rfl (⟨by rw [ift (by simpa using b2i_0.mp c7)], jM_rf M⟩)
