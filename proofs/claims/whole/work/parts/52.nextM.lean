theorem so_end {K : Mem} {wm p o : Int32} {i : Nat} {so : Bool} (h : (o = 1 ∧ sSoN K wm p 0 i = so) ∨ (o = 0 ∧ so = false)) : o = b2i so := by
  rcases h with ⟨e, q⟩ | ⟨e, q⟩
  · rw [e, ← q]; rfl
  · rw [e, q]; rfl
theorem narrow_so {a : Prop} {o : Int32} {so : Bool} (h : (o = 1 ∧ a) ∨ (o = 0 ∧ so = false)) : narrow .boolean (.int o) = .int o := by
  rcases h with ⟨e, -⟩ | ⟨e, -⟩ <;> subst e <;> rfl
theorem so_no {a : Prop} {o : Int32} {so : Bool} (h : (o = 1 ∧ a) ∨ (o = 0 ∧ so = false)) (h0 : o = 0) : o = b2i so := by
  rcases h with ⟨e, -⟩ | ⟨e, q⟩
  · rw [e] at h0; exact absurd h0 (by decide)
  · rw [e, q]; rfl
theorem cs_X8_isSo_145 : CSV (xmN YX8_isSo).cls (xmF YX8_isSo) (xmW YX8_isSo) 145 3 YX8_fills := ⟨⟨ml_X8_145, ini_X8, cd_X8_fills, by decide +kernel, by decide⟩, im_X8_fills, se_X8_fills⟩
theorem cs_X8_isSo_217 : CSV (xmN YX8_isSo).cls (xmF YX8_isSo) (xmW YX8_isSo) 217 2 YX8_tillCome := ⟨⟨ml_X8_217, ini_X8, cd_X8_tillCome, by decide +kernel, by decide⟩, im_X8_tillCome, se_X8_tillCome⟩
set_option maxRecDepth 100000 in
theorem c_X8_isSo {l : Launch} {g : XG} {M : Mem} {K : Mem} {n : Nat} (hB : RB K M n) {k xx pp : Nat} (hS : RS K M k) (lx : xx ≤ 400) (lp : pp ≤ 9) : Call l g YX8_isSo [.ref (ad g 38), .int (nI xx), .int (nI pp)] M (PI (fun v M' => v = b2i (sSoN K (nI xx) (nI pp) k 0) ∧ frT M M' 16)) := by
  refine call_of (by decide +kernel) (Nat.le_of_ble_eq_true rfl) (fun x hxl F R => ?_)
  subst hxl
  refine ex_iconst (v := 1) F dX8_isSo_0 (by decide) ?_
  refine ex_istore_n F dX8_isSo_1 rfl (by decide) ?_
  refine ex_iconst (v := 0) F dX8_isSo_2 (by decide) ?_
  refine ex_istore F dX8_isSo_3 (by decide) ?_
  generalize hso : sSoN K (nI xx) (nI pp) k 0 = so at R
  obtain ⟨⟨lk, hk0, hsn⟩, hk, hsm⟩ := hS
  have hv4 : outB (nI xx) 0 400 = false := by
    simp only [outB, Bool.or_eq_false_iff, decide_eq_false_iff_not]
    exact ⟨nI_pos (by omega), nI_nlt (a := 400) (b := xx) (by omega) (by decide)⟩
  have key : ∀ (m i : Nat) (o u : Int32) (N : Mem), i + m = k → u = nI i → ((o = 1 ∧ sSoN K (nI xx) (nI pp) m i = so) ∨ (o = 0 ∧ so = false)) → frT M N 16 → EX x g (xmL YX8_isSo) N 5 [(0, .ref (ad g 38)), (1, .int (nI xx)), (2, .int (nI pp)), (3, .int o), (4, .int u)] [] := by
    intro m
    induction m with
    | zero =>
      intro i o u N hi hu ho hf
      obtain rfl : i = k := by omega
      subst hu
      have hkN : N 38 28 = nI i := by rw [hf.1 38 (by decide) (by decide)]; exact hk
      refine ex_iload F dX8_isSo_5 rfl ?_
      refine ex_aload_n F dX8_isSo_7 rfl rfl ?_
      refine gf_8_28 F dX8_isSo_8 fl_X8_142 ?_
      refine ex_icmp_ge (t := 82) F dX8_isSo_11 (by decide) (fun _ => ?_) (fun c => absurd (by rw [hkN]; exact Int32.le_refl _) c)
      refine ex_iload_n F dX8_isSo_82 rfl rfl ?_
      exact ex_zret (ty := .boolean) F R dX8_isSo_83 rfl (narrow_so ho) (⟨so_end ho, hf⟩)
    | succ m ih =>
      intro i o u N hi hu ho hf
      subst hu
      have hkN : N 38 28 = nI k := by rw [hf.1 38 (by decide) (by decide)]; exact hk
      have hN := jM_RB hB (jM_T hf)
      obtain ⟨hbi, t, lt, ht⟩ := hsn i (by omega)
      have es : N 54 (2 * i) = K 35 i := by rw [hf.1 54 (by decide) (by decide)]; exact (hsm i (by omega)).1
      have et : N 54 (2 * i + 1) = nI t := by rw [hf.1 54 (by decide) (by decide), (hsm i (by omega)).2]; exact ht
      refine ex_iload F dX8_isSo_5 rfl ?_
      refine ex_aload_n F dX8_isSo_7 rfl rfl ?_
      refine gf_8_28 F dX8_isSo_8 fl_X8_142 ?_
      refine ex_icmp_ge (t := 82) F dX8_isSo_11 (by decide) (fun c => absurd c (by rw [hkN]; exact nI_ge (by omega) (by omega))) (fun _ => ?_)
      refine ex_iload_n F dX8_isSo_14 rfl rfl ?_
      refine ex_if_eq (t := 82) F dX8_isSo_15 (by decide) (fun c15 => ?_) (fun c15 => ?_)
      · refine ex_iload_n F dX8_isSo_82 rfl rfl ?_
        exact ex_zret (ty := .boolean) F R dX8_isSo_83 rfl (narrow_so ho) (⟨so_no ho c15, hf⟩)
      · refine ex_aload_n F dX8_isSo_18 rfl rfl ?_
        refine ex_bipush (v := 16) F dX8_isSo_19 (by decide) ?_
        refine ex_aload_n F dX8_isSo_21 rfl rfl ?_
        refine gf_8_27 F dX8_isSo_22 fl_X8_55 ?_
        refine ex_iconst (v := 2) F dX8_isSo_25 (by decide) ?_
        refine ex_iload F dX8_isSo_26 rfl ?_
        refine ex_imul F dX8_isSo_28 ?_
        refine ex_iald (n := 16) F dX8_isSo_29 (by decide) (by rw [ix2]; exact vp_in_nI (by omega) (by decide)) (j := 2 * i) (by rw [ix2]; exact nI_clamp (by omega)) ?_
        rw [es]
        refine ex_iload_n F dX8_isSo_30 rfl rfl ?_
        refine ex_callVv F (c_X8_fills (A := 16) (n := n) (by decide) hN.mn hN.n8) dX8_isSo_31 cs_X8_isSo_145 ob_8 rfl rfl rfl rfl (Nat.le_of_ble_eq_true rfl) (fun M31 h31 => ?_)
        obtain ⟨k1, k2, k3⟩ := h31
        rw [row_eq hN hbi] at k1
        have hC0 := row_okC hB hbi hv4
        refine ex_aload_n F dX8_isSo_34 rfl rfl ?_
        refine ex_bipush (v := 16) F dX8_isSo_35 (by decide) ?_
        refine ex_iload_n F dX8_isSo_37 rfl rfl ?_
        refine ex_callVi F (c_X8_tillCome (A := 16) (T := 0) (pp := pp) (by decide) hB.ok (mR_frT hN.ru k2) (by rw [k1]; exact hC0) (okM_zero k3) (by decide) rfl lp (by rw [k1]; rfl)) dX8_isSo_38 cs_X8_isSo_217 ob_8 rfl rfl rfl rfl (Nat.le_of_ble_eq_true rfl) (fun v38 M38 h38 => ?_)
        obtain ⟨e38, n38, -, t1, t2, -, -⟩ := h38
        rw [k1] at e38 t1
        refine ex_istore F dX8_isSo_41 (by decide) ?_
        refine ex_iload F dX8_isSo_43 rfl ?_
        refine ex_bipush (v := -4) F dX8_isSo_45 (by decide) ?_
        refine ex_icmp_ne (t := 54) F dX8_isSo_47 (by decide) (fun c47 => ?_) (fun c47 => ?_)
        · refine ex_iload F dX8_isSo_54 rfl ?_
          refine ex_aload_n F dX8_isSo_56 rfl rfl ?_
          refine gf_8_27 F dX8_isSo_57 fl_X8_55 ?_
          refine ex_iconst (v := 2) F dX8_isSo_60 (by decide) ?_
          refine ex_iload F dX8_isSo_61 rfl ?_
          refine ex_imul F dX8_isSo_63 ?_
          refine ex_iconst (v := 1) F dX8_isSo_64 (by decide) ?_
          refine ex_iadd F dX8_isSo_65 ?_
          refine ex_iald (n := 16) F dX8_isSo_66 (by decide) (by rw [ix2, nI_1]; exact vp_in_nI (by omega) (by decide)) (j := 2 * i + 1) (by rw [ix2, nI_1]; exact nI_clamp (by omega)) ?_
          rw [t2.1 54 (by decide) (by decide), k2.1 54 (by decide) (by decide), et]
          refine ex_icmp_ne (t := 74) F dX8_isSo_67 (by decide) (fun c67 => ?_) (fun c67 => ?_)
          · refine ex_iconst (v := 0) F dX8_isSo_74 (by decide) ?_
            refine ex_istore_n F dX8_isSo_75 rfl (by decide) ?_
            refine ex_iinc (w := _ + 1) F dX8_isSo_76 rfl rfl (by decide) ?_
            refine ex_goto (t := 5) F dX8_isSo_79 (by decide) ?_
            have h1 := so1_eq (p := nI pp) e38 ht lt
            rw [if_neg c47, decide_eq_false c67] at h1
            refine ex_weak2 (ih (i + 1) _ _ _ (by omega) (nI_1 i) ?_ (frT_tr hf (frT_tr k2 (frT_of t2)))) ⟨rfl, rfl, rfl, rfl, rfl, trivial⟩
            have hs := (ho.resolve_right (fun z => c15 z.1)).2
            rw [sSoN, ifn h1] at hs
            exact Or.inr ⟨rfl, hs.symm⟩
          · refine ex_iconst (v := 1) F dX8_isSo_70 (by decide) ?_
            refine ex_goto (t := 75) F dX8_isSo_71 (by decide) ?_
            refine ex_istore_n F dX8_isSo_75 rfl (by decide) ?_
            refine ex_iinc (w := _ + 1) F dX8_isSo_76 rfl rfl (by decide) ?_
            refine ex_goto (t := 5) F dX8_isSo_79 (by decide) ?_
            have h1 := so1_eq (p := nI pp) e38 ht lt
            rw [if_neg c47, decide_eq_true c67] at h1
            refine ex_weak2 (ih (i + 1) _ _ _ (by omega) (nI_1 i) ?_ (frT_tr hf (frT_tr k2 (frT_of t2)))) ⟨rfl, rfl, rfl, rfl, rfl, trivial⟩
            have hs := (ho.resolve_right (fun z => c15 z.1)).2
            rw [sSoN, ift h1] at hs
            exact Or.inl ⟨rfl, hs⟩
        · refine ex_iconst (v := 0) F dX8_isSo_50 (by decide) ?_
          refine ex_goto (t := 56) F dX8_isSo_51 (by decide) ?_
          refine ex_aload_n F dX8_isSo_56 rfl rfl ?_
          refine gf_8_27 F dX8_isSo_57 fl_X8_55 ?_
          refine ex_iconst (v := 2) F dX8_isSo_60 (by decide) ?_
          refine ex_iload F dX8_isSo_61 rfl ?_
          refine ex_imul F dX8_isSo_63 ?_
          refine ex_iconst (v := 1) F dX8_isSo_64 (by decide) ?_
          refine ex_iadd F dX8_isSo_65 ?_
          refine ex_iald (n := 16) F dX8_isSo_66 (by decide) (by rw [ix2, nI_1]; exact vp_in_nI (by omega) (by decide)) (j := 2 * i + 1) (by rw [ix2, nI_1]; exact nI_clamp (by omega)) ?_
          rw [t2.1 54 (by decide) (by decide), k2.1 54 (by decide) (by decide), et]
          refine ex_icmp_ne (t := 74) F dX8_isSo_67 (by decide) (fun c67 => ?_) (fun c67 => ?_)
          · refine ex_iconst (v := 0) F dX8_isSo_74 (by decide) ?_
            refine ex_istore_n F dX8_isSo_75 rfl (by decide) ?_
            refine ex_iinc (w := _ + 1) F dX8_isSo_76 rfl rfl (by decide) ?_
            refine ex_goto (t := 5) F dX8_isSo_79 (by decide) ?_
            have h1 := so1_eq (p := nI pp) e38 ht lt
            rw [if_pos c47, decide_eq_false c67] at h1
            refine ex_weak2 (ih (i + 1) _ _ _ (by omega) (nI_1 i) ?_ (frT_tr hf (frT_tr k2 (frT_of t2)))) ⟨rfl, rfl, rfl, rfl, rfl, trivial⟩
            have hs := (ho.resolve_right (fun z => c15 z.1)).2
            rw [sSoN, ifn h1] at hs
            exact Or.inr ⟨rfl, hs.symm⟩
          · refine ex_iconst (v := 1) F dX8_isSo_70 (by decide) ?_
            refine ex_goto (t := 75) F dX8_isSo_71 (by decide) ?_
            refine ex_istore_n F dX8_isSo_75 rfl (by decide) ?_
            refine ex_iinc (w := _ + 1) F dX8_isSo_76 rfl rfl (by decide) ?_
            refine ex_goto (t := 5) F dX8_isSo_79 (by decide) ?_
            have h1 := so1_eq (p := nI pp) e38 ht lt
            rw [if_pos c47, decide_eq_true c67] at h1
            refine ex_weak2 (ih (i + 1) _ _ _ (by omega) (nI_1 i) ?_ (frT_tr hf (frT_tr k2 (frT_of t2)))) ⟨rfl, rfl, rfl, rfl, rfl, trivial⟩
            have hs := (ho.resolve_right (fun z => c15 z.1)).2
            rw [sSoN, ift h1] at hs
            exact Or.inl ⟨rfl, hs⟩
  exact ex_weak2 (key k 0 1 _ M (by omega) rfl (Or.inl ⟨rfl, hso⟩) (frT_rf M 16)) ⟨rfl, rfl, rfl, rfl, rfl, trivial⟩
def whyI (K : Mem) (k : Nat) (wh tot : Int32) (q c : Nat) (fw fp : Int32) : Prop := (wh = 0 → sWhyN K k wh (189 - q) q (nI c) = tot) ∧ (¬ wh = 0 → (c = 0 ∧ fw = -4 ∧ fp = -4 ∧ sWhyN K k wh (189 - q) q 0 = tot) ∨ (0 < c ∧ tot = if wh = 1 then fw else fp))
theorem why_no {K : Mem} {k q c : Nat} {wh tot fw fp : Int32} (h : whyI K k wh tot q c fw fp) (hq : q < 189) (hs : sS K k q = false) : whyI K k wh tot (q + 1) c fw fp := by
  refine ⟨fun z => ?_, fun z => ?_⟩
  · have := h.1 z
    rw [show 189 - q = (189 - (q + 1)) + 1 by omega, sWhyN, ifn hs] at this
    exact this
  · rcases h.2 z with ⟨e1, e2, e3, e4⟩ | e
    · rw [show 189 - q = (189 - (q + 1)) + 1 by omega, sWhyN, ifn hs] at e4
      exact Or.inl ⟨e1, e2, e3, e4⟩
    · exact Or.inr e
theorem why_yes {K : Mem} {k q c : Nat} {wh tot fw fp fw' fp' : Int32} (h : whyI K k wh tot q c fw fp) (hq : q < 189) (hs : sS K k q = true) (e1 : fw' = if c = 0 then nI (20 * (q / 9)) else fw) (e2 : fp' = if c = 0 then nI (q % 9 + 1) else fp) : whyI K k wh tot (q + 1) (c + 1) fw' fp' := by
  refine ⟨fun z => ?_, fun z => ?_⟩
  · have := h.1 z
    rw [show 189 - q = (189 - (q + 1)) + 1 by omega, sWhyN, ift hs, if_pos z, nI_1] at this
    exact this
  · refine Or.inr ⟨by omega, ?_⟩
    rcases h.2 z with ⟨f1, -, -, f4⟩ | ⟨f1, f2⟩
    · rw [show 189 - q = (189 - (q + 1)) + 1 by omega, sWhyN, ift hs, if_neg z] at f4
      rw [e1, e2, if_pos f1, if_pos f1]
      exact f4.symm
    · rw [e1, e2, if_neg (show ¬ c = 0 by omega), if_neg (show ¬ c = 0 by omega)]
      exact f2
theorem why_end {K : Mem} {k c : Nat} {wh tot fw fp : Int32} (h : whyI K k wh tot 189 c fw fp) : tot = if wh = 0 then nI c else if wh = 1 then fw else fp := by
  by_cases z : wh = 0
  · rw [if_pos z, ← h.1 z, z]; rfl
  · rw [if_neg z]
    rcases h.2 z with ⟨-, e2, e3, e4⟩ | ⟨-, e⟩
    · rw [e2, e3, ← e4]
      show (if wh = 0 then 0 else (-4 : Int32)) = _
      rw [if_neg z]
      split <;> rfl
    · exact e
theorem c_zero {c : Nat} (h : c < 2 ^ 31) (h0 : nI c = 0) : c = 0 := by
  rcases Nat.eq_zero_or_pos c with z | z
  · exact z
  · exact absurd h0 (nI_ne0 z h)
theorem cs_X8_why_78 : CSS (xmN YX8_why).cls (xmF YX8_why) (xmW YX8_why) 78 3 YX8_in := ⟨⟨ml_X8_78, ini_X8, cd_X8_in, by decide +kernel, by decide⟩, st_X8_in⟩
theorem cs_X8_why_230 : CSV (xmN YX8_why).cls (xmF YX8_why) (xmW YX8_why) 230 2 YX8_isSo := ⟨⟨ml_X8_230, ini_X8, cd_X8_isSo, by decide +kernel, by decide⟩, im_X8_isSo, se_X8_isSo⟩
set_option maxRecDepth 100000 in
theorem c_X8_why {l : Launch} {g : XG} {M : Mem} {K : Mem} {n : Nat} (hB : RB K M n) {k : Nat} (hS : RS K M k) {wh : Int32} : Call l g YX8_why [.ref (ad g 38), .int wh] M (PI (fun v M' => v = (if outB wh 0 2 = true then -1 else sWhyN K k wh 189 0 0) ∧ jM M M')) := by
  refine call_of (by decide +kernel) (Nat.le_of_ble_eq_true rfl) (fun x hxl F R => ?_)
  subst hxl
  refine ex_iload_n F dX8_why_0 rfl rfl ?_
  refine ex_i2l F dX8_why_1 ?_
  refine ex_lconst (v := 0) F dX8_why_2 (by decide) ?_
  refine ex_ldc2 F dX8_why_3 kc_X8_228 ?_
  refine ex_callSi F (c_X8_in) dX8_why_6 cs_X8_why_78 rfl rfl (Nat.le_of_ble_eq_true rfl) (fun v6 M6 h6 => ?_)
  obtain ⟨e6, q6⟩ := h6
  rw [q6]
  clear q6
  rw [in_out (lo := 0) (hi := 2) (by decide) (by decide)] at e6
  subst e6
  refine ex_if_ne (t := 14) F dX8_why_9 (by decide) (fun c9 => ?_) (fun c9 => ?_)
  · refine ex_iconst (v := 0) F dX8_why_14 (by decide) ?_
    refine ex_istore_n F dX8_why_15 rfl (by decide) ?_
    refine ex_bipush (v := -4) F dX8_why_16 (by decide) ?_
    refine ex_istore_n F dX8_why_18 rfl (by decide) ?_
    refine ex_bipush (v := -4) F dX8_why_19 (by decide) ?_
    refine ex_istore F dX8_why_21 (by decide) ?_
    refine ex_iconst (v := 0) F dX8_why_23 (by decide) ?_
    refine ex_istore F dX8_why_24 (by decide) ?_
    generalize hto : sWhyN K k wh 189 0 0 = tot at R
    have key : ∀ (m a c : Nat) (v fw fp : Int32) (N : Mem), a + m = 21 → c ≤ 9 * a → v = nI (20 * a) → jM M N → whyI K k wh tot (9 * a) c fw fp → EX x g (xmL YX8_why) N 26 [(0, .ref (ad g 38)), (1, .int wh), (2, .int (nI c)), (3, .int fw), (4, .int fp), (5, .int v)] [] := by
      intro m
      induction m with
      | zero =>
        intro a c v fw fp N ha hc hv hj hf
        obtain rfl : a = 21 := by omega
        subst hv
        refine ex_iload F dX8_why_26 rfl ?_
        refine ex_sipush (v := 400) F dX8_why_28 (by decide) ?_
        refine ex_icmp_gt (t := 94) F dX8_why_31 (by decide) (fun _ => ?_) (fun c => absurd (by decide) c)
        refine ex_iload_n F dX8_why_94 rfl rfl ?_
        refine ex_if_ne (t := 102) F dX8_why_95 (by decide) (fun c95 => ?_) (fun c95 => ?_)
        · refine ex_iload_n F dX8_why_102 rfl rfl ?_
          refine ex_iconst (v := 1) F dX8_why_103 (by decide) ?_
          refine ex_icmp_ne (t := 111) F dX8_why_104 (by decide) (fun c104 => ?_) (fun c104 => ?_)
          · refine ex_iload F dX8_why_111 rfl ?_
            exact ex_iret F R dX8_why_113 rfl (⟨by rw [ifn (by simpa using b2i_1.mp c9), why_end hf, if_neg c95, if_neg c104], hj⟩)
          · refine ex_iload_n F dX8_why_107 rfl rfl ?_
            refine ex_goto (t := 113) F dX8_why_108 (by decide) ?_
            exact ex_iret F R dX8_why_113 rfl (⟨by rw [ifn (by simpa using b2i_1.mp c9), why_end hf, if_neg c95, if_pos c104], hj⟩)
        · refine ex_iload_n F dX8_why_98 rfl rfl ?_
          refine ex_goto (t := 113) F dX8_why_99 (by decide) ?_
          exact ex_iret F R dX8_why_113 rfl (⟨by rw [ifn (by simpa using b2i_1.mp c9), why_end hf, if_pos c95], hj⟩)
      | succ m ih =>
        intro a c v fw fp N ha hc hv hj hf
        subst hv
        have inner : ∀ (d q c : Nat) (u fw fp : Int32) (N : Mem), q + d = 9 → c ≤ 9 * a + q → u = nI (q + 1) → jM M N → whyI K k wh tot (9 * a + q) c fw fp → EX x g (xmL YX8_why) N 37 [(0, .ref (ad g 38)), (1, .int wh), (2, .int (nI c)), (3, .int fw), (4, .int fp), (5, .int (nI (20 * a))), (6, .int u)] [] := by
          intro d
          induction d with
          | zero =>
            intro q c u fw fp N hq hc hu hj hf
            obtain rfl : q = 9 := by omega
            subst hu
            refine ex_iload F dX8_why_37 rfl ?_
            refine ex_bipush (v := 10) F dX8_why_39 (by decide) ?_
            refine ex_icmp_ge (t := 88) F dX8_why_41 (by decide) (fun _ => ?_) (fun c => absurd (by decide) c)
            refine ex_iinc (w := _ + 20) F dX8_why_88 rfl rfl (by decide) ?_
            refine ex_goto (t := 26) F dX8_why_91 (by decide) ?_
            refine ex_weak2 (ih (a + 1) c _ fw fp N (by omega) (by omega) ?_ hj hf) ⟨rfl, rfl, rfl, rfl, rfl, rfl, trivial⟩
            rw [show (20 : Int32) = nI 20 from rfl, nI_add]; rfl
          | succ d ih2 =>
            intro q c u fw fp N hq hc hu hj hf
            subst hu
            have hN := jM_RB hB hj
            have hss := sS_at K k (a := a) (q := q) (by omega)
            refine ex_iload F dX8_why_37 rfl ?_
            refine ex_bipush (v := 10) F dX8_why_39 (by decide) ?_
            refine ex_icmp_ge (t := 88) F dX8_why_41 (by decide) (fun c => absurd c (nI_ge (b := 10) (by omega) (by decide))) (fun _ => ?_)
            refine ex_aload_n F dX8_why_44 rfl rfl ?_
            refine ex_iload F dX8_why_45 rfl ?_
            refine ex_iload F dX8_why_47 rfl ?_
            refine ex_callVi F (c_X8_isSo (k := k) (xx := 20 * a) (pp := q + 1) hN (RS_fr hS (jM_fr hj)) (by omega) (by omega)) dX8_why_49 cs_X8_why_230 ob_8 rfl rfl rfl rfl (Nat.le_of_ble_eq_true rfl) (fun v49 M49 h49 => ?_)
            obtain ⟨rfl, t2⟩ := h49
            refine ex_if_eq (t := 82) F dX8_why_52 (by decide) (fun c52 => ?_) (fun c52 => ?_)
            · refine ex_iinc (w := _ + 1) F dX8_why_82 rfl rfl (by decide) ?_
              refine ex_goto (t := 37) F dX8_why_85 (by decide) ?_
              have g := why_no hf (by omega) (by rw [hss]; exact b2i_0.mp c52)
              refine ex_weak2 (ih2 (q + 1) c _ fw fp _ (by omega) (by omega) (nI_1 (q + 1)) (jM_tr hj (jM_T t2)) g) ⟨rfl, rfl, rfl, rfl, rfl, rfl, rfl, trivial⟩
            · refine ex_iload_n F dX8_why_55 rfl rfl ?_
              refine ex_if_ne (t := 64) F dX8_why_56 (by decide) (fun c56 => ?_) (fun c56 => ?_)
              · refine ex_iload F dX8_why_64 rfl ?_
                refine ex_istore F dX8_why_66 (by decide) ?_
                refine ex_iload_n F dX8_why_68 rfl rfl ?_
                refine ex_if_ne (t := 77) F dX8_why_69 (by decide) (fun c69 => ?_) (fun c69 => ?_)
                · refine ex_iload_n F dX8_why_77 rfl rfl ?_
                  refine ex_istore_n F dX8_why_78 rfl (by decide) ?_
                  refine ex_iinc (w := _ + 1) F dX8_why_79 rfl rfl (by decide) ?_
                  refine ex_iinc (w := _ + 1) F dX8_why_82 rfl rfl (by decide) ?_
                  refine ex_goto (t := 37) F dX8_why_85 (by decide) ?_
                  have g := fun (a1 a2 : Int32) e1 e2 => why_yes (fw' := a1) (fp' := a2) hf (by omega) (by rw [hss]; exact b2i_1.mp c52) e1 e2
                  refine ex_weak2 (ih2 (q + 1) (c + 1) _ _ _ _ (by omega) (by omega) (nI_1 (q + 1)) (jM_tr hj (jM_T t2)) (g _ _ (by rw [if_neg (show ¬ c = 0 from fun z => c56 (by rw [z]; rfl))]) (by rw [if_neg (show ¬ c = 0 from fun z => c56 (by rw [z]; rfl))]))) ⟨rfl, rfl, congrArg some (congrArg Value.int (nI_1 c)), rfl, rfl, rfl, rfl, trivial⟩
                · refine ex_iload F dX8_why_72 rfl ?_
                  refine ex_goto (t := 78) F dX8_why_74 (by decide) ?_
                  refine ex_istore_n F dX8_why_78 rfl (by decide) ?_
                  refine ex_iinc (w := _ + 1) F dX8_why_79 rfl rfl (by decide) ?_
                  refine ex_iinc (w := _ + 1) F dX8_why_82 rfl rfl (by decide) ?_
                  refine ex_goto (t := 37) F dX8_why_85 (by decide) ?_
                  exact absurd c69 c56
              · refine ex_iload F dX8_why_59 rfl ?_
                refine ex_goto (t := 66) F dX8_why_61 (by decide) ?_
                refine ex_istore F dX8_why_66 (by decide) ?_
                refine ex_iload_n F dX8_why_68 rfl rfl ?_
                refine ex_if_ne (t := 77) F dX8_why_69 (by decide) (fun c69 => ?_) (fun c69 => ?_)
                · refine ex_iload_n F dX8_why_77 rfl rfl ?_
                  refine ex_istore_n F dX8_why_78 rfl (by decide) ?_
                  refine ex_iinc (w := _ + 1) F dX8_why_79 rfl rfl (by decide) ?_
                  refine ex_iinc (w := _ + 1) F dX8_why_82 rfl rfl (by decide) ?_
                  refine ex_goto (t := 37) F dX8_why_85 (by decide) ?_
                  exact absurd c56 c69
                · refine ex_iload F dX8_why_72 rfl ?_
                  refine ex_goto (t := 78) F dX8_why_74 (by decide) ?_
                  refine ex_istore_n F dX8_why_78 rfl (by decide) ?_
                  refine ex_iinc (w := _ + 1) F dX8_why_79 rfl rfl (by decide) ?_
                  refine ex_iinc (w := _ + 1) F dX8_why_82 rfl rfl (by decide) ?_
                  refine ex_goto (t := 37) F dX8_why_85 (by decide) ?_
                  have g := fun (a1 a2 : Int32) e1 e2 => why_yes (fw' := a1) (fp' := a2) hf (by omega) (by rw [hss]; exact b2i_1.mp c52) e1 e2
                  refine ex_weak2 (ih2 (q + 1) (c + 1) _ _ _ _ (by omega) (by omega) (nI_1 (q + 1)) (jM_tr hj (jM_T t2)) (g _ _ (by rw [if_pos (c_zero (by omega) c56), show (9 * a + q) / 9 = a by omega]) (by rw [if_pos (c_zero (by omega) c56), show (9 * a + q) % 9 = q by omega]))) ⟨rfl, rfl, congrArg some (congrArg Value.int (nI_1 c)), rfl, rfl, rfl, rfl, trivial⟩
        refine ex_iload F dX8_why_26 rfl ?_
        refine ex_sipush (v := 400) F dX8_why_28 (by decide) ?_
        refine ex_icmp_gt (t := 94) F dX8_why_31 (by decide) (fun c => absurd c (nI_nlt (b := 20 * a) (a := 400) (by omega) (by decide))) (fun _ => ?_)
        refine ex_iconst (v := 1) F dX8_why_34 (by decide) ?_
        refine ex_istore F dX8_why_35 (by decide) ?_
        exact ex_weak2 (inner 9 0 c _ fw fp N (by omega) (by omega) rfl hj hf) ⟨rfl, rfl, rfl, rfl, rfl, rfl, rfl, trivial⟩
    exact ex_weak2 (key 21 0 0 _ (-4) (-4) M (by omega) (by omega) rfl (jM_rf M) ⟨fun _ => hto, fun _ => Or.inl ⟨rfl, rfl, rfl, hto⟩⟩) ⟨rfl, rfl, rfl, rfl, rfl, rfl, trivial⟩
  · refine ex_iconst (v := -1) F dX8_why_12 (by decide) ?_
    exact ex_iret F R dX8_why_13 rfl (⟨by rw [ift (by simpa using b2i_0.mp c9)], jM_rf M⟩)
