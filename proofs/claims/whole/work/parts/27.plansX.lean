def bcX (x : Int32) : Int32 :=
  let sh := fun (a b : Int32) => (a.toUInt32 >>> (b.toUInt32 &&& Int32.toUInt32 31)).toInt32
  let x1 := x - (sh x 1 &&& 1431655765)
  let x2 := (x1 &&& 858993459) + (sh x1 2 &&& 858993459)
  let x3 := (x2 + sh x2 4) &&& 252645135
  let x4 := x3 + sh x3 8
  let x5 := x4 + sh x4 16
  x5 &&& 63
def tB (M : Mem) (c f : Nat → Int32) : Mem := putB (putC M 16 c) f
theorem putC_B16 (M : Mem) (f c : Nat → Int32) : putC (putB M f) 16 c = putB (putC M 16 c) f := by
  funext q
  by_cases h : q = 18
  · subst h; simp [putB, putC]
  · by_cases h1 : q = 16
    · subst h1; simp [putB, putC]
    · simp [putB, putC, h]
theorem cX_tB (M : Mem) (c f : Nat → Int32) : cX (tB M c f) 16 = c := by
  have : cX (tB M c f) 16 = cX (putC M 16 c) 16 := by funext j; simp [cX, tB, putB]
  rw [this, cX_putC]
theorem putC_tB (M : Mem) (c f d : Nat → Int32) : putC (tB M c f) 16 d = tB M d f := by rw [tB, putC_B16, putC_putC, tB]
theorem putB_tB (M : Mem) (c f h : Nat → Int32) : putB (tB M c f) h = tB M c h := by rw [tB, putB_B, tB]
theorem tB_18 (M : Mem) (c f : Nat → Int32) : tB M c f 18 = f := putB_rd _ _
theorem tB_id (M : Mem) : tB M (cX M 16) (M 18) = M := by rw [tB, putC_cX, putB_id]
theorem tB_jX {M : Mem} {c f : Nat → Int32} (h : zC c) : jX M (tB M c f) := ⟨fun q h1 h2 h3 _ => by simp [tB, putB, h3, rd_o h1 h2], by rw [cX_tB]; exact h⟩
def sBestStep (M : Mem) (b : Int32) (w p : Int32) (f : Nat → Int32) : Nat → Int32 :=
  if sTillN (M 2) p (sRowB M b w) 400 1 = -4 then f else
    if sGood (M 2) (sHard (M 2) (itT (M 2) p (sTillN (M 2) p (sRowB M b w) 400 1).toNatClampNeg (sRowB M b w))) = true then
      sOffer f w p (sTillN (M 2) p (sRowB M b w) 400 1) (sLeft (M 2) (itT (M 2) p (sTillN (M 2) p (sRowB M b w) 400 1).toNatClampNeg (sRowB M b w))) else f
def sBestN (M : Mem) (b : Int32) : Nat → Nat → Int32
  | 0 => upd (M 18) 0 0
  | q + 1 => sBestStep M b (nI (20 * (q / 9))) (nI (q % 9 + 1)) (sBestN M b q)
theorem sBest_S (M : Mem) (b : Int32) {a q : Nat} (hq : q < 9) : sBestN M b (9 * a + q + 1) = sBestStep M b (nI (20 * a)) (nI (q + 1)) (sBestN M b (9 * a + q)) := by
  show sBestStep M b (nI (20 * ((9 * a + q) / 9))) (nI ((9 * a + q) % 9 + 1)) _ = _
  rw [show (9 * a + q) / 9 = a by omega, show (9 * a + q) % 9 = q by omega]
theorem row_ok {M : Mem} {b w : Int32} (hO : tO M) (hb : sHasCows (M 1 4) b = true) {x : Nat} (lx : x ≤ 400) (hw : w = nI x) : okC 0 (sRowB M b w) := by
  obtain ⟨n, e, h⟩ := hO
  rw [e] at hb
  refine okC_fill h hb ?_
  rw [hw]
  simp only [outB, Bool.or_eq_false_iff, decide_eq_false_iff_not]
  exact ⟨nI_pos (by omega), nI_nlt (a := 400) (b := x) lx (by decide)⟩

set_option maxRecDepth 100000 in
theorem c_J6_bitCount_0f7a4 {l : Launch} {g : XG} {M : Mem} {z : Int32} : Call l g YJ6_bitCount_0f7a4 [.int z] M (PI (fun v M' => v = bcX z ∧ M' = M)) := by
  refine call_ofF (by decide +kernel) (Nat.le_of_ble_eq_true rfl) (fun x hxl F R => ?_)
  subst hxl
  refine ex_iload_n F dJ6_bitCount_0f7a4_0 rfl rfl ?_
  refine ex_iload_n F dJ6_bitCount_0f7a4_1 rfl rfl ?_
  refine ex_iconst (v := 1) F dJ6_bitCount_0f7a4_2 (by decide) ?_
  refine ex_iushr F dJ6_bitCount_0f7a4_3 ?_
  refine ex_ldcw F dJ6_bitCount_0f7a4_4 kc_J6_265 ?_
  refine ex_iand F dJ6_bitCount_0f7a4_7 ?_
  refine ex_isub F dJ6_bitCount_0f7a4_8 ?_
  refine ex_istore_n F dJ6_bitCount_0f7a4_9 rfl (by decide) ?_
  refine ex_iload_n F dJ6_bitCount_0f7a4_10 rfl rfl ?_
  refine ex_ldcw F dJ6_bitCount_0f7a4_11 kc_J6_266 ?_
  refine ex_iand F dJ6_bitCount_0f7a4_14 ?_
  refine ex_iload_n F dJ6_bitCount_0f7a4_15 rfl rfl ?_
  refine ex_iconst (v := 2) F dJ6_bitCount_0f7a4_16 (by decide) ?_
  refine ex_iushr F dJ6_bitCount_0f7a4_17 ?_
  refine ex_ldcw F dJ6_bitCount_0f7a4_18 kc_J6_266 ?_
  refine ex_iand F dJ6_bitCount_0f7a4_21 ?_
  refine ex_iadd F dJ6_bitCount_0f7a4_22 ?_
  refine ex_istore_n F dJ6_bitCount_0f7a4_23 rfl (by decide) ?_
  refine ex_iload_n F dJ6_bitCount_0f7a4_24 rfl rfl ?_
  refine ex_iload_n F dJ6_bitCount_0f7a4_25 rfl rfl ?_
  refine ex_iconst (v := 4) F dJ6_bitCount_0f7a4_26 (by decide) ?_
  refine ex_iushr F dJ6_bitCount_0f7a4_27 ?_
  refine ex_iadd F dJ6_bitCount_0f7a4_28 ?_
  refine ex_ldcw F dJ6_bitCount_0f7a4_29 kc_J6_267 ?_
  refine ex_iand F dJ6_bitCount_0f7a4_32 ?_
  refine ex_istore_n F dJ6_bitCount_0f7a4_33 rfl (by decide) ?_
  refine ex_iload_n F dJ6_bitCount_0f7a4_34 rfl rfl ?_
  refine ex_iload_n F dJ6_bitCount_0f7a4_35 rfl rfl ?_
  refine ex_bipush (v := 8) F dJ6_bitCount_0f7a4_36 (by decide) ?_
  refine ex_iushr F dJ6_bitCount_0f7a4_38 ?_
  refine ex_iadd F dJ6_bitCount_0f7a4_39 ?_
  refine ex_istore_n F dJ6_bitCount_0f7a4_40 rfl (by decide) ?_
  refine ex_iload_n F dJ6_bitCount_0f7a4_41 rfl rfl ?_
  refine ex_iload_n F dJ6_bitCount_0f7a4_42 rfl rfl ?_
  refine ex_bipush (v := 16) F dJ6_bitCount_0f7a4_43 (by decide) ?_
  refine ex_iushr F dJ6_bitCount_0f7a4_45 ?_
  refine ex_iadd F dJ6_bitCount_0f7a4_46 ?_
  refine ex_istore_n F dJ6_bitCount_0f7a4_47 rfl (by decide) ?_
  refine ex_iload_n F dJ6_bitCount_0f7a4_48 rfl rfl ?_
  refine ex_bipush (v := 63) F dJ6_bitCount_0f7a4_49 (by decide) ?_
  refine ex_iand F dJ6_bitCount_0f7a4_51 ?_
  exact ex_iret F R dJ6_bitCount_0f7a4_52 rfl (⟨rfl, rfl⟩)
theorem cs_X7_findBest_108 : CSV (xmN YX7_findBest).cls (xmF YX7_findBest) (xmW YX7_findBest) 108 3 YX1_fillWith := ⟨⟨ml_X7_108, ini_X1, cd_X1_fillWith, by decide +kernel, by decide⟩, im_X1_fillWith, se_X1_fillWith⟩
theorem cs_X7_findBest_166 : CSV (xmN YX7_findBest).cls (xmF YX7_findBest) (xmW YX7_findBest) 166 2 YX7_turnTrialTillCome := ⟨⟨ml_X7_166, ini_X7, cd_X7_turnTrialTillCome, by decide +kernel, by decide⟩, im_X7_turnTrialTillCome, se_X7_turnTrialTillCome⟩
theorem cs_X7_findBest_274 : CSV (xmN YX7_findBest).cls (xmF YX7_findBest) (xmW YX7_findBest) 274 1 YX1_hardness := ⟨⟨ml_X7_274, ini_X1, cd_X1_hardness, by decide +kernel, by decide⟩, im_X1_hardness, se_X1_hardness⟩
theorem cs_X7_findBest_184 : CSV (xmN YX7_findBest).cls (xmF YX7_findBest) (xmW YX7_findBest) 184 1 YX6_isGood := ⟨⟨ml_X7_184, ini_X6, cd_X6_isGood, by decide +kernel, by decide⟩, im_X6_isGood, se_X6_isGood⟩
theorem cs_X7_findBest_278 : CSV (xmN YX7_findBest).cls (xmF YX7_findBest) (xmW YX7_findBest) 278 1 YX1_left := ⟨⟨ml_X7_278, ini_X1, cd_X1_left, by decide +kernel, by decide⟩, im_X1_left, se_X1_left⟩
theorem cs_X7_findBest_281 : CSV (xmN YX7_findBest).cls (xmF YX7_findBest) (xmW YX7_findBest) 281 4 YX0_offer := ⟨⟨ml_X7_281, ini_X0, cd_X0_offer, by decide +kernel, by decide⟩, im_X0_offer, se_X0_offer⟩
set_option maxRecDepth 100000 in
theorem c_X7_findBest {l : Launch} {g : XG} {M : Mem} {b : Int32} (hR : okR (M 2)) (hO : tO M) (h16 : zC (cX M 16)) (hb : sHasCows (M 1 4) b = true) : Call l g YX7_findBest [.ref (ad g 0), .int b] M (PV (fun M' => ∃ c, zC c ∧ M' = tB M c (sBestN M b 189))) := by
  refine call_of (by decide +kernel) (Nat.le_of_ble_eq_true rfl) (fun x hxl F R => ?_)
  subst hxl
  refine ex_aload_n F dX7_findBest_0 rfl rfl ?_
  refine gf_7_4 F dX7_findBest_1 fl_X7_36 ?_
  refine ex_iconst (v := 0) F dX7_findBest_4 (by decide) ?_
  refine pf_0_0 F dX7_findBest_5 fl_X7_173 (by first | exact Or.inl rfl | exact Or.inr rfl | assumption) ?_
  refine ex_iconst (v := 0) F dX7_findBest_8 (by decide) ?_
  refine ex_istore_n F dX7_findBest_9 rfl (by decide) ?_
  have key : ∀ (m a : Nat) (v : Int32) (c f : Nat → Int32), a + m = 21 → v = nI (20 * a) → zC c → f = sBestN M b (9 * a) → EX x g (xmL YX7_findBest) (tB M c f) 10 [(0, .ref (ad g 0)), (1, .int b), (2, .int v)] [] := by
    intro m
    induction m with
    | zero =>
      intro a v c f ha hv hz hf
      obtain rfl : a = 21 := by omega
      subst hv
      refine ex_iload_n F dX7_findBest_10 rfl rfl ?_
      refine ex_sipush (v := 400) F dX7_findBest_11 (by decide) ?_
      refine ex_icmp_gt (t := 110) F dX7_findBest_14 (by decide) (fun _ => ?_) (fun c => absurd (by decide) c)
      exact ex_vret F R dX7_findBest_110 rfl (⟨c, hz, by rw [hf]⟩)
    | succ m ih =>
      intro a v c f ha hv hz hf
      subst hv
      have inner : ∀ (k q : Nat) (u : Int32) (c f : Nat → Int32), q + k = 9 → u = nI (q + 1) → zC c → f = sBestN M b (9 * a + q) → EX x g (xmL YX7_findBest) (tB M c f) 19 [(0, .ref (ad g 0)), (1, .int b), (2, .int (nI (20 * a))), (3, .int u)] [] := by
        intro k
        induction k with
        | zero =>
          intro q u c f hq hu hz hf
          obtain rfl : q = 9 := by omega
          subst hu
          refine ex_iload_n F dX7_findBest_19 rfl rfl ?_
          refine ex_bipush (v := 9) F dX7_findBest_20 (by decide) ?_
          refine ex_icmp_gt (t := 104) F dX7_findBest_22 (by decide) (fun _ => ?_) (fun c => absurd (by decide) c)
          refine ex_iinc (w := _ + 20) F dX7_findBest_104 rfl rfl (by decide) ?_
          refine ex_goto (t := 10) F dX7_findBest_107 (by decide) ?_
          refine ex_weak2 (ih (a + 1) _ c f (by omega) ?_ hz ?_) ⟨rfl, rfl, rfl, trivial⟩
          · rw [show (20 : Int32) = nI 20 from rfl, nI_add]; rfl
          · rw [hf]; rfl
        | succ k ih2 =>
          intro q u c f hq hu hz hf
          subst hu
          have hCf : okC 0 (sRowB M b (nI (20 * a))) := row_ok hO hb (x := 20 * a) (by omega) rfl
          refine ex_iload_n F dX7_findBest_19 rfl rfl ?_
          refine ex_bipush (v := 9) F dX7_findBest_20 (by decide) ?_
          refine ex_icmp_gt (t := 104) F dX7_findBest_22 (by decide) (fun c => absurd c (nI_nlt (b := q + 1) (a := 9) (by omega) (by decide))) (fun _ => ?_)
          refine ex_aload_n F dX7_findBest_25 rfl rfl ?_
          refine gf_7_3 F dX7_findBest_26 fl_X7_30 ?_
          refine ex_aload_n F dX7_findBest_29 rfl rfl ?_
          refine gf_7_0 F dX7_findBest_30 fl_X7_10 ?_
          refine ex_iload_n F dX7_findBest_33 rfl rfl ?_
          refine ex_iload_n F dX7_findBest_34 rfl rfl ?_
          refine ex_callVv F (c_X1_fillWith (M := tB M c f) (k := 16) (by decide)) dX7_findBest_35 cs_X7_findBest_108 (ob_1 (by decide)) rfl rfl rfl rfl (Nat.le_of_ble_eq_true rfl) (fun M35 h35 => ?_)
          rw [cX_tB, fill_z hz, putC_tB] at h35
          have h35 : M35 = tB M (sRowB M b (nI (20 * a))) f := h35
          rw [h35]
          clear h35
          refine ex_aload_n F dX7_findBest_38 rfl rfl ?_
          refine ex_iload_n F dX7_findBest_39 rfl rfl ?_
          refine ex_sipush (v := 400) F dX7_findBest_40 (by decide) ?_
          refine ex_callVi F (c_X7_turnTrialTillCome (M := tB M _ f) (mm := 400) (T := 0) (pp := q + 1) hR (by rw [cX_tB]; exact hCf) (by decide) (by decide) rfl (by omega) rfl (by rw [cX_tB]; rfl)) dX7_findBest_43 cs_X7_findBest_166 ob_7 rfl rfl rfl rfl (Nat.le_of_ble_eq_true rfl) (fun v43 M43 h43 => ?_)
          obtain ⟨e43, n43, l43, q43, w43⟩ := h43
          rw [cX_tB] at e43
          rw [cX_tB, putC_tB] at q43
          have e43 : v43 = sTillN (M 2) (nI (q + 1)) (sRowB M b (nI (20 * a))) 400 1 := e43
          have q43 : M43 = tB M (itT (M 2) (nI (q + 1)) n43 (sRowB M b (nI (20 * a)))) f := q43
          have hz2 : zC (itT (M 2) (nI (q + 1)) n43 (sRowB M b (nI (20 * a)))) := zC_it _ hCf.2.2.2.2
          rw [q43]
          clear q43
          refine ex_istore F dX7_findBest_46 (by decide) ?_
          refine ex_iload F dX7_findBest_48 rfl ?_
          refine ex_bipush (v := -4) F dX7_findBest_50 (by decide) ?_
          refine ex_icmp_eq (t := 98) F dX7_findBest_52 (by decide) (fun c52 => ?_) (fun c52 => ?_)
          · refine ex_iinc (w := _ + 1) F dX7_findBest_98 rfl rfl (by decide) ?_
            refine ex_goto (t := 19) F dX7_findBest_101 (by decide) ?_
            refine ex_weak2 (ih2 (q + 1) _ _ _ (by omega) (nI_1 (q + 1)) hz2 ?_) ⟨rfl, rfl, rfl, rfl, trivial⟩
            rw [← Nat.add_assoc, sBest_S M b (by omega), ← hf, sBestStep, ← e43, if_pos c52]
          · have en43 : v43.toNatClampNeg = n43 := by rw [(w43 c52).1]; exact nI_clamp (by omega)
            refine ex_aload_n F dX7_findBest_55 rfl rfl ?_
            refine gf_7_0 F dX7_findBest_56 fl_X7_10 ?_
            refine ex_aload_n F dX7_findBest_59 rfl rfl ?_
            refine gf_7_3 F dX7_findBest_60 fl_X7_30 ?_
            refine ex_aload_n F dX7_findBest_63 rfl rfl ?_
            refine gf_7_0 F dX7_findBest_64 fl_X7_10 ?_
            refine ex_callVi F (c_X1_hardness (M := tB M _ f) (k := 16) (by decide)) dX7_findBest_67 cs_X7_findBest_274 (ob_1 (by decide)) rfl rfl rfl rfl (Nat.le_of_ble_eq_true rfl) (fun v67 M67 h67 => ?_)
            obtain ⟨e67, q67⟩ := h67
            rw [cX_tB] at e67
            have e67 : v67 = sHard (M 2) (itT (M 2) (nI (q + 1)) n43 (sRowB M b (nI (20 * a)))) := e67
            rw [q67]
            clear q67
            refine ex_callVi F (c_X6_isGood) dX7_findBest_70 cs_X7_findBest_184 (ob_6 (by decide)) rfl rfl rfl rfl (Nat.le_of_ble_eq_true rfl) (fun v70 M70 h70 => ?_)
            obtain ⟨rfl, q70⟩ := h70
            rw [q70]
            clear q70
            refine ex_if_eq (t := 98) F dX7_findBest_73 (by decide) (fun c73 => ?_) (fun c73 => ?_)
            · refine ex_iinc (w := _ + 1) F dX7_findBest_98 rfl rfl (by decide) ?_
              refine ex_goto (t := 19) F dX7_findBest_101 (by decide) ?_
              have g73 : b2i (sGood (M 2) v67) = 0 := c73
              refine ex_weak2 (ih2 (q + 1) _ _ _ (by omega) (nI_1 (q + 1)) hz2 ?_) ⟨rfl, rfl, rfl, rfl, trivial⟩
              rw [← Nat.add_assoc, sBest_S M b (by omega), ← hf, sBestStep, ← e43, if_neg c52, en43, if_neg (by rw [← e67, b2i_0.mp g73]; decide)]
            · refine ex_aload_n F dX7_findBest_76 rfl rfl ?_
              refine gf_7_4 F dX7_findBest_77 fl_X7_36 ?_
              refine ex_iload_n F dX7_findBest_80 rfl rfl ?_
              refine ex_iload_n F dX7_findBest_81 rfl rfl ?_
              refine ex_iload F dX7_findBest_82 rfl ?_
              refine ex_aload_n F dX7_findBest_84 rfl rfl ?_
              refine gf_7_3 F dX7_findBest_85 fl_X7_30 ?_
              refine ex_aload_n F dX7_findBest_88 rfl rfl ?_
              refine gf_7_0 F dX7_findBest_89 fl_X7_10 ?_
              refine ex_callVi F (c_X1_left (M := tB M _ f) (k := 16) (by decide) hR) dX7_findBest_92 cs_X7_findBest_278 (ob_1 (by decide)) rfl rfl rfl rfl (Nat.le_of_ble_eq_true rfl) (fun v92 M92 h92 => ?_)
              obtain ⟨e92, q92⟩ := h92
              rw [cX_tB] at e92
              have e92 : v92 = sLeft (M 2) (itT (M 2) (nI (q + 1)) n43 (sRowB M b (nI (20 * a)))) := e92
              rw [q92]
              clear q92
              refine ex_callVv F (c_X0_offer) dX7_findBest_95 cs_X7_findBest_281 ob_0 rfl rfl rfl rfl (Nat.le_of_ble_eq_true rfl) (fun M95 h95 => ?_)
              rw [tB_18, putB_tB] at h95
              rw [h95]
              clear h95
              refine ex_iinc (w := _ + 1) F dX7_findBest_98 rfl rfl (by decide) ?_
              refine ex_goto (t := 19) F dX7_findBest_101 (by decide) ?_
              have g73 : ¬ b2i (sGood (M 2) v67) = 0 := c73
              refine ex_weak2 (ih2 (q + 1) _ _ _ (by omega) (nI_1 (q + 1)) hz2 ?_) ⟨rfl, rfl, rfl, rfl, trivial⟩
              rw [← Nat.add_assoc, sBest_S M b (by omega), ← hf, sBestStep, ← e43, if_neg c52, en43, if_pos (by rw [← e67, b2i_1.mp g73]), ← e92]
      refine ex_iload_n F dX7_findBest_10 rfl rfl ?_
      refine ex_sipush (v := 400) F dX7_findBest_11 (by decide) ?_
      refine ex_icmp_gt (t := 110) F dX7_findBest_14 (by decide) (fun c => absurd c (nI_nlt (b := 20 * a) (a := 400) (by omega) (by decide))) (fun _ => ?_)
      refine ex_iconst (v := 1) F dX7_findBest_17 (by decide) ?_
      refine ex_istore_n F dX7_findBest_18 rfl (by decide) ?_
      exact ex_weak2 (inner 9 0 _ c f (by omega) rfl hz hf) ⟨rfl, rfl, rfl, rfl, trivial⟩
  refine ex_M (M1 := tB M (cX M 16) (upd (M 18) 0 0)) ?_ (ex_weak2 (key 21 0 _ _ _ (by omega) rfl h16 rfl) ⟨rfl, rfl, rfl, trivial⟩)
  rw [putB_mu, tB, putC_cX]
theorem cs_X7_plan_135 : CSV (xmN YX7_plan).cls (xmF YX7_plan) (xmW YX7_plan) 135 1 YX6_hasCows := ⟨⟨ml_X7_135, ini_X6, cd_X6_hasCows, by decide +kernel, by decide⟩, im_X6_hasCows, se_X6_hasCows⟩
theorem cs_X7_plan_85 : CSS (xmN YX7_plan).cls (xmF YX7_plan) (xmW YX7_plan) 85 3 YX7_outside := ⟨⟨ml_X7_85, ini_X7, cd_X7_outside, by decide +kernel, by decide⟩, st_X7_outside⟩
theorem cs_X7_plan_169 : CSV (xmN YX7_plan).cls (xmF YX7_plan) (xmW YX7_plan) 169 1 YX7_findBest := ⟨⟨ml_X7_169, ini_X7, cd_X7_findBest, by decide +kernel, by decide⟩, im_X7_findBest, se_X7_findBest⟩
theorem cs_X7_plan_174 : CSV (xmN YX7_plan).cls (xmF YX7_plan) (xmW YX7_plan) 174 1 YX0_tell := ⟨⟨ml_X7_174, ini_X0, cd_X0_tell, by decide +kernel, by decide⟩, im_X0_tell, se_X0_tell⟩
set_option maxRecDepth 100000 in
theorem c_X7_plan {l : Launch} {g : XG} {M : Mem} {b wh : Int32} (hR : okR (M 2)) (hO : tO M) (h16 : zC (cX M 16)) : Call l g YX7_plan [.ref (ad g 0), .int b, .int wh] M (PI (fun v M' => v = (if (!sHasCows (M 1 4) b || outB wh 0 3) = true then -1 else if sBestN M b 189 0 = 0 then -4 else sBestTell (sBestN M b 189) wh) ∧ jX M M')) := by
  refine call_of (by decide +kernel) (Nat.le_of_ble_eq_true rfl) (fun x hxl F R => ?_)
  subst hxl
  refine ex_aload_n F dX7_plan_0 rfl rfl ?_
  refine gf_7_0 F dX7_plan_1 fl_X7_10 ?_
  refine ex_iload_n F dX7_plan_4 rfl rfl ?_
  refine ex_callVi F (c_X6_hasCows) dX7_plan_5 cs_X7_plan_135 (ob_6 (by decide)) rfl rfl rfl rfl (Nat.le_of_ble_eq_true rfl) (fun v5 M5 h5 => ?_)
  obtain ⟨rfl, q5⟩ := h5
  rw [q5]
  clear q5
  refine ex_if_eq (t := 20) F dX7_plan_8 (by decide) (fun c8 => ?_) (fun c8 => ?_)
  · refine ex_iconst (v := -1) F dX7_plan_20 (by decide) ?_
    exact ex_iret F R dX7_plan_21 rfl (⟨by simp [b2i_0.mp c8], jX_rf h16⟩)
  · refine ex_iload_n F dX7_plan_11 rfl rfl ?_
    refine ex_iconst (v := 0) F dX7_plan_12 (by decide) ?_
    refine ex_iconst (v := 3) F dX7_plan_13 (by decide) ?_
    refine ex_callSi F (c_X7_outside) dX7_plan_14 cs_X7_plan_85 rfl rfl (Nat.le_of_ble_eq_true rfl) (fun v14 M14 h14 => ?_)
    obtain ⟨rfl, q14⟩ := h14
    rw [q14]
    clear q14
    refine ex_if_eq (t := 22) F dX7_plan_17 (by decide) (fun c17 => ?_) (fun c17 => ?_)
    · refine ex_aload_n F dX7_plan_22 rfl rfl ?_
      refine ex_iload_n F dX7_plan_23 rfl rfl ?_
      refine ex_callVv F (c_X7_findBest hR hO h16 (b2i_1.mp c8)) dX7_plan_24 cs_X7_plan_169 ob_7 rfl rfl rfl rfl (Nat.le_of_ble_eq_true rfl) (fun M24 h24 => ?_)
      obtain ⟨c, hz, q24⟩ := h24
      generalize sBestN M b 189 = f at q24 R
      rw [q24]
      clear q24
      refine ex_aload_n F dX7_plan_27 rfl rfl ?_
      refine gf_7_4 F dX7_plan_28 fl_X7_36 ?_
      refine gf_0_0 F dX7_plan_31 fl_X7_173 ?_
      refine ex_if_eq (t := 48) F dX7_plan_34 (by decide) (fun c34 => ?_) (fun c34 => ?_)
      · refine ex_bipush (v := -4) F dX7_plan_48 (by decide) ?_
        exact ex_iret F R dX7_plan_50 rfl (⟨by rw [if_neg (by simp [b2i_1.mp c8, b2i_0.mp c17])]; rw [if_pos (show f 0 = 0 from c34)], tB_jX hz⟩)
      · refine ex_aload_n F dX7_plan_37 rfl rfl ?_
        refine gf_7_4 F dX7_plan_38 fl_X7_36 ?_
        refine ex_iload_n F dX7_plan_41 rfl rfl ?_
        refine ex_callVi F (c_X0_tell) dX7_plan_42 cs_X7_plan_174 ob_0 rfl rfl rfl rfl (Nat.le_of_ble_eq_true rfl) (fun v42 M42 h42 => ?_)
        obtain ⟨rfl, q42⟩ := h42
        rw [q42]
        clear q42
        refine ex_goto (t := 50) F dX7_plan_45 (by decide) ?_
        exact ex_iret F R dX7_plan_50 rfl (⟨by rw [if_neg (by simp [b2i_1.mp c8, b2i_0.mp c17])]; rw [if_neg (show ¬ f 0 = 0 from c34)]; rfl, tB_jX hz⟩)
    · refine ex_iconst (v := -1) F dX7_plan_20 (by decide) ?_
      exact ex_iret F R dX7_plan_21 rfl (⟨by simp [b2i_1.mp c8, b2i_1.mp c17], jX_rf h16⟩)
