theorem le_lt7 {a b : Int32} : ¬ a < b ↔ b ≤ a := Int32.not_lt
def frT (M M' : Mem) (A : Nat) : Prop := (∀ q, q ≠ 51 → q ≠ 52 → M' q = M q) ∧ ∀ i, (i < A ∨ A + 16 ≤ i) → M' 51 i = M 51 i
theorem frT_of {M M' : Mem} {A : Nat} (h : frS M M' A) : frT M M' A := ⟨h.1, fun i hi => h.2 i (by omega)⟩
theorem frT_rf (M : Mem) (A : Nat) : frT M M A := ⟨fun _ _ _ => rfl, fun _ _ => rfl⟩
theorem frT_tr {M M1 M2 : Mem} {A : Nat} (h1 : frT M M1 A) (h2 : frT M1 M2 A) : frT M M2 A := ⟨fun q a b => (h2.1 q a b).trans (h1.1 q a b), fun i h => (h2.2 i h).trans (h1.2 i h)⟩
theorem mR_frT {M M' : Mem} {A : Nat} {r : Nat → Int32} (h : mR M r) (hf : frT M M' A) : mR M' r := fun j hj => by rw [hf.1 47 (by decide) (by decide)]; exact h j hj
theorem cM_eq {M N : Mem} {A B : Nat} (h : ∀ i, i < 13 → N 51 (B + i) = M 51 (A + i)) : cM N B = cM M A := by
  funext j
  by_cases h5 : j = 5
  · subst h5; rw [cM_5, cM_5, h 5 (by decide)]
  · by_cases h13 : j < 13
    · rw [cM_o h5 h13, cM_o h5 h13, h j h13]
    · rw [cM_z M A j (by omega), cM_z N B j (by omega)]
theorem cM_out {M N : Mem} {A B : Nat} (hf : frT M N A) (h : B + 16 ≤ A ∨ A + 16 ≤ B) : cM N B = cM M B := cM_eq (fun i hi => hf.2 _ (by omega))
theorem okM_out {M N : Mem} {A B : Nat} (hf : frT M N A) (h : B + 16 ≤ A ∨ A + 16 ≤ B) (hO : okM M B) : okM N B := okM_fr hO (hf.2 _ (by omega))
set_option maxRecDepth 100000 in
theorem c_X8_halves {l : Launch} {g : XG} {M : Mem} {A : Nat} (hA : A ≤ 64) : Call l g YX8_halves [.ref (ad g 38), .int (nI A)] M (PV (fun M' => cM M' A = sHalfN 7 (cM M A) ∧ frS M M' A ∧ M' 51 (A + 5) = M 51 (A + 5))) := by
  refine call_of (by decide +kernel) (Nat.le_of_ble_eq_true rfl) (fun x hxl F R => ?_)
  subst hxl
  refine ex_aload_n F dX8_halves_0 rfl rfl ?_
  refine gf_8_23 F dX8_halves_1 fl_X8_46 ?_
  refine ex_iload_n F dX8_halves_4 rfl rfl ?_
  refine ex_dup2 F dX8_halves_5 rfl rfl ?_
  refine ex_iald (n := 80) F dX8_halves_6 (by decide) (vp_in_nI (by omega) (by decide)) (j := A) (nI_clamp (by omega)) ?_
  refine ex_iconst (v := 2) F dX8_halves_7 (by decide) ?_
  refine ex_idiv F dX8_halves_8 (by decide) ?_
  refine ex_iast (n := 80) F dX8_halves_9 (by decide) (vp_in_nI (by omega) (by decide)) (j := A) (nI_clamp (by omega)) ?_
  refine ex_aload_n F dX8_halves_10 rfl rfl ?_
  refine gf_8_23 F dX8_halves_11 fl_X8_46 ?_
  refine ex_iload_n F dX8_halves_14 rfl rfl ?_
  refine ex_iconst (v := 3) F dX8_halves_15 (by decide) ?_
  refine ex_iadd F dX8_halves_16 ?_
  refine ex_dup2 F dX8_halves_17 rfl rfl ?_
  refine ex_iald (n := 80) F dX8_halves_18 (by decide) (ixA (k := 3) hA (by decide)) (j := A + 3) (ixB (k := 3) hA (by decide)) ?_
  refine ex_iconst (v := 2) F dX8_halves_19 (by decide) ?_
  refine ex_idiv F dX8_halves_20 (by decide) ?_
  refine ex_iast (n := 80) F dX8_halves_21 (by decide) (ixA (k := 3) hA (by decide)) (j := A + 3) (ixB (k := 3) hA (by decide)) ?_
  refine ex_iconst (v := 0) F dX8_halves_22 (by decide) ?_
  refine ex_istore_n F dX8_halves_23 rfl (by decide) ?_
  have key : ∀ (m i : Nat) (u : Int32) (N : Mem), i + m = 7 → u = nI i → cM N A = sHalfN i (cM M A) → frS M N A → N 51 (A + 5) = M 51 (A + 5) → EX x g (xmL YX8_halves) N 24 [(0, .ref (ad g 38)), (1, .int (nI A)), (2, .int u)] [] := by
    intro m
    induction m with
    | zero =>
      intro i u N hi hu h1 h2 h3
      obtain rfl : i = 7 := by omega
      subst hu
      refine ex_iload_n F dX8_halves_24 rfl rfl ?_
      refine ex_bipush (v := 7) F dX8_halves_25 (by decide) ?_
      refine ex_icmp_ge (t := 51) F dX8_halves_27 (by decide) (fun _ => ?_) (fun c => absurd (by decide) c)
      exact ex_vret F R dX8_halves_51 rfl (⟨h1, h2, h3⟩)
    | succ m ih =>
      intro i u N hi hu h1 h2 h3
      subst hu
      refine ex_iload_n F dX8_halves_24 rfl rfl ?_
      refine ex_bipush (v := 7) F dX8_halves_25 (by decide) ?_
      refine ex_icmp_ge (t := 51) F dX8_halves_27 (by decide) (fun c => absurd c (nI_ge (b := 7) (by omega) (by decide))) (fun _ => ?_)
      refine ex_aload_n F dX8_halves_30 rfl rfl ?_
      refine gf_8_23 F dX8_halves_31 fl_X8_46 ?_
      refine ex_iload_n F dX8_halves_34 rfl rfl ?_
      refine ex_bipush (v := 6) F dX8_halves_35 (by decide) ?_
      refine ex_iadd F dX8_halves_37 ?_
      refine ex_iload_n F dX8_halves_38 rfl rfl ?_
      refine ex_iadd F dX8_halves_39 ?_
      refine ex_dup2 F dX8_halves_40 rfl rfl ?_
      refine ex_iald (n := 80) F dX8_halves_41 (by decide) (ixA2 (k := 6) hA (by omega)) (j := A + (6 + i)) (ixB2 (k := 6) hA (by omega)) ?_
      refine ex_iconst (v := 2) F dX8_halves_42 (by decide) ?_
      refine ex_idiv F dX8_halves_43 (by decide) ?_
      refine ex_iast (n := 80) F dX8_halves_44 (by decide) (ixA2 (k := 6) hA (by omega)) (j := A + (6 + i)) (ixB2 (k := 6) hA (by omega)) ?_
      refine ex_iinc (w := _ + 1) F dX8_halves_45 rfl rfl (by decide) ?_
      refine ex_goto (t := 24) F dX8_halves_48 (by decide) ?_
      refine ex_weak2 (ih (i + 1) _ _ (by omega) (nI_1 i) ?_ (frS_tr h2 (frS_mu _ (by omega))) (by rw [mu_j _ _ _ _ _ (by omega)]; exact h3)) ⟨rfl, rfl, rfl, trivial⟩
      have e : N 51 (A + (6 + i)) = sHalfN i (cM M A) (i + 6) := by rw [← h1, cM_o (by omega) (by omega), show i + 6 = 6 + i by omega]
      rw [cM_mu (by omega) (by omega), h1, e, show 6 + i = i + 6 by omega, halfS]
  refine ex_weak2 (key 7 0 _ _ (by omega) rfl ?_ (frS_tr (M1 := mu M 51 (A + 0) (M 51 A / 2)) (frS_mu _ (by decide)) (frS_mu _ (by decide))) (by rw [mu_j _ _ _ _ _ (by omega), mu_j _ _ _ _ _ (by omega)])) ⟨rfl, rfl, rfl, trivial⟩
  have e3 : mu M 51 A (M 51 A / 2) 51 (A + 3) = cM M A 3 := by rw [mu_j _ _ _ _ _ (by omega), cM_o (by decide) (by decide)]
  have e0 : cM (mu M 51 A (M 51 A / 2)) A = upd (cM M A) 0 (cM M A 0 / 2) := cM_mu (M := M) (A := A) (j := 0) (y := M 51 A / 2) (by decide) (by decide)
  rw [cM_mu (by decide) (by decide), e3, e0, ← half0]
theorem cs_X8_isOver_179 : CSV (xmN YX8_isOver).cls (xmF YX8_isOver) (xmW YX8_isOver) 179 2 YX8_fatFrom := ⟨⟨ml_X8_179, ini_X8, cd_X8_fatFrom, by decide +kernel, by decide⟩, im_X8_fatFrom, se_X8_fatFrom⟩
set_option maxRecDepth 100000 in
theorem c_X8_isOver {l : Launch} {g : XG} {M : Mem} {A : Nat} (hA : A ≤ 64) : Call l g YX8_isOver [.ref (ad g 38), .int (nI A)] M (PI (fun v M' => v = b2i (sMost (cM M A)) ∧ M' = M)) := by
  refine call_of (by decide +kernel) (Nat.le_of_ble_eq_true rfl) (fun x hxl F R => ?_)
  subst hxl
  refine ex_bipush (v := 10) F dX8_isOver_0 (by decide) ?_
  refine ex_aload_n F dX8_isOver_2 rfl rfl ?_
  refine ex_iload_n F dX8_isOver_3 rfl rfl ?_
  refine ex_bipush (v := 6) F dX8_isOver_4 (by decide) ?_
  refine ex_callVi F (c_X8_fatFrom (i0 := 6) hA (by decide)) dX8_isOver_6 cs_X8_isOver_179 ob_8 rfl rfl rfl rfl (Nat.le_of_ble_eq_true rfl) (fun v6 M6 h6 => ?_)
  obtain ⟨rfl, q6⟩ := h6
  rw [q6]
  clear q6
  refine ex_imul F dX8_isOver_9 ?_
  refine ex_bipush (v := 9) F dX8_isOver_10 (by decide) ?_
  refine ex_aload_n F dX8_isOver_12 rfl rfl ?_
  refine ex_iload_n F dX8_isOver_13 rfl rfl ?_
  refine ex_iconst (v := 0) F dX8_isOver_14 (by decide) ?_
  refine ex_callVi F (c_X8_fatFrom (i0 := 0) hA (by decide)) dX8_isOver_15 cs_X8_isOver_179 ob_8 rfl rfl rfl rfl (Nat.le_of_ble_eq_true rfl) (fun v15 M15 h15 => ?_)
  obtain ⟨rfl, q15⟩ := h15
  rw [q15]
  clear q15
  refine ex_imul F dX8_isOver_18 ?_
  refine ex_icmp_lt (t := 26) F dX8_isOver_19 (by decide) (fun c19 => ?_) (fun c19 => ?_)
  · refine ex_iconst (v := 0) F dX8_isOver_26 (by decide) ?_
    exact ex_zret (ty := .boolean) F R dX8_isOver_27 rfl (rfl) (⟨by rw [sMost, decide_eq_false (Int32.not_le.mpr c19)]; rfl, rfl⟩)
  · refine ex_iconst (v := 1) F dX8_isOver_22 (by decide) ?_
    refine ex_goto (t := 27) F dX8_isOver_23 (by decide) ?_
    exact ex_zret (ty := .boolean) F R dX8_isOver_27 rfl (rfl) (⟨by rw [sMost, decide_eq_true (Int32.not_lt.mp c19)]; rfl, rfl⟩)
theorem cs_X8_left_179 : CSV (xmN YX8_left).cls (xmF YX8_left) (xmW YX8_left) 179 2 YX8_fatFrom := ⟨⟨ml_X8_179, ini_X8, cd_X8_fatFrom, by decide +kernel, by decide⟩, im_X8_fatFrom, se_X8_fatFrom⟩
set_option maxRecDepth 100000 in
theorem c_X8_left {l : Launch} {g : XG} {M : Mem} {A : Nat} {r : Nat → Int32} (hA : A ≤ 64) (hR : okR r) (hr : mR M r) : Call l g YX8_left [.ref (ad g 38), .int (nI A)] M (PI (fun v M' => v = sLeft r (cM M A) ∧ M' = M)) := by
  refine call_of (by decide +kernel) (Nat.le_of_ble_eq_true rfl) (fun x hxl F R => ?_)
  subst hxl
  obtain ⟨gn, hgr, hg3, hg6⟩ := okR_grain hR
  have hsg : sGrain r = gn := by rw [sGrain, hgr]; exact nI_clamp (by omega)
  have h5 : M 47 5 = nI gn := (hr 5 (by decide)).trans hgr
  refine ex_aload_n F dX8_left_0 rfl rfl ?_
  refine ex_iload_n F dX8_left_1 rfl rfl ?_
  refine ex_iconst (v := 0) F dX8_left_2 (by decide) ?_
  refine ex_callVi F (c_X8_fatFrom (i0 := 0) hA (by decide)) dX8_left_3 cs_X8_left_179 ob_8 rfl rfl rfl rfl (Nat.le_of_ble_eq_true rfl) (fun v3 M3 h3 => ?_)
  obtain ⟨rfl, q3⟩ := h3
  rw [q3]
  clear q3
  refine ex_aload_n F dX8_left_6 rfl rfl ?_
  refine ex_iload_n F dX8_left_7 rfl rfl ?_
  refine ex_aload_n F dX8_left_8 rfl rfl ?_
  refine gf_8_16 F dX8_left_9 fl_X8_34 ?_
  refine ex_iconst (v := 5) F dX8_left_12 (by decide) ?_
  refine ex_iald (n := 13) F dX8_left_13 (by decide) (vpd (by decide)) (j := 5) (by decide) ?_
  rw [h5]
  refine ex_callVi F (c_X8_fatFrom (i0 := gn) hA (by omega)) dX8_left_14 cs_X8_left_179 ob_8 rfl rfl rfl rfl (Nat.le_of_ble_eq_true rfl) (fun v14 M14 h14 => ?_)
  obtain ⟨rfl, q14⟩ := h14
  rw [q14]
  clear q14
  refine ex_isub F dX8_left_17 ?_
  exact ex_iret F R dX8_left_18 rfl (⟨by rw [sLeft, hsg], rfl⟩)
theorem cs_X8_which_172 : CSV (xmN YX8_which).cls (xmF YX8_which) (xmW YX8_which) 172 1 YX8_isSwollen := ⟨⟨ml_X8_172, ini_X8, cd_X8_isSwollen, by decide +kernel, by decide⟩, im_X8_isSwollen, se_X8_isSwollen⟩
theorem cs_X8_which_169 : CSV (xmN YX8_which).cls (xmF YX8_which) (xmW YX8_which) 169 1 YX8_hardness := ⟨⟨ml_X8_169, ini_X8, cd_X8_hardness, by decide +kernel, by decide⟩, im_X8_hardness, se_X8_hardness⟩
theorem cs_X8_which_203 : CSV (xmN YX8_which).cls (xmF YX8_which) (xmW YX8_which) 203 1 YX8_isOver := ⟨⟨ml_X8_203, ini_X8, cd_X8_isOver, by decide +kernel, by decide⟩, im_X8_isOver, se_X8_isOver⟩
theorem cs_X8_which_206 : CSV (xmN YX8_which).cls (xmF YX8_which) (xmW YX8_which) 206 1 YX8_left := ⟨⟨ml_X8_206, ini_X8, cd_X8_left, by decide +kernel, by decide⟩, im_X8_left, se_X8_left⟩
theorem cs_X8_which_179 : CSV (xmN YX8_which).cls (xmF YX8_which) (xmW YX8_which) 179 2 YX8_fatFrom := ⟨⟨ml_X8_179, ini_X8, cd_X8_fatFrom, by decide +kernel, by decide⟩, im_X8_fatFrom, se_X8_fatFrom⟩
set_option maxRecDepth 100000 in
theorem c_X8_which {l : Launch} {g : XG} {M : Mem} {A T : Nat} {r : Nat → Int32} (hA : A ≤ 64) (hR : okR r) (hr : mR M r) (hC : okC T (cM M A)) (hO : okM M A) : Call l g YX8_which [.ref (ad g 38), .int (nI A)] M (PI (fun v M' => v = sOut r (cM M A) ∧ M' = M)) := by
  refine call_of (by decide +kernel) (Nat.le_of_ble_eq_true rfl) (fun x hxl F R => ?_)
  subst hxl
  refine ex_aload_n F dX8_which_0 rfl rfl ?_
  refine ex_iload_n F dX8_which_1 rfl rfl ?_
  refine ex_callVi F (c_X8_isSwollen hA hr hO) dX8_which_2 cs_X8_which_172 ob_8 rfl rfl rfl rfl (Nat.le_of_ble_eq_true rfl) (fun v2 M2 h2 => ?_)
  obtain ⟨rfl, q2⟩ := h2
  rw [q2]
  clear q2
  refine ex_if_eq (t := 10) F dX8_which_5 (by decide) (fun c5 => ?_) (fun c5 => ?_)
  · refine ex_aload_n F dX8_which_10 rfl rfl ?_
    refine gf_8_23 F dX8_which_11 fl_X8_46 ?_
    refine ex_iload_n F dX8_which_14 rfl rfl ?_
    refine ex_iconst (v := 5) F dX8_which_15 (by decide) ?_
    refine ex_iadd F dX8_which_16 ?_
    refine ex_iald (n := 80) F dX8_which_17 (by decide) (ixA (k := 5) hA (by decide)) (j := A + 5) (ixB (k := 5) hA (by decide)) ?_
    refine ex_if_ne (t := 23) F dX8_which_18 (by decide) (fun c18 => ?_) (fun c18 => ?_)
    · refine ex_aload_n F dX8_which_23 rfl rfl ?_
      refine ex_iload_n F dX8_which_24 rfl rfl ?_
      refine ex_callVi F (c_X8_hardness hA hR hr hC) dX8_which_25 cs_X8_which_169 ob_8 rfl rfl rfl rfl (Nat.le_of_ble_eq_true rfl) (fun v25 M25 h25 => ?_)
      obtain ⟨rfl, q25⟩ := h25
      rw [q25]
      clear q25
      refine ex_aload_n F dX8_which_28 rfl rfl ?_
      refine gf_8_16 F dX8_which_29 fl_X8_34 ?_
      refine ex_bipush (v := 7) F dX8_which_32 (by decide) ?_
      refine ex_iald (n := 13) F dX8_which_34 (by decide) (vpd (by decide)) (j := 7) (by decide) ?_
      refine ex_icmp_ge (t := 42) F dX8_which_35 (by decide) (fun c35 => ?_) (fun c35 => ?_)
      · refine ex_aload_n F dX8_which_42 rfl rfl ?_
        refine ex_iload_n F dX8_which_43 rfl rfl ?_
        refine ex_callVi F (c_X8_isOver hA) dX8_which_44 cs_X8_which_203 ob_8 rfl rfl rfl rfl (Nat.le_of_ble_eq_true rfl) (fun v44 M44 h44 => ?_)
        obtain ⟨rfl, q44⟩ := h44
        rw [q44]
        clear q44
        refine ex_if_eq (t := 54) F dX8_which_47 (by decide) (fun c47 => ?_) (fun c47 => ?_)
        · refine ex_bipush (v := 10) F dX8_which_54 (by decide) ?_
          refine ex_aload_n F dX8_which_56 rfl rfl ?_
          refine ex_iload_n F dX8_which_57 rfl rfl ?_
          refine ex_callVi F (c_X8_left hA hR hr) dX8_which_58 cs_X8_which_206 ob_8 rfl rfl rfl rfl (Nat.le_of_ble_eq_true rfl) (fun v58 M58 h58 => ?_)
          obtain ⟨rfl, q58⟩ := h58
          rw [q58]
          clear q58
          refine ex_imul F dX8_which_61 ?_
          refine ex_aload_n F dX8_which_62 rfl rfl ?_
          refine ex_iload_n F dX8_which_63 rfl rfl ?_
          refine ex_iconst (v := 0) F dX8_which_64 (by decide) ?_
          refine ex_callVi F (c_X8_fatFrom (i0 := 0) hA (by decide)) dX8_which_65 cs_X8_which_179 ob_8 rfl rfl rfl rfl (Nat.le_of_ble_eq_true rfl) (fun v65 M65 h65 => ?_)
          obtain ⟨rfl, q65⟩ := h65
          rw [q65]
          clear q65
          refine ex_icmp_le (t := 75) F dX8_which_68 (by decide) (fun c68 => ?_) (fun c68 => ?_)
          · refine ex_iconst (v := 1) F dX8_which_75 (by decide) ?_
            exact ex_iret F R dX8_which_76 rfl (⟨by rw [sOut, if_neg (by rw [b2i_0.mp c5]; decide), if_pos (by rw [cM_come hO, decide_eq_false c18]; rfl), ← hr 7 (by decide), if_neg (Int32.not_lt.mpr c35), if_neg (by rw [b2i_0.mp c47]; decide), if_neg (Int32.not_lt.mpr c68)], rfl⟩)
          · refine ex_iconst (v := 4) F dX8_which_71 (by decide) ?_
            refine ex_goto (t := 76) F dX8_which_72 (by decide) ?_
            exact ex_iret F R dX8_which_76 rfl (⟨by rw [sOut, if_neg (by rw [b2i_0.mp c5]; decide), if_pos (by rw [cM_come hO, decide_eq_false c18]; rfl), ← hr 7 (by decide), if_neg (Int32.not_lt.mpr c35), if_neg (by rw [b2i_0.mp c47]; decide), if_pos (Int32.not_le.mp c68)], rfl⟩)
        · refine ex_iconst (v := 5) F dX8_which_50 (by decide) ?_
          refine ex_goto (t := 76) F dX8_which_51 (by decide) ?_
          exact ex_iret F R dX8_which_76 rfl (⟨by rw [sOut, if_neg (by rw [b2i_0.mp c5]; decide), if_pos (by rw [cM_come hO, decide_eq_false c18]; rfl), ← hr 7 (by decide), if_neg (Int32.not_lt.mpr c35), if_pos (b2i_1.mp c47)], rfl⟩)
      · refine ex_iconst (v := 3) F dX8_which_38 (by decide) ?_
        refine ex_goto (t := 76) F dX8_which_39 (by decide) ?_
        exact ex_iret F R dX8_which_76 rfl (⟨by rw [sOut, if_neg (by rw [b2i_0.mp c5]; decide), if_pos (by rw [cM_come hO, decide_eq_false c18]; rfl), ← hr 7 (by decide), if_pos (Int32.not_le.mp c35)], rfl⟩)
    · refine ex_iconst (v := 0) F dX8_which_21 (by decide) ?_
      exact ex_iret F R dX8_which_22 rfl (⟨by rw [sOut, if_neg (by rw [b2i_0.mp c5]; decide), if_neg (by rw [cM_come hO, decide_eq_true c18]; decide)], rfl⟩)
  · refine ex_iconst (v := 2) F dX8_which_8 (by decide) ?_
    exact ex_iret F R dX8_which_9 rfl (⟨by rw [sOut, if_pos (b2i_1.mp c5)], rfl⟩)
