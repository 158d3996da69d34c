def dyA (Z : Mem) : Mem := becL (mu Z 7 1 0)
def dyB (Z : Mem) : Mem := putC (dyA Z) 14 (sFillN 7 (sLitN (dyA Z 4) (sAll (dyA Z 1 4)) 8) (sHardOf (dyA Z 4) (dyA Z 5) (sAll (dyA Z 1 4))) (dyA Z 2 1) (dyA Z 3) (cX (dyA Z) 14))
def dyC (Z : Mem) : Mem := mu (mu (mu (dyB Z) 0 10 0) 20 1 0) 23 1 0
def dyM (Z : Mem) : Mem := if Z 6 6 = 0 then dyC Z else mu Z 7 1 0
def dyV (Z : Mem) : Int32 := if Z 6 6 = 0 then Z 6 4 else -10 - Z 6 7
theorem cs_X7_dairy_89 : CSV (xmN YX7_dairy).cls (xmF YX7_dairy) (xmW YX7_dairy) 89 0 YX3_readAll := ⟨⟨ml_X7_89, ini_X3, cd_X3_readAll, by decide +kernel, by decide⟩, im_X3_readAll, se_X3_readAll⟩
theorem cs_X7_dairy_101 : CSV (xmN YX7_dairy).cls (xmF YX7_dairy) (xmW YX7_dairy) 101 1 YX6_becomeLike := ⟨⟨ml_X7_101, ini_X6, cd_X6_becomeLike, by decide +kernel, by decide⟩, im_X6_becomeLike, se_X6_becomeLike⟩
theorem cs_X7_dairy_105 : CSV (xmN YX7_dairy).cls (xmF YX7_dairy) (xmW YX7_dairy) 105 0 YX6_allCows := ⟨⟨ml_X7_105, ini_X6, cd_X6_allCows, by decide +kernel, by decide⟩, im_X6_allCows, se_X6_allCows⟩
theorem cs_X7_dairy_64 : CSV (xmN YX7_dairy).cls (xmF YX7_dairy) (xmW YX7_dairy) 64 0 YX6_base := ⟨⟨ml_X7_64, ini_X6, cd_X6_base, by decide +kernel, by decide⟩, im_X6_base, se_X6_base⟩
theorem cs_X7_dairy_108 : CSV (xmN YX7_dairy).cls (xmF YX7_dairy) (xmW YX7_dairy) 108 3 YX1_fillWith := ⟨⟨ml_X7_108, ini_X1, cd_X1_fillWith, by decide +kernel, by decide⟩, im_X1_fillWith, se_X1_fillWith⟩
set_option maxRecDepth 100000 in
theorem c_X7_dairy {l : Launch} {g : XG} {M : Mem} {n0 : Nat} (hn0 : M 7 1 = nI n0) (ln0 : n0 ≤ 320) : Call l g YX7_dairy [.ref (ad g 0)] M (PI (fun v M' => v = dyV (rdm 321 (inR M)) ∧ M' = dyM (rdm 321 (inR M)))) := by
  refine call_of (by decide +kernel) (Nat.le_of_ble_eq_true rfl) (fun x hxl F R => ?_)
  subst hxl
  refine ex_aload_n F dX7_dairy_0 rfl rfl ?_
  refine gf_7_1 F dX7_dairy_1 fl_X7_19 ?_
  refine ex_callVi F (c_X3_readAll hn0 ln0) dX7_dairy_4 cs_X7_dairy_89 ob_3 rfl rfl rfl rfl (Nat.le_of_ble_eq_true rfl) (fun v4 M4 h4 => ?_)
  obtain ⟨rfl, q4⟩ := h4
  rw [q4]
  clear q4
  generalize rdm 321 (inR M) = Z at *
  refine ex_istore_n F dX7_dairy_7 rfl (by decide) ?_
  refine ex_aload_n F dX7_dairy_8 rfl rfl ?_
  refine gf_7_1 F dX7_dairy_9 fl_X7_19 ?_
  refine gf_3_0 F dX7_dairy_12 fl_X7_72 ?_
  refine ex_iconst (v := 0) F dX7_dairy_15 (by decide) ?_
  refine pf_5_1 F dX7_dairy_16 fl_X7_82 ?_
  refine ex_aload_n F dX7_dairy_19 rfl rfl ?_
  refine gf_7_1 F dX7_dairy_20 fl_X7_19 ?_
  refine gf_3_6 F dX7_dairy_23 fl_X7_92 ?_
  rw [mu_k _ _ _ 6 _ (by decide)]
  refine ex_if_eq (t := 40) F dX7_dairy_26 (by decide) (fun c26 => ?_) (fun c26 => ?_)
  · refine ex_aload_n F dX7_dairy_40 rfl rfl ?_
    refine gf_7_0 F dX7_dairy_41 fl_X7_10 ?_
    refine ex_aload_n F dX7_dairy_44 rfl rfl ?_
    refine gf_7_1 F dX7_dairy_45 fl_X7_19 ?_
    refine gf_3_1 F dX7_dairy_48 fl_X7_98 ?_
    refine ex_callVv F (c_X6_becomeLike) dX7_dairy_51 cs_X7_dairy_101 (ob_6 (by decide)) rfl rfl rfl rfl (Nat.le_of_ble_eq_true rfl) (fun M51 h51 => ?_)
    rw [h51]
    refine ex_M (M1 := dyA Z) rfl ?_
    refine ex_aload_n F dX7_dairy_54 rfl rfl ?_
    refine gf_7_2 F dX7_dairy_55 fl_X7_26 ?_
    refine ex_aload_n F dX7_dairy_58 rfl rfl ?_
    refine gf_7_0 F dX7_dairy_59 fl_X7_10 ?_
    refine ex_aload_n F dX7_dairy_62 rfl rfl ?_
    refine gf_7_0 F dX7_dairy_63 fl_X7_10 ?_
    refine ex_callVi F (c_X6_allCows) dX7_dairy_66 cs_X7_dairy_105 (ob_6 (by decide)) rfl rfl rfl rfl (Nat.le_of_ble_eq_true rfl) (fun v66 M66 h66 => ?_)
    obtain ⟨rfl, q66⟩ := h66
    rw [q66]
    clear q66
    refine ex_aload_n F dX7_dairy_69 rfl rfl ?_
    refine gf_7_0 F dX7_dairy_70 fl_X7_10 ?_
    refine ex_callVi F (c_X6_base) dX7_dairy_73 cs_X7_dairy_64 (ob_6 (by decide)) rfl rfl rfl rfl (Nat.le_of_ble_eq_true rfl) (fun v73 M73 h73 => ?_)
    obtain ⟨rfl, q73⟩ := h73
    rw [q73]
    clear q73
    refine ex_callVv F (c_X1_fillWith (k := 14) (by decide)) dX7_dairy_76 cs_X7_dairy_108 (ob_1 (by decide)) rfl rfl rfl rfl (Nat.le_of_ble_eq_true rfl) (fun M76 h76 => ?_)
    rw [h76]
    refine ex_M (M1 := dyB Z) rfl ?_
    refine ex_aload_n F dX7_dairy_79 rfl rfl ?_
    refine ex_iconst (v := 0) F dX7_dairy_80 (by decide) ?_
    refine pf_7_10 F dX7_dairy_81 fl_X7_112 ?_
    refine ex_aload_n F dX7_dairy_84 rfl rfl ?_
    refine gf_7_5 F dX7_dairy_85 fl_X7_43 ?_
    refine ex_astore_n F dX7_dairy_88 rfl (by decide) ?_
    refine ex_aload_n F dX7_dairy_89 rfl rfl ?_
    refine ex_alen_im (v := 2) F dX7_dairy_90 (by decide) ?_
    refine ex_istore_n F dX7_dairy_91 rfl (by decide) ?_
    refine ex_iconst (v := 0) F dX7_dairy_92 (by decide) ?_
    refine ex_istore F dX7_dairy_93 (by decide) ?_
    refine ex_iload F dX7_dairy_95 rfl ?_
    refine ex_iload_n F dX7_dairy_97 rfl rfl ?_
    refine ex_icmp_ge (t := 119) F dX7_dairy_98 (by decide) (fun c => absurd c (by decide)) (fun _ => ?_)
    refine ex_aload_n F dX7_dairy_101 rfl rfl ?_
    refine ex_iload F dX7_dairy_102 rfl ?_
    refine ex_aald_im F dX7_dairy_104 (vpd (by decide)) (j := 0) (by decide) ?_
    refine ex_astore F dX7_dairy_105 (by decide) ?_
    refine ex_aload F dX7_dairy_107 rfl ?_
    refine ex_iconst (v := 0) F dX7_dairy_109 (by decide) ?_
    refine pf_2_1 (by decide) F dX7_dairy_110 fl_X7_115 (by first | exact Or.inl rfl | exact Or.inr rfl | assumption) ?_
    refine ex_iinc (w := _ + 1) F dX7_dairy_113 rfl rfl (by decide) ?_
    refine ex_goto (t := 95) F dX7_dairy_116 (by decide) ?_
    refine ex_iload F dX7_dairy_95 rfl ?_
    refine ex_iload_n F dX7_dairy_97 rfl rfl ?_
    refine ex_icmp_ge (t := 119) F dX7_dairy_98 (by decide) (fun c => absurd c (by decide)) (fun _ => ?_)
    refine ex_aload_n F dX7_dairy_101 rfl rfl ?_
    refine ex_iload F dX7_dairy_102 rfl ?_
    refine ex_aald_im F dX7_dairy_104 (vpd (by decide)) (j := 1) (by decide) ?_
    refine ex_astore F dX7_dairy_105 (by decide) ?_
    refine ex_aload F dX7_dairy_107 rfl ?_
    refine ex_iconst (v := 0) F dX7_dairy_109 (by decide) ?_
    refine pf_2_1 (by decide) F dX7_dairy_110 fl_X7_115 (by first | exact Or.inl rfl | exact Or.inr rfl | assumption) ?_
    refine ex_iinc (w := _ + 1) F dX7_dairy_113 rfl rfl (by decide) ?_
    refine ex_goto (t := 95) F dX7_dairy_116 (by decide) ?_
    refine ex_iload F dX7_dairy_95 rfl ?_
    refine ex_iload_n F dX7_dairy_97 rfl rfl ?_
    refine ex_icmp_ge (t := 119) F dX7_dairy_98 (by decide) (fun _ => ?_) (fun c => absurd (by decide) c)
    refine ex_iload_n F dX7_dairy_119 rfl rfl ?_
    exact ex_iret F R dX7_dairy_120 rfl (⟨by rw [dyV, if_pos c26], by rw [dyM, if_pos c26]; rfl⟩)
  · refine ex_bipush (v := -10) F dX7_dairy_29 (by decide) ?_
    refine ex_aload_n F dX7_dairy_31 rfl rfl ?_
    refine gf_7_1 F dX7_dairy_32 fl_X7_19 ?_
    refine gf_3_7 F dX7_dairy_35 fl_X7_95 ?_
    refine ex_isub F dX7_dairy_38 ?_
    exact ex_iret F R dX7_dairy_39 rfl (⟨by rw [dyV, if_neg c26]; rfl, by rw [dyM, if_neg c26]⟩)
