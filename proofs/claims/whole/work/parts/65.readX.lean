def NM (L : Nat) : Nat := cl ((stV 2).getD L 0)
def FT (L : Nat) : Nat := cl ((stV 3).getD L 0)
theorem NM_t : ∀ L, L < 8 → (stV 2).getD L 0 = nI (NM L) ∧ (stV 3).getD L 0 = nI (FT L) ∧ NM L ≤ 4 ∧ 1 ≤ NM L ∧ ∀ j, j < 4 → j < NM L → FT L + j ≤ 14 ∧ (FT L + j < 2 → L = 0) := by decide +kernel
def wch (K : Mem) : Nat := FT (cl (K 6 2)) + cl (K 6 3)
def lst (K : Mem) : Int32 := if wch K = 14 then K 10 7 else (stV 4).getD (wch K) 0
def tkn (K : Mem) : Mem := if ¬ K 7 2 = 3 then rfs K 2 else if outB (K 7 5) (lst K) ((stV 5).getD (wch K) 0) = true then rfs K 3 else mu (putD K (wch K) (K 7 5)) 6 3 (K 6 3 + 1)
theorem putD_o {K : Mem} {W : Nat} {v : Int32} {q : Nat} (h0 : q ≠ 10) (h1 : q ≠ 11) (h2 : q ≠ 12) (h3 : q ≠ 13) : putD K W v q = K q := by
  unfold putD
  repeat' split
  · exact mu_k _ _ _ _ _ h0
  · exact mu_k _ _ _ _ _ h1
  · exact mu_k _ _ _ _ _ h3
  · exact mu_k _ _ _ _ _ h2
theorem putD_6 (K : Mem) (W : Nat) (v : Int32) : putD K W v 6 = K 6 := putD_o (by decide) (by decide) (by decide) (by decide)
theorem cs_X3_takeNumber_51 : CSV (xmN YX3_takeNumber).cls (xmF YX3_takeNumber) (xmW YX3_takeNumber) 51 1 YX3_refuse := ⟨⟨ml_X3_51, ini_X3, cd_X3_refuse, by decide +kernel, by decide⟩, im_X3_refuse, se_X3_refuse⟩
theorem cs_X3_takeNumber_120 : CSV (xmN YX3_takeNumber).cls (xmF YX3_takeNumber) (xmW YX3_takeNumber) 120 2 YX6_put := ⟨⟨ml_X3_120, ini_X6, cd_X6_put, by decide +kernel, by decide⟩, im_X6_put, se_X6_put⟩
set_option maxRecDepth 100000 in
theorem c_X3_takeNumber {l : Launch} {g : XG} {M : Mem} {L j c : Nat} (hL : M 6 2 = nI L) (lL : L < 8) (hj : M 6 3 = nI j) (lj : j < NM L) (hc : M 9 4 = nI c) (lc : L = 0 → c < 8) : Call l g YX3_takeNumber [.ref (ad g 6)] M (PV (fun M' => M' = tkn M)) := by
  refine call_of (by decide +kernel) (Nat.le_of_ble_eq_true rfl) (fun x hxl F R => ?_)
  subst hxl
  obtain ⟨-, eF, l4, -, hF⟩ := NM_t L lL
  obtain ⟨lW, lW2⟩ := hF j (by omega) lj
  have eW : (stV 3).getD L 0 + nI j = nI (FT L + j) := by rw [eF, nI_add]
  have hw : wch M = FT L + j := by rw [wch, hL, hj, cl_n (by omega), cl_n (by omega)]
  generalize FT L + j = W at *
  refine ex_aload_n F dX3_takeNumber_0 rfl rfl ?_
  refine gf_3_2 F dX3_takeNumber_1 fl_X3_29 ?_
  rw [hL]
  refine ex_gets (i := 3) F rfl dX3_takeNumber_4 (by decide) fl_X3_99 ?_
  refine ex_slen (i := 3) F dX3_takeNumber_7 (by decide) (v := 8) (by decide) ?_
  refine ex_icmp_ge (t := 27) F dX3_takeNumber_8 (by decide) (fun c => absurd c (nI_ge (b := 8) lL (by decide))) (fun _ => ?_)
  refine ex_gets (i := 3) F rfl dX3_takeNumber_11 (by decide) fl_X3_99 ?_
  refine ex_aload_n F dX3_takeNumber_14 rfl rfl ?_
  refine gf_3_2 F dX3_takeNumber_15 fl_X3_29 ?_
  rw [hL]
  refine ex_sald (i := 3) F dX3_takeNumber_18 (by decide) (show vp_in (nI L) 8 from vp_in_nI lL (by decide)) (j := L) (nI_clamp (by omega)) ?_
  refine ex_aload_n F dX3_takeNumber_19 rfl rfl ?_
  refine gf_3_3 F dX3_takeNumber_20 fl_X3_62 ?_
  rw [hj]
  refine ex_iadd F dX3_takeNumber_23 ?_
  rw [eW]
  refine ex_goto (t := 31) F dX3_takeNumber_24 (by decide) ?_
  refine ex_istore_n F dX3_takeNumber_31 rfl (by decide) ?_
  refine ex_aload_n F dX3_takeNumber_32 rfl rfl ?_
  refine gf_3_0 F dX3_takeNumber_33 fl_X3_10 ?_
  refine gf_5_2 F dX3_takeNumber_36 fl_X3_45 ?_
  refine ex_iconst (v := 3) F dX3_takeNumber_39 (by decide) ?_
  refine ex_icmp_ne (t := 59) F dX3_takeNumber_40 (by decide) (fun c40 => ?_) (fun c40 => ?_)
  · refine ex_aload_n F dX3_takeNumber_59 rfl rfl ?_
    refine ex_iconst (v := 2) F dX3_takeNumber_60 (by decide) ?_
    refine ex_callVv F (c_X3_refuse) dX3_takeNumber_61 cs_X3_takeNumber_51 ob_3 rfl rfl rfl rfl (Nat.le_of_ble_eq_true rfl) (fun M61 h61 => ?_)
    rw [h61]
    exact ex_vret F R dX3_takeNumber_64 rfl (by rw [tkn, if_pos c40])
  · refine ex_iload_n F dX3_takeNumber_43 rfl rfl ?_
    refine ex_gets (i := 4) F rfl dX3_takeNumber_44 (by decide) fl_X3_102 ?_
    refine ex_slen (i := 4) F dX3_takeNumber_47 (by decide) (v := 15) (by decide) ?_
    refine ex_icmp_ge (t := 59) F dX3_takeNumber_48 (by decide) (fun c => absurd c (nI_ge (b := 15) (by omega) (by decide))) (fun _ => ?_)
    refine ex_iload_n F dX3_takeNumber_51 rfl rfl ?_
    refine ex_gets (i := 5) F rfl dX3_takeNumber_52 (by decide) fl_X3_105 ?_
    refine ex_slen (i := 5) F dX3_takeNumber_55 (by decide) (v := 15) (by decide) ?_
    refine ex_icmp_lt (t := 65) F dX3_takeNumber_56 (by decide) (fun _ => ?_) (fun c => absurd (nI_lt (b := 15) (by omega) (by decide)) c)
    refine ex_iload_n F dX3_takeNumber_65 rfl rfl ?_
    refine ex_bipush (v := 14) F dX3_takeNumber_66 (by decide) ?_
    refine ex_icmp_ne (t := 84) F dX3_takeNumber_68 (by decide) (fun c68 => ?_) (fun c68 => ?_)
    · have w14 : ¬ W = 14 := fun q => c68 (by rw [q]; rfl)
      refine ex_gets (i := 4) F rfl dX3_takeNumber_84 (by decide) fl_X3_102 ?_
      refine ex_iload_n F dX3_takeNumber_87 rfl rfl ?_
      refine ex_sald (i := 4) F dX3_takeNumber_88 (by decide) (show vp_in (nI W) 15 from vp_in_nI (by omega) (by decide)) (j := W) (nI_clamp (by omega)) ?_
      refine ex_istore_n F dX3_takeNumber_89 rfl (by decide) ?_
      refine ex_aload_n F dX3_takeNumber_90 rfl rfl ?_
      refine gf_3_0 F dX3_takeNumber_91 fl_X3_10 ?_
      refine gf_5_5 F dX3_takeNumber_94 fl_X3_111 ?_
      refine ex_iload_n F dX3_takeNumber_97 rfl rfl ?_
      refine ex_gets (i := 5) F rfl dX3_takeNumber_98 (by decide) fl_X3_105 ?_
      refine ex_iload_n F dX3_takeNumber_101 rfl rfl ?_
      refine ex_sald (i := 5) F dX3_takeNumber_102 (by decide) (show vp_in (nI W) 15 from vp_in_nI (by omega) (by decide)) (j := W) (nI_clamp (by omega)) ?_
      refine ex_callSN F (c_X7_outside) rfl rfl dX3_takeNumber_103 csn_out rfl rfl (Nat.le_of_ble_eq_true rfl) (fun v103 M103 h103 => ?_)
      obtain ⟨rfl, q103⟩ := h103
      rw [q103]
      clear q103
      refine ex_if_eq (t := 115) F dX3_takeNumber_106 (by decide) (fun c106 => ?_) (fun c106 => ?_)
      · refine ex_aload_n F dX3_takeNumber_115 rfl rfl ?_
        refine gf_3_1 F dX3_takeNumber_116 fl_X3_19 ?_
        refine ex_iload_n F dX3_takeNumber_119 rfl rfl ?_
        refine ex_aload_n F dX3_takeNumber_120 rfl rfl ?_
        refine gf_3_0 F dX3_takeNumber_121 fl_X3_10 ?_
        refine gf_5_5 F dX3_takeNumber_124 fl_X3_111 ?_
        refine ex_callVv F (c_X6_put (W := W) (c := c) lW hc (fun q => lc (lW2 q))) dX3_takeNumber_127 cs_X3_takeNumber_120 (ob_6 (by decide)) rfl rfl rfl rfl (Nat.le_of_ble_eq_true rfl) (fun M127 h127 => ?_)
        rw [h127]
        refine ex_aload_n F dX3_takeNumber_130 rfl rfl ?_
        refine ex_dup F dX3_takeNumber_131 rfl ?_
        refine gf_3_3 F dX3_takeNumber_132 fl_X3_62 ?_
        rw [putD_6]
        refine ex_iconst (v := 1) F dX3_takeNumber_135 (by decide) ?_
        refine ex_iadd F dX3_takeNumber_136 ?_
        refine pf_3_3 F dX3_takeNumber_137 fl_X3_62 ?_
        exact ex_vret F R dX3_takeNumber_140 rfl (by rw [tkn, if_neg (fun q => q c40), lst, hw, if_neg w14, if_neg (by rw [b2i_0.mp c106]; decide)])
      · refine ex_aload_n F dX3_takeNumber_109 rfl rfl ?_
        refine ex_iconst (v := 3) F dX3_takeNumber_110 (by decide) ?_
        refine ex_callVv F (c_X3_refuse) dX3_takeNumber_111 cs_X3_takeNumber_51 ob_3 rfl rfl rfl rfl (Nat.le_of_ble_eq_true rfl) (fun M111 h111 => ?_)
        rw [h111]
        exact ex_vret F R dX3_takeNumber_114 rfl (by rw [tkn, if_neg (fun q => q c40), lst, hw, if_neg w14, if_pos (b2i_1.mp c106)])
    · have w14 : W = 14 := nI_inj (j := 14) (by omega) (by decide) c68
      refine ex_aload_n F dX3_takeNumber_71 rfl rfl ?_
      refine gf_3_1 F dX3_takeNumber_72 fl_X3_19 ?_
      refine gf_6_0 (by decide) (q9 := 10) rfl F dX3_takeNumber_75 fl_X3_108 ?_
      refine ex_bipush (v := 7) F dX3_takeNumber_78 (by decide) ?_
      refine ex_iald (n := 9) F dX3_takeNumber_80 (by decide) (vpd (by decide)) (j := 7) (by decide) ?_
      refine ex_goto (t := 89) F dX3_takeNumber_81 (by decide) ?_
      refine ex_istore_n F dX3_takeNumber_89 rfl (by decide) ?_
      refine ex_aload_n F dX3_takeNumber_90 rfl rfl ?_
      refine gf_3_0 F dX3_takeNumber_91 fl_X3_10 ?_
      refine gf_5_5 F dX3_takeNumber_94 fl_X3_111 ?_
      refine ex_iload_n F dX3_takeNumber_97 rfl rfl ?_
      refine ex_gets (i := 5) F rfl dX3_takeNumber_98 (by decide) fl_X3_105 ?_
      refine ex_iload_n F dX3_takeNumber_101 rfl rfl ?_
      refine ex_sald (i := 5) F dX3_takeNumber_102 (by decide) (show vp_in (nI W) 15 from vp_in_nI (by omega) (by decide)) (j := W) (nI_clamp (by omega)) ?_
      refine ex_callSN F (c_X7_outside) rfl rfl dX3_takeNumber_103 csn_out rfl rfl (Nat.le_of_ble_eq_true rfl) (fun v103 M103 h103 => ?_)
      obtain ⟨rfl, q103⟩ := h103
      rw [q103]
      clear q103
      refine ex_if_eq (t := 115) F dX3_takeNumber_106 (by decide) (fun c106 => ?_) (fun c106 => ?_)
      · refine ex_aload_n F dX3_takeNumber_115 rfl rfl ?_
        refine gf_3_1 F dX3_takeNumber_116 fl_X3_19 ?_
        refine ex_iload_n F dX3_takeNumber_119 rfl rfl ?_
        refine ex_aload_n F dX3_takeNumber_120 rfl rfl ?_
        refine gf_3_0 F dX3_takeNumber_121 fl_X3_10 ?_
        refine gf_5_5 F dX3_takeNumber_124 fl_X3_111 ?_
        refine ex_callVv F (c_X6_put (W := W) (c := c) lW hc (fun q => lc (lW2 q))) dX3_takeNumber_127 cs_X3_takeNumber_120 (ob_6 (by decide)) rfl rfl rfl rfl (Nat.le_of_ble_eq_true rfl) (fun M127 h127 => ?_)
        rw [h127]
        refine ex_aload_n F dX3_takeNumber_130 rfl rfl ?_
        refine ex_dup F dX3_takeNumber_131 rfl ?_
        refine gf_3_3 F dX3_takeNumber_132 fl_X3_62 ?_
        rw [putD_6]
        refine ex_iconst (v := 1) F dX3_takeNumber_135 (by decide) ?_
        refine ex_iadd F dX3_takeNumber_136 ?_
        refine pf_3_3 F dX3_takeNumber_137 fl_X3_62 ?_
        exact ex_vret F R dX3_takeNumber_140 rfl (by rw [tkn, if_neg (fun q => q c40), lst, hw, if_pos w14, if_neg (by rw [b2i_0.mp c106]; decide)])
      · refine ex_aload_n F dX3_takeNumber_109 rfl rfl ?_
        refine ex_iconst (v := 3) F dX3_takeNumber_110 (by decide) ?_
        refine ex_callVv F (c_X3_refuse) dX3_takeNumber_111 cs_X3_takeNumber_51 ob_3 rfl rfl rfl rfl (Nat.le_of_ble_eq_true rfl) (fun M111 h111 => ?_)
        rw [h111]
        exact ex_vret F R dX3_takeNumber_114 rfl (by rw [tkn, if_neg (fun q => q c40), lst, hw, if_pos w14, if_pos (b2i_1.mp c106)])
def takm (K : Mem) : Mem := if K 7 2 = 5 then rfs K 1 else if K 6 2 < 0 ∨ 8 ≤ K 6 2 then bgn K else if K 6 3 < (stV 2).getD (cl (K 6 2)) 0 then tkn K else enl K
def LI (K : Mem) : Prop := ∃ c, K 9 4 = nI c ∧ c ≤ 8 ∧ (K 6 2 = -1 ∨ ∃ L j, L < 8 ∧ K 6 2 = nI L ∧ K 6 3 = nI j ∧ j ≤ NM L ∧ (L = 0 → c < 8))
theorem nm_lt {K : Mem} {L j : Nat} (hL : K 6 2 = nI L) (lL : L < 8) (hj : K 6 3 = nI j) (lj : j ≤ NM L) (c : ¬ (stV 2).getD (K 6 2).toNatClampNeg 0 ≤ K 6 3) : j < NM L := by
  rw [hL, nI_clamp (by omega), (NM_t L lL).1, hj] at c
  refine Nat.not_le.mp (fun q => ?_)
  have := (NM_t L lL).2.2.1
  exact c (nI_le q (by omega))
theorem cs_X3_takeToken_51 : CSV (xmN YX3_takeToken).cls (xmF YX3_takeToken) (xmW YX3_takeToken) 51 1 YX3_refuse := ⟨⟨ml_X3_51, ini_X3, cd_X3_refuse, by decide +kernel, by decide⟩, im_X3_refuse, se_X3_refuse⟩
theorem cs_X3_takeToken_59 : CSV (xmN YX3_takeToken).cls (xmF YX3_takeToken) (xmW YX3_takeToken) 59 0 YX3_beginLine := ⟨⟨ml_X3_59, ini_X3, cd_X3_beginLine, by decide +kernel, by decide⟩, im_X3_beginLine, se_X3_beginLine⟩
theorem cs_X3_takeToken_65 : CSV (xmN YX3_takeToken).cls (xmF YX3_takeToken) (xmW YX3_takeToken) 65 0 YX3_takeNumber := ⟨⟨ml_X3_65, ini_X3, cd_X3_takeNumber, by decide +kernel, by decide⟩, im_X3_takeNumber, se_X3_takeNumber⟩
theorem cs_X3_takeToken_68 : CSV (xmN YX3_takeToken).cls (xmF YX3_takeToken) (xmW YX3_takeToken) 68 0 YX3_endLine := ⟨⟨ml_X3_68, ini_X3, cd_X3_endLine, by decide +kernel, by decide⟩, im_X3_endLine, se_X3_endLine⟩
set_option maxRecDepth 100000 in
theorem c_X3_takeToken {l : Launch} {g : XG} {M : Mem} (hT : TI M) (hI : LI M) : Call l g YX3_takeToken [.ref (ad g 6)] M (PV (fun M' => M' = takm M)) := by
  refine call_of (by decide +kernel) (Nat.le_of_ble_eq_true rfl) (fun x hxl F R => ?_)
  subst hxl
  refine ex_aload_n F dX3_takeToken_0 rfl rfl ?_
  refine gf_3_0 F dX3_takeToken_1 fl_X3_10 ?_
  refine gf_5_2 F dX3_takeToken_4 fl_X3_45 ?_
  refine ex_iconst (v := 5) F dX3_takeToken_7 (by decide) ?_
  refine ex_icmp_ne (t := 19) F dX3_takeToken_8 (by decide) (fun c8 => ?_) (fun c8 => ?_)
  · refine ex_aload_n F dX3_takeToken_19 rfl rfl ?_
    refine gf_3_2 F dX3_takeToken_20 fl_X3_29 ?_
    refine ex_if_lt (t := 37) F dX3_takeToken_23 (by decide) (fun c23 => ?_) (fun c23 => ?_)
    · refine ex_aload_n F dX3_takeToken_37 rfl rfl ?_
      refine ex_callVv F (c_X3_beginLine hT) dX3_takeToken_38 cs_X3_takeToken_59 ob_3 rfl rfl rfl rfl (Nat.le_of_ble_eq_true rfl) (fun M38 h38 => ?_)
      rw [h38]
      refine ex_goto (t := 70) F dX3_takeToken_41 (by decide) ?_
      exact ex_vret F R dX3_takeToken_70 rfl (by rw [takm, if_neg c8, if_pos (Or.inl c23)])
    · obtain ⟨c0, hc, lc, hLI⟩ := hI
      obtain ⟨L, j, lL, hL, hj, lj, lc2⟩ : ∃ L j, L < 8 ∧ M 6 2 = nI L ∧ M 6 3 = nI j ∧ j ≤ NM L ∧ (L = 0 → c0 < 8) := by
        rcases hLI with e | e
        · exact absurd (by rw [e]; decide) c23
        · exact e
      have n8 : ¬ (M 6 2 < 0 ∨ 8 ≤ M 6 2) := fun q => q.elim c23 (by rw [hL]; exact nI_ge (b := 8) lL (by decide))
      refine ex_aload_n F dX3_takeToken_26 rfl rfl ?_
      refine gf_3_2 F dX3_takeToken_27 fl_X3_29 ?_
      refine ex_gets (i := 2) F rfl dX3_takeToken_30 (by decide) fl_X3_55 ?_
      refine ex_slen (i := 2) F dX3_takeToken_33 (by decide) (v := 8) (by decide) ?_
      refine ex_icmp_lt (t := 44) F dX3_takeToken_34 (by decide) (fun _ => ?_) (fun c => absurd (by rw [hL]; exact nI_lt (b := 8) lL (by decide)) c)
      refine ex_aload_n F dX3_takeToken_44 rfl rfl ?_
      refine gf_3_3 F dX3_takeToken_45 fl_X3_62 ?_
      refine ex_gets (i := 2) F rfl dX3_takeToken_48 (by decide) fl_X3_55 ?_
      refine ex_aload_n F dX3_takeToken_51 rfl rfl ?_
      refine gf_3_2 F dX3_takeToken_52 fl_X3_29 ?_
      refine ex_sald (i := 2) F dX3_takeToken_55 (by decide) (by rw [hL]; exact (show vp_in (nI L) 8 from vp_in_nI lL (by decide))) rfl ?_
      refine ex_icmp_ge (t := 66) F dX3_takeToken_56 (by decide) (fun c56 => ?_) (fun c56 => ?_)
      · refine ex_aload_n F dX3_takeToken_66 rfl rfl ?_
        refine ex_callVv F (c_X3_endLine) dX3_takeToken_67 cs_X3_takeToken_68 ob_3 rfl rfl rfl rfl (Nat.le_of_ble_eq_true rfl) (fun M67 h67 => ?_)
        rw [h67]
        exact ex_vret F R dX3_takeToken_70 rfl (by rw [takm, if_neg c8, if_neg n8, if_neg (show ¬ M 6 3 < (stV 2).getD (cl (M 6 2)) 0 from Int32.not_lt.mpr c56)])
      · refine ex_aload_n F dX3_takeToken_59 rfl rfl ?_
        refine ex_callVv F (c_X3_takeNumber hL lL hj (nm_lt hL lL hj lj c56) hc lc2) dX3_takeToken_60 cs_X3_takeToken_65 ob_3 rfl rfl rfl rfl (Nat.le_of_ble_eq_true rfl) (fun M60 h60 => ?_)
        rw [h60]
        refine ex_goto (t := 70) F dX3_takeToken_63 (by decide) ?_
        exact ex_vret F R dX3_takeToken_70 rfl (by rw [takm, if_neg c8, if_neg n8, if_pos (show M 6 3 < (stV 2).getD (cl (M 6 2)) 0 from Int32.not_le.mp c56)])
  · refine ex_aload_n F dX3_takeToken_11 rfl rfl ?_
    refine ex_iconst (v := 1) F dX3_takeToken_12 (by decide) ?_
    refine ex_callVv F (c_X3_refuse) dX3_takeToken_13 cs_X3_takeToken_51 ob_3 rfl rfl rfl rfl (Nat.le_of_ble_eq_true rfl) (fun M13 h13 => ?_)
    rw [h13]
    refine ex_goto (t := 70) F dX3_takeToken_16 (by decide) ?_
    exact ex_vret F R dX3_takeToken_70 rfl (by rw [takm, if_pos c8])
def advM (K : Mem) : Mem := advm K (cl (K 7 1)) (cl (K 7 4))
def rdm : Nat → Mem → Mem
  | 0, K => K
  | f + 1, K => if K 6 6 = 0 then (if advM K 7 2 = 0 ∧ advM K 6 2 = -1 then advM K else rdm f (takm (advM K))) else K
def inR (K : Mem) : Mem := mu (mu (mu (mu (mu (becF K) 7 4 0) 6 2 (-1)) 6 4 0) 6 5 0) 6 6 0
theorem advM_o (K : Mem) {q : Nat} (h : q ≠ 7) : advM K q = K q := if_neg h
theorem advM_1 (K : Mem) : advM K 7 1 = K 7 1 := rfl
theorem rfs_o (K : Mem) (v : Int32) {q : Nat} (h : q ≠ 6) : rfs K v q = K q := by rw [rfs, mu_k _ _ _ _ _ h, mu_k _ _ _ _ _ h]
theorem rfs_j (K : Mem) (v : Int32) {j : Nat} (h6 : j ≠ 6) (h7 : j ≠ 7) : rfs K v 6 j = K 6 j := by rw [rfs, mu_j _ _ _ _ _ h7, mu_j _ _ _ _ _ h6]
theorem lnm_n (K : Mem) : lnm K = -1 ∨ ∃ L, L < 8 ∧ lnm K = nI L := by
  unfold lnm
  repeat' split
  · exact Or.inr ⟨0, by decide, rfl⟩
  · exact Or.inr ⟨1, by decide, rfl⟩
  · exact Or.inr ⟨2, by decide, rfl⟩
  · exact Or.inr ⟨3, by decide, rfl⟩
  · exact Or.inr ⟨4, by decide, rfl⟩
  · exact Or.inr ⟨5, by decide, rfl⟩
  · exact Or.inr ⟨6, by decide, rfl⟩
  · exact Or.inr ⟨7, by decide, rfl⟩
  · exact Or.inl rfl
theorem bgn_o (K : Mem) {q : Nat} (h : q ≠ 6) : bgn K q = K q := by
  unfold bgn
  repeat' split
  · exact rfs_o K _ h
  · exact rfs_o K _ h
  · exact rfs_o K _ h
  · rw [mu_k _ _ _ _ _ h, mu_k _ _ _ _ _ h, mu_k _ _ _ _ _ h]
theorem enl_o (K : Mem) {q : Nat} (h : q ≠ 6) (h9 : q ≠ 9) : enl K q = K q := by
  unfold enl
  repeat' split
  · exact rfs_o K _ h
  · rw [mu_k _ _ _ _ _ h, mu_k _ _ _ _ _ h, mu_k _ _ _ _ _ h9]
  · rw [mu_k _ _ _ _ _ h, mu_k _ _ _ _ _ h]
theorem tkn_o (K : Mem) {q : Nat} (h : q ≠ 6) (h0 : q ≠ 10) (h1 : q ≠ 11) (h2 : q ≠ 12) (h3 : q ≠ 13) : tkn K q = K q := by
  unfold tkn
  repeat' split
  · exact rfs_o K _ h
  · exact rfs_o K _ h
  · rw [mu_k _ _ _ _ _ h, putD_o h0 h1 h2 h3]
theorem takm_o (K : Mem) {q : Nat} (h : q ≠ 6) (h9 : q ≠ 9) (h0 : q ≠ 10) (h1 : q ≠ 11) (h2 : q ≠ 12) (h3 : q ≠ 13) : takm K q = K q := by
  unfold takm
  repeat' split
  · exact rfs_o K _ h
  · exact bgn_o K h
  · exact tkn_o K h h0 h1 h2 h3
  · exact enl_o K h h9
theorem takm_7 (K : Mem) : takm K 7 = K 7 := takm_o K (by decide) (by decide) (by decide) (by decide) (by decide) (by decide)
theorem LI_of {K N : Mem} (h : LI K) (h9 : N 9 4 = K 9 4) (h2 : N 6 2 = K 6 2) (h3 : N 6 3 = K 6 3) : LI N := by
  obtain ⟨c, a, b, d⟩ := h
  exact ⟨c, by rw [h9]; exact a, b, by rw [h2, h3]; exact d⟩
theorem LI_rfs {K : Mem} (h : LI K) (v : Int32) : LI (rfs K v) := LI_of h (by rw [rfs_o K _ (by decide)]) (rfs_j K _ (by decide) (by decide)) (rfs_j K _ (by decide) (by decide))
theorem LI_takm {K : Mem} (h : LI K) : LI (takm K) := by
  unfold takm
  split
  · exact LI_rfs h _
  · rename_i c5
    split
    · unfold bgn
      split
      · exact LI_rfs h _
      · rename_i cm
        split
        · exact LI_rfs h _
        · rename_i c9
          split
          · exact LI_rfs h _
          · obtain ⟨c, a, b, d⟩ := h
            rcases lnm_n K with e | ⟨L, lL, e⟩
            · exact absurd e cm
            · refine ⟨c, a, b, Or.inr ⟨L, 0, lL, ?_, mu_same _ _ _ _, Nat.zero_le _, fun e0 => ?_⟩⟩
              · rw [mu_j _ _ _ _ _ (by decide), mu_same, e]
              · refine Nat.not_le.mp (fun q => c9 ⟨by rw [e, e0]; rfl, ?_⟩)
                rw [a]; exact nI_le (a := 8) q (by omega)
    · rename_i c8
      obtain ⟨c, a, b, d⟩ := h
      obtain ⟨L, j, lL, hL, hj, lj, lc⟩ : ∃ L j, L < 8 ∧ K 6 2 = nI L ∧ K 6 3 = nI j ∧ j ≤ NM L ∧ (L = 0 → c < 8) := by
        rcases d with e | e
        · exact absurd (Or.inl (by rw [e]; decide)) c8
        · exact e
      split
      · rename_i cj
        have lj2 : j < NM L := nm_lt hL lL hj lj (Int32.not_le.mpr cj)
        unfold tkn
        split
        · exact LI_rfs ⟨c, a, b, d⟩ _
        · split
          · exact LI_rfs ⟨c, a, b, d⟩ _
          · refine ⟨c, ?_, b, Or.inr ⟨L, j + 1, lL, ?_, ?_, lj2, lc⟩⟩
            · rw [mu_k _ _ _ 9 _ (by decide), putD_o (by decide) (by decide) (by decide) (by decide)]; exact a
            · rw [mu_j _ _ _ _ _ (by decide), putD_6]; exact hL
            · rw [mu_same, hj, nI_1]
      · unfold enl
        split
        · exact LI_rfs ⟨c, a, b, d⟩ _
        · split
          · rename_i c0
            have l0 : c < 8 := lc (nI_inj (j := 0) (by omega) (by decide) (by rw [← hL]; exact c0))
            refine ⟨c + 1, ?_, by omega, Or.inl (mu_same _ _ _ _)⟩
            rw [mu_k _ _ _ 9 _ (by decide), mu_k _ _ _ 9 _ (by decide), mu_same, a, nI_1]
          · refine ⟨c, ?_, b, Or.inl (mu_same _ _ _ _)⟩
            rw [mu_k _ _ _ 9 _ (by decide), mu_k _ _ _ 9 _ (by decide)]; exact a
def HI (K : Mem) (i : Nat) : Prop := LI K ∧ ∃ n s, K 7 1 = nI n ∧ n ≤ 320 ∧ K 7 4 = nI s ∧ s ≤ 1000 * i
theorem adv_of {K : Mem} {n s : Nat} (hn : K 7 1 = nI n) (ln : n ≤ 320) (hs : K 7 4 = nI s) (ls : s < 1000000000) : advm K n s = advM K := by
  rw [advM, hn, hs, cl_n (by omega), cl_n (by omega)]
theorem TI_adv {K : Mem} {n s : Nat} (hn : K 7 1 = nI n) (ln : n ≤ 320) (hs : K 7 4 = nI s) (ls : s < 900000000) : TI (advM K) := by
  rw [← adv_of hn ln hs (by omega)]
  have b1 := tkP_b K n s
  have b2 := tkQ_b K n s
  exact ⟨n, tkP K n s, tkQ K n s, hn, ln, rfl, rfl, by omega, by omega⟩
theorem HI_next {K : Mem} {i : Nat} (h : HI K i) (li : i < 1000) : HI (takm (advM K)) (i + 1) := by
  obtain ⟨h1, n, s, hn, ln, hs, ls⟩ := h
  have b1 := tkP_b K n s
  have b2 := tkQ_b K n s
  have hq : advM K 7 4 = nI (tkQ K n s) := by rw [← adv_of hn ln hs (by omega)]; rfl
  exact ⟨LI_takm (LI_of h1 (by rw [advM_o K (by decide)]) (by rw [advM_o K (by decide)]) (by rw [advM_o K (by decide)])), n, tkQ K n s, by rw [takm_7]; exact hn, ln, by rw [takm_7]; exact hq, by omega⟩
theorem HI_in (K : Mem) {n : Nat} (hn : K 7 1 = nI n) (ln : n ≤ 320) : HI (inR K) 0 := by
  refine ⟨⟨0, rfl, by decide, Or.inl ?_⟩, n, 0, hn, ln, rfl, by decide⟩
  rfl
theorem cs_X3_readAll_23 : CSV (xmN YX3_readAll).cls (xmF YX3_readAll) (xmW YX3_readAll) 23 0 YX6_becomeFirst := ⟨⟨ml_X3_23, ini_X6, cd_X6_becomeFirst, by decide +kernel, by decide⟩, im_X6_becomeFirst, se_X6_becomeFirst⟩
theorem cs_X3_readAll_26 : CSV (xmN YX3_readAll).cls (xmF YX3_readAll) (xmW YX3_readAll) 26 0 YX5_rewind := ⟨⟨ml_X3_26, ini_X5, cd_X5_rewind, by decide +kernel, by decide⟩, im_X5_rewind, se_X5_rewind⟩
theorem cs_X3_readAll_42 : CSV (xmN YX3_readAll).cls (xmF YX3_readAll) (xmW YX3_readAll) 42 0 YX5_advance := ⟨⟨ml_X3_42, ini_X5, cd_X5_advance, by decide +kernel, by decide⟩, im_X5_advance, se_X5_advance⟩
theorem cs_X3_readAll_48 : CSV (xmN YX3_readAll).cls (xmF YX3_readAll) (xmW YX3_readAll) 48 0 YX3_takeToken := ⟨⟨ml_X3_48, ini_X3, cd_X3_takeToken, by decide +kernel, by decide⟩, im_X3_takeToken, se_X3_takeToken⟩
set_option maxRecDepth 100000 in
theorem c_X3_readAll {l : Launch} {g : XG} {M : Mem} {n0 : Nat} (hn0 : M 7 1 = nI n0) (ln0 : n0 ≤ 320) : Call l g YX3_readAll [.ref (ad g 6)] M (PI (fun v M' => v = rdm 321 (inR M) 6 4 ∧ M' = rdm 321 (inR M))) := by
  refine call_of (by decide +kernel) (Nat.le_of_ble_eq_true rfl) (fun x hxl F R => ?_)
  subst hxl
  refine ex_aload_n F dX3_readAll_0 rfl rfl ?_
  refine gf_3_1 F dX3_readAll_1 fl_X3_19 ?_
  refine ex_callVv F (c_X6_becomeFirst) dX3_readAll_4 cs_X3_readAll_23 (ob_6 (by decide)) rfl rfl rfl rfl (Nat.le_of_ble_eq_true rfl) (fun M4 h4 => ?_)
  rw [h4]
  refine ex_aload_n F dX3_readAll_7 rfl rfl ?_
  refine gf_3_0 F dX3_readAll_8 fl_X3_10 ?_
  refine ex_callVv F (c_X5_rewind) dX3_readAll_11 cs_X3_readAll_26 ob_5 rfl rfl rfl rfl (Nat.le_of_ble_eq_true rfl) (fun M11 h11 => ?_)
  rw [h11]
  refine ex_aload_n F dX3_readAll_14 rfl rfl ?_
  refine ex_iconst (v := -1) F dX3_readAll_15 (by decide) ?_
  refine pf_3_2 F dX3_readAll_16 fl_X3_29 ?_
  refine ex_aload_n F dX3_readAll_19 rfl rfl ?_
  refine ex_iconst (v := 0) F dX3_readAll_20 (by decide) ?_
  refine pf_3_4 F dX3_readAll_21 fl_X3_33 ?_
  refine ex_aload_n F dX3_readAll_24 rfl rfl ?_
  refine ex_iconst (v := 0) F dX3_readAll_25 (by decide) ?_
  refine pf_3_5 F dX3_readAll_26 fl_X3_36 ?_
  refine ex_aload_n F dX3_readAll_29 rfl rfl ?_
  refine ex_iconst (v := 0) F dX3_readAll_30 (by decide) ?_
  refine pf_3_6 F dX3_readAll_31 fl_X3_39 ?_
  refine ex_iconst (v := 0) F dX3_readAll_34 (by decide) ?_
  refine ex_istore_n F dX3_readAll_35 rfl (by decide) ?_
  have key : ∀ (m i : Nat) (N : Mem), i + m = 321 → HI N i → rdm m N = rdm 321 (inR M) → EX x g (xmL YX3_readAll) N 36 [(0, .ref (ad g 6)), (1, .int (nI i))] [] := by
    intro m
    induction m with
    | zero =>
      intro i N hi hH hr
      obtain rfl : i = 321 := by omega
      refine ex_iload_n F dX3_readAll_36 rfl rfl ?_
      refine ex_sipush (v := 320) F dX3_readAll_37 (by decide) ?_
      refine ex_icmp_gt (t := 90) F dX3_readAll_40 (by decide) (fun _ => ?_) (fun c => absurd (by decide) c)
      refine ex_aload_n F dX3_readAll_90 rfl rfl ?_
      refine gf_3_4 F dX3_readAll_91 fl_X3_33 ?_
      exact ex_iret F R dX3_readAll_94 rfl (⟨by rw [← hr]; rfl, hr⟩)
    | succ m ih =>
      intro i N hi hH hr
      obtain ⟨n, s, hn, ln, hs, ls⟩ := hH.2
      have hT : TI (advM N) := TI_adv hn ln hs (by omega)
      have hL : LI (advM N) := LI_of hH.1 (by rw [advM_o N (by decide)]) (by rw [advM_o N (by decide)]) (by rw [advM_o N (by decide)])
      refine ex_iload_n F dX3_readAll_36 rfl rfl ?_
      refine ex_sipush (v := 320) F dX3_readAll_37 (by decide) ?_
      refine ex_icmp_gt (t := 90) F dX3_readAll_40 (by decide) (fun c => absurd c (nI_nlt (b := i) (a := 320) (by omega) (by decide))) (fun _ => ?_)
      refine ex_aload_n F dX3_readAll_43 rfl rfl ?_
      refine gf_3_6 F dX3_readAll_44 fl_X3_39 ?_
      refine ex_if_ne (t := 90) F dX3_readAll_47 (by decide) (fun c47 => ?_) (fun c47 => ?_)
      · refine ex_aload_n F dX3_readAll_90 rfl rfl ?_
        refine gf_3_4 F dX3_readAll_91 fl_X3_33 ?_
        exact ex_iret F R dX3_readAll_94 rfl (have hr2 : N = rdm 321 (inR M) := (by rw [← hr, rdm, if_neg c47]); ⟨by rw [← hr2], hr2⟩)
      · refine ex_aload_n F dX3_readAll_50 rfl rfl ?_
        refine gf_3_0 F dX3_readAll_51 fl_X3_10 ?_
        refine ex_callVv F (c_X5_advance hn ln hs (by omega)) dX3_readAll_54 cs_X3_readAll_42 ob_5 rfl rfl rfl rfl (Nat.le_of_ble_eq_true rfl) (fun M54 h54 => ?_)
        rw [adv_of hn ln hs (by omega)] at h54
        rw [h54]
        refine ex_aload_n F dX3_readAll_57 rfl rfl ?_
        refine gf_3_0 F dX3_readAll_58 fl_X3_10 ?_
        refine gf_5_2 F dX3_readAll_61 fl_X3_45 ?_
        refine ex_if_ne (t := 80) F dX3_readAll_64 (by decide) (fun c64 => ?_) (fun c64 => ?_)
        · refine ex_aload_n F dX3_readAll_80 rfl rfl ?_
          refine ex_callVv F (c_X3_takeToken hT hL) dX3_readAll_81 cs_X3_readAll_48 ob_3 rfl rfl rfl rfl (Nat.le_of_ble_eq_true rfl) (fun M81 h81 => ?_)
          rw [h81]
          refine ex_iinc (w := _ + 1) F dX3_readAll_84 rfl rfl (by decide) ?_
          rw [nI_1]
          refine ex_goto (t := 36) F dX3_readAll_87 (by decide) ?_
          exact ex_weak2 (ih (i + 1) _ (by omega) (HI_next hH (by omega)) (by rw [← hr, rdm, if_pos c47, if_neg (fun q => c64 q.1)])) ⟨rfl, rfl, trivial⟩
        · refine ex_aload_n F dX3_readAll_67 rfl rfl ?_
          refine gf_3_2 F dX3_readAll_68 fl_X3_29 ?_
          refine ex_iconst (v := -1) F dX3_readAll_71 (by decide) ?_
          refine ex_icmp_ne (t := 80) F dX3_readAll_72 (by decide) (fun c72 => ?_) (fun c72 => ?_)
          · refine ex_aload_n F dX3_readAll_80 rfl rfl ?_
            refine ex_callVv F (c_X3_takeToken hT hL) dX3_readAll_81 cs_X3_readAll_48 ob_3 rfl rfl rfl rfl (Nat.le_of_ble_eq_true rfl) (fun M81 h81 => ?_)
            rw [h81]
            refine ex_iinc (w := _ + 1) F dX3_readAll_84 rfl rfl (by decide) ?_
            rw [nI_1]
            refine ex_goto (t := 36) F dX3_readAll_87 (by decide) ?_
            exact ex_weak2 (ih (i + 1) _ (by omega) (HI_next hH (by omega)) (by rw [← hr, rdm, if_pos c47, if_neg (fun q => c72 q.2)])) ⟨rfl, rfl, trivial⟩
          · refine ex_aload_n F dX3_readAll_75 rfl rfl ?_
            refine gf_3_4 F dX3_readAll_76 fl_X3_33 ?_
            exact ex_iret F R dX3_readAll_79 rfl (have hr2 : advM N = rdm 321 (inR M) := (by rw [← hr, rdm, if_pos c47, if_pos ⟨c64, c72⟩]); ⟨by rw [← hr2], hr2⟩)
  exact ex_weak2 (key 321 0 (inR M) (by omega) (HI_in M hn0 ln0) rfl) ⟨rfl, rfl, trivial⟩
