def gA (g : XG) (a : Nat → Nat) : XG := (g.1, cA g, a, sa g, sk g, sv g)
def MC : Mem := fun c => match c with
  | 2 => fun j => (stV 0).getD j 0
  | 3 => fun j => (stV 1).getD j 0
  | 10 => fun j => (stV 0).getD j 0
  | 11 => fun j => (stV 1).getD j 0
  | 14 => fun j => if j = 2 then 130 else if j = 6 then -4 else 0
  | 16 => fun j => if j = 6 then -4 else 0
  | 21 => fun j => if j = 6 then -4 else 0
  | 24 => fun j => if j = 6 then -4 else 0
  | 27 => fun j => if j = 2 then -1 else 0
  | 29 => fun j => if j = 2 then -1 else 0
  | 31 => fun j => if j = 2 then -1 else 0
  | 33 => fun j => if j = 2 then -1 else 0
  | _ => fun _ => 0
def PN7 (g : XG) (q : Nat) (r : Option Value) (w : va_W) : Prop := r = none ∧ ∃ a : Nat → Nat, a 0 = q ∧ w = (WL (gA g a) MC).take 38
theorem w7_eq (g : XG) (a : Nat → Nat) : ([((a 0), .inr (7, [.ref (a 1), .ref (a 6), .ref (a 14), .ref (a 16), .ref (a 18), .ref (a 19), .ref (a 26), .ref (a 35), .ref (a 36), .ref (a 37), .int 0, .int 0])), ((a 1), .inr (6, [.ref (a 2), .ref (a 3), .ref (a 4), .ref (a 5), .int 0])), ((a 2), .inl (cA g 0, stL 0, .inl (fun j => (stV 0).getD j 0))), ((a 3), .inl (cA g 0, stL 1, .inl (fun j => (stV 1).getD j 0))), ((a 4), .inl (cA g 0, 8, .inl (fun _ => 0))), ((a 5), .inl (cA g 0, 8, .inl (fun _ => 0))), ((a 6), .inr (3, [.ref (a 7), .ref (a 9), .int 0, .int 0, .int 0, .int 0, .int 0, .int 0])), ((a 7), .inr (5, [.ref (a 8), .int 0, .int 0, .int 0, .int 0, .int 0])), ((a 8), .inl (cA g 1, 320, .inl (fun _ => 0))), ((a 9), .inr (6, [.ref (a 10), .ref (a 11), .ref (a 12), .ref (a 13), .int 0])), ((a 10), .inl (cA g 0, stL 0, .inl (fun j => (stV 0).getD j 0))), ((a 11), .inl (cA g 0, stL 1, .inl (fun j => (stV 1).getD j 0))), ((a 12), .inl (cA g 0, 8, .inl (fun _ => 0))), ((a 13), .inl (cA g 0, 8, .inl (fun _ => 0))), ((a 14), .inr (1, [.ref (a 15), .int 0, .int 130, .int 0, .int 0, .int 0, .int (-4)])), ((a 15), .inl (cA g 0, 7, .inl (fun _ => 0))), ((a 16), .inr (1, [.ref (a 17), .int 0, .int 0, .int 0, .int 0, .int 0, .int (-4)])), ((a 17), .inl (cA g 0, 7, .inl (fun _ => 0))), ((a 18), .inr (0, [.int 0, .int 0, .int 0, .int 0, .int 0])), ((a 19), .inl (cA g 3, 2, .inr (.inr (.inr (.inr (fun i => if i = 0 then some (a 20) else some (a 23))))))), ((a 20), .inr (2, [.ref (a 21), .int 0])), ((a 21), .inr (1, [.ref (a 22), .int 0, .int 0, .int 0, .int 0, .int 0, .int (-4)])), ((a 22), .inl (cA g 0, 7, .inl (fun _ => 0))), ((a 23), .inr (2, [.ref (a 24), .int 0])), ((a 24), .inr (1, [.ref (a 25), .int 0, .int 0, .int 0, .int 0, .int 0, .int (-4)])), ((a 25), .inl (cA g 0, 7, .inl (fun _ => 0))), ((a 26), .inl (cA g 4, 4, .inr (.inr (.inr (.inr (fun i => if i = 0 then some (a 27) else if i = 1 then some (a 29) else if i = 2 then some (a 31) else some (a 33))))))), ((a 27), .inr (4, [.ref (a 28), .int 0, .int (-1)])), ((a 28), .inl (cA g 0, 40, .inl (fun _ => 0))), ((a 29), .inr (4, [.ref (a 30), .int 0, .int (-1)])), ((a 30), .inl (cA g 0, 40, .inl (fun _ => 0))), ((a 31), .inr (4, [.ref (a 32), .int 0, .int (-1)])), ((a 32), .inl (cA g 0, 40, .inl (fun _ => 0))), ((a 33), .inr (4, [.ref (a 34), .int 0, .int (-1)])), ((a 34), .inl (cA g 0, 40, .inl (fun _ => 0))), ((a 35), .inl (cA g 0, 8, .inl (fun _ => 0))), ((a 36), .inl (cA g 0, 8, .inl (fun _ => 0))), ((a 37), .inl (cA g 0, 7, .inl (fun _ => 0)))] : va_W) = (WL (gA g a) MC).take 38 := rfl
abbrev NX7 : XM := (yX7_init, cX7_init, 1, none, 3, 70)
theorem cs_X7_init_64 : CSV (xmN NX7).cls (xmF NX7) (xmW NX7) 64 0 YX6_base := ⟨⟨ml_X7_64, ini_X6, cd_X6_base, by decide +kernel, by decide⟩, im_X6_base, se_X6_base⟩
theorem dfl7 : ∀ j, j < 12 → defaultValue (tyX7 j) = vp_V [.null, .null, .null, .null, .null, .null, .null, .null, .null, .null, .int 0, .int 0] j := fun j hj => match j, hj with | 0, _ => rfl | 1, _ => rfl | 2, _ => rfl | 3, _ => rfl | 4, _ => rfl | 5, _ => rfl | 6, _ => rfl | 7, _ => rfl | 8, _ => rfl | 9, _ => rfl | 10, _ => rfl | 11, _ => rfl | n + 12, h => absurd h (by omega)
set_option maxRecDepth 100000 in
set_option maxHeartbeats 1000000 in
theorem n_X7 {l : Launch} {g : XG} (h0 : Nat) : New l g NX7 [.ref h0] [(h0, .inr (7, [.null, .null, .null, .null, .null, .null, .null, .null, .null, .null, .int 0, .int 0]))] 37 668 (PN7 g h0) := by
  refine new_of (by decide +kernel) (Nat.le_of_ble_eq_true rfl) (fun x hxl F R => ?_)
  subst hxl
  have hcs := R.2.2.2.2.1
  have hss := R.2.2.2.2.2
  refine ew_w (w1 := (h0, .inr (7, [.null, .null, .null, .null, .null, .null, .null, .null, .null, .null, .int 0, .int 0])) :: []) rfl ?_
  refine nw_aload_n F dX7_init_0 rfl rfl ?_
  refine nw_obj F dX7_init_1 ml_X7_1 ow_inst ow_code (Nat.le_of_ble_eq_true rfl) (Nat.le_of_ble_eq_true rfl) ?_
  refine nw_aload_n F dX7_init_4 rfl rfl ?_
  refine nw_make (z := NX6) (Pz := PN6 g) (hs := "ButterChurn") F dX7_init_5 dX7_init_8 dX7_init_9 inX6 tyX6 tyX6_ok cw_X7_7 iw_X6 ini_X6 rfl dfl6 rfl rfl cd_X6_init im_X6_init rfl (by decide +kernel) (by decide +kernel) ⟨by decide, by decide⟩ (Nat.le_of_ble_eq_true rfl) (fun q => n_X6 q) (by rw [hcs]; exact Nat.le_of_ble_eq_true rfl) (by rw [hss]; exact Nat.le_of_ble_eq_true rfl) (fun r1 w9 h9 => ?_) (fun _ _ _ h => by cases h.1)
  obtain ⟨-, r2, r3, r4, r5, rfl⟩ := h9
  refine nw_c0 ?_
  generalize hR1 : ([] ++ tolW g r1 r2 r3 r4 r5 : va_W) = R1
  refine nw_p0F 0 (fs1 := [.ref r1, .null, .null, .null, .null, .null, .null, .null, .null, .null, .int 0, .int 0]) F dX7_init_12 inX7 tyX7 tyX7_ok nmX7 rfl (by decide) fl_X7_10 rfl rfl rfl (tyX7_ok 0 (by decide)) rfl rfl (Nat.le_of_ble_eq_true rfl) rfl ?_
  refine nw_aload_n F dX7_init_15 rfl rfl ?_
  refine nw_make (z := NX3) (Pz := PN3 g) (hs := "ButterChurn") F dX7_init_16 dX7_init_19 dX7_init_20 inX3 tyX3 tyX3_ok cw_X7_16 iw_X3 ini_X3 rfl dfl3 rfl rfl cd_X3_init im_X3_init rfl (by decide +kernel) (by decide +kernel) ⟨by decide, by decide⟩ (Nat.le_of_ble_eq_true rfl) (fun q => n_X3 q) (by rw [hcs]; exact Nat.le_of_ble_eq_true rfl) (by rw [hss]; exact Nat.le_of_ble_eq_true rfl) (fun r6 w9 h9 => ?_) (fun _ _ _ h => by cases h.1)
  obtain ⟨-, r7, r8, r9, r10, r11, r12, r13, rfl⟩ := h9
  refine nw_c0 ?_
  generalize hR2 : (R1 ++ reaW g r6 r7 r8 r9 r10 r11 r12 r13 : va_W) = R2
  refine nw_p0F 1 (fs1 := [.ref r1, .ref r6, .null, .null, .null, .null, .null, .null, .null, .null, .int 0, .int 0]) F dX7_init_23 inX7 tyX7 tyX7_ok nmX7 rfl (by decide) fl_X7_19 rfl rfl rfl (tyX7_ok 1 (by decide)) rfl rfl (Nat.le_of_ble_eq_true rfl) rfl ?_
  refine nw_aload_n F dX7_init_26 rfl rfl ?_
  refine nw_make (z := NX1) (Pz := PN1 g) (hs := "ButterChurn") F dX7_init_27 dX7_init_30 dX7_init_31 inX1 tyX1 tyX1_ok cw_X7_23 iw_X1 ini_X1 rfl dfl1 rfl rfl cd_X1_init im_X1_init rfl (by decide +kernel) (by decide +kernel) ⟨by decide, by decide⟩ (Nat.le_of_ble_eq_true rfl) (fun q => n_X1 q) (by rw [hcs]; exact Nat.le_of_ble_eq_true rfl) (by rw [hss]; exact Nat.le_of_ble_eq_true rfl) (fun r14 w9 h9 => ?_) (fun _ _ _ h => by cases h.1)
  obtain ⟨-, r15, rfl⟩ := h9
  refine nw_c0 ?_
  generalize hR3 : (R2 ++ chuW g r14 r15 : va_W) = R3
  refine nw_p0F 2 (fs1 := [.ref r1, .ref r6, .ref r14, .null, .null, .null, .null, .null, .null, .null, .int 0, .int 0]) F dX7_init_34 inX7 tyX7 tyX7_ok nmX7 rfl (by decide) fl_X7_26 rfl rfl rfl (tyX7_ok 2 (by decide)) rfl rfl (Nat.le_of_ble_eq_true rfl) rfl ?_
  refine nw_aload_n F dX7_init_37 rfl rfl ?_
  refine nw_make (z := NX1) (Pz := PN1 g) (hs := "ButterChurn") F dX7_init_38 dX7_init_41 dX7_init_42 inX1 tyX1 tyX1_ok cw_X7_23 iw_X1 ini_X1 rfl dfl1 rfl rfl cd_X1_init im_X1_init rfl (by decide +kernel) (by decide +kernel) ⟨by decide, by decide⟩ (Nat.le_of_ble_eq_true rfl) (fun q => n_X1 q) (by rw [hcs]; exact Nat.le_of_ble_eq_true rfl) (by rw [hss]; exact Nat.le_of_ble_eq_true rfl) (fun r16 w9 h9 => ?_) (fun _ _ _ h => by cases h.1)
  obtain ⟨-, r17, rfl⟩ := h9
  refine nw_c0 ?_
  generalize hR4 : (R3 ++ chuW g r16 r17 : va_W) = R4
  refine nw_p0F 3 (fs1 := [.ref r1, .ref r6, .ref r14, .ref r16, .null, .null, .null, .null, .null, .null, .int 0, .int 0]) F dX7_init_45 inX7 tyX7 tyX7_ok nmX7 rfl (by decide) fl_X7_30 rfl rfl rfl (tyX7_ok 3 (by decide)) rfl rfl (Nat.le_of_ble_eq_true rfl) rfl ?_
  refine nw_aload_n F dX7_init_48 rfl rfl ?_
  refine nw_make (z := NX0) (Pz := PN0 g) (hs := "ButterChurn") F dX7_init_49 dX7_init_52 dX7_init_53 inX0 tyX0 tyX0_ok cw_X7_33 iw_X0 ini_X0 rfl dfl0 rfl rfl cd_X0_init im_X0_init rfl (by decide +kernel) (by decide +kernel) ⟨by decide, by decide⟩ (Nat.le_of_ble_eq_true rfl) (fun q => n_X0 q) (by rw [hcs]; exact Nat.le_of_ble_eq_true rfl) (by rw [hss]; exact Nat.le_of_ble_eq_true rfl) (fun r18 w9 h9 => ?_) (fun _ _ _ h => by cases h.1)
  obtain ⟨-, rfl⟩ := h9
  refine nw_c0 ?_
  generalize hR5 : (R4 ++ bstW r18 : va_W) = R5
  refine nw_p0F 4 (fs1 := [.ref r1, .ref r6, .ref r14, .ref r16, .ref r18, .null, .null, .null, .null, .null, .int 0, .int 0]) F dX7_init_56 inX7 tyX7 tyX7_ok nmX7 rfl (by decide) fl_X7_36 rfl rfl rfl (tyX7_ok 4 (by decide)) rfl rfl (Nat.le_of_ble_eq_true rfl) rfl ?_
  refine nw_aload_n F dX7_init_59 rfl rfl ?_
  refine nw_iconst (v := 2) F dX7_init_60 (by decide) ?_
  refine nw_anew_im (N := 2) F dX7_init_61 cw_X7_40 (by decide) (by decide) (Nat.le_of_ble_eq_true rfl) (by rw [hcs]; exact Nat.le_of_ble_eq_true rfl) (by rw [hss]; exact Nat.le_of_ble_eq_true rfl) (fun r19 => ?_)
  refine nw_c0 ?_
  refine nw_dup F dX7_init_64 rfl ?_
  refine nw_iconst (v := 0) F dX7_init_65 (by decide) ?_
  refine nw_make (z := NX2) (Pz := PN2 g) (hs := "ButterChurn") F dX7_init_66 dX7_init_69 dX7_init_70 inX2 tyX2 tyX2_ok cw_X7_40 iw_X2 ini_X2 rfl dfl2 rfl rfl cd_X2_init im_X2_init rfl (by decide +kernel) (by decide +kernel) ⟨by decide, by decide⟩ (Nat.le_of_ble_eq_true rfl) (fun q => n_X2 q) (by rw [hcs]; exact Nat.le_of_ble_eq_true rfl) (by rw [hss]; exact Nat.le_of_ble_eq_true rfl) (fun r20 w9 h9 => ?_) (fun _ _ _ h => by cases h.1)
  obtain ⟨-, r21, r22, rfl⟩ := h9
  refine ew_w (w1 := (h0, .inr (7, [.ref r1, .ref r6, .ref r14, .ref r16, .ref r18, .null, .null, .null, .null, .null, .int 0, .int 0])) :: (R5 ++ (r19, .inl (cA g 3, 2, .inr (.inr (.inr (.inr (fun _ => none)))))) :: (([] : va_W) ++ (r20, .inr (2, [.ref r21, .int 0])) :: chuW g r21 r22))) (by simp only [imaW, List.cons_append, List.append_assoc, List.nil_append]) ?_
  refine nw_aastG_im 0 F dX7_init_73 (vpd (by decide)) (by decide) ?_
  refine nw_dup F dX7_init_74 rfl ?_
  refine nw_iconst (v := 1) F dX7_init_75 (by decide) ?_
  refine nw_make (z := NX2) (Pz := PN2 g) (hs := "ButterChurn") F dX7_init_76 dX7_init_79 dX7_init_80 inX2 tyX2 tyX2_ok cw_X7_40 iw_X2 ini_X2 rfl dfl2 rfl rfl cd_X2_init im_X2_init rfl (by decide +kernel) (by decide +kernel) ⟨by decide, by decide⟩ (Nat.le_of_ble_eq_true rfl) (fun q => n_X2 q) (by rw [hcs]; exact Nat.le_of_ble_eq_true rfl) (by rw [hss]; exact Nat.le_of_ble_eq_true rfl) (fun r23 w9 h9 => ?_) (fun _ _ _ h => by cases h.1)
  obtain ⟨-, r24, r25, rfl⟩ := h9
  refine ew_w (w1 := (h0, .inr (7, [.ref r1, .ref r6, .ref r14, .ref r16, .ref r18, .null, .null, .null, .null, .null, .int 0, .int 0])) :: (R5 ++ (r19, .inl (cA g 3, 2, .inr (.inr (.inr (.inr (va_up (fun _ => none) 0 (some r20))))))) :: ((imaW g r20 r21 r22) ++ (r23, .inr (2, [.ref r24, .int 0])) :: chuW g r24 r25))) (by simp only [imaW, List.cons_append, List.append_assoc, List.nil_append]) ?_
  refine nw_aastG_im 1 F dX7_init_83 (vpd (by decide)) (by decide) ?_
  refine nw_cg (f1 := fun i => if i = 0 then some r20 else some r23) (fun i hi => by match i, hi with | 0, _ => rfl | 1, _ => rfl | n + 2, h => omega) ?_
  generalize hR6 : (R5 ++ (r19, .inl (cA g 3, 2, .inr (.inr (.inr (.inr (fun i => if i = 0 then some r20 else some r23)))))) :: ((imaW g r20 r21 r22) ++ (r23, .inr (2, [.ref r24, .int 0])) :: chuW g r24 r25) : va_W) = R6
  refine nw_p0F 5 (fs1 := [.ref r1, .ref r6, .ref r14, .ref r16, .ref r18, .ref r19, .null, .null, .null, .null, .int 0, .int 0]) F dX7_init_84 inX7 tyX7 tyX7_ok nmX7 rfl (by decide) fl_X7_43 rfl rfl rfl (tyX7_ok 5 (by decide)) rfl rfl (Nat.le_of_ble_eq_true rfl) rfl ?_
  refine nw_aload_n F dX7_init_87 rfl rfl ?_
  refine nw_iconst (v := 4) F dX7_init_88 (by decide) ?_
  refine nw_anew_sh (N := 4) F dX7_init_89 cw_X7_47 (by decide) (by decide) (Nat.le_of_ble_eq_true rfl) (by rw [hcs]; exact Nat.le_of_ble_eq_true rfl) (by rw [hss]; exact Nat.le_of_ble_eq_true rfl) (fun r26 => ?_)
  refine nw_c0 ?_
  refine nw_dup F dX7_init_92 rfl ?_
  refine nw_iconst (v := 0) F dX7_init_93 (by decide) ?_
  refine nw_make (z := NX4) (Pz := PN4 g) (hs := "ButterChurn") F dX7_init_94 dX7_init_97 dX7_init_98 inX4 tyX4 tyX4_ok cw_X7_47 iw_X4 ini_X4 rfl dfl4 rfl rfl cd_X4_init im_X4_init rfl (by decide +kernel) (by decide +kernel) ⟨by decide, by decide⟩ (Nat.le_of_ble_eq_true rfl) (fun q => n_X4 q) (by rw [hcs]; exact Nat.le_of_ble_eq_true rfl) (by rw [hss]; exact Nat.le_of_ble_eq_true rfl) (fun r27 w9 h9 => ?_) (fun _ _ _ h => by cases h.1)
  obtain ⟨-, r28, rfl⟩ := h9
  refine ew_w (w1 := (h0, .inr (7, [.ref r1, .ref r6, .ref r14, .ref r16, .ref r18, .ref r19, .null, .null, .null, .null, .int 0, .int 0])) :: (R6 ++ (r26, .inl (cA g 4, 4, .inr (.inr (.inr (.inr (fun _ => none)))))) :: (([] : va_W) ++ (r27, .inr (4, [.ref r28, .int 0, .int (-1)])) :: [(r28, .inl (cA g 0, 40, .inl (fun _ => 0)))]))) (by simp only [sheW, List.cons_append, List.append_assoc, List.nil_append]) ?_
  refine nw_aastG_sh 0 F dX7_init_101 (vpd (by decide)) (by decide) ?_
  refine nw_dup F dX7_init_102 rfl ?_
  refine nw_iconst (v := 1) F dX7_init_103 (by decide) ?_
  refine nw_make (z := NX4) (Pz := PN4 g) (hs := "ButterChurn") F dX7_init_104 dX7_init_107 dX7_init_108 inX4 tyX4 tyX4_ok cw_X7_47 iw_X4 ini_X4 rfl dfl4 rfl rfl cd_X4_init im_X4_init rfl (by decide +kernel) (by decide +kernel) ⟨by decide, by decide⟩ (Nat.le_of_ble_eq_true rfl) (fun q => n_X4 q) (by rw [hcs]; exact Nat.le_of_ble_eq_true rfl) (by rw [hss]; exact Nat.le_of_ble_eq_true rfl) (fun r29 w9 h9 => ?_) (fun _ _ _ h => by cases h.1)
  obtain ⟨-, r30, rfl⟩ := h9
  refine ew_w (w1 := (h0, .inr (7, [.ref r1, .ref r6, .ref r14, .ref r16, .ref r18, .ref r19, .null, .null, .null, .null, .int 0, .int 0])) :: (R6 ++ (r26, .inl (cA g 4, 4, .inr (.inr (.inr (.inr (va_up (fun _ => none) 0 (some r27))))))) :: ((sheW g r27 r28) ++ (r29, .inr (4, [.ref r30, .int 0, .int (-1)])) :: [(r30, .inl (cA g 0, 40, .inl (fun _ => 0)))]))) (by simp only [sheW, List.cons_append, List.append_assoc, List.nil_append]) ?_
  refine nw_aastG_sh 1 F dX7_init_111 (vpd (by decide)) (by decide) ?_
  refine nw_dup F dX7_init_112 rfl ?_
  refine nw_iconst (v := 2) F dX7_init_113 (by decide) ?_
  refine nw_make (z := NX4) (Pz := PN4 g) (hs := "ButterChurn") F dX7_init_114 dX7_init_117 dX7_init_118 inX4 tyX4 tyX4_ok cw_X7_47 iw_X4 ini_X4 rfl dfl4 rfl rfl cd_X4_init im_X4_init rfl (by decide +kernel) (by decide +kernel) ⟨by decide, by decide⟩ (Nat.le_of_ble_eq_true rfl) (fun q => n_X4 q) (by rw [hcs]; exact Nat.le_of_ble_eq_true rfl) (by rw [hss]; exact Nat.le_of_ble_eq_true rfl) (fun r31 w9 h9 => ?_) (fun _ _ _ h => by cases h.1)
  obtain ⟨-, r32, rfl⟩ := h9
  refine ew_w (w1 := (h0, .inr (7, [.ref r1, .ref r6, .ref r14, .ref r16, .ref r18, .ref r19, .null, .null, .null, .null, .int 0, .int 0])) :: (R6 ++ (r26, .inl (cA g 4, 4, .inr (.inr (.inr (.inr (va_up (va_up (fun _ => none) 0 (some r27)) 1 (some r29))))))) :: ((sheW g r27 r28 ++ sheW g r29 r30) ++ (r31, .inr (4, [.ref r32, .int 0, .int (-1)])) :: [(r32, .inl (cA g 0, 40, .inl (fun _ => 0)))]))) (by simp only [sheW, List.cons_append, List.append_assoc, List.nil_append]) ?_
  refine nw_aastG_sh 2 F dX7_init_121 (vpd (by decide)) (by decide) ?_
  refine nw_dup F dX7_init_122 rfl ?_
  refine nw_iconst (v := 3) F dX7_init_123 (by decide) ?_
  refine nw_make (z := NX4) (Pz := PN4 g) (hs := "ButterChurn") F dX7_init_124 dX7_init_127 dX7_init_128 inX4 tyX4 tyX4_ok cw_X7_47 iw_X4 ini_X4 rfl dfl4 rfl rfl cd_X4_init im_X4_init rfl (by decide +kernel) (by decide +kernel) ⟨by decide, by decide⟩ (Nat.le_of_ble_eq_true rfl) (fun q => n_X4 q) (by rw [hcs]; exact Nat.le_of_ble_eq_true rfl) (by rw [hss]; exact Nat.le_of_ble_eq_true rfl) (fun r33 w9 h9 => ?_) (fun _ _ _ h => by cases h.1)
  obtain ⟨-, r34, rfl⟩ := h9
  refine ew_w (w1 := (h0, .inr (7, [.ref r1, .ref r6, .ref r14, .ref r16, .ref r18, .ref r19, .null, .null, .null, .null, .int 0, .int 0])) :: (R6 ++ (r26, .inl (cA g 4, 4, .inr (.inr (.inr (.inr (va_up (va_up (va_up (fun _ => none) 0 (some r27)) 1 (some r29)) 2 (some r31))))))) :: ((sheW g r27 r28 ++ sheW g r29 r30 ++ sheW g r31 r32) ++ (r33, .inr (4, [.ref r34, .int 0, .int (-1)])) :: [(r34, .inl (cA g 0, 40, .inl (fun _ => 0)))]))) (by simp only [sheW, List.cons_append, List.append_assoc, List.nil_append]) ?_
  refine nw_aastG_sh 3 F dX7_init_131 (vpd (by decide)) (by decide) ?_
  refine nw_cg (f1 := fun i => if i = 0 then some r27 else if i = 1 then some r29 else if i = 2 then some r31 else some r33) (fun i hi => by match i, hi with | 0, _ => rfl | 1, _ => rfl | 2, _ => rfl | 3, _ => rfl | n + 4, h => omega) ?_
  generalize hR7 : (R6 ++ (r26, .inl (cA g 4, 4, .inr (.inr (.inr (.inr (fun i => if i = 0 then some r27 else if i = 1 then some r29 else if i = 2 then some r31 else some r33)))))) :: ((sheW g r27 r28 ++ sheW g r29 r30 ++ sheW g r31 r32) ++ (r33, .inr (4, [.ref r34, .int 0, .int (-1)])) :: [(r34, .inl (cA g 0, 40, .inl (fun _ => 0)))]) : va_W) = R7
  refine nw_p0F 6 (fs1 := [.ref r1, .ref r6, .ref r14, .ref r16, .ref r18, .ref r19, .ref r26, .null, .null, .null, .int 0, .int 0]) F dX7_init_132 inX7 tyX7 tyX7_ok nmX7 rfl (by decide) fl_X7_50 rfl rfl rfl (tyX7_ok 6 (by decide)) rfl rfl (Nat.le_of_ble_eq_true rfl) rfl ?_
  refine nw_aload_n F dX7_init_135 rfl rfl ?_
  refine nw_bipush (v := 8) F dX7_init_136 (by decide) ?_
  refine nw_newaI (N := 8) F dX7_init_138 (by decide) (by decide) aw_int (Nat.le_of_ble_eq_true rfl) (by rw [hcs]; exact Nat.le_of_ble_eq_true rfl) (by rw [hss]; exact Nat.le_of_ble_eq_true rfl) (fun r35 => ?_)
  refine nw_c0 ?_
  generalize hR8 : (R7 ++ [(r35, .inl (cA g 0, 8, .inl (fun _ => 0)))] : va_W) = R8
  refine nw_p0F 7 (fs1 := [.ref r1, .ref r6, .ref r14, .ref r16, .ref r18, .ref r19, .ref r26, .ref r35, .null, .null, .int 0, .int 0]) F dX7_init_140 inX7 tyX7 tyX7_ok nmX7 rfl (by decide) fl_X7_54 rfl rfl rfl (tyX7_ok 7 (by decide)) rfl rfl (Nat.le_of_ble_eq_true rfl) rfl ?_
  refine nw_aload_n F dX7_init_143 rfl rfl ?_
  refine nw_bipush (v := 8) F dX7_init_144 (by decide) ?_
  refine nw_newaI (N := 8) F dX7_init_146 (by decide) (by decide) aw_int (Nat.le_of_ble_eq_true rfl) (by rw [hcs]; exact Nat.le_of_ble_eq_true rfl) (by rw [hss]; exact Nat.le_of_ble_eq_true rfl) (fun r36 => ?_)
  refine nw_c0 ?_
  generalize hR9 : (R8 ++ [(r36, .inl (cA g 0, 8, .inl (fun _ => 0)))] : va_W) = R9
  refine nw_p0F 8 (fs1 := [.ref r1, .ref r6, .ref r14, .ref r16, .ref r18, .ref r19, .ref r26, .ref r35, .ref r36, .null, .int 0, .int 0]) F dX7_init_148 inX7 tyX7 tyX7_ok nmX7 rfl (by decide) fl_X7_58 rfl rfl rfl (tyX7_ok 8 (by decide)) rfl rfl (Nat.le_of_ble_eq_true rfl) rfl ?_
  refine nw_aload_n F dX7_init_151 rfl rfl ?_
  refine nw_bipush (v := 7) F dX7_init_152 (by decide) ?_
  refine nw_newaI (N := 7) F dX7_init_154 (by decide) (by decide) aw_int (Nat.le_of_ble_eq_true rfl) (by rw [hcs]; exact Nat.le_of_ble_eq_true rfl) (by rw [hss]; exact Nat.le_of_ble_eq_true rfl) (fun r37 => ?_)
  refine nw_c0 ?_
  generalize hR10 : (R9 ++ [(r37, .inl (cA g 0, 7, .inl (fun _ => 0)))] : va_W) = R10
  refine nw_p0F 9 (fs1 := [.ref r1, .ref r6, .ref r14, .ref r16, .ref r18, .ref r19, .ref r26, .ref r35, .ref r36, .ref r37, .int 0, .int 0]) F dX7_init_156 inX7 tyX7 tyX7_ok nmX7 rfl (by decide) fl_X7_61 rfl rfl rfl (tyX7_ok 9 (by decide)) rfl rfl (Nat.le_of_ble_eq_true rfl) rfl ?_
  refine nw_aload_n F dX7_init_159 rfl rfl ?_
  refine nw_getf (q0 := 0) (j := 2) F dX7_init_160 inX7 rfl rfl (by decide) fl_X7_26 rfl ?_
  refine nw_aload_n F dX7_init_163 rfl rfl ?_
  refine nw_getf (q0 := 0) (j := 0) F dX7_init_164 inX7 rfl rfl (by decide) fl_X7_10 rfl ?_
  subst hR1
  subst hR2
  subst hR3
  subst hR4
  subst hR5
  subst hR6
  subst hR7
  subst hR8
  subst hR9
  subst hR10
  refine nw_callb (k := 1) F (n_base (k1 := 1) (k2 := 2) rfl rfl) dX7_init_167 cs_X7_init_64 rfl rfl rfl (Nat.le_of_ble_eq_true rfl) (by rw [hcs]; exact Nat.le_of_ble_eq_true rfl) (by rw [hss]; exact Nat.le_of_ble_eq_true rfl) (fun r w1 h => ?_)
  obtain ⟨rfl, rfl⟩ := h
  refine nw_put (q0 := 14) (j := 2) (v := .int 130) (ws1 := [(h0, .inr (7, [.ref r1, .ref r6, .ref r14, .ref r16, .ref r18, .ref r19, .ref r26, .ref r35, .ref r36, .ref r37, .int 0, .int 0])), (r1, .inr (6, [.ref r2, .ref r3, .ref r4, .ref r5, .int 0])), (r2, .inl (cA g 0, stL 0, .inl (fun j => (stV 0).getD j 0))), (r3, .inl (cA g 0, stL 1, .inl (fun j => (stV 1).getD j 0))), (r4, .inl (cA g 0, 8, .inl (fun _ => 0))), (r5, .inl (cA g 0, 8, .inl (fun _ => 0))), (r6, .inr (3, [.ref r7, .ref r9, .int 0, .int 0, .int 0, .int 0, .int 0, .int 0])), (r7, .inr (5, [.ref r8, .int 0, .int 0, .int 0, .int 0, .int 0])), (r8, .inl (cA g 1, 320, .inl (fun _ => 0))), (r9, .inr (6, [.ref r10, .ref r11, .ref r12, .ref r13, .int 0])), (r10, .inl (cA g 0, stL 0, .inl (fun j => (stV 0).getD j 0))), (r11, .inl (cA g 0, stL 1, .inl (fun j => (stV 1).getD j 0))), (r12, .inl (cA g 0, 8, .inl (fun _ => 0))), (r13, .inl (cA g 0, 8, .inl (fun _ => 0))), (r14, .inr (1, [.ref r15, .int 0, .int 130, .int 0, .int 0, .int 0, .int (-4)])), (r15, .inl (cA g 0, 7, .inl (fun _ => 0))), (r16, .inr (1, [.ref r17, .int 0, .int 0, .int 0, .int 0, .int 0, .int (-4)])), (r17, .inl (cA g 0, 7, .inl (fun _ => 0))), (r18, .inr (0, [.int 0, .int 0, .int 0, .int 0, .int 0])), (r19, .inl (cA g 3, 2, .inr (.inr (.inr (.inr (fun i => if i = 0 then some r20 else some r23)))))), (r20, .inr (2, [.ref r21, .int 0])), (r21, .inr (1, [.ref r22, .int 0, .int 0, .int 0, .int 0, .int 0, .int (-4)])), (r22, .inl (cA g 0, 7, .inl (fun _ => 0))), (r23, .inr (2, [.ref r24, .int 0])), (r24, .inr (1, [.ref r25, .int 0, .int 0, .int 0, .int 0, .int 0, .int (-4)])), (r25, .inl (cA g 0, 7, .inl (fun _ => 0))), (r26, .inl (cA g 4, 4, .inr (.inr (.inr (.inr (fun i => if i = 0 then some r27 else if i = 1 then some r29 else if i = 2 then some r31 else some r33)))))), (r27, .inr (4, [.ref r28, .int 0, .int (-1)])), (r28, .inl (cA g 0, 40, .inl (fun _ => 0))), (r29, .inr (4, [.ref r30, .int 0, .int (-1)])), (r30, .inl (cA g 0, 40, .inl (fun _ => 0))), (r31, .inr (4, [.ref r32, .int 0, .int (-1)])), (r32, .inl (cA g 0, 40, .inl (fun _ => 0))), (r33, .inr (4, [.ref r34, .int 0, .int (-1)])), (r34, .inl (cA g 0, 40, .inl (fun _ => 0))), (r35, .inl (cA g 0, 8, .inl (fun _ => 0))), (r36, .inl (cA g 0, 8, .inl (fun _ => 0))), (r37, .inl (cA g 0, 7, .inl (fun _ => 0)))]) F dX7_init_170 inX1 tyX1 tyX1_ok nmX1 rfl rfl (by decide) fl_X7_68 rfl (tyX1_ok 2 (by decide)) rfl rfl (Nat.le_of_ble_eq_true rfl) rfl ?_
  exact nw_vret F R dX7_init_173 rfl ⟨rfl, fun k => ([h0, r1, r2, r3, r4, r5, r6, r7, r8, r9, r10, r11, r12, r13, r14, r15, r16, r17, r18, r19, r20, r21, r22, r23, r24, r25, r26, r27, r28, r29, r30, r31, r32, r33, r34, r35, r36, r37] : List Nat).getD k 0, rfl, w7_eq g (fun k => ([h0, r1, r2, r3, r4, r5, r6, r7, r8, r9, r10, r11, r12, r13, r14, r15, r16, r17, r18, r19, r20, r21, r22, r23, r24, r25, r26, r27, r28, r29, r30, r31, r32, r33, r34, r35, r36, r37] : List Nat).getD k 0)⟩
