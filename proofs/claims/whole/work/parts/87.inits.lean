def bstW (q : Nat) : va_W := [(q, .inr (0, [.int 0, .int 0, .int 0, .int 0, .int 0]))]
def chuW (g : XG) (q a : Nat) : va_W := [(q, .inr (1, [.ref a, .int 0, .int 0, .int 0, .int 0, .int 0, .int (-4)])), (a, .inl (cA g 0, 7, .inl (fun _ => 0)))]
def sheW (g : XG) (q a : Nat) : va_W := [(q, .inr (4, [.ref a, .int 0, .int (-1)])), (a, .inl (cA g 0, 40, .inl (fun _ => 0)))]
def tapW (g : XG) (q a : Nat) : va_W := [(q, .inr (5, [.ref a, .int 0, .int 0, .int 0, .int 0, .int 0])), (a, .inl (cA g 1, 320, .inl (fun _ => 0)))]
def tolW (g : XG) (q a b c d : Nat) : va_W := [(q, .inr (6, [.ref a, .ref b, .ref c, .ref d, .int 0])), (a, .inl (cA g 0, stL 0, .inl (fun j => (stV 0).getD j 0))), (b, .inl (cA g 0, stL 1, .inl (fun j => (stV 1).getD j 0))), (c, .inl (cA g 0, 8, .inl (fun _ => 0))), (d, .inl (cA g 0, 8, .inl (fun _ => 0)))]
def imaW (g : XG) (q c a : Nat) : va_W := [(q, .inr (2, [.ref c, .int 0]))] ++ chuW g c a
def reaW (g : XG) (q t b d x1 x2 x3 x4 : Nat) : va_W := [(q, .inr (3, [.ref t, .ref d, .int 0, .int 0, .int 0, .int 0, .int 0, .int 0]))] ++ tapW g t b ++ tolW g d x1 x2 x3 x4
theorem ew_w {x : XC} {g : XG} {nL ce sl pc : Nat} {ws w1 : va_W} {L : List (Nat × Value)} {S : List Value} (h : ws = w1) (k : EW x g nL w1 ce sl pc L S) : EW x g nL ws ce sl pc L S := h ▸ k
abbrev NX0 : XM := (yX0_init, cX0_init, 1, none, 1, 20)
def PN0 (g : XG) (q : Nat) (r : Option Value) (w : va_W) : Prop := r = none ∧ w = bstW q
theorem dfl0 : ∀ j, j < 5 → defaultValue (tyX0 j) = vp_V [.int 0, .int 0, .int 0, .int 0, .int 0] j := fun j hj => match j, hj with | 0, _ => rfl | 1, _ => rfl | 2, _ => rfl | 3, _ => rfl | 4, _ => rfl | n + 5, h => absurd h (by omega)
set_option maxRecDepth 100000 in
theorem n_X0 {l : Launch} {g : XG} (h0 : Nat) : New l g NX0 [.ref h0] [(h0, .inr (0, [.int 0, .int 0, .int 0, .int 0, .int 0]))] 0 0 (PN0 g h0) := by
  refine new_of (by decide +kernel) (Nat.le_of_ble_eq_true rfl) (fun x hxl F R => ?_)
  subst hxl
  have hcs := R.2.2.2.2.1
  have hss := R.2.2.2.2.2
  refine nw_aload_n F dX0_init_0 rfl rfl ?_
  refine nw_obj F dX0_init_1 ml_X0_1 ow_inst ow_code (Nat.le_of_ble_eq_true rfl) (Nat.le_of_ble_eq_true rfl) ?_
  exact nw_vret F R dX0_init_4 rfl ⟨rfl, rfl⟩
abbrev NX1 : XM := (yX1_init, cX1_init, 1, none, 1, 20)
def PN1 (g : XG) (q : Nat) (r : Option Value) (w : va_W) : Prop := r = none ∧ ∃ a : Nat, w = chuW g q a
theorem dfl1 : ∀ j, j < 7 → defaultValue (tyX1 j) = vp_V [.null, .int 0, .int 0, .int 0, .int 0, .int 0, .int 0] j := fun j hj => match j, hj with | 0, _ => rfl | 1, _ => rfl | 2, _ => rfl | 3, _ => rfl | 4, _ => rfl | 5, _ => rfl | 6, _ => rfl | n + 7, h => absurd h (by omega)
set_option maxRecDepth 100000 in
theorem n_X1 {l : Launch} {g : XG} (h0 : Nat) : New l g NX1 [.ref h0] [(h0, .inr (1, [.null, .int 0, .int 0, .int 0, .int 0, .int 0, .int 0]))] 1 7 (PN1 g h0) := by
  refine new_of (by decide +kernel) (Nat.le_of_ble_eq_true rfl) (fun x hxl F R => ?_)
  subst hxl
  have hcs := R.2.2.2.2.1
  have hss := R.2.2.2.2.2
  refine nw_aload_n F dX1_init_0 rfl rfl ?_
  refine nw_obj F dX1_init_1 ml_X1_3 ow_inst ow_code (Nat.le_of_ble_eq_true rfl) (Nat.le_of_ble_eq_true rfl) ?_
  refine nw_aload_n F dX1_init_4 rfl rfl ?_
  refine nw_bipush (v := 7) F dX1_init_5 (by decide) ?_
  refine nw_newaI (N := 7) F dX1_init_7 (by decide) (by decide) aw_int (Nat.le_of_ble_eq_true rfl) (by rw [hcs]; exact Nat.le_of_ble_eq_true rfl) (by rw [hss]; exact Nat.le_of_ble_eq_true rfl) (fun r1 => ?_)
  refine nw_putF (q0 := 0) (j := 0) (ws1 := [(h0, .inr (1, [.ref r1, .int 0, .int 0, .int 0, .int 0, .int 0, .int 0]))] ++ [(r1, .inl (cA g 0, 7, .inl (fun _ => 0)))]) F dX1_init_9 inX1 tyX1 tyX1_ok nmX1 rfl rfl (by decide) fl_X1_11 rfl rfl rfl (tyX1_ok 0 (by decide)) rfl rfl (Nat.le_of_ble_eq_true rfl) rfl ?_
  refine nw_aload_n F dX1_init_12 rfl rfl ?_
  refine nw_bipush (v := -4) F dX1_init_13 (by decide) ?_
  refine nw_put (q0 := 0) (j := 6) (ws1 := [(h0, .inr (1, [.ref r1, .int 0, .int 0, .int 0, .int 0, .int 0, .int (-4)]))] ++ [(r1, .inl (cA g 0, 7, .inl (fun _ => 0)))]) F dX1_init_15 inX1 tyX1 tyX1_ok nmX1 rfl rfl (by decide) fl_X1_15 rfl (tyX1_ok 6 (by decide)) rfl rfl (Nat.le_of_ble_eq_true rfl) rfl ?_
  exact nw_vret F R dX1_init_18 rfl ⟨rfl, _, rfl⟩
abbrev NX4 : XM := (yX4_init, cX4_init, 1, none, 1, 20)
def PN4 (g : XG) (q : Nat) (r : Option Value) (w : va_W) : Prop := r = none ∧ ∃ a : Nat, w = sheW g q a
theorem dfl4 : ∀ j, j < 3 → defaultValue (tyX4 j) = vp_V [.null, .int 0, .int 0] j := fun j hj => match j, hj with | 0, _ => rfl | 1, _ => rfl | 2, _ => rfl | n + 3, h => absurd h (by omega)
set_option maxRecDepth 100000 in
theorem n_X4 {l : Launch} {g : XG} (h0 : Nat) : New l g NX4 [.ref h0] [(h0, .inr (4, [.null, .int 0, .int 0]))] 1 40 (PN4 g h0) := by
  refine new_of (by decide +kernel) (Nat.le_of_ble_eq_true rfl) (fun x hxl F R => ?_)
  subst hxl
  have hcs := R.2.2.2.2.1
  have hss := R.2.2.2.2.2
  refine nw_aload_n F dX4_init_0 rfl rfl ?_
  refine nw_obj F dX4_init_1 ml_X4_1 ow_inst ow_code (Nat.le_of_ble_eq_true rfl) (Nat.le_of_ble_eq_true rfl) ?_
  refine nw_aload_n F dX4_init_4 rfl rfl ?_
  refine nw_bipush (v := 40) F dX4_init_5 (by decide) ?_
  refine nw_newaI (N := 40) F dX4_init_7 (by decide) (by decide) aw_int (Nat.le_of_ble_eq_true rfl) (by rw [hcs]; exact Nat.le_of_ble_eq_true rfl) (by rw [hss]; exact Nat.le_of_ble_eq_true rfl) (fun r2 => ?_)
  refine nw_putF (q0 := 0) (j := 0) (ws1 := [(h0, .inr (4, [.ref r2, .int 0, .int 0]))] ++ [(r2, .inl (cA g 0, 40, .inl (fun _ => 0)))]) F dX4_init_9 inX4 tyX4 tyX4_ok nmX4 rfl rfl (by decide) fl_X4_9 rfl rfl rfl (tyX4_ok 0 (by decide)) rfl rfl (Nat.le_of_ble_eq_true rfl) rfl ?_
  refine nw_aload_n F dX4_init_12 rfl rfl ?_
  refine nw_iconst (v := -1) F dX4_init_13 (by decide) ?_
  refine nw_put (q0 := 0) (j := 2) (ws1 := [(h0, .inr (4, [.ref r2, .int 0, .int (-1)]))] ++ [(r2, .inl (cA g 0, 40, .inl (fun _ => 0)))]) F dX4_init_14 inX4 tyX4 tyX4_ok nmX4 rfl rfl (by decide) fl_X4_13 rfl (tyX4_ok 2 (by decide)) rfl rfl (Nat.le_of_ble_eq_true rfl) rfl ?_
  exact nw_vret F R dX4_init_17 rfl ⟨rfl, _, rfl⟩
abbrev NX5 : XM := (yX5_init, cX5_init, 1, none, 1, 20)
def PN5 (g : XG) (q : Nat) (r : Option Value) (w : va_W) : Prop := r = none ∧ ∃ a : Nat, w = tapW g q a
theorem dfl5 : ∀ j, j < 6 → defaultValue (tyX5 j) = vp_V [.null, .int 0, .int 0, .int 0, .int 0, .int 0] j := fun j hj => match j, hj with | 0, _ => rfl | 1, _ => rfl | 2, _ => rfl | 3, _ => rfl | 4, _ => rfl | 5, _ => rfl | n + 6, h => absurd h (by omega)
set_option maxRecDepth 100000 in
theorem n_X5 {l : Launch} {g : XG} (h0 : Nat) : New l g NX5 [.ref h0] [(h0, .inr (5, [.null, .int 0, .int 0, .int 0, .int 0, .int 0]))] 1 320 (PN5 g h0) := by
  refine new_of (by decide +kernel) (Nat.le_of_ble_eq_true rfl) (fun x hxl F R => ?_)
  subst hxl
  have hcs := R.2.2.2.2.1
  have hss := R.2.2.2.2.2
  refine nw_aload_n F dX5_init_0 rfl rfl ?_
  refine nw_obj F dX5_init_1 ml_X5_1 ow_inst ow_code (Nat.le_of_ble_eq_true rfl) (Nat.le_of_ble_eq_true rfl) ?_
  refine nw_aload_n F dX5_init_4 rfl rfl ?_
  refine nw_sipush (v := 320) F dX5_init_5 (by decide) ?_
  refine nw_newaB (N := 320) F dX5_init_8 (by decide) (by decide) aw_byte (Nat.le_of_ble_eq_true rfl) (by rw [hcs]; exact Nat.le_of_ble_eq_true rfl) (by rw [hss]; exact Nat.le_of_ble_eq_true rfl) (fun r3 => ?_)
  refine nw_putF (q0 := 0) (j := 0) (ws1 := [(h0, .inr (5, [.ref r3, .int 0, .int 0, .int 0, .int 0, .int 0]))] ++ [(r3, .inl (cA g 1, 320, .inl (fun _ => 0)))]) F dX5_init_10 inX5 tyX5 tyX5_ok nmX5 rfl rfl (by decide) fl_X5_9 rfl rfl rfl (tyX5_ok 0 (by decide)) rfl rfl (Nat.le_of_ble_eq_true rfl) rfl ?_
  exact nw_vret F R dX5_init_13 rfl ⟨rfl, _, rfl⟩
abbrev NX6 : XM := (yX6_init, cX6_init, 1, none, 1, 30)
def PN6 (g : XG) (q : Nat) (r : Option Value) (w : va_W) : Prop := r = none ∧ ∃ a b c d : Nat, w = tolW g q a b c d
theorem dfl6 : ∀ j, j < 5 → defaultValue (tyX6 j) = vp_V [.null, .null, .null, .null, .int 0] j := fun j hj => match j, hj with | 0, _ => rfl | 1, _ => rfl | 2, _ => rfl | 3, _ => rfl | 4, _ => rfl | n + 5, h => absurd h (by omega)
set_option maxRecDepth 100000 in
theorem n_X6 {l : Launch} {g : XG} (h0 : Nat) : New l g NX6 [.ref h0] [(h0, .inr (6, [.null, .null, .null, .null, .int 0]))] 4 29 (PN6 g h0) := by
  refine new_of (by decide +kernel) (Nat.le_of_ble_eq_true rfl) (fun x hxl F R => ?_)
  subst hxl
  have hcs := R.2.2.2.2.1
  have hss := R.2.2.2.2.2
  refine nw_aload_n F dX6_init_0 rfl rfl ?_
  refine nw_obj F dX6_init_1 ml_X6_1 ow_inst ow_code (Nat.le_of_ble_eq_true rfl) (Nat.le_of_ble_eq_true rfl) ?_
  refine nw_aload_n F dX6_init_4 rfl rfl ?_
  refine nw_gets (i := 0) F dX6_init_5 (by decide) fl_X6_7 ?_
  refine nw_clone (i := 0) (by decide) F rfl dX6_init_8 (Nat.le_of_ble_eq_true rfl) (Nat.le_of_ble_eq_true rfl) (by rw [hcs]; exact Nat.le_of_ble_eq_true rfl) (by rw [hss]; exact Nat.le_of_ble_eq_true rfl) (fun r4 => ?_)
  refine nw_cast (q0 := 1) F rfl dX6_init_11 rfl ?_
  refine nw_putF (q0 := 0) (j := 0) (ws1 := [(h0, .inr (6, [.ref r4, .null, .null, .null, .int 0]))] ++ [(r4, .inl (cA g 0, stL 0, .inl (fun j => (stV 0).getD j 0)))]) F dX6_init_14 inX6 tyX6 tyX6_ok nmX6 rfl rfl (by decide) fl_X6_18 rfl rfl rfl (tyX6_ok 0 (by decide)) rfl rfl (Nat.le_of_ble_eq_true rfl) rfl ?_
  refine nw_aload_n F dX6_init_17 rfl rfl ?_
  refine nw_gets (i := 1) F dX6_init_18 (by decide) fl_X6_21 ?_
  refine nw_clone (i := 1) (by decide) F rfl dX6_init_21 (Nat.le_of_ble_eq_true rfl) (Nat.le_of_ble_eq_true rfl) (by rw [hcs]; exact Nat.le_of_ble_eq_true rfl) (by rw [hss]; exact Nat.le_of_ble_eq_true rfl) (fun r5 => ?_)
  refine nw_cast (q0 := 2) F rfl dX6_init_24 rfl ?_
  refine nw_putF (q0 := 0) (j := 1) (ws1 := [(h0, .inr (6, [.ref r4, .ref r5, .null, .null, .int 0]))] ++ [(r4, .inl (cA g 0, stL 0, .inl (fun j => (stV 0).getD j 0)))] ++ [(r5, .inl (cA g 0, stL 1, .inl (fun j => (stV 1).getD j 0)))]) F dX6_init_27 inX6 tyX6 tyX6_ok nmX6 rfl rfl (by decide) fl_X6_24 rfl rfl rfl (tyX6_ok 1 (by decide)) rfl rfl (Nat.le_of_ble_eq_true rfl) rfl ?_
  refine nw_aload_n F dX6_init_30 rfl rfl ?_
  refine nw_bipush (v := 8) F dX6_init_31 (by decide) ?_
  refine nw_newaI (N := 8) F dX6_init_33 (by decide) (by decide) aw_int (Nat.le_of_ble_eq_true rfl) (by rw [hcs]; exact Nat.le_of_ble_eq_true rfl) (by rw [hss]; exact Nat.le_of_ble_eq_true rfl) (fun r6 => ?_)
  refine nw_putF (q0 := 0) (j := 2) (ws1 := [(h0, .inr (6, [.ref r4, .ref r5, .ref r6, .null, .int 0]))] ++ [(r4, .inl (cA g 0, stL 0, .inl (fun j => (stV 0).getD j 0)))] ++ [(r5, .inl (cA g 0, stL 1, .inl (fun j => (stV 1).getD j 0)))] ++ [(r6, .inl (cA g 0, 8, .inl (fun _ => 0)))]) F dX6_init_35 inX6 tyX6 tyX6_ok nmX6 rfl rfl (by decide) fl_X6_27 rfl rfl rfl (tyX6_ok 2 (by decide)) rfl rfl (Nat.le_of_ble_eq_true rfl) rfl ?_
  refine nw_aload_n F dX6_init_38 rfl rfl ?_
  refine nw_bipush (v := 8) F dX6_init_39 (by decide) ?_
  refine nw_newaI (N := 8) F dX6_init_41 (by decide) (by decide) aw_int (Nat.le_of_ble_eq_true rfl) (by rw [hcs]; exact Nat.le_of_ble_eq_true rfl) (by rw [hss]; exact Nat.le_of_ble_eq_true rfl) (fun r7 => ?_)
  refine nw_putF (q0 := 0) (j := 3) (ws1 := [(h0, .inr (6, [.ref r4, .ref r5, .ref r6, .ref r7, .int 0]))] ++ [(r4, .inl (cA g 0, stL 0, .inl (fun j => (stV 0).getD j 0)))] ++ [(r5, .inl (cA g 0, stL 1, .inl (fun j => (stV 1).getD j 0)))] ++ [(r6, .inl (cA g 0, 8, .inl (fun _ => 0)))] ++ [(r7, .inl (cA g 0, 8, .inl (fun _ => 0)))]) F dX6_init_43 inX6 tyX6 tyX6_ok nmX6 rfl rfl (by decide) fl_X6_30 rfl rfl rfl (tyX6_ok 3 (by decide)) rfl rfl (Nat.le_of_ble_eq_true rfl) rfl ?_
  exact nw_vret F R dX6_init_46 rfl ⟨rfl, _, _, _, _, rfl⟩
abbrev NX2 : XM := (yX2_init, cX2_init, 1, none, 2, 40)
def PN2 (g : XG) (q : Nat) (r : Option Value) (w : va_W) : Prop := r = none ∧ ∃ c a : Nat, w = imaW g q c a
theorem dfl2 : ∀ j, j < 2 → defaultValue (tyX2 j) = vp_V [.null, .int 0] j := fun j hj => match j, hj with | 0, _ => rfl | 1, _ => rfl | n + 2, h => absurd h (by omega)
set_option maxRecDepth 100000 in
theorem n_X2 {l : Launch} {g : XG} (h0 : Nat) : New l g NX2 [.ref h0] [(h0, .inr (2, [.null, .int 0]))] 2 14 (PN2 g h0) := by
  refine new_of (by decide +kernel) (Nat.le_of_ble_eq_true rfl) (fun x hxl F R => ?_)
  subst hxl
  have hcs := R.2.2.2.2.1
  have hss := R.2.2.2.2.2
  refine nw_aload_n F dX2_init_0 rfl rfl ?_
  refine nw_obj F dX2_init_1 ml_X2_1 ow_inst ow_code (Nat.le_of_ble_eq_true rfl) (Nat.le_of_ble_eq_true rfl) ?_
  refine nw_aload_n F dX2_init_4 rfl rfl ?_
  refine nw_make (z := NX1) (Pz := PN1 g) (hs := "ButterChurn") F dX2_init_5 dX2_init_8 dX2_init_9 inX1 tyX1 tyX1_ok cw_X2_7 iw_X1 ini_X1 rfl dfl1 rfl rfl cd_X1_init im_X1_init rfl (by decide +kernel) (by decide +kernel) ⟨by decide, by decide⟩ (Nat.le_of_ble_eq_true rfl) (fun q => n_X1 q) (by rw [hcs]; exact Nat.le_of_ble_eq_true rfl) (by rw [hss]; exact Nat.le_of_ble_eq_true rfl) (fun r8 w9 h9 => ?_) (fun _ _ _ h => by cases h.1)
  obtain ⟨-, r9, rfl⟩ := h9
  refine ew_w (w1 := [(h0, .inr (2, [.null, .int 0]))] ++ chuW g r8 r9) rfl ?_
  refine nw_putF (q0 := 0) (j := 0) (ws1 := [(h0, .inr (2, [.ref r8, .int 0]))] ++ chuW g r8 r9) F dX2_init_12 inX2 tyX2 tyX2_ok nmX2 rfl rfl (by decide) fl_X2_10 rfl rfl rfl (tyX2_ok 0 (by decide)) rfl rfl (Nat.le_of_ble_eq_true rfl) rfl ?_
  exact nw_vret F R dX2_init_15 rfl ⟨rfl, _, _, rfl⟩
abbrev NX3 : XM := (yX3_init, cX3_init, 1, none, 2, 50)
def PN3 (g : XG) (q : Nat) (r : Option Value) (w : va_W) : Prop := r = none ∧ ∃ t b d x1 x2 x3 x4 : Nat, w = reaW g q t b d x1 x2 x3 x4
theorem dfl3 : ∀ j, j < 8 → defaultValue (tyX3 j) = vp_V [.null, .null, .int 0, .int 0, .int 0, .int 0, .int 0, .int 0] j := fun j hj => match j, hj with | 0, _ => rfl | 1, _ => rfl | 2, _ => rfl | 3, _ => rfl | 4, _ => rfl | 5, _ => rfl | 6, _ => rfl | 7, _ => rfl | n + 8, h => absurd h (by omega)
set_option maxRecDepth 100000 in
theorem n_X3 {l : Launch} {g : XG} (h0 : Nat) : New l g NX3 [.ref h0] [(h0, .inr (3, [.null, .null, .int 0, .int 0, .int 0, .int 0, .int 0, .int 0]))] 7 360 (PN3 g h0) := by
  refine new_of (by decide +kernel) (Nat.le_of_ble_eq_true rfl) (fun x hxl F R => ?_)
  subst hxl
  have hcs := R.2.2.2.2.1
  have hss := R.2.2.2.2.2
  refine nw_aload_n F dX3_init_0 rfl rfl ?_
  refine nw_obj F dX3_init_1 ml_X3_1 ow_inst ow_code (Nat.le_of_ble_eq_true rfl) (Nat.le_of_ble_eq_true rfl) ?_
  refine nw_aload_n F dX3_init_4 rfl rfl ?_
  refine nw_make (z := NX5) (Pz := PN5 g) (hs := "ButterChurn") F dX3_init_5 dX3_init_8 dX3_init_9 inX5 tyX5 tyX5_ok cw_X3_7 iw_X5 ini_X5 rfl dfl5 rfl rfl cd_X5_init im_X5_init rfl (by decide +kernel) (by decide +kernel) ⟨by decide, by decide⟩ (Nat.le_of_ble_eq_true rfl) (fun q => n_X5 q) (by rw [hcs]; exact Nat.le_of_ble_eq_true rfl) (by rw [hss]; exact Nat.le_of_ble_eq_true rfl) (fun r10 w9 h9 => ?_) (fun _ _ _ h => by cases h.1)
  obtain ⟨-, r11, rfl⟩ := h9
  refine ew_w (w1 := [(h0, .inr (3, [.null, .null, .int 0, .int 0, .int 0, .int 0, .int 0, .int 0]))] ++ tapW g r10 r11) rfl ?_
  refine nw_putF (q0 := 0) (j := 0) (ws1 := [(h0, .inr (3, [.ref r10, .null, .int 0, .int 0, .int 0, .int 0, .int 0, .int 0]))] ++ tapW g r10 r11) F dX3_init_12 inX3 tyX3 tyX3_ok nmX3 rfl rfl (by decide) fl_X3_10 rfl rfl rfl (tyX3_ok 0 (by decide)) rfl rfl (Nat.le_of_ble_eq_true rfl) rfl ?_
  refine nw_aload_n F dX3_init_15 rfl rfl ?_
  refine nw_make (z := NX6) (Pz := PN6 g) (hs := "ButterChurn") F dX3_init_16 dX3_init_19 dX3_init_20 inX6 tyX6 tyX6_ok cw_X3_16 iw_X6 ini_X6 rfl dfl6 rfl rfl cd_X6_init im_X6_init rfl (by decide +kernel) (by decide +kernel) ⟨by decide, by decide⟩ (Nat.le_of_ble_eq_true rfl) (fun q => n_X6 q) (by rw [hcs]; exact Nat.le_of_ble_eq_true rfl) (by rw [hss]; exact Nat.le_of_ble_eq_true rfl) (fun r12 w9 h9 => ?_) (fun _ _ _ h => by cases h.1)
  obtain ⟨-, r13, r14, r15, r16, rfl⟩ := h9
  refine ew_w (w1 := [(h0, .inr (3, [.ref r10, .null, .int 0, .int 0, .int 0, .int 0, .int 0, .int 0]))] ++ tapW g r10 r11 ++ tolW g r12 r13 r14 r15 r16) rfl ?_
  refine nw_putF (q0 := 0) (j := 1) (ws1 := [(h0, .inr (3, [.ref r10, .ref r12, .int 0, .int 0, .int 0, .int 0, .int 0, .int 0]))] ++ tapW g r10 r11 ++ tolW g r12 r13 r14 r15 r16) F dX3_init_23 inX3 tyX3 tyX3_ok nmX3 rfl rfl (by decide) fl_X3_19 rfl rfl rfl (tyX3_ok 1 (by decide)) rfl rfl (Nat.le_of_ble_eq_true rfl) rfl ?_
  exact nw_vret F R dX3_init_26 rfl ⟨rfl, _, _, _, _, _, _, _, rfl⟩
