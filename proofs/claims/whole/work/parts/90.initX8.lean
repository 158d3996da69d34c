def M8 (f39 f40 f41 f42 f43 f44 f45 f46 f56 : Nat → Int32) : Mem := fun c => match c with
  | 40 => f39
  | 41 => f40
  | 42 => f41
  | 43 => f42
  | 44 => f43
  | 45 => f44
  | 46 => f45
  | 47 => f46
  | 57 => f56
  | _ => fun _ => 0
def pr8 (M : Mem) : Prop := (∀ c, 38 ≤ c → (c < 40 ∨ 47 < c) → c ≠ 57 → ∀ j, M c j = 0) ∧ KM M ∧ (∀ j, j < 13 → M 47 j = nI (plaL j)) ∧ ∀ j, j < 4 → M 57 j = -4
def PN8 (g : XG) (q : Nat) (r : Option Value) (w : va_W) : Prop := r = none ∧ ∃ (a : Nat → Nat) (M : Mem), a 38 = q ∧ pr8 M ∧ w = (WL (gA g a) M).drop 38
theorem w8_eq (g : XG) (a : Nat → Nat) (f39 f40 f41 f42 f43 f44 f45 f46 f56 : Nat → Int32) : ([((a 38), .inr (8, [.ref (a 39), .int 0, .int 0, .int 0, .int 0, .int 0, .int 0, .int 0, .int 0, .ref (a 40), .ref (a 41), .ref (a 42), .ref (a 43), .ref (a 44), .ref (a 45), .ref (a 46), .ref (a 47), .ref (a 48), .int 0, .ref (a 49), .ref (a 50), .int 0, .int 0, .ref (a 51), .int 0, .ref (a 52), .ref (a 53), .ref (a 54), .int 0, .ref (a 55), .ref (a 56), .ref (a 57), .ref (a 58), .ref (a 59), .int 0])), ((a 39), .inl (cA g 0, 320, .inl (fun _ => 0))), ((a 40), .inl (cA g 0, 9, .inl f39)), ((a 41), .inl (cA g 0, 34, .inl f40)), ((a 42), .inl (cA g 0, 7, .inl f41)), ((a 43), .inl (cA g 0, 7, .inl f42)), ((a 44), .inl (cA g 0, 13, .inl f43)), ((a 45), .inl (cA g 0, 13, .inl f44)), ((a 46), .inl (cA g 0, 13, .inl f45)), ((a 47), .inl (cA g 0, 13, .inl f46)), ((a 48), .inl (cA g 0, 16, .inl (fun _ => 0))), ((a 49), .inl (cA g 0, 13, .inl (fun _ => 0))), ((a 50), .inl (cA g 0, 16, .inl (fun _ => 0))), ((a 51), .inl (cA g 0, 80, .inl (fun _ => 0))), ((a 52), .inl (cA g 0, 7, .inl (fun _ => 0))), ((a 53), .inl (cA g 0, 4, .inl (fun _ => 0))), ((a 54), .inl (cA g 0, 16, .inl (fun _ => 0))), ((a 55), .inl (cA g 0, 8, .inl (fun _ => 0))), ((a 56), .inl (cA g 2, 2, .inl (fun _ => 0))), ((a 57), .inl (cA g 0, 4, .inl f56)), ((a 58), .inl (cA g 0, 4, .inl (fun _ => 0))), ((a 59), .inl (cA g 0, 160, .inl (fun _ => 0)))] : va_W) = (WL (gA g a) (M8 f39 f40 f41 f42 f43 f44 f45 f46 f56)).drop 38 := rfl
abbrev NX8 : XM := (yX8_init, cX8_init, 1, none, 1, 20)
theorem dfl8 : ∀ j, j < 35 → defaultValue (tyX8 j) = vp_V [.null, .int 0, .int 0, .int 0, .int 0, .int 0, .int 0, .int 0, .int 0, .null, .null, .null, .null, .null, .null, .null, .null, .null, .int 0, .null, .null, .int 0, .int 0, .null, .int 0, .null, .null, .null, .int 0, .null, .null, .null, .null, .null, .int 0] j := fun j hj => match j, hj with | 0, _ => rfl | 1, _ => rfl | 2, _ => rfl | 3, _ => rfl | 4, _ => rfl | 5, _ => rfl | 6, _ => rfl | 7, _ => rfl | 8, _ => rfl | 9, _ => rfl | 10, _ => rfl | 11, _ => rfl | 12, _ => rfl | 13, _ => rfl | 14, _ => rfl | 15, _ => rfl | 16, _ => rfl | 17, _ => rfl | 18, _ => rfl | 19, _ => rfl | 20, _ => rfl | 21, _ => rfl | 22, _ => rfl | 23, _ => rfl | 24, _ => rfl | 25, _ => rfl | 26, _ => rfl | 27, _ => rfl | 28, _ => rfl | 29, _ => rfl | 30, _ => rfl | 31, _ => rfl | 32, _ => rfl | 33, _ => rfl | 34, _ => rfl | n + 35, h => absurd h (by omega)
theorem pr8_M8 (f39 f40 f41 f42 f43 f44 f45 f46 f56 : Nat → Int32) (hcut : ∀ j, j < 9 → f39 j = nI (cutL j)) (hlet : ∀ j, j < 34 → f40 j = nI (letL j)) (hfro : ∀ j, j < 7 → f41 j = nI (froL j)) (hto : ∀ j, j < 7 → f42 j = nI (toL j)) (hlow : ∀ j, j < 13 → f43 j = nI (lowL j)) (htop : ∀ j, j < 13 → f44 j = nI (topL j)) (hpla : ∀ j, j < 13 → f45 j = nI (plaL j)) (hpl2 : ∀ j, j < 13 → f46 j = nI (plaL j)) (hrow : ∀ j, j < 4 → f56 j = -4) : pr8 (M8 f39 f40 f41 f42 f43 f44 f45 f46 f56) := by
  refine ⟨fun c h1 h2 h3 j => ?_, ⟨hcut, hlet, hfro, hto, hlow, htop, hpla⟩, hpl2, hrow⟩
  have h4 : ∀ c, 38 ≤ c → (c < 40 ∨ 47 < c) → c ≠ 57 → M8 f39 f40 f41 f42 f43 f44 f45 f46 f56 c = fun _ => 0 := by
    intro c h1 h2 h3
    unfold M8
    split <;> first | rfl | omega
  rw [h4 c h1 h2 h3]
theorem ew_pc {x : XC} {g : XG} {nL ce sl pc : Nat} {ws : va_W} {L : List (Nat × Value)} {S : List Value} (p1 : Nat) (h : pc = p1) (k : EW x g nL ws ce sl p1 L S) : EW x g nL ws ce sl pc L S := h ▸ k
set_option maxRecDepth 100000 in
set_option maxHeartbeats 2000000 in
theorem n_X8 {l : Launch} {g : XG} (h0 : Nat) : New l g NX8 [.ref h0] [(h0, .inr (8, [.null, .int 0, .int 0, .int 0, .int 0, .int 0, .int 0, .int 0, .int 0, .null, .null, .null, .null, .null, .null, .null, .null, .null, .int 0, .null, .null, .int 0, .int 0, .null, .int 0, .null, .null, .null, .int 0, .null, .null, .null, .null, .null, .int 0]))] 21 759 (PN8 g h0) := by
  refine new_of (by decide +kernel) (Nat.le_of_ble_eq_true rfl) (fun x hxl F R => ?_)
  subst hxl
  have hcs := R.2.2.2.2.1
  have hss := R.2.2.2.2.2
  refine ew_w (w1 := (h0, .inr (8, [.null, .int 0, .int 0, .int 0, .int 0, .int 0, .int 0, .int 0, .int 0, .null, .null, .null, .null, .null, .null, .null, .null, .null, .int 0, .null, .null, .int 0, .int 0, .null, .int 0, .null, .null, .null, .int 0, .null, .null, .null, .null, .null, .int 0])) :: []) rfl ?_
  refine ew_pc 0 rfl ?_
  refine nw_aload_n F dX8_init_0 rfl rfl ?_
  refine nw_obj F dX8_init_1 ml_X8_1 ow_inst ow_code (Nat.le_of_ble_eq_true rfl) (Nat.le_of_ble_eq_true rfl) ?_
  refine ew_pc 4 rfl ?_
  refine nw_aload_n F dX8_init_4 rfl rfl ?_
  refine nw_sipush (v := 320) F dX8_init_5 (by decide) ?_
  refine nw_newaI (N := 320) F dX8_init_8 (by decide) (by decide) aw_int (Nat.le_of_ble_eq_true rfl) (by rw [hcs]; exact Nat.le_of_ble_eq_true rfl) (by rw [hss]; exact Nat.le_of_ble_eq_true rfl) (fun r38 => ?_)
  refine nw_c0 ?_
  generalize hR1 : ([] ++ [(r38, .inl (cA g 0, 320, .inl (fun _ => 0)))] : va_W) = R1
  refine nw_p0F 0 (fs1 := [.ref r38, .int 0, .int 0, .int 0, .int 0, .int 0, .int 0, .int 0, .int 0, .null, .null, .null, .null, .null, .null, .null, .null, .null, .int 0, .null, .null, .int 0, .int 0, .null, .int 0, .null, .null, .null, .int 0, .null, .null, .null, .null, .null, .int 0]) F dX8_init_10 inX8 tyX8 tyX8_ok nmX8 rfl (by decide) fl_X8_7 rfl rfl rfl (tyX8_ok 0 (by decide)) rfl rfl (Nat.le_of_ble_eq_true rfl) rfl ?_
  refine ew_pc 13 rfl ?_
  refine nw_aload_n F dX8_init_13 rfl rfl ?_
  refine nw_bipush (v := 9) F dX8_init_14 (by decide) ?_
  refine nw_newaI (N := 9) F dX8_init_16 (by decide) (by decide) aw_int (Nat.le_of_ble_eq_true rfl) (by rw [hcs]; exact Nat.le_of_ble_eq_true rfl) (by rw [hss]; exact Nat.le_of_ble_eq_true rfl) (fun r39 => ?_)
  refine ew_pc 18 rfl ?_
  refine nw_dup F dX8_init_18 rfl ?_
  refine nw_iconst (v := 0) F dX8_init_19 (by decide) ?_
  refine nw_iconst (v := 0) F dX8_init_20 (by decide) ?_
  refine nw_iastL F dX8_init_21 (vpd (by decide)) ?_
  refine ew_pc 22 rfl ?_
  refine nw_dup F dX8_init_22 rfl ?_
  refine nw_iconst (v := 1) F dX8_init_23 (by decide) ?_
  refine nw_iconst (v := 5) F dX8_init_24 (by decide) ?_
  refine nw_iastL F dX8_init_25 (vpd (by decide)) ?_
  refine ew_pc 26 rfl ?_
  refine nw_dup F dX8_init_26 rfl ?_
  refine nw_iconst (v := 2) F dX8_init_27 (by decide) ?_
  refine nw_bipush (v := 9) F dX8_init_28 (by decide) ?_
  refine nw_iastL F dX8_init_30 (vpd (by decide)) ?_
  refine ew_pc 31 rfl ?_
  refine nw_dup F dX8_init_31 rfl ?_
  refine nw_iconst (v := 3) F dX8_init_32 (by decide) ?_
  refine nw_bipush (v := 13) F dX8_init_33 (by decide) ?_
  refine nw_iastL F dX8_init_35 (vpd (by decide)) ?_
  refine ew_pc 36 rfl ?_
  refine nw_dup F dX8_init_36 rfl ?_
  refine nw_iconst (v := 4) F dX8_init_37 (by decide) ?_
  refine nw_bipush (v := 18) F dX8_init_38 (by decide) ?_
  refine nw_iastL F dX8_init_40 (vpd (by decide)) ?_
  refine ew_pc 41 rfl ?_
  refine nw_dup F dX8_init_41 rfl ?_
  refine nw_iconst (v := 5) F dX8_init_42 (by decide) ?_
  refine nw_bipush (v := 22) F dX8_init_43 (by decide) ?_
  refine nw_iastL F dX8_init_45 (vpd (by decide)) ?_
  refine ew_pc 46 rfl ?_
  refine nw_dup F dX8_init_46 rfl ?_
  refine nw_bipush (v := 6) F dX8_init_47 (by decide) ?_
  refine nw_bipush (v := 26) F dX8_init_49 (by decide) ?_
  refine nw_iastL F dX8_init_51 (vpd (by decide)) ?_
  refine ew_pc 52 rfl ?_
  refine nw_dup F dX8_init_52 rfl ?_
  refine nw_bipush (v := 7) F dX8_init_53 (by decide) ?_
  refine nw_bipush (v := 31) F dX8_init_55 (by decide) ?_
  refine nw_iastL F dX8_init_57 (vpd (by decide)) ?_
  refine ew_pc 58 rfl ?_
  refine nw_dup F dX8_init_58 rfl ?_
  refine nw_bipush (v := 8) F dX8_init_59 (by decide) ?_
  refine nw_bipush (v := 34) F dX8_init_61 (by decide) ?_
  refine nw_iastL F dX8_init_63 (vpd (by decide)) ?_
  generalize hf39 : upd _ _ _ = f39
  refine nw_c0 ?_
  generalize hR2 : (R1 ++ [(r39, .inl (cA g 0, 9, .inl f39))] : va_W) = R2
  refine nw_p0F 9 (fs1 := [.ref r38, .int 0, .int 0, .int 0, .int 0, .int 0, .int 0, .int 0, .int 0, .ref r39, .null, .null, .null, .null, .null, .null, .null, .null, .int 0, .null, .null, .int 0, .int 0, .null, .int 0, .null, .null, .null, .int 0, .null, .null, .null, .null, .null, .int 0]) F dX8_init_64 inX8 tyX8 tyX8_ok nmX8 rfl (by decide) fl_X8_13 rfl rfl rfl (tyX8_ok 9 (by decide)) rfl rfl (Nat.le_of_ble_eq_true rfl) rfl ?_
  refine ew_pc 67 rfl ?_
  refine nw_aload_n F dX8_init_67 rfl rfl ?_
  refine nw_bipush (v := 34) F dX8_init_68 (by decide) ?_
  refine nw_newaI (N := 34) F dX8_init_70 (by decide) (by decide) aw_int (Nat.le_of_ble_eq_true rfl) (by rw [hcs]; exact Nat.le_of_ble_eq_true rfl) (by rw [hss]; exact Nat.le_of_ble_eq_true rfl) (fun r40 => ?_)
  refine ew_pc 72 rfl ?_
  refine nw_dup F dX8_init_72 rfl ?_
  refine nw_iconst (v := 0) F dX8_init_73 (by decide) ?_
  refine nw_bipush (v := 99) F dX8_init_74 (by decide) ?_
  refine nw_iastL F dX8_init_76 (vpd (by decide)) ?_
  refine ew_pc 77 rfl ?_
  refine nw_dup F dX8_init_77 rfl ?_
  refine nw_iconst (v := 1) F dX8_init_78 (by decide) ?_
  refine nw_bipush (v := 104) F dX8_init_79 (by decide) ?_
  refine nw_iastL F dX8_init_81 (vpd (by decide)) ?_
  refine ew_pc 82 rfl ?_
  refine nw_dup F dX8_init_82 rfl ?_
  refine nw_iconst (v := 2) F dX8_init_83 (by decide) ?_
  refine nw_bipush (v := 117) F dX8_init_84 (by decide) ?_
  refine nw_iastL F dX8_init_86 (vpd (by decide)) ?_
  refine ew_pc 87 rfl ?_
  refine nw_dup F dX8_init_87 rfl ?_
  refine nw_iconst (v := 3) F dX8_init_88 (by decide) ?_
  refine nw_bipush (v := 114) F dX8_init_89 (by decide) ?_
  refine nw_iastL F dX8_init_91 (vpd (by decide)) ?_
  refine ew_pc 92 rfl ?_
  refine nw_dup F dX8_init_92 rfl ?_
  refine nw_iconst (v := 4) F dX8_init_93 (by decide) ?_
  refine nw_bipush (v := 110) F dX8_init_94 (by decide) ?_
  refine nw_iastL F dX8_init_96 (vpd (by decide)) ?_
  refine ew_pc 97 rfl ?_
  refine nw_dup F dX8_init_97 rfl ?_
  refine nw_iconst (v := 5) F dX8_init_98 (by decide) ?_
  refine nw_bipush (v := 115) F dX8_init_99 (by decide) ?_
  refine nw_iastL F dX8_init_101 (vpd (by decide)) ?_
  refine ew_pc 102 rfl ?_
  refine nw_dup F dX8_init_102 rfl ?_
  refine nw_bipush (v := 6) F dX8_init_103 (by decide) ?_
  refine nw_bipush (v := 111) F dX8_init_105 (by decide) ?_
  refine nw_iastL F dX8_init_107 (vpd (by decide)) ?_
  refine ew_pc 108 rfl ?_
  refine nw_dup F dX8_init_108 rfl ?_
  refine nw_bipush (v := 7) F dX8_init_109 (by decide) ?_
  refine nw_bipush (v := 102) F dX8_init_111 (by decide) ?_
  refine nw_iastL F dX8_init_113 (vpd (by decide)) ?_
  refine ew_pc 114 rfl ?_
  refine nw_dup F dX8_init_114 rfl ?_
  refine nw_bipush (v := 8) F dX8_init_115 (by decide) ?_
  refine nw_bipush (v := 116) F dX8_init_117 (by decide) ?_
  refine nw_iastL F dX8_init_119 (vpd (by decide)) ?_
  refine ew_pc 120 rfl ?_
  refine nw_dup F dX8_init_120 rfl ?_
  refine nw_bipush (v := 9) F dX8_init_121 (by decide) ?_
  refine nw_bipush (v := 98) F dX8_init_123 (by decide) ?_
  refine nw_iastL F dX8_init_125 (vpd (by decide)) ?_
  refine ew_pc 126 rfl ?_
  refine nw_dup F dX8_init_126 rfl ?_
  refine nw_bipush (v := 10) F dX8_init_127 (by decide) ?_
  refine nw_bipush (v := 101) F dX8_init_129 (by decide) ?_
  refine nw_iastL F dX8_init_131 (vpd (by decide)) ?_
  refine ew_pc 132 rfl ?_
  refine nw_dup F dX8_init_132 rfl ?_
  refine nw_bipush (v := 11) F dX8_init_133 (by decide) ?_
  refine nw_bipush (v := 97) F dX8_init_135 (by decide) ?_
  refine nw_iastL F dX8_init_137 (vpd (by decide)) ?_
  refine ew_pc 138 rfl ?_
  refine nw_dup F dX8_init_138 rfl ?_
  refine nw_bipush (v := 12) F dX8_init_139 (by decide) ?_
  refine nw_bipush (v := 116) F dX8_init_141 (by decide) ?_
  refine nw_iastL F dX8_init_143 (vpd (by decide)) ?_
  refine ew_pc 144 rfl ?_
  refine nw_dup F dX8_init_144 rfl ?_
  refine nw_bipush (v := 13) F dX8_init_145 (by decide) ?_
  refine nw_bipush (v := 103) F dX8_init_147 (by decide) ?_
  refine nw_iastL F dX8_init_149 (vpd (by decide)) ?_
  refine ew_pc 150 rfl ?_
  refine nw_dup F dX8_init_150 rfl ?_
  refine nw_bipush (v := 14) F dX8_init_151 (by decide) ?_
  refine nw_bipush (v := 114) F dX8_init_153 (by decide) ?_
  refine nw_iastL F dX8_init_155 (vpd (by decide)) ?_
  refine ew_pc 156 rfl ?_
  refine nw_dup F dX8_init_156 rfl ?_
  refine nw_bipush (v := 15) F dX8_init_157 (by decide) ?_
  refine nw_bipush (v := 97) F dX8_init_159 (by decide) ?_
  refine nw_iastL F dX8_init_161 (vpd (by decide)) ?_
  refine ew_pc 162 rfl ?_
  refine nw_dup F dX8_init_162 rfl ?_
  refine nw_bipush (v := 16) F dX8_init_163 (by decide) ?_
  refine nw_bipush (v := 105) F dX8_init_165 (by decide) ?_
  refine nw_iastL F dX8_init_167 (vpd (by decide)) ?_
  refine ew_pc 168 rfl ?_
  refine nw_dup F dX8_init_168 rfl ?_
  refine nw_bipush (v := 17) F dX8_init_169 (by decide) ?_
  refine nw_bipush (v := 110) F dX8_init_171 (by decide) ?_
  refine nw_iastL F dX8_init_173 (vpd (by decide)) ?_
  refine ew_pc 174 rfl ?_
  refine nw_dup F dX8_init_174 rfl ?_
  refine nw_bipush (v := 18) F dX8_init_175 (by decide) ?_
  refine nw_bipush (v := 104) F dX8_init_177 (by decide) ?_
  refine nw_iastL F dX8_init_179 (vpd (by decide)) ?_
  refine ew_pc 180 rfl ?_
  refine nw_dup F dX8_init_180 rfl ?_
  refine nw_bipush (v := 19) F dX8_init_181 (by decide) ?_
  refine nw_bipush (v := 101) F dX8_init_183 (by decide) ?_
  refine nw_iastL F dX8_init_185 (vpd (by decide)) ?_
  refine ew_pc 186 rfl ?_
  refine nw_dup F dX8_init_186 rfl ?_
  refine nw_bipush (v := 20) F dX8_init_187 (by decide) ?_
  refine nw_bipush (v := 97) F dX8_init_189 (by decide) ?_
  refine nw_iastL F dX8_init_191 (vpd (by decide)) ?_
  refine ew_pc 192 rfl ?_
  refine nw_dup F dX8_init_192 rfl ?_
  refine nw_bipush (v := 21) F dX8_init_193 (by decide) ?_
  refine nw_bipush (v := 116) F dX8_init_195 (by decide) ?_
  refine nw_iastL F dX8_init_197 (vpd (by decide)) ?_
  refine ew_pc 198 rfl ?_
  refine nw_dup F dX8_init_198 rfl ?_
  refine nw_bipush (v := 22) F dX8_init_199 (by decide) ?_
  refine nw_bipush (v := 103) F dX8_init_201 (by decide) ?_
  refine nw_iastL F dX8_init_203 (vpd (by decide)) ?_
  refine ew_pc 204 rfl ?_
  refine nw_dup F dX8_init_204 rfl ?_
  refine nw_bipush (v := 23) F dX8_init_205 (by decide) ?_
  refine nw_bipush (v := 111) F dX8_init_207 (by decide) ?_
  refine nw_iastL F dX8_init_209 (vpd (by decide)) ?_
  refine ew_pc 210 rfl ?_
  refine nw_dup F dX8_init_210 rfl ?_
  refine nw_bipush (v := 24) F dX8_init_211 (by decide) ?_
  refine nw_bipush (v := 111) F dX8_init_213 (by decide) ?_
  refine nw_iastL F dX8_init_215 (vpd (by decide)) ?_
  refine ew_pc 216 rfl ?_
  refine nw_dup F dX8_init_216 rfl ?_
  refine nw_bipush (v := 25) F dX8_init_217 (by decide) ?_
  refine nw_bipush (v := 100) F dX8_init_219 (by decide) ?_
  refine nw_iastL F dX8_init_221 (vpd (by decide)) ?_
  refine ew_pc 222 rfl ?_
  refine nw_dup F dX8_init_222 rfl ?_
  refine nw_bipush (v := 26) F dX8_init_223 (by decide) ?_
  refine nw_bipush (v := 100) F dX8_init_225 (by decide) ?_
  refine nw_iastL F dX8_init_227 (vpd (by decide)) ?_
  refine ew_pc 228 rfl ?_
  refine nw_dup F dX8_init_228 rfl ?_
  refine nw_bipush (v := 27) F dX8_init_229 (by decide) ?_
  refine nw_bipush (v := 114) F dX8_init_231 (by decide) ?_
  refine nw_iastL F dX8_init_233 (vpd (by decide)) ?_
  refine ew_pc 234 rfl ?_
  refine nw_dup F dX8_init_234 rfl ?_
  refine nw_bipush (v := 28) F dX8_init_235 (by decide) ?_
  refine nw_bipush (v := 111) F dX8_init_237 (by decide) ?_
  refine nw_iastL F dX8_init_239 (vpd (by decide)) ?_
  refine ew_pc 240 rfl ?_
  refine nw_dup F dX8_init_240 rfl ?_
  refine nw_bipush (v := 29) F dX8_init_241 (by decide) ?_
  refine nw_bipush (v := 112) F dX8_init_243 (by decide) ?_
  refine nw_iastL F dX8_init_245 (vpd (by decide)) ?_
  refine ew_pc 246 rfl ?_
  refine nw_dup F dX8_init_246 rfl ?_
  refine nw_bipush (v := 30) F dX8_init_247 (by decide) ?_
  refine nw_bipush (v := 115) F dX8_init_249 (by decide) ?_
  refine nw_iastL F dX8_init_251 (vpd (by decide)) ?_
  refine ew_pc 252 rfl ?_
  refine nw_dup F dX8_init_252 rfl ?_
  refine nw_bipush (v := 31) F dX8_init_253 (by decide) ?_
  refine nw_bipush (v := 99) F dX8_init_255 (by decide) ?_
  refine nw_iastL F dX8_init_257 (vpd (by decide)) ?_
  refine ew_pc 258 rfl ?_
  refine nw_dup F dX8_init_258 rfl ?_
  refine nw_bipush (v := 32) F dX8_init_259 (by decide) ?_
  refine nw_bipush (v := 111) F dX8_init_261 (by decide) ?_
  refine nw_iastL F dX8_init_263 (vpd (by decide)) ?_
  refine ew_pc 264 rfl ?_
  refine nw_dup F dX8_init_264 rfl ?_
  refine nw_bipush (v := 33) F dX8_init_265 (by decide) ?_
  refine nw_bipush (v := 119) F dX8_init_267 (by decide) ?_
  refine nw_iastL F dX8_init_269 (vpd (by decide)) ?_
  generalize hf40 : upd _ _ _ = f40
  refine nw_c0 ?_
  generalize hR3 : (R2 ++ [(r40, .inl (cA g 0, 34, .inl f40))] : va_W) = R3
  refine nw_p0F 10 (fs1 := [.ref r38, .int 0, .int 0, .int 0, .int 0, .int 0, .int 0, .int 0, .int 0, .ref r39, .ref r40, .null, .null, .null, .null, .null, .null, .null, .int 0, .null, .null, .int 0, .int 0, .null, .int 0, .null, .null, .null, .int 0, .null, .null, .null, .null, .null, .int 0]) F dX8_init_270 inX8 tyX8 tyX8_ok nmX8 rfl (by decide) fl_X8_16 rfl rfl rfl (tyX8_ok 10 (by decide)) rfl rfl (Nat.le_of_ble_eq_true rfl) rfl ?_
  refine ew_pc 273 rfl ?_
  refine nw_aload_n F dX8_init_273 rfl rfl ?_
  refine nw_bipush (v := 7) F dX8_init_274 (by decide) ?_
  refine nw_newaI (N := 7) F dX8_init_276 (by decide) (by decide) aw_int (Nat.le_of_ble_eq_true rfl) (by rw [hcs]; exact Nat.le_of_ble_eq_true rfl) (by rw [hss]; exact Nat.le_of_ble_eq_true rfl) (fun r41 => ?_)
  refine ew_pc 278 rfl ?_
  refine nw_dup F dX8_init_278 rfl ?_
  refine nw_iconst (v := 0) F dX8_init_279 (by decide) ?_
  refine nw_iconst (v := 0) F dX8_init_280 (by decide) ?_
  refine nw_iastL F dX8_init_281 (vpd (by decide)) ?_
  refine ew_pc 282 rfl ?_
  refine nw_dup F dX8_init_282 rfl ?_
  refine nw_iconst (v := 1) F dX8_init_283 (by decide) ?_
  refine nw_iconst (v := 1) F dX8_init_284 (by decide) ?_
  refine nw_iastL F dX8_init_285 (vpd (by decide)) ?_
  refine ew_pc 286 rfl ?_
  refine nw_dup F dX8_init_286 rfl ?_
  refine nw_iconst (v := 2) F dX8_init_287 (by decide) ?_
  refine nw_iconst (v := 3) F dX8_init_288 (by decide) ?_
  refine nw_iastL F dX8_init_289 (vpd (by decide)) ?_
  refine ew_pc 290 rfl ?_
  refine nw_dup F dX8_init_290 rfl ?_
  refine nw_iconst (v := 3) F dX8_init_291 (by decide) ?_
  refine nw_iconst (v := 5) F dX8_init_292 (by decide) ?_
  refine nw_iastL F dX8_init_293 (vpd (by decide)) ?_
  refine ew_pc 294 rfl ?_
  refine nw_dup F dX8_init_294 rfl ?_
  refine nw_iconst (v := 4) F dX8_init_295 (by decide) ?_
  refine nw_bipush (v := 6) F dX8_init_296 (by decide) ?_
  refine nw_iastL F dX8_init_298 (vpd (by decide)) ?_
  refine ew_pc 299 rfl ?_
  refine nw_dup F dX8_init_299 rfl ?_
  refine nw_iconst (v := 5) F dX8_init_300 (by decide) ?_
  refine nw_bipush (v := 7) F dX8_init_301 (by decide) ?_
  refine nw_iastL F dX8_init_303 (vpd (by decide)) ?_
  refine ew_pc 304 rfl ?_
  refine nw_dup F dX8_init_304 rfl ?_
  refine nw_bipush (v := 6) F dX8_init_305 (by decide) ?_
  refine nw_bipush (v := 9) F dX8_init_307 (by decide) ?_
  refine nw_iastL F dX8_init_309 (vpd (by decide)) ?_
  generalize hf41 : upd _ _ _ = f41
  refine nw_c0 ?_
  generalize hR4 : (R3 ++ [(r41, .inl (cA g 0, 7, .inl f41))] : va_W) = R4
  refine nw_p0F 11 (fs1 := [.ref r38, .int 0, .int 0, .int 0, .int 0, .int 0, .int 0, .int 0, .int 0, .ref r39, .ref r40, .ref r41, .null, .null, .null, .null, .null, .null, .int 0, .null, .null, .int 0, .int 0, .null, .int 0, .null, .null, .null, .int 0, .null, .null, .null, .null, .null, .int 0]) F dX8_init_310 inX8 tyX8 tyX8_ok nmX8 rfl (by decide) fl_X8_19 rfl rfl rfl (tyX8_ok 11 (by decide)) rfl rfl (Nat.le_of_ble_eq_true rfl) rfl ?_
  refine ew_pc 313 rfl ?_
  refine nw_aload_n F dX8_init_313 rfl rfl ?_
  refine nw_bipush (v := 7) F dX8_init_314 (by decide) ?_
  refine nw_newaI (N := 7) F dX8_init_316 (by decide) (by decide) aw_int (Nat.le_of_ble_eq_true rfl) (by rw [hcs]; exact Nat.le_of_ble_eq_true rfl) (by rw [hss]; exact Nat.le_of_ble_eq_true rfl) (fun r42 => ?_)
  refine ew_pc 318 rfl ?_
  refine nw_dup F dX8_init_318 rfl ?_
  refine nw_iconst (v := 0) F dX8_init_319 (by decide) ?_
  refine nw_iconst (v := 0) F dX8_init_320 (by decide) ?_
  refine nw_iastL F dX8_init_321 (vpd (by decide)) ?_
  refine ew_pc 322 rfl ?_
  refine nw_dup F dX8_init_322 rfl ?_
  refine nw_iconst (v := 1) F dX8_init_323 (by decide) ?_
  refine nw_iconst (v := 2) F dX8_init_324 (by decide) ?_
  refine nw_iastL F dX8_init_325 (vpd (by decide)) ?_
  refine ew_pc 326 rfl ?_
  refine nw_dup F dX8_init_326 rfl ?_
  refine nw_iconst (v := 2) F dX8_init_327 (by decide) ?_
  refine nw_iconst (v := 4) F dX8_init_328 (by decide) ?_
  refine nw_iastL F dX8_init_329 (vpd (by decide)) ?_
  refine ew_pc 330 rfl ?_
  refine nw_dup F dX8_init_330 rfl ?_
  refine nw_iconst (v := 3) F dX8_init_331 (by decide) ?_
  refine nw_iconst (v := 5) F dX8_init_332 (by decide) ?_
  refine nw_iastL F dX8_init_333 (vpd (by decide)) ?_
  refine ew_pc 334 rfl ?_
  refine nw_dup F dX8_init_334 rfl ?_
  refine nw_iconst (v := 4) F dX8_init_335 (by decide) ?_
  refine nw_bipush (v := 6) F dX8_init_336 (by decide) ?_
  refine nw_iastL F dX8_init_338 (vpd (by decide)) ?_
  refine ew_pc 339 rfl ?_
  refine nw_dup F dX8_init_339 rfl ?_
  refine nw_iconst (v := 5) F dX8_init_340 (by decide) ?_
  refine nw_bipush (v := 8) F dX8_init_341 (by decide) ?_
  refine nw_iastL F dX8_init_343 (vpd (by decide)) ?_
  refine ew_pc 344 rfl ?_
  refine nw_dup F dX8_init_344 rfl ?_
  refine nw_bipush (v := 6) F dX8_init_345 (by decide) ?_
  refine nw_bipush (v := 12) F dX8_init_347 (by decide) ?_
  refine nw_iastL F dX8_init_349 (vpd (by decide)) ?_
  generalize hf42 : upd _ _ _ = f42
  refine nw_c0 ?_
  generalize hR5 : (R4 ++ [(r42, .inl (cA g 0, 7, .inl f42))] : va_W) = R5
  refine nw_p0F 12 (fs1 := [.ref r38, .int 0, .int 0, .int 0, .int 0, .int 0, .int 0, .int 0, .int 0, .ref r39, .ref r40, .ref r41, .ref r42, .null, .null, .null, .null, .null, .int 0, .null, .null, .int 0, .int 0, .null, .int 0, .null, .null, .null, .int 0, .null, .null, .null, .null, .null, .int 0]) F dX8_init_350 inX8 tyX8 tyX8_ok nmX8 rfl (by decide) fl_X8_22 rfl rfl rfl (tyX8_ok 12 (by decide)) rfl rfl (Nat.le_of_ble_eq_true rfl) rfl ?_
  refine ew_pc 353 rfl ?_
  refine nw_aload_n F dX8_init_353 rfl rfl ?_
  refine nw_bipush (v := 13) F dX8_init_354 (by decide) ?_
  refine nw_newaI (N := 13) F dX8_init_356 (by decide) (by decide) aw_int (Nat.le_of_ble_eq_true rfl) (by rw [hcs]; exact Nat.le_of_ble_eq_true rfl) (by rw [hss]; exact Nat.le_of_ble_eq_true rfl) (fun r43 => ?_)
  refine ew_pc 358 rfl ?_
  refine nw_dup F dX8_init_358 rfl ?_
  refine nw_iconst (v := 0) F dX8_init_359 (by decide) ?_
  refine nw_bipush (v := 10) F dX8_init_360 (by decide) ?_
  refine nw_iastL F dX8_init_362 (vpd (by decide)) ?_
  refine ew_pc 363 rfl ?_
  refine nw_dup F dX8_init_363 rfl ?_
  refine nw_iconst (v := 1) F dX8_init_364 (by decide) ?_
  refine nw_iconst (v := 0) F dX8_init_365 (by decide) ?_
  refine nw_iastL F dX8_init_366 (vpd (by decide)) ?_
  refine ew_pc 367 rfl ?_
  refine nw_dup F dX8_init_367 rfl ?_
  refine nw_iconst (v := 2) F dX8_init_368 (by decide) ?_
  refine nw_iconst (v := 1) F dX8_init_369 (by decide) ?_
  refine nw_iastL F dX8_init_370 (vpd (by decide)) ?_
  refine ew_pc 371 rfl ?_
  refine nw_dup F dX8_init_371 rfl ?_
  refine nw_iconst (v := 3) F dX8_init_372 (by decide) ?_
  refine nw_iconst (v := 0) F dX8_init_373 (by decide) ?_
  refine nw_iastL F dX8_init_374 (vpd (by decide)) ?_
  refine ew_pc 375 rfl ?_
  refine nw_dup F dX8_init_375 rfl ?_
  refine nw_iconst (v := 4) F dX8_init_376 (by decide) ?_
  refine nw_iconst (v := 0) F dX8_init_377 (by decide) ?_
  refine nw_iastL F dX8_init_378 (vpd (by decide)) ?_
  refine ew_pc 379 rfl ?_
  refine nw_dup F dX8_init_379 rfl ?_
  refine nw_iconst (v := 5) F dX8_init_380 (by decide) ?_
  refine nw_iconst (v := 3) F dX8_init_381 (by decide) ?_
  refine nw_iastL F dX8_init_382 (vpd (by decide)) ?_
  refine ew_pc 383 rfl ?_
  refine nw_dup F dX8_init_383 rfl ?_
  refine nw_bipush (v := 6) F dX8_init_384 (by decide) ?_
  refine nw_iconst (v := 1) F dX8_init_386 (by decide) ?_
  refine nw_iastL F dX8_init_387 (vpd (by decide)) ?_
  refine ew_pc 388 rfl ?_
  refine nw_dup F dX8_init_388 rfl ?_
  refine nw_bipush (v := 7) F dX8_init_389 (by decide) ?_
  refine nw_iconst (v := 0) F dX8_init_391 (by decide) ?_
  refine nw_iastL F dX8_init_392 (vpd (by decide)) ?_
  refine ew_pc 393 rfl ?_
  refine nw_dup F dX8_init_393 rfl ?_
  refine nw_bipush (v := 8) F dX8_init_394 (by decide) ?_
  refine nw_iconst (v := 0) F dX8_init_396 (by decide) ?_
  refine nw_iastL F dX8_init_397 (vpd (by decide)) ?_
  refine ew_pc 398 rfl ?_
  refine nw_dup F dX8_init_398 rfl ?_
  refine nw_bipush (v := 9) F dX8_init_399 (by decide) ?_
  refine nw_iconst (v := 0) F dX8_init_401 (by decide) ?_
  refine nw_iastL F dX8_init_402 (vpd (by decide)) ?_
  refine ew_pc 403 rfl ?_
  refine nw_dup F dX8_init_403 rfl ?_
  refine nw_bipush (v := 10) F dX8_init_404 (by decide) ?_
  refine nw_iconst (v := 0) F dX8_init_406 (by decide) ?_
  refine nw_iastL F dX8_init_407 (vpd (by decide)) ?_
  refine ew_pc 408 rfl ?_
  refine nw_dup F dX8_init_408 rfl ?_
  refine nw_bipush (v := 11) F dX8_init_409 (by decide) ?_
  refine nw_iconst (v := 0) F dX8_init_411 (by decide) ?_
  refine nw_iastL F dX8_init_412 (vpd (by decide)) ?_
  refine ew_pc 413 rfl ?_
  refine nw_dup F dX8_init_413 rfl ?_
  refine nw_bipush (v := 12) F dX8_init_414 (by decide) ?_
  refine nw_iconst (v := 0) F dX8_init_416 (by decide) ?_
  refine nw_iastL F dX8_init_417 (vpd (by decide)) ?_
  generalize hf43 : upd _ _ _ = f43
  refine nw_c0 ?_
  generalize hR6 : (R5 ++ [(r43, .inl (cA g 0, 13, .inl f43))] : va_W) = R6
  refine nw_p0F 13 (fs1 := [.ref r38, .int 0, .int 0, .int 0, .int 0, .int 0, .int 0, .int 0, .int 0, .ref r39, .ref r40, .ref r41, .ref r42, .ref r43, .null, .null, .null, .null, .int 0, .null, .null, .int 0, .int 0, .null, .int 0, .null, .null, .null, .int 0, .null, .null, .null, .null, .null, .int 0]) F dX8_init_418 inX8 tyX8 tyX8_ok nmX8 rfl (by decide) fl_X8_25 rfl rfl rfl (tyX8_ok 13 (by decide)) rfl rfl (Nat.le_of_ble_eq_true rfl) rfl ?_
  refine ew_pc 421 rfl ?_
  refine nw_aload_n F dX8_init_421 rfl rfl ?_
  refine nw_bipush (v := 13) F dX8_init_422 (by decide) ?_
  refine nw_newaI (N := 13) F dX8_init_424 (by decide) (by decide) aw_int (Nat.le_of_ble_eq_true rfl) (by rw [hcs]; exact Nat.le_of_ble_eq_true rfl) (by rw [hss]; exact Nat.le_of_ble_eq_true rfl) (fun r44 => ?_)
  refine ew_pc 426 rfl ?_
  refine nw_dup F dX8_init_426 rfl ?_
  refine nw_iconst (v := 0) F dX8_init_427 (by decide) ?_
  refine nw_sipush (v := 400) F dX8_init_428 (by decide) ?_
  refine nw_iastL F dX8_init_431 (vpd (by decide)) ?_
  refine ew_pc 432 rfl ?_
  refine nw_dup F dX8_init_432 rfl ?_
  refine nw_iconst (v := 1) F dX8_init_433 (by decide) ?_
  refine nw_sipush (v := 400) F dX8_init_434 (by decide) ?_
  refine nw_iastL F dX8_init_437 (vpd (by decide)) ?_
  refine ew_pc 438 rfl ?_
  refine nw_dup F dX8_init_438 rfl ?_
  refine nw_iconst (v := 2) F dX8_init_439 (by decide) ?_
  refine nw_bipush (v := 99) F dX8_init_440 (by decide) ?_
  refine nw_iastL F dX8_init_442 (vpd (by decide)) ?_
  refine ew_pc 443 rfl ?_
  refine nw_dup F dX8_init_443 rfl ?_
  refine nw_iconst (v := 3) F dX8_init_444 (by decide) ?_
  refine nw_bipush (v := 50) F dX8_init_445 (by decide) ?_
  refine nw_iastL F dX8_init_447 (vpd (by decide)) ?_
  refine ew_pc 448 rfl ?_
  refine nw_dup F dX8_init_448 rfl ?_
  refine nw_iconst (v := 4) F dX8_init_449 (by decide) ?_
  refine nw_bipush (v := 99) F dX8_init_450 (by decide) ?_
  refine nw_iastL F dX8_init_452 (vpd (by decide)) ?_
  refine ew_pc 453 rfl ?_
  refine nw_dup F dX8_init_453 rfl ?_
  refine nw_iconst (v := 5) F dX8_init_454 (by decide) ?_
  refine nw_bipush (v := 6) F dX8_init_455 (by decide) ?_
  refine nw_iastL F dX8_init_457 (vpd (by decide)) ?_
  refine ew_pc 458 rfl ?_
  refine nw_dup F dX8_init_458 rfl ?_
  refine nw_bipush (v := 6) F dX8_init_459 (by decide) ?_
  refine nw_bipush (v := 99) F dX8_init_461 (by decide) ?_
  refine nw_iastL F dX8_init_463 (vpd (by decide)) ?_
  refine ew_pc 464 rfl ?_
  refine nw_dup F dX8_init_464 rfl ?_
  refine nw_bipush (v := 7) F dX8_init_465 (by decide) ?_
  refine nw_bipush (v := 100) F dX8_init_467 (by decide) ?_
  refine nw_iastL F dX8_init_469 (vpd (by decide)) ?_
  refine ew_pc 470 rfl ?_
  refine nw_dup F dX8_init_470 rfl ?_
  refine nw_bipush (v := 8) F dX8_init_471 (by decide) ?_
  refine nw_bipush (v := 100) F dX8_init_473 (by decide) ?_
  refine nw_iastL F dX8_init_475 (vpd (by decide)) ?_
  refine ew_pc 476 rfl ?_
  refine nw_dup F dX8_init_476 rfl ?_
  refine nw_bipush (v := 9) F dX8_init_477 (by decide) ?_
  refine nw_bipush (v := 99) F dX8_init_479 (by decide) ?_
  refine nw_iastL F dX8_init_481 (vpd (by decide)) ?_
  refine ew_pc 482 rfl ?_
  refine nw_dup F dX8_init_482 rfl ?_
  refine nw_bipush (v := 10) F dX8_init_483 (by decide) ?_
  refine nw_bipush (v := 99) F dX8_init_485 (by decide) ?_
  refine nw_iastL F dX8_init_487 (vpd (by decide)) ?_
  refine ew_pc 488 rfl ?_
  refine nw_dup F dX8_init_488 rfl ?_
  refine nw_bipush (v := 11) F dX8_init_489 (by decide) ?_
  refine nw_bipush (v := 99) F dX8_init_491 (by decide) ?_
  refine nw_iastL F dX8_init_493 (vpd (by decide)) ?_
  refine ew_pc 494 rfl ?_
  refine nw_dup F dX8_init_494 rfl ?_
  refine nw_bipush (v := 12) F dX8_init_495 (by decide) ?_
  refine nw_bipush (v := 99) F dX8_init_497 (by decide) ?_
  refine nw_iastL F dX8_init_499 (vpd (by decide)) ?_
  generalize hf44 : upd _ _ _ = f44
  refine nw_c0 ?_
  generalize hR7 : (R6 ++ [(r44, .inl (cA g 0, 13, .inl f44))] : va_W) = R7
  refine nw_p0F 14 (fs1 := [.ref r38, .int 0, .int 0, .int 0, .int 0, .int 0, .int 0, .int 0, .int 0, .ref r39, .ref r40, .ref r41, .ref r42, .ref r43, .ref r44, .null, .null, .null, .int 0, .null, .null, .int 0, .int 0, .null, .int 0, .null, .null, .null, .int 0, .null, .null, .null, .null, .null, .int 0]) F dX8_init_500 inX8 tyX8 tyX8_ok nmX8 rfl (by decide) fl_X8_28 rfl rfl rfl (tyX8_ok 14 (by decide)) rfl rfl (Nat.le_of_ble_eq_true rfl) rfl ?_
  refine ew_pc 503 rfl ?_
  refine nw_aload_n F dX8_init_503 rfl rfl ?_
  refine nw_bipush (v := 13) F dX8_init_504 (by decide) ?_
  refine nw_newaI (N := 13) F dX8_init_506 (by decide) (by decide) aw_int (Nat.le_of_ble_eq_true rfl) (by rw [hcs]; exact Nat.le_of_ble_eq_true rfl) (by rw [hss]; exact Nat.le_of_ble_eq_true rfl) (fun r45 => ?_)
  refine ew_pc 508 rfl ?_
  refine nw_dup F dX8_init_508 rfl ?_
  refine nw_iconst (v := 0) F dX8_init_509 (by decide) ?_
  refine nw_bipush (v := 100) F dX8_init_510 (by decide) ?_
  refine nw_iastL F dX8_init_512 (vpd (by decide)) ?_
  refine ew_pc 513 rfl ?_
  refine nw_dup F dX8_init_513 rfl ?_
  refine nw_iconst (v := 1) F dX8_init_514 (by decide) ?_
  refine nw_sipush (v := 130) F dX8_init_515 (by decide) ?_
  refine nw_iastL F dX8_init_518 (vpd (by decide)) ?_
  refine ew_pc 519 rfl ?_
  refine nw_dup F dX8_init_519 rfl ?_
  refine nw_iconst (v := 2) F dX8_init_520 (by decide) ?_
  refine nw_bipush (v := 10) F dX8_init_521 (by decide) ?_
  refine nw_iastL F dX8_init_523 (vpd (by decide)) ?_
  refine ew_pc 524 rfl ?_
  refine nw_dup F dX8_init_524 rfl ?_
  refine nw_iconst (v := 3) F dX8_init_525 (by decide) ?_
  refine nw_bipush (v := 10) F dX8_init_526 (by decide) ?_
  refine nw_iastL F dX8_init_528 (vpd (by decide)) ?_
  refine ew_pc 529 rfl ?_
  refine nw_dup F dX8_init_529 rfl ?_
  refine nw_iconst (v := 4) F dX8_init_530 (by decide) ?_
  refine nw_bipush (v := 20) F dX8_init_531 (by decide) ?_
  refine nw_iastL F dX8_init_533 (vpd (by decide)) ?_
  refine ew_pc 534 rfl ?_
  refine nw_dup F dX8_init_534 rfl ?_
  refine nw_iconst (v := 5) F dX8_init_535 (by decide) ?_
  refine nw_iconst (v := 4) F dX8_init_536 (by decide) ?_
  refine nw_iastL F dX8_init_537 (vpd (by decide)) ?_
  refine ew_pc 538 rfl ?_
  refine nw_dup F dX8_init_538 rfl ?_
  refine nw_bipush (v := 6) F dX8_init_539 (by decide) ?_
  refine nw_bipush (v := 10) F dX8_init_541 (by decide) ?_
  refine nw_iastL F dX8_init_543 (vpd (by decide)) ?_
  refine ew_pc 544 rfl ?_
  refine nw_dup F dX8_init_544 rfl ?_
  refine nw_bipush (v := 7) F dX8_init_545 (by decide) ?_
  refine nw_bipush (v := 20) F dX8_init_547 (by decide) ?_
  refine nw_iastL F dX8_init_549 (vpd (by decide)) ?_
  refine ew_pc 550 rfl ?_
  refine nw_dup F dX8_init_550 rfl ?_
  refine nw_bipush (v := 8) F dX8_init_551 (by decide) ?_
  refine nw_bipush (v := 80) F dX8_init_553 (by decide) ?_
  refine nw_iastL F dX8_init_555 (vpd (by decide)) ?_
  refine ew_pc 556 rfl ?_
  refine nw_dup F dX8_init_556 rfl ?_
  refine nw_bipush (v := 9) F dX8_init_557 (by decide) ?_
  refine nw_bipush (v := 64) F dX8_init_559 (by decide) ?_
  refine nw_iastL F dX8_init_561 (vpd (by decide)) ?_
  refine ew_pc 562 rfl ?_
  refine nw_dup F dX8_init_562 rfl ?_
  refine nw_bipush (v := 10) F dX8_init_563 (by decide) ?_
  refine nw_bipush (v := 16) F dX8_init_565 (by decide) ?_
  refine nw_iastL F dX8_init_567 (vpd (by decide)) ?_
  refine ew_pc 568 rfl ?_
  refine nw_dup F dX8_init_568 rfl ?_
  refine nw_bipush (v := 11) F dX8_init_569 (by decide) ?_
  refine nw_iconst (v := 4) F dX8_init_571 (by decide) ?_
  refine nw_iastL F dX8_init_572 (vpd (by decide)) ?_
  refine ew_pc 573 rfl ?_
  refine nw_dup F dX8_init_573 rfl ?_
  refine nw_bipush (v := 12) F dX8_init_574 (by decide) ?_
  refine nw_iconst (v := 0) F dX8_init_576 (by decide) ?_
  refine nw_iastL F dX8_init_577 (vpd (by decide)) ?_
  generalize hf45 : upd _ _ _ = f45
  refine nw_c0 ?_
  generalize hR8 : (R7 ++ [(r45, .inl (cA g 0, 13, .inl f45))] : va_W) = R8
  refine nw_p0F 15 (fs1 := [.ref r38, .int 0, .int 0, .int 0, .int 0, .int 0, .int 0, .int 0, .int 0, .ref r39, .ref r40, .ref r41, .ref r42, .ref r43, .ref r44, .ref r45, .null, .null, .int 0, .null, .null, .int 0, .int 0, .null, .int 0, .null, .null, .null, .int 0, .null, .null, .null, .null, .null, .int 0]) F dX8_init_578 inX8 tyX8 tyX8_ok nmX8 rfl (by decide) fl_X8_31 rfl rfl rfl (tyX8_ok 15 (by decide)) rfl rfl (Nat.le_of_ble_eq_true rfl) rfl ?_
  refine ew_pc 581 rfl ?_
  refine nw_aload_n F dX8_init_581 rfl rfl ?_
  refine nw_bipush (v := 13) F dX8_init_582 (by decide) ?_
  refine nw_newaI (N := 13) F dX8_init_584 (by decide) (by decide) aw_int (Nat.le_of_ble_eq_true rfl) (by rw [hcs]; exact Nat.le_of_ble_eq_true rfl) (by rw [hss]; exact Nat.le_of_ble_eq_true rfl) (fun r46 => ?_)
  refine ew_pc 586 rfl ?_
  refine nw_dup F dX8_init_586 rfl ?_
  refine nw_iconst (v := 0) F dX8_init_587 (by decide) ?_
  refine nw_bipush (v := 100) F dX8_init_588 (by decide) ?_
  refine nw_iastL F dX8_init_590 (vpd (by decide)) ?_
  refine ew_pc 591 rfl ?_
  refine nw_dup F dX8_init_591 rfl ?_
  refine nw_iconst (v := 1) F dX8_init_592 (by decide) ?_
  refine nw_sipush (v := 130) F dX8_init_593 (by decide) ?_
  refine nw_iastL F dX8_init_596 (vpd (by decide)) ?_
  refine ew_pc 597 rfl ?_
  refine nw_dup F dX8_init_597 rfl ?_
  refine nw_iconst (v := 2) F dX8_init_598 (by decide) ?_
  refine nw_bipush (v := 10) F dX8_init_599 (by decide) ?_
  refine nw_iastL F dX8_init_601 (vpd (by decide)) ?_
  refine ew_pc 602 rfl ?_
  refine nw_dup F dX8_init_602 rfl ?_
  refine nw_iconst (v := 3) F dX8_init_603 (by decide) ?_
  refine nw_bipush (v := 10) F dX8_init_604 (by decide) ?_
  refine nw_iastL F dX8_init_606 (vpd (by decide)) ?_
  refine ew_pc 607 rfl ?_
  refine nw_dup F dX8_init_607 rfl ?_
  refine nw_iconst (v := 4) F dX8_init_608 (by decide) ?_
  refine nw_bipush (v := 20) F dX8_init_609 (by decide) ?_
  refine nw_iastL F dX8_init_611 (vpd (by decide)) ?_
  refine ew_pc 612 rfl ?_
  refine nw_dup F dX8_init_612 rfl ?_
  refine nw_iconst (v := 5) F dX8_init_613 (by decide) ?_
  refine nw_iconst (v := 4) F dX8_init_614 (by decide) ?_
  refine nw_iastL F dX8_init_615 (vpd (by decide)) ?_
  refine ew_pc 616 rfl ?_
  refine nw_dup F dX8_init_616 rfl ?_
  refine nw_bipush (v := 6) F dX8_init_617 (by decide) ?_
  refine nw_bipush (v := 10) F dX8_init_619 (by decide) ?_
  refine nw_iastL F dX8_init_621 (vpd (by decide)) ?_
  refine ew_pc 622 rfl ?_
  refine nw_dup F dX8_init_622 rfl ?_
  refine nw_bipush (v := 7) F dX8_init_623 (by decide) ?_
  refine nw_bipush (v := 20) F dX8_init_625 (by decide) ?_
  refine nw_iastL F dX8_init_627 (vpd (by decide)) ?_
  refine ew_pc 628 rfl ?_
  refine nw_dup F dX8_init_628 rfl ?_
  refine nw_bipush (v := 8) F dX8_init_629 (by decide) ?_
  refine nw_bipush (v := 80) F dX8_init_631 (by decide) ?_
  refine nw_iastL F dX8_init_633 (vpd (by decide)) ?_
  refine ew_pc 634 rfl ?_
  refine nw_dup F dX8_init_634 rfl ?_
  refine nw_bipush (v := 9) F dX8_init_635 (by decide) ?_
  refine nw_bipush (v := 64) F dX8_init_637 (by decide) ?_
  refine nw_iastL F dX8_init_639 (vpd (by decide)) ?_
  refine ew_pc 640 rfl ?_
  refine nw_dup F dX8_init_640 rfl ?_
  refine nw_bipush (v := 10) F dX8_init_641 (by decide) ?_
  refine nw_bipush (v := 16) F dX8_init_643 (by decide) ?_
  refine nw_iastL F dX8_init_645 (vpd (by decide)) ?_
  refine ew_pc 646 rfl ?_
  refine nw_dup F dX8_init_646 rfl ?_
  refine nw_bipush (v := 11) F dX8_init_647 (by decide) ?_
  refine nw_iconst (v := 4) F dX8_init_649 (by decide) ?_
  refine nw_iastL F dX8_init_650 (vpd (by decide)) ?_
  refine ew_pc 651 rfl ?_
  refine nw_dup F dX8_init_651 rfl ?_
  refine nw_bipush (v := 12) F dX8_init_652 (by decide) ?_
  refine nw_iconst (v := 0) F dX8_init_654 (by decide) ?_
  refine nw_iastL F dX8_init_655 (vpd (by decide)) ?_
  generalize hf46 : upd _ _ _ = f46
  refine nw_c0 ?_
  generalize hR9 : (R8 ++ [(r46, .inl (cA g 0, 13, .inl f46))] : va_W) = R9
  refine nw_p0F 16 (fs1 := [.ref r38, .int 0, .int 0, .int 0, .int 0, .int 0, .int 0, .int 0, .int 0, .ref r39, .ref r40, .ref r41, .ref r42, .ref r43, .ref r44, .ref r45, .ref r46, .null, .int 0, .null, .null, .int 0, .int 0, .null, .int 0, .null, .null, .null, .int 0, .null, .null, .null, .null, .null, .int 0]) F dX8_init_656 inX8 tyX8 tyX8_ok nmX8 rfl (by decide) fl_X8_34 rfl rfl rfl (tyX8_ok 16 (by decide)) rfl rfl (Nat.le_of_ble_eq_true rfl) rfl ?_
  refine ew_pc 659 rfl ?_
  refine nw_aload_n F dX8_init_659 rfl rfl ?_
  refine nw_bipush (v := 16) F dX8_init_660 (by decide) ?_
  refine nw_newaI (N := 16) F dX8_init_662 (by decide) (by decide) aw_int (Nat.le_of_ble_eq_true rfl) (by rw [hcs]; exact Nat.le_of_ble_eq_true rfl) (by rw [hss]; exact Nat.le_of_ble_eq_true rfl) (fun r47 => ?_)
  refine nw_c0 ?_
  generalize hR10 : (R9 ++ [(r47, .inl (cA g 0, 16, .inl (fun _ => 0)))] : va_W) = R10
  refine nw_p0F 17 (fs1 := [.ref r38, .int 0, .int 0, .int 0, .int 0, .int 0, .int 0, .int 0, .int 0, .ref r39, .ref r40, .ref r41, .ref r42, .ref r43, .ref r44, .ref r45, .ref r46, .ref r47, .int 0, .null, .null, .int 0, .int 0, .null, .int 0, .null, .null, .null, .int 0, .null, .null, .null, .null, .null, .int 0]) F dX8_init_664 inX8 tyX8 tyX8_ok nmX8 rfl (by decide) fl_X8_37 rfl rfl rfl (tyX8_ok 17 (by decide)) rfl rfl (Nat.le_of_ble_eq_true rfl) rfl ?_
  refine ew_pc 667 rfl ?_
  refine nw_aload_n F dX8_init_667 rfl rfl ?_
  refine nw_bipush (v := 13) F dX8_init_668 (by decide) ?_
  refine nw_newaI (N := 13) F dX8_init_670 (by decide) (by decide) aw_int (Nat.le_of_ble_eq_true rfl) (by rw [hcs]; exact Nat.le_of_ble_eq_true rfl) (by rw [hss]; exact Nat.le_of_ble_eq_true rfl) (fun r48 => ?_)
  refine nw_c0 ?_
  generalize hR11 : (R10 ++ [(r48, .inl (cA g 0, 13, .inl (fun _ => 0)))] : va_W) = R11
  refine nw_p0F 19 (fs1 := [.ref r38, .int 0, .int 0, .int 0, .int 0, .int 0, .int 0, .int 0, .int 0, .ref r39, .ref r40, .ref r41, .ref r42, .ref r43, .ref r44, .ref r45, .ref r46, .ref r47, .int 0, .ref r48, .null, .int 0, .int 0, .null, .int 0, .null, .null, .null, .int 0, .null, .null, .null, .null, .null, .int 0]) F dX8_init_672 inX8 tyX8 tyX8_ok nmX8 rfl (by decide) fl_X8_40 rfl rfl rfl (tyX8_ok 19 (by decide)) rfl rfl (Nat.le_of_ble_eq_true rfl) rfl ?_
  refine ew_pc 675 rfl ?_
  refine nw_aload_n F dX8_init_675 rfl rfl ?_
  refine nw_bipush (v := 16) F dX8_init_676 (by decide) ?_
  refine nw_newaI (N := 16) F dX8_init_678 (by decide) (by decide) aw_int (Nat.le_of_ble_eq_true rfl) (by rw [hcs]; exact Nat.le_of_ble_eq_true rfl) (by rw [hss]; exact Nat.le_of_ble_eq_true rfl) (fun r49 => ?_)
  refine nw_c0 ?_
  generalize hR12 : (R11 ++ [(r49, .inl (cA g 0, 16, .inl (fun _ => 0)))] : va_W) = R12
  refine nw_p0F 20 (fs1 := [.ref r38, .int 0, .int 0, .int 0, .int 0, .int 0, .int 0, .int 0, .int 0, .ref r39, .ref r40, .ref r41, .ref r42, .ref r43, .ref r44, .ref r45, .ref r46, .ref r47, .int 0, .ref r48, .ref r49, .int 0, .int 0, .null, .int 0, .null, .null, .null, .int 0, .null, .null, .null, .null, .null, .int 0]) F dX8_init_680 inX8 tyX8 tyX8_ok nmX8 rfl (by decide) fl_X8_43 rfl rfl rfl (tyX8_ok 20 (by decide)) rfl rfl (Nat.le_of_ble_eq_true rfl) rfl ?_
  refine ew_pc 683 rfl ?_
  refine nw_aload_n F dX8_init_683 rfl rfl ?_
  refine nw_bipush (v := 80) F dX8_init_684 (by decide) ?_
  refine nw_newaI (N := 80) F dX8_init_686 (by decide) (by decide) aw_int (Nat.le_of_ble_eq_true rfl) (by rw [hcs]; exact Nat.le_of_ble_eq_true rfl) (by rw [hss]; exact Nat.le_of_ble_eq_true rfl) (fun r50 => ?_)
  refine nw_c0 ?_
  generalize hR13 : (R12 ++ [(r50, .inl (cA g 0, 80, .inl (fun _ => 0)))] : va_W) = R13
  refine nw_p0F 23 (fs1 := [.ref r38, .int 0, .int 0, .int 0, .int 0, .int 0, .int 0, .int 0, .int 0, .ref r39, .ref r40, .ref r41, .ref r42, .ref r43, .ref r44, .ref r45, .ref r46, .ref r47, .int 0, .ref r48, .ref r49, .int 0, .int 0, .ref r50, .int 0, .null, .null, .null, .int 0, .null, .null, .null, .null, .null, .int 0]) F dX8_init_688 inX8 tyX8 tyX8_ok nmX8 rfl (by decide) fl_X8_46 rfl rfl rfl (tyX8_ok 23 (by decide)) rfl rfl (Nat.le_of_ble_eq_true rfl) rfl ?_
  refine ew_pc 691 rfl ?_
  refine nw_aload_n F dX8_init_691 rfl rfl ?_
  refine nw_bipush (v := 7) F dX8_init_692 (by decide) ?_
  refine nw_newaI (N := 7) F dX8_init_694 (by decide) (by decide) aw_int (Nat.le_of_ble_eq_true rfl) (by rw [hcs]; exact Nat.le_of_ble_eq_true rfl) (by rw [hss]; exact Nat.le_of_ble_eq_true rfl) (fun r51 => ?_)
  refine nw_c0 ?_
  generalize hR14 : (R13 ++ [(r51, .inl (cA g 0, 7, .inl (fun _ => 0)))] : va_W) = R14
  refine nw_p0F 25 (fs1 := [.ref r38, .int 0, .int 0, .int 0, .int 0, .int 0, .int 0, .int 0, .int 0, .ref r39, .ref r40, .ref r41, .ref r42, .ref r43, .ref r44, .ref r45, .ref r46, .ref r47, .int 0, .ref r48, .ref r49, .int 0, .int 0, .ref r50, .int 0, .ref r51, .null, .null, .int 0, .null, .null, .null, .null, .null, .int 0]) F dX8_init_696 inX8 tyX8 tyX8_ok nmX8 rfl (by decide) fl_X8_49 rfl rfl rfl (tyX8_ok 25 (by decide)) rfl rfl (Nat.le_of_ble_eq_true rfl) rfl ?_
  refine ew_pc 699 rfl ?_
  refine nw_aload_n F dX8_init_699 rfl rfl ?_
  refine nw_iconst (v := 4) F dX8_init_700 (by decide) ?_
  refine nw_newaI (N := 4) F dX8_init_701 (by decide) (by decide) aw_int (Nat.le_of_ble_eq_true rfl) (by rw [hcs]; exact Nat.le_of_ble_eq_true rfl) (by rw [hss]; exact Nat.le_of_ble_eq_true rfl) (fun r52 => ?_)
  refine nw_c0 ?_
  generalize hR15 : (R14 ++ [(r52, .inl (cA g 0, 4, .inl (fun _ => 0)))] : va_W) = R15
  refine nw_p0F 26 (fs1 := [.ref r38, .int 0, .int 0, .int 0, .int 0, .int 0, .int 0, .int 0, .int 0, .ref r39, .ref r40, .ref r41, .ref r42, .ref r43, .ref r44, .ref r45, .ref r46, .ref r47, .int 0, .ref r48, .ref r49, .int 0, .int 0, .ref r50, .int 0, .ref r51, .ref r52, .null, .int 0, .null, .null, .null, .null, .null, .int 0]) F dX8_init_703 inX8 tyX8 tyX8_ok nmX8 rfl (by decide) fl_X8_52 rfl rfl rfl (tyX8_ok 26 (by decide)) rfl rfl (Nat.le_of_ble_eq_true rfl) rfl ?_
  refine ew_pc 706 rfl ?_
  refine nw_aload_n F dX8_init_706 rfl rfl ?_
  refine nw_bipush (v := 16) F dX8_init_707 (by decide) ?_
  refine nw_newaI (N := 16) F dX8_init_709 (by decide) (by decide) aw_int (Nat.le_of_ble_eq_true rfl) (by rw [hcs]; exact Nat.le_of_ble_eq_true rfl) (by rw [hss]; exact Nat.le_of_ble_eq_true rfl) (fun r53 => ?_)
  refine nw_c0 ?_
  generalize hR16 : (R15 ++ [(r53, .inl (cA g 0, 16, .inl (fun _ => 0)))] : va_W) = R16
  refine nw_p0F 27 (fs1 := [.ref r38, .int 0, .int 0, .int 0, .int 0, .int 0, .int 0, .int 0, .int 0, .ref r39, .ref r40, .ref r41, .ref r42, .ref r43, .ref r44, .ref r45, .ref r46, .ref r47, .int 0, .ref r48, .ref r49, .int 0, .int 0, .ref r50, .int 0, .ref r51, .ref r52, .ref r53, .int 0, .null, .null, .null, .null, .null, .int 0]) F dX8_init_711 inX8 tyX8 tyX8_ok nmX8 rfl (by decide) fl_X8_55 rfl rfl rfl (tyX8_ok 27 (by decide)) rfl rfl (Nat.le_of_ble_eq_true rfl) rfl ?_
  refine ew_pc 714 rfl ?_
  refine nw_aload_n F dX8_init_714 rfl rfl ?_
  refine nw_bipush (v := 8) F dX8_init_715 (by decide) ?_
  refine nw_newaI (N := 8) F dX8_init_717 (by decide) (by decide) aw_int (Nat.le_of_ble_eq_true rfl) (by rw [hcs]; exact Nat.le_of_ble_eq_true rfl) (by rw [hss]; exact Nat.le_of_ble_eq_true rfl) (fun r54 => ?_)
  refine nw_c0 ?_
  generalize hR17 : (R16 ++ [(r54, .inl (cA g 0, 8, .inl (fun _ => 0)))] : va_W) = R17
  refine nw_p0F 29 (fs1 := [.ref r38, .int 0, .int 0, .int 0, .int 0, .int 0, .int 0, .int 0, .int 0, .ref r39, .ref r40, .ref r41, .ref r42, .ref r43, .ref r44, .ref r45, .ref r46, .ref r47, .int 0, .ref r48, .ref r49, .int 0, .int 0, .ref r50, .int 0, .ref r51, .ref r52, .ref r53, .int 0, .ref r54, .null, .null, .null, .null, .int 0]) F dX8_init_719 inX8 tyX8 tyX8_ok nmX8 rfl (by decide) fl_X8_58 rfl rfl rfl (tyX8_ok 29 (by decide)) rfl rfl (Nat.le_of_ble_eq_true rfl) rfl ?_
  refine ew_pc 722 rfl ?_
  refine nw_aload_n F dX8_init_722 rfl rfl ?_
  refine nw_iconst (v := 2) F dX8_init_723 (by decide) ?_
  refine nw_newaZ (N := 2) F dX8_init_724 (by decide) (by decide) aw_boolean (Nat.le_of_ble_eq_true rfl) (by rw [hcs]; exact Nat.le_of_ble_eq_true rfl) (by rw [hss]; exact Nat.le_of_ble_eq_true rfl) (fun r55 => ?_)
  refine nw_c0 ?_
  generalize hR18 : (R17 ++ [(r55, .inl (cA g 2, 2, .inl (fun _ => 0)))] : va_W) = R18
  refine nw_p0F 30 (fs1 := [.ref r38, .int 0, .int 0, .int 0, .int 0, .int 0, .int 0, .int 0, .int 0, .ref r39, .ref r40, .ref r41, .ref r42, .ref r43, .ref r44, .ref r45, .ref r46, .ref r47, .int 0, .ref r48, .ref r49, .int 0, .int 0, .ref r50, .int 0, .ref r51, .ref r52, .ref r53, .int 0, .ref r54, .ref r55, .null, .null, .null, .int 0]) F dX8_init_726 inX8 tyX8 tyX8_ok nmX8 rfl (by decide) fl_X8_61 rfl rfl rfl (tyX8_ok 30 (by decide)) rfl rfl (Nat.le_of_ble_eq_true rfl) rfl ?_
  refine ew_pc 729 rfl ?_
  refine nw_aload_n F dX8_init_729 rfl rfl ?_
  refine nw_iconst (v := 4) F dX8_init_730 (by decide) ?_
  refine nw_newaI (N := 4) F dX8_init_731 (by decide) (by decide) aw_int (Nat.le_of_ble_eq_true rfl) (by rw [hcs]; exact Nat.le_of_ble_eq_true rfl) (by rw [hss]; exact Nat.le_of_ble_eq_true rfl) (fun r56 => ?_)
  refine ew_pc 733 rfl ?_
  refine nw_dup F dX8_init_733 rfl ?_
  refine nw_iconst (v := 0) F dX8_init_734 (by decide) ?_
  refine nw_bipush (v := -4) F dX8_init_735 (by decide) ?_
  refine nw_iastL F dX8_init_737 (vpd (by decide)) ?_
  refine ew_pc 738 rfl ?_
  refine nw_dup F dX8_init_738 rfl ?_
  refine nw_iconst (v := 1) F dX8_init_739 (by decide) ?_
  refine nw_bipush (v := -4) F dX8_init_740 (by decide) ?_
  refine nw_iastL F dX8_init_742 (vpd (by decide)) ?_
  refine ew_pc 743 rfl ?_
  refine nw_dup F dX8_init_743 rfl ?_
  refine nw_iconst (v := 2) F dX8_init_744 (by decide) ?_
  refine nw_bipush (v := -4) F dX8_init_745 (by decide) ?_
  refine nw_iastL F dX8_init_747 (vpd (by decide)) ?_
  refine ew_pc 748 rfl ?_
  refine nw_dup F dX8_init_748 rfl ?_
  refine nw_iconst (v := 3) F dX8_init_749 (by decide) ?_
  refine nw_bipush (v := -4) F dX8_init_750 (by decide) ?_
  refine nw_iastL F dX8_init_752 (vpd (by decide)) ?_
  generalize hf56 : upd _ _ _ = f56
  refine nw_c0 ?_
  generalize hR19 : (R18 ++ [(r56, .inl (cA g 0, 4, .inl f56))] : va_W) = R19
  refine nw_p0F 31 (fs1 := [.ref r38, .int 0, .int 0, .int 0, .int 0, .int 0, .int 0, .int 0, .int 0, .ref r39, .ref r40, .ref r41, .ref r42, .ref r43, .ref r44, .ref r45, .ref r46, .ref r47, .int 0, .ref r48, .ref r49, .int 0, .int 0, .ref r50, .int 0, .ref r51, .ref r52, .ref r53, .int 0, .ref r54, .ref r55, .ref r56, .null, .null, .int 0]) F dX8_init_753 inX8 tyX8 tyX8_ok nmX8 rfl (by decide) fl_X8_65 rfl rfl rfl (tyX8_ok 31 (by decide)) rfl rfl (Nat.le_of_ble_eq_true rfl) rfl ?_
  refine ew_pc 756 rfl ?_
  refine nw_aload_n F dX8_init_756 rfl rfl ?_
  refine nw_iconst (v := 4) F dX8_init_757 (by decide) ?_
  refine nw_newaI (N := 4) F dX8_init_758 (by decide) (by decide) aw_int (Nat.le_of_ble_eq_true rfl) (by rw [hcs]; exact Nat.le_of_ble_eq_true rfl) (by rw [hss]; exact Nat.le_of_ble_eq_true rfl) (fun r57 => ?_)
  refine nw_c0 ?_
  generalize hR20 : (R19 ++ [(r57, .inl (cA g 0, 4, .inl (fun _ => 0)))] : va_W) = R20
  refine nw_p0F 32 (fs1 := [.ref r38, .int 0, .int 0, .int 0, .int 0, .int 0, .int 0, .int 0, .int 0, .ref r39, .ref r40, .ref r41, .ref r42, .ref r43, .ref r44, .ref r45, .ref r46, .ref r47, .int 0, .ref r48, .ref r49, .int 0, .int 0, .ref r50, .int 0, .ref r51, .ref r52, .ref r53, .int 0, .ref r54, .ref r55, .ref r56, .ref r57, .null, .int 0]) F dX8_init_760 inX8 tyX8 tyX8_ok nmX8 rfl (by decide) fl_X8_68 rfl rfl rfl (tyX8_ok 32 (by decide)) rfl rfl (Nat.le_of_ble_eq_true rfl) rfl ?_
  refine ew_pc 763 rfl ?_
  refine nw_aload_n F dX8_init_763 rfl rfl ?_
  refine nw_sipush (v := 160) F dX8_init_764 (by decide) ?_
  refine nw_newaI (N := 160) F dX8_init_767 (by decide) (by decide) aw_int (Nat.le_of_ble_eq_true rfl) (by rw [hcs]; exact Nat.le_of_ble_eq_true rfl) (by rw [hss]; exact Nat.le_of_ble_eq_true rfl) (fun r58 => ?_)
  refine nw_c0 ?_
  generalize hR21 : (R20 ++ [(r58, .inl (cA g 0, 160, .inl (fun _ => 0)))] : va_W) = R21
  refine nw_p0F 33 (fs1 := [.ref r38, .int 0, .int 0, .int 0, .int 0, .int 0, .int 0, .int 0, .int 0, .ref r39, .ref r40, .ref r41, .ref r42, .ref r43, .ref r44, .ref r45, .ref r46, .ref r47, .int 0, .ref r48, .ref r49, .int 0, .int 0, .ref r50, .int 0, .ref r51, .ref r52, .ref r53, .int 0, .ref r54, .ref r55, .ref r56, .ref r57, .ref r58, .int 0]) F dX8_init_769 inX8 tyX8 tyX8_ok nmX8 rfl (by decide) fl_X8_71 rfl rfl rfl (tyX8_ok 33 (by decide)) rfl rfl (Nat.le_of_ble_eq_true rfl) rfl ?_
  subst hR1
  subst hR2
  subst hR3
  subst hR4
  subst hR5
  subst hR6
  subst hR7
  subst hR8
  subst hR9
  subst hR10
  subst hR11
  subst hR12
  subst hR13
  subst hR14
  subst hR15
  subst hR16
  subst hR17
  subst hR18
  subst hR19
  subst hR20
  subst hR21
  refine ew_w (w1 := [(h0, .inr (8, [.ref r38, .int 0, .int 0, .int 0, .int 0, .int 0, .int 0, .int 0, .int 0, .ref r39, .ref r40, .ref r41, .ref r42, .ref r43, .ref r44, .ref r45, .ref r46, .ref r47, .int 0, .ref r48, .ref r49, .int 0, .int 0, .ref r50, .int 0, .ref r51, .ref r52, .ref r53, .int 0, .ref r54, .ref r55, .ref r56, .ref r57, .ref r58, .int 0])), (r38, .inl (cA g 0, 320, .inl (fun _ => 0))), (r39, .inl (cA g 0, 9, .inl f39)), (r40, .inl (cA g 0, 34, .inl f40)), (r41, .inl (cA g 0, 7, .inl f41)), (r42, .inl (cA g 0, 7, .inl f42)), (r43, .inl (cA g 0, 13, .inl f43)), (r44, .inl (cA g 0, 13, .inl f44)), (r45, .inl (cA g 0, 13, .inl f45)), (r46, .inl (cA g 0, 13, .inl f46)), (r47, .inl (cA g 0, 16, .inl (fun _ => 0))), (r48, .inl (cA g 0, 13, .inl (fun _ => 0))), (r49, .inl (cA g 0, 16, .inl (fun _ => 0))), (r50, .inl (cA g 0, 80, .inl (fun _ => 0))), (r51, .inl (cA g 0, 7, .inl (fun _ => 0))), (r52, .inl (cA g 0, 4, .inl (fun _ => 0))), (r53, .inl (cA g 0, 16, .inl (fun _ => 0))), (r54, .inl (cA g 0, 8, .inl (fun _ => 0))), (r55, .inl (cA g 2, 2, .inl (fun _ => 0))), (r56, .inl (cA g 0, 4, .inl f56)), (r57, .inl (cA g 0, 4, .inl (fun _ => 0))), (r58, .inl (cA g 0, 160, .inl (fun _ => 0)))]) (by simp only [List.cons_append, List.append_assoc, List.nil_append]) ?_
  refine nw_vret F R dX8_init_772 rfl ⟨rfl, fun k => ([h0, r38, r39, r40, r41, r42, r43, r44, r45, r46, r47, r48, r49, r50, r51, r52, r53, r54, r55, r56, r57, r58] : List Nat).getD (k - 38) 0, M8 f39 f40 f41 f42 f43 f44 f45 f46 f56, rfl, pr8_M8 f39 f40 f41 f42 f43 f44 f45 f46 f56 ?_ ?_ ?_ ?_ ?_ ?_ ?_ ?_ ?_, w8_eq g (fun k => ([h0, r38, r39, r40, r41, r42, r43, r44, r45, r46, r47, r48, r49, r50, r51, r52, r53, r54, r55, r56, r57, r58] : List Nat).getD (k - 38) 0) f39 f40 f41 f42 f43 f44 f45 f46 f56⟩
  · rw [← hf39]; decide +kernel
  · rw [← hf40]; decide +kernel
  · rw [← hf41]; decide +kernel
  · rw [← hf42]; decide +kernel
  · rw [← hf43]; decide +kernel
  · rw [← hf44]; decide +kernel
  · rw [← hf45]; decide +kernel
  · rw [← hf46]; decide +kernel
  · rw [← hf56]; decide +kernel
