def badWash (m w : Int32) : Bool := outB m 1 99 || outB w 0 99
def badShare (a b : Int32) : Bool := outB a 0 99 || outB b 1 99
def badWater (v p : Int32) : Bool := outB v 0 9999999 || outB p 0 6
def badRod (a b c : Int32) : Bool := outB a 0 9 || (outB b 0 9 || (outB c 0 9 || decide (a + b + c = 0)))
def sPow (v : Int64) : Nat → Int64
  | 0 => 1
  | n + 1 => sPow v n * v
theorem sPow_n (v : Nat) : ∀ n, sPow (lN v) n = lN (v ^ n) := by
  intro n
  induction n with
  | zero => rfl
  | succ n ih => rw [sPow, ih, lN_mul, Nat.pow_succ]
def sLow (x y : Nat) (wh : Int32) : Int64 := lN ((if wh = 0 then x else y) / Nat.gcd x y)
def sAbove (r a b c : Int32) : Int32 := (if 16 < r + 1 then a else 0) + (if 16 < r then b else 0) + (if 16 < r - 1 then c else 0)
theorem cmp_gt {x y : Int64} : 0 < lg_cmp x y ↔ y < x := by
  unfold lg_cmp
  split
  · rename_i h; exact ⟨fun _ => h, fun _ => by decide⟩
  · rename_i h
    split
    · exact ⟨fun q => absurd q (by decide), fun q => absurd q h⟩
    · exact ⟨fun q => absurd q (by decide), fun q => absurd q h⟩
theorem cmp_eq {x y : Int64} : lg_cmp x y = 0 ↔ x = y := by
  unfold lg_cmp
  split
  · rename_i h
    exact ⟨fun q => absurd q (by decide), fun q => by subst q; exact absurd h (Int64.lt_irrefl)⟩
  · split
    · rename_i h; exact ⟨fun _ => h, fun _ => rfl⟩
    · rename_i h; exact ⟨fun q => absurd q (by decide), fun q => absurd q h⟩
theorem mod_half {a b : Nat} (hb : 0 < b) (h : b < a) : 2 * (a % b) < a := by
  have h1 := Nat.mod_lt a hb
  have h2 := Nat.div_add_mod a b
  have h3 : 1 ≤ a / b := Nat.div_pos (Nat.le_of_lt h) hb
  have h4 : b * 1 ≤ b * (a / b) := Nat.mul_le_mul_left b h3
  omega
def sWashN (m w a b : Int32) : Nat → Nat → Int32
  | 0, _ => -4
  | n + 1, k => if sPow m.toInt64 (k + 1) * b.toInt64 ≤ a.toInt64 * sPow (m + w).toInt64 k then nI k else sWashN m w a b n (k + 1)
def sPr (m w x : Int32) : Int32 := (m + x) * (m + w - x)
def sSpl (m w : Int32) : Nat → Int32
  | 0 => 0
  | n + 1 => if sPr m w (sSpl m w n) < sPr m w (nI (n + 1)) then nI (n + 1) else sSpl m w n
def figN (v : Int32) : Nat → Int32
  | 0 => v
  | n + 1 => figN v n / 10
def sDig (v : Int32) (j : Nat) : Int32 := figN v j - figN v j / 10 * 10
def sPass (f : Nat → Int32) : Nat → Int32 := fun j => if j = 0 then f 0 + 2 * f 1 else if j < 6 then 2 * f (j + 1) else 0
def sWat (v : Int32) : Nat → Nat → Int32
  | 0 => sDig v
  | p + 1 => sPass (sWat v p)
def sGreat (f : Nat → Int32) : Nat → Int32
  | 0 => 0
  | n + 1 => if 0 < f n then nI n else sGreat f n
def sNear (a b c x y i : Int32) : Nat → Int32
  | 0 => i
  | r + 1 => if sAbove (nI r) a b c * y ≤ x * (a + b + c) then nI r else sNear a b c x y i r
def wayN (n : Nat) : Nat → Nat
  | 0 => 1
  | i + 1 => wayN n i * (n - i) / (i + 1)
def sumW (n k a b : Nat) : Nat → Nat
  | 0 => 0
  | i + 1 => if k ≤ i then sumW n k a b i + wayN n i * a ^ i * (b - a) ^ (n - i) else sumW n k a b i
def badWitch (n k a b wh : Int32) : Bool := outB n 1 12 || (outB k 0 n || (outB b 1 9 || (outB a 0 b || outB wh 0 1)))
theorem cs_X7_isBadWash_85 : CSS (xmN YX7_isBadWash).cls (xmF YX7_isBadWash) (xmW YX7_isBadWash) 85 3 YX7_outside := ⟨⟨ml_X7_85, ini_X7, cd_X7_outside, by decide +kernel, by decide⟩, st_X7_outside⟩
set_option maxRecDepth 100000 in
theorem c_X7_isBadWash {l : Launch} {g : XG} {M : Mem} {m w0 : Int32} : Call l g YX7_isBadWash [.int m, .int w0] M (PI (fun v M' => v = b2i (badWash m w0) ∧ M' = M)) := by
  refine call_of (by decide +kernel) (Nat.le_of_ble_eq_true rfl) (fun x hxl F R => ?_)
  subst hxl
  refine ex_iload_n F dX7_isBadWash_0 rfl rfl ?_
  refine ex_iconst (v := 1) F dX7_isBadWash_1 (by decide) ?_
  refine ex_bipush (v := 99) F dX7_isBadWash_2 (by decide) ?_
  refine ex_callSi F (c_X7_outside) dX7_isBadWash_4 cs_X7_isBadWash_85 rfl rfl (Nat.le_of_ble_eq_true rfl) (fun v4 M4 h4 => ?_)
  obtain ⟨rfl, q4⟩ := h4
  rw [q4]
  clear q4
  refine ex_if_ne (t := 20) F dX7_isBadWash_7 (by decide) (fun c7 => ?_) (fun c7 => ?_)
  · refine ex_iconst (v := 1) F dX7_isBadWash_20 (by decide) ?_
    refine ex_goto (t := 25) F dX7_isBadWash_21 (by decide) ?_
    exact ex_zret (ty := .boolean) F R dX7_isBadWash_25 rfl (rfl) (⟨by simp [badWash, b2i_1.mp c7]; rfl, rfl⟩)
  · refine ex_iload_n F dX7_isBadWash_10 rfl rfl ?_
    refine ex_iconst (v := 0) F dX7_isBadWash_11 (by decide) ?_
    refine ex_bipush (v := 99) F dX7_isBadWash_12 (by decide) ?_
    refine ex_callSi F (c_X7_outside) dX7_isBadWash_14 cs_X7_isBadWash_85 rfl rfl (Nat.le_of_ble_eq_true rfl) (fun v14 M14 h14 => ?_)
    obtain ⟨rfl, q14⟩ := h14
    rw [q14]
    clear q14
    refine ex_if_eq (t := 24) F dX7_isBadWash_17 (by decide) (fun c17 => ?_) (fun c17 => ?_)
    · refine ex_iconst (v := 0) F dX7_isBadWash_24 (by decide) ?_
      exact ex_zret (ty := .boolean) F R dX7_isBadWash_25 rfl (rfl) (⟨by simp [badWash, b2i_0.mp c7, b2i_0.mp c17]; rfl, rfl⟩)
    · refine ex_iconst (v := 1) F dX7_isBadWash_20 (by decide) ?_
      refine ex_goto (t := 25) F dX7_isBadWash_21 (by decide) ?_
      exact ex_zret (ty := .boolean) F R dX7_isBadWash_25 rfl (rfl) (⟨by simp [badWash, b2i_0.mp c7, b2i_1.mp c17]; rfl, rfl⟩)
theorem cs_X7_isBadShare_85 : CSS (xmN YX7_isBadShare).cls (xmF YX7_isBadShare) (xmW YX7_isBadShare) 85 3 YX7_outside := ⟨⟨ml_X7_85, ini_X7, cd_X7_outside, by decide +kernel, by decide⟩, st_X7_outside⟩
set_option maxRecDepth 100000 in
theorem c_X7_isBadShare {l : Launch} {g : XG} {M : Mem} {a b : Int32} : Call l g YX7_isBadShare [.int a, .int b] M (PI (fun v M' => v = b2i (badShare a b) ∧ M' = M)) := by
  refine call_of (by decide +kernel) (Nat.le_of_ble_eq_true rfl) (fun x hxl F R => ?_)
  subst hxl
  refine ex_iload_n F dX7_isBadShare_0 rfl rfl ?_
  refine ex_iconst (v := 0) F dX7_isBadShare_1 (by decide) ?_
  refine ex_bipush (v := 99) F dX7_isBadShare_2 (by decide) ?_
  refine ex_callSi F (c_X7_outside) dX7_isBadShare_4 cs_X7_isBadShare_85 rfl rfl (Nat.le_of_ble_eq_true rfl) (fun v4 M4 h4 => ?_)
  obtain ⟨rfl, q4⟩ := h4
  rw [q4]
  clear q4
  refine ex_if_ne (t := 20) F dX7_isBadShare_7 (by decide) (fun c7 => ?_) (fun c7 => ?_)
  · refine ex_iconst (v := 1) F dX7_isBadShare_20 (by decide) ?_
    refine ex_goto (t := 25) F dX7_isBadShare_21 (by decide) ?_
    exact ex_zret (ty := .boolean) F R dX7_isBadShare_25 rfl (rfl) (⟨by simp [badShare, b2i_1.mp c7]; rfl, rfl⟩)
  · refine ex_iload_n F dX7_isBadShare_10 rfl rfl ?_
    refine ex_iconst (v := 1) F dX7_isBadShare_11 (by decide) ?_
    refine ex_bipush (v := 99) F dX7_isBadShare_12 (by decide) ?_
    refine ex_callSi F (c_X7_outside) dX7_isBadShare_14 cs_X7_isBadShare_85 rfl rfl (Nat.le_of_ble_eq_true rfl) (fun v14 M14 h14 => ?_)
    obtain ⟨rfl, q14⟩ := h14
    rw [q14]
    clear q14
    refine ex_if_eq (t := 24) F dX7_isBadShare_17 (by decide) (fun c17 => ?_) (fun c17 => ?_)
    · refine ex_iconst (v := 0) F dX7_isBadShare_24 (by decide) ?_
      exact ex_zret (ty := .boolean) F R dX7_isBadShare_25 rfl (rfl) (⟨by simp [badShare, b2i_0.mp c7, b2i_0.mp c17]; rfl, rfl⟩)
    · refine ex_iconst (v := 1) F dX7_isBadShare_20 (by decide) ?_
      refine ex_goto (t := 25) F dX7_isBadShare_21 (by decide) ?_
      exact ex_zret (ty := .boolean) F R dX7_isBadShare_25 rfl (rfl) (⟨by simp [badShare, b2i_0.mp c7, b2i_1.mp c17]; rfl, rfl⟩)
theorem cs_X7_isBadWater_85 : CSS (xmN YX7_isBadWater).cls (xmF YX7_isBadWater) (xmW YX7_isBadWater) 85 3 YX7_outside := ⟨⟨ml_X7_85, ini_X7, cd_X7_outside, by decide +kernel, by decide⟩, st_X7_outside⟩
set_option maxRecDepth 100000 in
theorem c_X7_isBadWater {l : Launch} {g : XG} {M : Mem} {v0 p : Int32} : Call l g YX7_isBadWater [.int v0, .int p] M (PI (fun v M' => v = b2i (badWater v0 p) ∧ M' = M)) := by
  refine call_of (by decide +kernel) (Nat.le_of_ble_eq_true rfl) (fun x hxl F R => ?_)
  subst hxl
  refine ex_iload_n F dX7_isBadWater_0 rfl rfl ?_
  refine ex_iconst (v := 0) F dX7_isBadWater_1 (by decide) ?_
  refine ex_ldcw F dX7_isBadWater_2 kc_X7_273 ?_
  refine ex_callSi F (c_X7_outside) dX7_isBadWater_5 cs_X7_isBadWater_85 rfl rfl (Nat.le_of_ble_eq_true rfl) (fun v5 M5 h5 => ?_)
  obtain ⟨rfl, q5⟩ := h5
  rw [q5]
  clear q5
  refine ex_if_ne (t := 21) F dX7_isBadWater_8 (by decide) (fun c8 => ?_) (fun c8 => ?_)
  · refine ex_iconst (v := 1) F dX7_isBadWater_21 (by decide) ?_
    refine ex_goto (t := 26) F dX7_isBadWater_22 (by decide) ?_
    exact ex_zret (ty := .boolean) F R dX7_isBadWater_26 rfl (rfl) (⟨by simp [badWater, b2i_1.mp c8]; rfl, rfl⟩)
  · refine ex_iload_n F dX7_isBadWater_11 rfl rfl ?_
    refine ex_iconst (v := 0) F dX7_isBadWater_12 (by decide) ?_
    refine ex_bipush (v := 6) F dX7_isBadWater_13 (by decide) ?_
    refine ex_callSi F (c_X7_outside) dX7_isBadWater_15 cs_X7_isBadWater_85 rfl rfl (Nat.le_of_ble_eq_true rfl) (fun v15 M15 h15 => ?_)
    obtain ⟨rfl, q15⟩ := h15
    rw [q15]
    clear q15
    refine ex_if_eq (t := 25) F dX7_isBadWater_18 (by decide) (fun c18 => ?_) (fun c18 => ?_)
    · refine ex_iconst (v := 0) F dX7_isBadWater_25 (by decide) ?_
      exact ex_zret (ty := .boolean) F R dX7_isBadWater_26 rfl (rfl) (⟨by simp [badWater, b2i_0.mp c8, b2i_0.mp c18]; rfl, rfl⟩)
    · refine ex_iconst (v := 1) F dX7_isBadWater_21 (by decide) ?_
      refine ex_goto (t := 26) F dX7_isBadWater_22 (by decide) ?_
      exact ex_zret (ty := .boolean) F R dX7_isBadWater_26 rfl (rfl) (⟨by simp [badWater, b2i_0.mp c8, b2i_1.mp c18]; rfl, rfl⟩)
theorem cs_X7_isBadRod_85 : CSS (xmN YX7_isBadRod).cls (xmF YX7_isBadRod) (xmW YX7_isBadRod) 85 3 YX7_outside := ⟨⟨ml_X7_85, ini_X7, cd_X7_outside, by decide +kernel, by decide⟩, st_X7_outside⟩
set_option maxRecDepth 100000 in
theorem c_X7_isBadRod {l : Launch} {g : XG} {M : Mem} {a b c : Int32} : Call l g YX7_isBadRod [.int a, .int b, .int c] M (PI (fun v M' => v = b2i (badRod a b c) ∧ M' = M)) := by
  refine call_of (by decide +kernel) (Nat.le_of_ble_eq_true rfl) (fun x hxl F R => ?_)
  subst hxl
  refine ex_iload_n F dX7_isBadRod_0 rfl rfl ?_
  refine ex_iconst (v := 0) F dX7_isBadRod_1 (by decide) ?_
  refine ex_bipush (v := 9) F dX7_isBadRod_2 (by decide) ?_
  refine ex_callSi F (c_X7_outside) dX7_isBadRod_4 cs_X7_isBadRod_85 rfl rfl (Nat.le_of_ble_eq_true rfl) (fun v4 M4 h4 => ?_)
  obtain ⟨rfl, q4⟩ := h4
  rw [q4]
  clear q4
  refine ex_if_ne (t := 38) F dX7_isBadRod_7 (by decide) (fun c7 => ?_) (fun c7 => ?_)
  · refine ex_iconst (v := 1) F dX7_isBadRod_38 (by decide) ?_
    refine ex_goto (t := 43) F dX7_isBadRod_39 (by decide) ?_
    exact ex_zret (ty := .boolean) F R dX7_isBadRod_43 rfl (rfl) (⟨by simp [badRod, b2i_1.mp c7]; rfl, rfl⟩)
  · refine ex_iload_n F dX7_isBadRod_10 rfl rfl ?_
    refine ex_iconst (v := 0) F dX7_isBadRod_11 (by decide) ?_
    refine ex_bipush (v := 9) F dX7_isBadRod_12 (by decide) ?_
    refine ex_callSi F (c_X7_outside) dX7_isBadRod_14 cs_X7_isBadRod_85 rfl rfl (Nat.le_of_ble_eq_true rfl) (fun v14 M14 h14 => ?_)
    obtain ⟨rfl, q14⟩ := h14
    rw [q14]
    clear q14
    refine ex_if_ne (t := 38) F dX7_isBadRod_17 (by decide) (fun c17 => ?_) (fun c17 => ?_)
    · refine ex_iconst (v := 1) F dX7_isBadRod_38 (by decide) ?_
      refine ex_goto (t := 43) F dX7_isBadRod_39 (by decide) ?_
      exact ex_zret (ty := .boolean) F R dX7_isBadRod_43 rfl (rfl) (⟨by simp [badRod, b2i_0.mp c7, b2i_1.mp c17]; rfl, rfl⟩)
    · refine ex_iload_n F dX7_isBadRod_20 rfl rfl ?_
      refine ex_iconst (v := 0) F dX7_isBadRod_21 (by decide) ?_
      refine ex_bipush (v := 9) F dX7_isBadRod_22 (by decide) ?_
      refine ex_callSi F (c_X7_outside) dX7_isBadRod_24 cs_X7_isBadRod_85 rfl rfl (Nat.le_of_ble_eq_true rfl) (fun v24 M24 h24 => ?_)
      obtain ⟨rfl, q24⟩ := h24
      rw [q24]
      clear q24
      refine ex_if_ne (t := 38) F dX7_isBadRod_27 (by decide) (fun c27 => ?_) (fun c27 => ?_)
      · refine ex_iconst (v := 1) F dX7_isBadRod_38 (by decide) ?_
        refine ex_goto (t := 43) F dX7_isBadRod_39 (by decide) ?_
        exact ex_zret (ty := .boolean) F R dX7_isBadRod_43 rfl (rfl) (⟨by simp [badRod, b2i_0.mp c7, b2i_0.mp c17, b2i_1.mp c27]; rfl, rfl⟩)
      · refine ex_iload_n F dX7_isBadRod_30 rfl rfl ?_
        refine ex_iload_n F dX7_isBadRod_31 rfl rfl ?_
        refine ex_iadd F dX7_isBadRod_32 ?_
        refine ex_iload_n F dX7_isBadRod_33 rfl rfl ?_
        refine ex_iadd F dX7_isBadRod_34 ?_
        refine ex_if_ne (t := 42) F dX7_isBadRod_35 (by decide) (fun c35 => ?_) (fun c35 => ?_)
        · refine ex_iconst (v := 0) F dX7_isBadRod_42 (by decide) ?_
          exact ex_zret (ty := .boolean) F R dX7_isBadRod_43 rfl (rfl) (⟨by simp [badRod, b2i_0.mp c7, b2i_0.mp c17, b2i_0.mp c27, c35]; rfl, rfl⟩)
        · refine ex_iconst (v := 1) F dX7_isBadRod_38 (by decide) ?_
          refine ex_goto (t := 43) F dX7_isBadRod_39 (by decide) ?_
          exact ex_zret (ty := .boolean) F R dX7_isBadRod_43 rfl (rfl) (⟨by simp [badRod, b2i_0.mp c7, b2i_0.mp c17, b2i_0.mp c27, c35]; rfl, rfl⟩)
set_option maxRecDepth 100000 in
theorem c_X7_power {l : Launch} {g : XG} {M : Mem} {z : Int64} {n0 : Int32} {n : Nat} (hn : n0 = nI n) (hn2 : n < 2 ^ 31) : Call l g YX7_power [.long z, .int n0] M (PL (fun v M' => v = sPow z n ∧ M' = M)) := by
  refine call_of (by decide +kernel) (Nat.le_of_ble_eq_true rfl) (fun x hxl F R => ?_)
  subst hxl
  refine ex_lconst (v := 1) F dX7_power_0 (by decide) ?_
  refine ex_lstore_n F dX7_power_1 rfl (by decide) ?_
  refine ex_iconst (v := 0) F dX7_power_2 (by decide) ?_
  refine ex_istore F dX7_power_3 (by decide) ?_
  have key : ∀ (m i : Nat) (v : Int32) (q : Int64), i + m = n → v = nI i → q = sPow z i → EX x g (xmL YX7_power) M 5 [(0, .long z), (2, .int n0), (3, .long q), (5, .int v)] [] := by
    intro m
    induction m with
    | zero =>
      intro i v q hi hv hq
      obtain rfl : i = n := by omega
      subst hv
      refine ex_iload F dX7_power_5 rfl ?_
      refine ex_iload_n F dX7_power_7 rfl rfl ?_
      refine ex_icmp_ge (t := 21) F dX7_power_8 (by decide) (fun _ => ?_) (fun c => absurd (by rw [hn]; exact Int32.le_refl _) c)
      refine ex_lload_n F dX7_power_21 rfl rfl ?_
      exact ex_lret F R dX7_power_22 rfl (⟨hq, rfl⟩)
    | succ m ih =>
      intro i v q hi hv hq
      subst hv
      refine ex_iload F dX7_power_5 rfl ?_
      refine ex_iload_n F dX7_power_7 rfl rfl ?_
      refine ex_icmp_ge (t := 21) F dX7_power_8 (by decide) (fun c => absurd c (by rw [hn]; exact nI_ge (by omega) (by omega))) (fun _ => ?_)
      refine ex_lload_n F dX7_power_11 rfl rfl ?_
      refine ex_lload_n F dX7_power_12 rfl rfl ?_
      refine ex_lmul F dX7_power_13 ?_
      refine ex_lstore_n F dX7_power_14 rfl (by decide) ?_
      refine ex_iinc (w := _ + 1) F dX7_power_15 rfl rfl (by decide) ?_
      refine ex_goto (t := 5) F dX7_power_18 (by decide) ?_
      exact ex_weak2 (ih (i + 1) _ _ (by omega) (nI_1 i) (by rw [sPow, hq])) ⟨rfl, rfl, rfl, rfl, trivial⟩
  exact ex_weak2 (key n 0 _ _ (by omega) rfl rfl) ⟨rfl, rfl, rfl, rfl, trivial⟩
set_option maxRecDepth 100000 in
theorem c_X7_lowest {l : Launch} {g : XG} {M : Mem} {X Y : Nat} {wh : Int32} (lX : X < 2 ^ 63) (hY : 0 < Y) (lY : Y < 2 ^ 63) : Call l g YX7_lowest [.long (lN X), .long (lN Y), .int wh] M (PL (fun v M' => v = sLow X Y wh ∧ M' = M)) := by
  refine call_of (by decide +kernel) (Nat.le_of_ble_eq_true rfl) (fun x hxl F R => ?_)
  subst hxl
  refine ex_lload_n F dX7_lowest_0 rfl rfl ?_
  refine ex_lstore F dX7_lowest_1 (by decide) ?_
  refine ex_lload_n F dX7_lowest_3 rfl rfl ?_
  refine ex_lstore F dX7_lowest_4 (by decide) ?_
  refine ex_iconst (v := 0) F dX7_lowest_6 (by decide) ?_
  refine ex_istore F dX7_lowest_7 (by decide) ?_
  have fin : ∀ (A i : Nat), A = Nat.gcd X Y → EX x g (xmL YX7_lowest) M 45 [(0, .long (lN X)), (2, .long (lN Y)), (4, .int wh), (5, .long (lN A)), (7, .long 0), (9, .int (nI i))] [] := by
    intro A i hA
    have hA0 : 0 < A := by rw [hA]; exact Nat.gcd_pos_of_pos_right X hY
    have hAle : A ≤ Y := by rw [hA]; exact Nat.gcd_le_right X hY
    refine ex_iload F dX7_lowest_45 rfl ?_
    refine ex_if_ne (t := 54) F dX7_lowest_47 (by decide) (fun c47 => ?_) (fun c47 => ?_)
    · refine ex_lload_n F dX7_lowest_54 rfl rfl ?_
      refine ex_lstore F dX7_lowest_55 (by decide) ?_
      refine ex_lload F dX7_lowest_57 rfl ?_
      refine ex_lconst (v := 0) F dX7_lowest_59 (by decide) ?_
      refine ex_lcmp F dX7_lowest_60 ?_
      refine ex_if_le (t := 72) F dX7_lowest_61 (by decide) (fun c => absurd c (fun q => absurd (cmp_gt.mpr (show (0 : Int64) < lN A from (pk_lLT (a := 0) (by decide) (by omega)).mpr hA0)) (Int32.not_lt.mpr q))) (fun _ => ?_)
      refine ex_lload F dX7_lowest_64 rfl ?_
      refine ex_lload F dX7_lowest_66 rfl ?_
      refine ex_ldiv F dX7_lowest_68 (fun q => absurd ((pk_lEQ (b := 0) (by omega) (by decide)).mp q) (by omega)) ?_
      refine ex_goto (t := 74) F dX7_lowest_69 (by decide) ?_
      exact ex_lret F R dX7_lowest_74 rfl (⟨by rw [sLow, ← hA, if_neg c47, pk_lDiv (by omega) hA0 (by omega)], rfl⟩)
    · refine ex_lload_n F dX7_lowest_50 rfl rfl ?_
      refine ex_goto (t := 55) F dX7_lowest_51 (by decide) ?_
      refine ex_lstore F dX7_lowest_55 (by decide) ?_
      refine ex_lload F dX7_lowest_57 rfl ?_
      refine ex_lconst (v := 0) F dX7_lowest_59 (by decide) ?_
      refine ex_lcmp F dX7_lowest_60 ?_
      refine ex_if_le (t := 72) F dX7_lowest_61 (by decide) (fun c => absurd c (fun q => absurd (cmp_gt.mpr (show (0 : Int64) < lN A from (pk_lLT (a := 0) (by decide) (by omega)).mpr hA0)) (Int32.not_lt.mpr q))) (fun _ => ?_)
      refine ex_lload F dX7_lowest_64 rfl ?_
      refine ex_lload F dX7_lowest_66 rfl ?_
      refine ex_ldiv F dX7_lowest_68 (fun q => absurd ((pk_lEQ (b := 0) (by omega) (by decide)).mp q) (by omega)) ?_
      refine ex_goto (t := 74) F dX7_lowest_69 (by decide) ?_
      exact ex_lret F R dX7_lowest_74 rfl (⟨by rw [sLow, ← hA, if_pos c47, pk_lDiv (by omega) hA0 (by omega)], rfl⟩)
  have zero : ∀ (A i : Nat), A = Nat.gcd X Y → EX x g (xmL YX7_lowest) M 9 [(0, .long (lN X)), (2, .long (lN Y)), (4, .int wh), (5, .long (lN A)), (7, .long (lN 0)), (9, .int (nI i))] [] := by
    intro A i hA
    refine ex_iload F dX7_lowest_9 rfl ?_
    refine ex_sipush (v := 1000) F dX7_lowest_11 (by decide) ?_
    refine ex_icmp_ge (t := 45) F dX7_lowest_14 (by decide) (fun c14 => ?_) (fun c14 => ?_)
    · exact ex_weak2 (fin A i hA) ⟨rfl, rfl, rfl, rfl, rfl, rfl, trivial⟩
    · refine ex_lload F dX7_lowest_17 rfl ?_
      refine ex_lconst (v := 0) F dX7_lowest_19 (by decide) ?_
      refine ex_lcmp F dX7_lowest_20 ?_
      refine ex_if_eq (t := 45) F dX7_lowest_21 (by decide) (fun _ => ?_) (fun c => absurd (cmp_eq.mpr rfl) c)
      exact ex_weak2 (fin A i hA) ⟨rfl, rfl, rfl, rfl, rfl, rfl, trivial⟩
  have one : ∀ (A B i : Nat), i < 1000 → A < 2 ^ 63 → B < 2 ^ 63 → 0 < B → EX x g (xmL YX7_lowest) M 9 [(0, .long (lN X)), (2, .long (lN Y)), (4, .int wh), (5, .long (lN B)), (7, .long (lN (A % B))), (9, .int (nI (i + 1)))] [] → EX x g (xmL YX7_lowest) M 9 [(0, .long (lN X)), (2, .long (lN Y)), (4, .int wh), (5, .long (lN A)), (7, .long (lN B)), (9, .int (nI i))] [] := by
    intro A B i hi lA lB hB K
    have hB0 : ¬ lN B = 0 := fun q => absurd ((pk_lEQ (b := 0) lB (by decide)).mp q) (by omega)
    refine ex_iload F dX7_lowest_9 rfl ?_
    refine ex_sipush (v := 1000) F dX7_lowest_11 (by decide) ?_
    refine ex_icmp_ge (t := 45) F dX7_lowest_14 (by decide) (fun c => absurd c (nI_ge (b := 1000) (by omega) (by decide))) (fun _ => ?_)
    refine ex_lload F dX7_lowest_17 rfl ?_
    refine ex_lconst (v := 0) F dX7_lowest_19 (by decide) ?_
    refine ex_lcmp F dX7_lowest_20 ?_
    refine ex_if_eq (t := 45) F dX7_lowest_21 (by decide) (fun c => absurd c (fun q => hB0 (cmp_eq.mp q))) (fun _ => ?_)
    refine ex_lload F dX7_lowest_24 rfl ?_
    refine ex_lload F dX7_lowest_26 rfl ?_
    refine ex_lrem F dX7_lowest_28 hB0 ?_
    refine ex_lstore F dX7_lowest_29 (by decide) ?_
    refine ex_lload F dX7_lowest_31 rfl ?_
    refine ex_lstore F dX7_lowest_33 (by decide) ?_
    refine ex_lload F dX7_lowest_35 rfl ?_
    refine ex_lstore F dX7_lowest_37 (by decide) ?_
    refine ex_iinc (w := _ + 1) F dX7_lowest_39 rfl rfl (by decide) ?_
    refine ex_goto (t := 9) F dX7_lowest_42 (by decide) ?_
    rw [pk_lRem lA hB lB, nI_1]
    exact ex_weak2 K ⟨rfl, rfl, rfl, rfl, rfl, rfl, trivial⟩
  have key : ∀ (n A B i : Nat), B < 2 ^ n → i + 2 * n ≤ 1000 → A < 2 ^ 63 → B < 2 ^ 63 → Nat.gcd A B = Nat.gcd X Y → EX x g (xmL YX7_lowest) M 9 [(0, .long (lN X)), (2, .long (lN Y)), (4, .int wh), (5, .long (lN A)), (7, .long (lN B)), (9, .int (nI i))] [] := by
    intro n
    induction n with
    | zero =>
      intro A B i hB hi lA lB hg
      obtain rfl : B = 0 := by omega
      exact zero A i (by rw [← hg, Nat.gcd_zero_right])
    | succ n ih =>
      intro A B i hB hi lA lB hg
      by_cases hB0 : B = 0
      · subst hB0
        exact zero A i (by rw [← hg, Nat.gcd_zero_right])
      · have hB1 : 0 < B := Nat.pos_of_ne_zero hB0
        have hAB := Nat.mod_lt A hB1
        have hg2 : Nat.gcd B (A % B) = Nat.gcd X Y := by rw [← hg, Nat.gcd_comm A B, Nat.gcd_rec B A, Nat.gcd_comm]
        refine one A B i (by omega) lA lB hB1 ?_
        by_cases hC0 : A % B = 0
        · rw [hC0] at hg2 ⊢
          exact zero B (i + 1) (by rw [← hg2, Nat.gcd_zero_right])
        · have hC1 : 0 < A % B := Nat.pos_of_ne_zero hC0
          have hh := mod_half hC1 hAB
          have hp : 2 ^ (n + 1) = 2 * 2 ^ n := by rw [Nat.pow_succ]; omega
          have hg3 : Nat.gcd (A % B) (B % (A % B)) = Nat.gcd X Y := by rw [← hg2, Nat.gcd_comm B, Nat.gcd_rec (A % B) B, Nat.gcd_comm]
          refine one B (A % B) (i + 1) (by omega) lB (by omega) hC1 ?_
          exact ih (A % B) (B % (A % B)) (i + 1 + 1) (by omega) (by omega) (by omega) (by omega) hg3
  exact ex_weak2 (key 63 Y X 0 (by omega) (by decide) (by omega) (by omega) (Nat.gcd_comm Y X)) ⟨rfl, rfl, rfl, rfl, rfl, rfl, trivial⟩
set_option maxRecDepth 100000 in
theorem c_X7_chancesAbove {l : Launch} {g : XG} {M : Mem} {r a b c : Int32} : Call l g YX7_chancesAbove [.int r, .int a, .int b, .int c] M (PI (fun v M' => v = sAbove r a b c ∧ M' = M)) := by
  refine call_of (by decide +kernel) (Nat.le_of_ble_eq_true rfl) (fun x hxl F R => ?_)
  subst hxl
  refine ex_iload_n F dX7_chancesAbove_0 rfl rfl ?_
  refine ex_iconst (v := 1) F dX7_chancesAbove_1 (by decide) ?_
  refine ex_iadd F dX7_chancesAbove_2 ?_
  refine ex_bipush (v := 16) F dX7_chancesAbove_3 (by decide) ?_
  refine ex_icmp_le (t := 12) F dX7_chancesAbove_5 (by decide) (fun c5 => ?_) (fun c5 => ?_)
  · refine ex_iconst (v := 0) F dX7_chancesAbove_12 (by decide) ?_
    refine ex_iload_n F dX7_chancesAbove_13 rfl rfl ?_
    refine ex_bipush (v := 16) F dX7_chancesAbove_14 (by decide) ?_
    refine ex_icmp_le (t := 23) F dX7_chancesAbove_16 (by decide) (fun c16 => ?_) (fun c16 => ?_)
    · refine ex_iconst (v := 0) F dX7_chancesAbove_23 (by decide) ?_
      refine ex_iadd F dX7_chancesAbove_24 ?_
      refine ex_iload_n F dX7_chancesAbove_25 rfl rfl ?_
      refine ex_iconst (v := 1) F dX7_chancesAbove_26 (by decide) ?_
      refine ex_isub F dX7_chancesAbove_27 ?_
      refine ex_bipush (v := 16) F dX7_chancesAbove_28 (by decide) ?_
      refine ex_icmp_le (t := 37) F dX7_chancesAbove_30 (by decide) (fun c30 => ?_) (fun c30 => ?_)
      · refine ex_iconst (v := 0) F dX7_chancesAbove_37 (by decide) ?_
        refine ex_iadd F dX7_chancesAbove_38 ?_
        exact ex_iret F R dX7_chancesAbove_39 rfl (⟨by rw [sAbove, if_neg (Int32.not_lt.mpr c5), if_neg (Int32.not_lt.mpr c16), if_neg (Int32.not_lt.mpr c30)], rfl⟩)
      · refine ex_iload_n F dX7_chancesAbove_33 rfl rfl ?_
        refine ex_goto (t := 38) F dX7_chancesAbove_34 (by decide) ?_
        refine ex_iadd F dX7_chancesAbove_38 ?_
        exact ex_iret F R dX7_chancesAbove_39 rfl (⟨by rw [sAbove, if_neg (Int32.not_lt.mpr c5), if_neg (Int32.not_lt.mpr c16), if_pos (Int32.not_le.mp c30)], rfl⟩)
    · refine ex_iload_n F dX7_chancesAbove_19 rfl rfl ?_
      refine ex_goto (t := 24) F dX7_chancesAbove_20 (by decide) ?_
      refine ex_iadd F dX7_chancesAbove_24 ?_
      refine ex_iload_n F dX7_chancesAbove_25 rfl rfl ?_
      refine ex_iconst (v := 1) F dX7_chancesAbove_26 (by decide) ?_
      refine ex_isub F dX7_chancesAbove_27 ?_
      refine ex_bipush (v := 16) F dX7_chancesAbove_28 (by decide) ?_
      refine ex_icmp_le (t := 37) F dX7_chancesAbove_30 (by decide) (fun c30 => ?_) (fun c30 => ?_)
      · refine ex_iconst (v := 0) F dX7_chancesAbove_37 (by decide) ?_
        refine ex_iadd F dX7_chancesAbove_38 ?_
        exact ex_iret F R dX7_chancesAbove_39 rfl (⟨by rw [sAbove, if_neg (Int32.not_lt.mpr c5), if_pos (Int32.not_le.mp c16), if_neg (Int32.not_lt.mpr c30)], rfl⟩)
      · refine ex_iload_n F dX7_chancesAbove_33 rfl rfl ?_
        refine ex_goto (t := 38) F dX7_chancesAbove_34 (by decide) ?_
        refine ex_iadd F dX7_chancesAbove_38 ?_
        exact ex_iret F R dX7_chancesAbove_39 rfl (⟨by rw [sAbove, if_neg (Int32.not_lt.mpr c5), if_pos (Int32.not_le.mp c16), if_pos (Int32.not_le.mp c30)], rfl⟩)
  · refine ex_iload_n F dX7_chancesAbove_8 rfl rfl ?_
    refine ex_goto (t := 13) F dX7_chancesAbove_9 (by decide) ?_
    refine ex_iload_n F dX7_chancesAbove_13 rfl rfl ?_
    refine ex_bipush (v := 16) F dX7_chancesAbove_14 (by decide) ?_
    refine ex_icmp_le (t := 23) F dX7_chancesAbove_16 (by decide) (fun c16 => ?_) (fun c16 => ?_)
    · refine ex_iconst (v := 0) F dX7_chancesAbove_23 (by decide) ?_
      refine ex_iadd F dX7_chancesAbove_24 ?_
      refine ex_iload_n F dX7_chancesAbove_25 rfl rfl ?_
      refine ex_iconst (v := 1) F dX7_chancesAbove_26 (by decide) ?_
      refine ex_isub F dX7_chancesAbove_27 ?_
      refine ex_bipush (v := 16) F dX7_chancesAbove_28 (by decide) ?_
      refine ex_icmp_le (t := 37) F dX7_chancesAbove_30 (by decide) (fun c30 => ?_) (fun c30 => ?_)
      · refine ex_iconst (v := 0) F dX7_chancesAbove_37 (by decide) ?_
        refine ex_iadd F dX7_chancesAbove_38 ?_
        exact ex_iret F R dX7_chancesAbove_39 rfl (⟨by rw [sAbove, if_pos (Int32.not_le.mp c5), if_neg (Int32.not_lt.mpr c16), if_neg (Int32.not_lt.mpr c30)], rfl⟩)
      · refine ex_iload_n F dX7_chancesAbove_33 rfl rfl ?_
        refine ex_goto (t := 38) F dX7_chancesAbove_34 (by decide) ?_
        refine ex_iadd F dX7_chancesAbove_38 ?_
        exact ex_iret F R dX7_chancesAbove_39 rfl (⟨by rw [sAbove, if_pos (Int32.not_le.mp c5), if_neg (Int32.not_lt.mpr c16), if_pos (Int32.not_le.mp c30)], rfl⟩)
    · refine ex_iload_n F dX7_chancesAbove_19 rfl rfl ?_
      refine ex_goto (t := 24) F dX7_chancesAbove_20 (by decide) ?_
      refine ex_iadd F dX7_chancesAbove_24 ?_
      refine ex_iload_n F dX7_chancesAbove_25 rfl rfl ?_
      refine ex_iconst (v := 1) F dX7_chancesAbove_26 (by decide) ?_
      refine ex_isub F dX7_chancesAbove_27 ?_
      refine ex_bipush (v := 16) F dX7_chancesAbove_28 (by decide) ?_
      refine ex_icmp_le (t := 37) F dX7_chancesAbove_30 (by decide) (fun c30 => ?_) (fun c30 => ?_)
      · refine ex_iconst (v := 0) F dX7_chancesAbove_37 (by decide) ?_
        refine ex_iadd F dX7_chancesAbove_38 ?_
        exact ex_iret F R dX7_chancesAbove_39 rfl (⟨by rw [sAbove, if_pos (Int32.not_le.mp c5), if_pos (Int32.not_le.mp c16), if_neg (Int32.not_lt.mpr c30)], rfl⟩)
      · refine ex_iload_n F dX7_chancesAbove_33 rfl rfl ?_
        refine ex_goto (t := 38) F dX7_chancesAbove_34 (by decide) ?_
        refine ex_iadd F dX7_chancesAbove_38 ?_
        exact ex_iret F R dX7_chancesAbove_39 rfl (⟨by rw [sAbove, if_pos (Int32.not_le.mp c5), if_pos (Int32.not_le.mp c16), if_pos (Int32.not_le.mp c30)], rfl⟩)
theorem cs_X7_wash_203 : CSS (xmN YX7_wash).cls (xmF YX7_wash) (xmW YX7_wash) 203 2 YX7_isBadWash := ⟨⟨ml_X7_203, ini_X7, cd_X7_isBadWash, by decide +kernel, by decide⟩, st_X7_isBadWash⟩
theorem cs_X7_wash_85 : CSS (xmN YX7_wash).cls (xmF YX7_wash) (xmW YX7_wash) 85 3 YX7_outside := ⟨⟨ml_X7_85, ini_X7, cd_X7_outside, by decide +kernel, by decide⟩, st_X7_outside⟩
theorem cs_X7_wash_208 : CSS (xmN YX7_wash).cls (xmF YX7_wash) (xmW YX7_wash) 208 2 YX7_power := ⟨⟨ml_X7_208, ini_X7, cd_X7_power, by decide +kernel, by decide⟩, st_X7_power⟩
theorem cs_X7_wash_212 : CSS (xmN YX7_wash).cls (xmF YX7_wash) (xmW YX7_wash) 212 3 YX7_lowest := ⟨⟨ml_X7_212, ini_X7, cd_X7_lowest, by decide +kernel, by decide⟩, st_X7_lowest⟩
set_option maxRecDepth 100000 in
theorem c_X7_wash {l : Launch} {g : XG} {M : Mem} {m w0 k0 wh : Int32} : Call l g YX7_wash [.ref (ad g 0), .int m, .int w0, .int k0, .int wh] M (PL (fun v M' => v = (if (badWash m w0 || (outB k0 0 5 || outB wh 0 1)) = true then -1 else sLow (m.toNatClampNeg ^ (k0.toNatClampNeg + 1)) ((m.toNatClampNeg + w0.toNatClampNeg) ^ k0.toNatClampNeg) wh) ∧ M' = M)) := by
  refine call_of (by decide +kernel) (Nat.le_of_ble_eq_true rfl) (fun x hxl F R => ?_)
  subst hxl
  refine ex_iload_n F dX7_wash_0 rfl rfl ?_
  refine ex_iload_n F dX7_wash_1 rfl rfl ?_
  refine ex_callSi F (c_X7_isBadWash) dX7_wash_2 cs_X7_wash_203 rfl rfl (Nat.le_of_ble_eq_true rfl) (fun v2 M2 h2 => ?_)
  obtain ⟨rfl, q2⟩ := h2
  rw [q2]
  clear q2
  refine ex_if_ne (t := 27) F dX7_wash_5 (by decide) (fun c5 => ?_) (fun c5 => ?_)
  · refine ex_ldc2 F dX7_wash_27 kc_X7_206 ?_
    exact ex_lret F R dX7_wash_30 rfl (⟨by rw [if_pos (by simp [b2i_1.mp c5])], rfl⟩)
  · refine ex_iload_n F dX7_wash_8 rfl rfl ?_
    refine ex_iconst (v := 0) F dX7_wash_9 (by decide) ?_
    refine ex_iconst (v := 5) F dX7_wash_10 (by decide) ?_
    refine ex_callSi F (c_X7_outside) dX7_wash_11 cs_X7_wash_85 rfl rfl (Nat.le_of_ble_eq_true rfl) (fun v11 M11 h11 => ?_)
    obtain ⟨rfl, q11⟩ := h11
    rw [q11]
    clear q11
    refine ex_if_ne (t := 27) F dX7_wash_14 (by decide) (fun c14 => ?_) (fun c14 => ?_)
    · refine ex_ldc2 F dX7_wash_27 kc_X7_206 ?_
      exact ex_lret F R dX7_wash_30 rfl (⟨by rw [if_pos (by simp [b2i_0.mp c5, b2i_1.mp c14])], rfl⟩)
    · refine ex_iload F dX7_wash_17 rfl ?_
      refine ex_iconst (v := 0) F dX7_wash_19 (by decide) ?_
      refine ex_iconst (v := 1) F dX7_wash_20 (by decide) ?_
      refine ex_callSi F (c_X7_outside) dX7_wash_21 cs_X7_wash_85 rfl rfl (Nat.le_of_ble_eq_true rfl) (fun v21 M21 h21 => ?_)
      obtain ⟨rfl, q21⟩ := h21
      rw [q21]
      clear q21
      refine ex_if_eq (t := 31) F dX7_wash_24 (by decide) (fun c24 => ?_) (fun c24 => ?_)
      · have hw0 := b2i_0.mp c5
        simp only [badWash, Bool.or_eq_false_iff] at hw0
        obtain ⟨mm, m1, m2, em⟩ := outB_n (a := 1) (b := 99) (by decide) hw0.1 (by decide)
        obtain ⟨ww, -, w2, ew⟩ := outB_n (a := 0) (b := 99) (by decide) hw0.2 (by decide)
        obtain ⟨kk, -, k2, ek⟩ := outB_n (a := 0) (b := 5) (by decide) (b2i_0.mp c14) (by decide)
        have nm : m.toNatClampNeg = mm := by rw [em]; exact nI_clamp (by omega)
        have nw : w0.toNatClampNeg = ww := by rw [ew]; exact nI_clamp (by omega)
        have nk : k0.toNatClampNeg = kk := by rw [ek]; exact nI_clamp (by omega)
        have b1 : mm ^ (kk + 1) < 2 ^ 63 := Nat.lt_of_le_of_lt (Nat.le_trans (Nat.pow_le_pow_left m2 _) (Nat.pow_le_pow_right (by decide) (show kk + 1 ≤ 6 by omega))) (by decide)
        have b2 : (mm + ww) ^ kk < 2 ^ 63 := Nat.lt_of_le_of_lt (Nat.le_trans (Nat.pow_le_pow_left (show mm + ww ≤ 198 by omega) _) (Nat.pow_le_pow_right (by decide) k2)) (by decide)
        have b3 : 0 < (mm + ww) ^ kk := Nat.pow_pos (by omega)
        refine ex_iload_n F dX7_wash_31 rfl rfl ?_
        refine ex_i2l F dX7_wash_32 ?_
        refine ex_iload_n F dX7_wash_33 rfl rfl ?_
        refine ex_iconst (v := 1) F dX7_wash_34 (by decide) ?_
        refine ex_iadd F dX7_wash_35 ?_
        refine ex_callSl F (c_X7_power (n := kk + 1) (by rw [ek, nI_1]) (by omega)) dX7_wash_36 cs_X7_wash_208 rfl rfl (Nat.le_of_ble_eq_true rfl) (fun v36 M36 h36 => ?_)
        obtain ⟨e36, q36⟩ := h36
        rw [q36]
        clear q36
        rw [em, nI_l (by omega), sPow_n] at e36
        subst e36
        refine ex_iload_n F dX7_wash_39 rfl rfl ?_
        refine ex_iload_n F dX7_wash_40 rfl rfl ?_
        refine ex_iadd F dX7_wash_41 ?_
        refine ex_i2l F dX7_wash_42 ?_
        refine ex_iload_n F dX7_wash_43 rfl rfl ?_
        refine ex_callSl F (c_X7_power (n := kk) ek (by omega)) dX7_wash_44 cs_X7_wash_208 rfl rfl (Nat.le_of_ble_eq_true rfl) (fun v44 M44 h44 => ?_)
        obtain ⟨e44, q44⟩ := h44
        rw [q44]
        clear q44
        rw [em, ew, nI_add, nI_l (by omega), sPow_n] at e44
        subst e44
        refine ex_iload F dX7_wash_47 rfl ?_
        refine ex_callSl F (c_X7_lowest b1 b3 b2) dX7_wash_49 cs_X7_wash_212 rfl rfl (Nat.le_of_ble_eq_true rfl) (fun v49 M49 h49 => ?_)
        obtain ⟨rfl, q49⟩ := h49
        rw [q49]
        clear q49
        exact ex_lret F R dX7_wash_52 rfl (⟨by rw [if_neg (by simp [b2i_0.mp c5, b2i_0.mp c14, b2i_0.mp c24]), nm, nw, nk], rfl⟩)
      · refine ex_ldc2 F dX7_wash_27 kc_X7_206 ?_
        exact ex_lret F R dX7_wash_30 rfl (⟨by rw [if_pos (by simp [b2i_0.mp c5, b2i_0.mp c14, b2i_1.mp c24])], rfl⟩)
theorem cs_X7_washes_203 : CSS (xmN YX7_washes).cls (xmF YX7_washes) (xmW YX7_washes) 203 2 YX7_isBadWash := ⟨⟨ml_X7_203, ini_X7, cd_X7_isBadWash, by decide +kernel, by decide⟩, st_X7_isBadWash⟩
theorem cs_X7_washes_216 : CSS (xmN YX7_washes).cls (xmF YX7_washes) (xmW YX7_washes) 216 2 YX7_isBadShare := ⟨⟨ml_X7_216, ini_X7, cd_X7_isBadShare, by decide +kernel, by decide⟩, st_X7_isBadShare⟩
theorem cs_X7_washes_208 : CSS (xmN YX7_washes).cls (xmF YX7_washes) (xmW YX7_washes) 208 2 YX7_power := ⟨⟨ml_X7_208, ini_X7, cd_X7_power, by decide +kernel, by decide⟩, st_X7_power⟩
set_option maxRecDepth 100000 in
theorem c_X7_washes {l : Launch} {g : XG} {M : Mem} {m0 w0 a b : Int32} : Call l g YX7_washes [.ref (ad g 0), .int m0, .int w0, .int a, .int b] M (PI (fun v M' => v = (if (badWash m0 w0 || badShare a b) = true then -1 else sWashN m0 w0 a b 6 0) ∧ M' = M)) := by
  refine call_of (by decide +kernel) (Nat.le_of_ble_eq_true rfl) (fun x hxl F R => ?_)
  subst hxl
  refine ex_iload_n F dX7_washes_0 rfl rfl ?_
  refine ex_iload_n F dX7_washes_1 rfl rfl ?_
  refine ex_callSi F (c_X7_isBadWash) dX7_washes_2 cs_X7_washes_203 rfl rfl (Nat.le_of_ble_eq_true rfl) (fun v2 M2 h2 => ?_)
  obtain ⟨rfl, q2⟩ := h2
  rw [q2]
  clear q2
  refine ex_if_ne (t := 17) F dX7_washes_5 (by decide) (fun c5 => ?_) (fun c5 => ?_)
  · refine ex_iconst (v := -1) F dX7_washes_17 (by decide) ?_
    exact ex_iret F R dX7_washes_18 rfl (⟨by rw [if_pos (by simp [b2i_1.mp c5])], rfl⟩)
  · refine ex_iload_n F dX7_washes_8 rfl rfl ?_
    refine ex_iload F dX7_washes_9 rfl ?_
    refine ex_callSi F (c_X7_isBadShare) dX7_washes_11 cs_X7_washes_216 rfl rfl (Nat.le_of_ble_eq_true rfl) (fun v11 M11 h11 => ?_)
    obtain ⟨rfl, q11⟩ := h11
    rw [q11]
    clear q11
    refine ex_if_eq (t := 19) F dX7_washes_14 (by decide) (fun c14 => ?_) (fun c14 => ?_)
    · refine ex_iconst (v := 0) F dX7_washes_19 (by decide) ?_
      refine ex_istore F dX7_washes_20 (by decide) ?_
      have key : ∀ (m k : Nat) (v : Int32), k + m = 6 → v = nI k → sWashN m0 w0 a b m k = sWashN m0 w0 a b 6 0 → EX x g (xmL YX7_washes) M 22 [(0, .ref (ad g 0)), (1, .int m0), (2, .int w0), (3, .int a), (4, .int b), (5, .int v)] [] := by
        intro m
        induction m with
        | zero =>
          intro k v hi hv hs
          obtain rfl : k = 6 := by omega
          subst hv
          refine ex_iload F dX7_washes_22 rfl ?_
          refine ex_iconst (v := 5) F dX7_washes_24 (by decide) ?_
          refine ex_icmp_gt (t := 66) F dX7_washes_25 (by decide) (fun _ => ?_) (fun c => absurd (by decide) c)
          refine ex_bipush (v := -4) F dX7_washes_66 (by decide) ?_
          exact ex_iret F R dX7_washes_68 rfl (⟨by rw [if_neg (by simp [b2i_0.mp c5, b2i_0.mp c14]), ← hs, sWashN], rfl⟩)
        | succ m ih =>
          intro k v hi hv hs
          subst hv
          refine ex_iload F dX7_washes_22 rfl ?_
          refine ex_iconst (v := 5) F dX7_washes_24 (by decide) ?_
          refine ex_icmp_gt (t := 66) F dX7_washes_25 (by decide) (fun c => absurd c (nI_nlt (b := k) (a := 5) (by omega) (by decide))) (fun _ => ?_)
          refine ex_iload_n F dX7_washes_28 rfl rfl ?_
          refine ex_i2l F dX7_washes_29 ?_
          refine ex_iload F dX7_washes_30 rfl ?_
          refine ex_iconst (v := 1) F dX7_washes_32 (by decide) ?_
          refine ex_iadd F dX7_washes_33 ?_
          refine ex_callSl F (c_X7_power (n := k + 1) (nI_1 k) (by omega)) dX7_washes_34 cs_X7_washes_208 rfl rfl (Nat.le_of_ble_eq_true rfl) (fun v34 M34 h34 => ?_)
          obtain ⟨rfl, q34⟩ := h34
          rw [q34]
          clear q34
          refine ex_iload F dX7_washes_37 rfl ?_
          refine ex_i2l F dX7_washes_39 ?_
          refine ex_lmul F dX7_washes_40 ?_
          refine ex_iload_n F dX7_washes_41 rfl rfl ?_
          refine ex_i2l F dX7_washes_42 ?_
          refine ex_iload_n F dX7_washes_43 rfl rfl ?_
          refine ex_iload_n F dX7_washes_44 rfl rfl ?_
          refine ex_iadd F dX7_washes_45 ?_
          refine ex_i2l F dX7_washes_46 ?_
          refine ex_iload F dX7_washes_47 rfl ?_
          refine ex_callSl F (c_X7_power (n := k) rfl (by omega)) dX7_washes_49 cs_X7_washes_208 rfl rfl (Nat.le_of_ble_eq_true rfl) (fun v49 M49 h49 => ?_)
          obtain ⟨rfl, q49⟩ := h49
          rw [q49]
          clear q49
          refine ex_lmul F dX7_washes_52 ?_
          refine ex_lcmp F dX7_washes_53 ?_
          refine ex_if_gt (t := 60) F dX7_washes_54 (by decide) (fun c54 => ?_) (fun c54 => ?_)
          · refine ex_iinc (w := _ + 1) F dX7_washes_60 rfl rfl (by decide) ?_
            refine ex_goto (t := 22) F dX7_washes_63 (by decide) ?_
            refine ex_weak2 (ih (k + 1) _ (by omega) (nI_1 k) ?_) ⟨rfl, rfl, rfl, rfl, rfl, rfl, trivial⟩
            rw [← hs, sWashN, if_neg (fun q => absurd q (Int64.not_le.mpr (cmp_gt.mp c54)))]
          · refine ex_iload F dX7_washes_57 rfl ?_
            exact ex_iret F R dX7_washes_59 rfl (⟨by rw [if_neg (by simp [b2i_0.mp c5, b2i_0.mp c14]), ← hs, sWashN, if_pos (Int64.not_lt.mp (fun q => c54 (cmp_gt.mpr q)))], rfl⟩)
      exact ex_weak2 (key 6 0 _ (by omega) rfl rfl) ⟨rfl, rfl, rfl, rfl, rfl, rfl, trivial⟩
    · refine ex_iconst (v := -1) F dX7_washes_17 (by decide) ?_
      exact ex_iret F R dX7_washes_18 rfl (⟨by rw [if_pos (by simp [b2i_0.mp c5, b2i_1.mp c14])], rfl⟩)
theorem cs_X7_split_203 : CSS (xmN YX7_split).cls (xmF YX7_split) (xmW YX7_split) 203 2 YX7_isBadWash := ⟨⟨ml_X7_203, ini_X7, cd_X7_isBadWash, by decide +kernel, by decide⟩, st_X7_isBadWash⟩
set_option maxRecDepth 100000 in
theorem c_X7_split {l : Launch} {g : XG} {M : Mem} {m w0 : Int32} : Call l g YX7_split [.ref (ad g 0), .int m, .int w0] M (PI (fun v M' => v = (if badWash m w0 = true then -1 else sSpl m w0 w0.toNatClampNeg) ∧ M' = M)) := by
  refine call_of (by decide +kernel) (Nat.le_of_ble_eq_true rfl) (fun x hxl F R => ?_)
  subst hxl
  refine ex_iload_n F dX7_split_0 rfl rfl ?_
  refine ex_iload_n F dX7_split_1 rfl rfl ?_
  refine ex_callSi F (c_X7_isBadWash) dX7_split_2 cs_X7_split_203 rfl rfl (Nat.le_of_ble_eq_true rfl) (fun v2 M2 h2 => ?_)
  obtain ⟨rfl, q2⟩ := h2
  rw [q2]
  clear q2
  refine ex_if_eq (t := 10) F dX7_split_5 (by decide) (fun c5 => ?_) (fun c5 => ?_)
  · have hw0 := b2i_0.mp c5
    simp only [badWash, Bool.or_eq_false_iff] at hw0
    obtain ⟨mm, m1, m2, em⟩ := outB_n (a := 1) (b := 99) (by decide) hw0.1 (by decide)
    obtain ⟨ww, -, w2, ew⟩ := outB_n (a := 0) (b := 99) (by decide) hw0.2 (by decide)
    have nw : w0.toNatClampNeg = ww := by rw [ew]; exact nI_clamp (by omega)
    refine ex_iconst (v := 0) F dX7_split_10 (by decide) ?_
    refine ex_istore_n F dX7_split_11 rfl (by decide) ?_
    refine ex_iconst (v := 0) F dX7_split_12 (by decide) ?_
    refine ex_istore F dX7_split_13 (by decide) ?_
    refine ex_iconst (v := 0) F dX7_split_15 (by decide) ?_
    refine ex_istore F dX7_split_16 (by decide) ?_
    have pos : ∀ i : Nat, i ≤ ww → 0 < sPr m w0 (nI i) := by
      intro i hi
      have e : sPr m w0 (nI i) = nI ((mm + i) * (mm + ww - i)) := by
        rw [sPr, em, ew, nI_add, nI_add, pk_sub (by omega), pk_mul]
      have h1 : (mm + i) * (mm + ww - i) ≤ 198 * 198 := Nat.mul_le_mul (by omega) (by omega)
      have h2 : 0 < (mm + i) * (mm + ww - i) := Nat.mul_pos (by omega) (by omega)
      rw [e]
      exact nI_lt (a := 0) h2 (by omega)
    have key : ∀ (k i : Nat) (v : Int32), i + 1 + k = ww + 1 → v = nI (i + 1) → EX x g (xmL YX7_split) M 18 [(0, .ref (ad g 0)), (1, .int m), (2, .int w0), (3, .int (sSpl m w0 i)), (4, .int (sPr m w0 (sSpl m w0 i))), (5, .int v)] [] := by
      intro k
      induction k with
      | zero =>
        intro i v hi hv
        obtain rfl : i = ww := by omega
        subst hv
        refine ex_iload F dX7_split_18 rfl ?_
        refine ex_iload_n F dX7_split_20 rfl rfl ?_
        refine ex_icmp_gt (t := 57) F dX7_split_21 (by decide) (fun _ => ?_) (fun c => absurd (by rw [ew]; exact nI_lt (by omega) (by omega)) c)
        refine ex_iload_n F dX7_split_57 rfl rfl ?_
        exact ex_iret F R dX7_split_58 rfl (⟨by rw [if_neg (by rw [b2i_0.mp c5]; decide), nw], rfl⟩)
      | succ k ih =>
        intro i v hi hv
        subst hv
        refine ex_iload F dX7_split_18 rfl ?_
        refine ex_iload_n F dX7_split_20 rfl rfl ?_
        refine ex_icmp_gt (t := 57) F dX7_split_21 (by decide) (fun c => absurd c (by rw [ew]; exact nI_nlt (by omega) (by omega))) (fun _ => ?_)
        refine ex_iload_n F dX7_split_24 rfl rfl ?_
        refine ex_iload F dX7_split_25 rfl ?_
        refine ex_iadd F dX7_split_27 ?_
        refine ex_iload_n F dX7_split_28 rfl rfl ?_
        refine ex_iload_n F dX7_split_29 rfl rfl ?_
        refine ex_iadd F dX7_split_30 ?_
        refine ex_iload F dX7_split_31 rfl ?_
        refine ex_isub F dX7_split_33 ?_
        refine ex_imul F dX7_split_34 ?_
        refine ex_istore F dX7_split_35 (by decide) ?_
        refine ex_iload F dX7_split_37 rfl ?_
        refine ex_iload F dX7_split_39 rfl ?_
        refine ex_icmp_le (t := 51) F dX7_split_41 (by decide) (fun c41 => ?_) (fun c41 => ?_)
        · refine ex_iinc (w := _ + 1) F dX7_split_51 rfl rfl (by decide) ?_
          refine ex_goto (t := 18) F dX7_split_54 (by decide) ?_
          have en : sSpl m w0 (i + 1) = sSpl m w0 i := by rw [sSpl, if_neg (show ¬ sPr m w0 (sSpl m w0 i) < sPr m w0 (nI (i + 1)) from Int32.not_lt.mpr c41)]
          refine ex_weak2 (ih (i + 1) _ (by omega) (nI_1 (i + 1))) ⟨rfl, rfl, rfl, ?_, ?_, rfl, trivial⟩
          · rw [en]; rfl
          · rw [en]; rfl
        · refine ex_iload F dX7_split_44 rfl ?_
          refine ex_istore F dX7_split_46 (by decide) ?_
          refine ex_iload F dX7_split_48 rfl ?_
          refine ex_istore_n F dX7_split_50 rfl (by decide) ?_
          refine ex_iinc (w := _ + 1) F dX7_split_51 rfl rfl (by decide) ?_
          refine ex_goto (t := 18) F dX7_split_54 (by decide) ?_
          have en : sSpl m w0 (i + 1) = nI (i + 1) := by rw [sSpl, if_pos (show sPr m w0 (sSpl m w0 i) < sPr m w0 (nI (i + 1)) from Int32.not_le.mp c41)]
          refine ex_weak2 (ih (i + 1) _ (by omega) (nI_1 (i + 1))) ⟨rfl, rfl, rfl, ?_, ?_, rfl, trivial⟩
          · rw [en]; rfl
          · rw [en]; rfl
    refine ex_iload F dX7_split_18 rfl ?_
    refine ex_iload_n F dX7_split_20 rfl rfl ?_
    refine ex_icmp_gt (t := 57) F dX7_split_21 (by decide) (fun c => absurd c (by rw [ew]; exact nI_nlt (b := 0) (by omega) (by omega))) (fun _ => ?_)
    refine ex_iload_n F dX7_split_24 rfl rfl ?_
    refine ex_iload F dX7_split_25 rfl ?_
    refine ex_iadd F dX7_split_27 ?_
    refine ex_iload_n F dX7_split_28 rfl rfl ?_
    refine ex_iload_n F dX7_split_29 rfl rfl ?_
    refine ex_iadd F dX7_split_30 ?_
    refine ex_iload F dX7_split_31 rfl ?_
    refine ex_isub F dX7_split_33 ?_
    refine ex_imul F dX7_split_34 ?_
    refine ex_istore F dX7_split_35 (by decide) ?_
    refine ex_iload F dX7_split_37 rfl ?_
    refine ex_iload F dX7_split_39 rfl ?_
    refine ex_icmp_le (t := 51) F dX7_split_41 (by decide) (fun c => absurd c (Int32.not_le.mpr (show (0 : Int32) < sPr m w0 (nI 0) from pos 0 (by omega)))) (fun _ => ?_)
    refine ex_iload F dX7_split_44 rfl ?_
    refine ex_istore F dX7_split_46 (by decide) ?_
    refine ex_iload F dX7_split_48 rfl ?_
    refine ex_istore_n F dX7_split_50 rfl (by decide) ?_
    refine ex_iinc (w := _ + 1) F dX7_split_51 rfl rfl (by decide) ?_
    refine ex_goto (t := 18) F dX7_split_54 (by decide) ?_
    exact ex_weak2 (key ww 0 _ (by omega) rfl) ⟨rfl, rfl, rfl, rfl, rfl, rfl, trivial⟩
  · refine ex_iconst (v := -1) F dX7_split_8 (by decide) ?_
    exact ex_iret F R dX7_split_9 rfl (⟨by rw [if_pos (b2i_1.mp c5)], rfl⟩)
theorem cs_X7_near_226 : CSS (xmN YX7_near).cls (xmF YX7_near) (xmW YX7_near) 226 3 YX7_isBadRod := ⟨⟨ml_X7_226, ini_X7, cd_X7_isBadRod, by decide +kernel, by decide⟩, st_X7_isBadRod⟩
theorem cs_X7_near_216 : CSS (xmN YX7_near).cls (xmF YX7_near) (xmW YX7_near) 216 2 YX7_isBadShare := ⟨⟨ml_X7_216, ini_X7, cd_X7_isBadShare, by decide +kernel, by decide⟩, st_X7_isBadShare⟩
theorem cs_X7_near_229 : CSS (xmN YX7_near).cls (xmF YX7_near) (xmW YX7_near) 229 4 YX7_chancesAbove := ⟨⟨ml_X7_229, ini_X7, cd_X7_chancesAbove, by decide +kernel, by decide⟩, st_X7_chancesAbove⟩
set_option maxRecDepth 100000 in
theorem c_X7_near {l : Launch} {g : XG} {M : Mem} {a b c xx y : Int32} : Call l g YX7_near [.ref (ad g 0), .int a, .int b, .int c, .int xx, .int y] M (PI (fun v M' => v = (if (badRod a b c || badShare xx y) = true then -1 else sNear a b c xx y (-4) 31) ∧ M' = M)) := by
  refine call_of (by decide +kernel) (Nat.le_of_ble_eq_true rfl) (fun x hxl F R => ?_)
  subst hxl
  refine ex_iload_n F dX7_near_0 rfl rfl ?_
  refine ex_iload_n F dX7_near_1 rfl rfl ?_
  refine ex_iload_n F dX7_near_2 rfl rfl ?_
  refine ex_callSi F (c_X7_isBadRod) dX7_near_3 cs_X7_near_226 rfl rfl (Nat.le_of_ble_eq_true rfl) (fun v3 M3 h3 => ?_)
  obtain ⟨rfl, q3⟩ := h3
  rw [q3]
  clear q3
  refine ex_if_ne (t := 19) F dX7_near_6 (by decide) (fun c6 => ?_) (fun c6 => ?_)
  · refine ex_iconst (v := -1) F dX7_near_19 (by decide) ?_
    exact ex_iret F R dX7_near_20 rfl (⟨by rw [if_pos (by simp [b2i_1.mp c6])], rfl⟩)
  · refine ex_iload F dX7_near_9 rfl ?_
    refine ex_iload F dX7_near_11 rfl ?_
    refine ex_callSi F (c_X7_isBadShare) dX7_near_13 cs_X7_near_216 rfl rfl (Nat.le_of_ble_eq_true rfl) (fun v13 M13 h13 => ?_)
    obtain ⟨rfl, q13⟩ := h13
    rw [q13]
    clear q13
    refine ex_if_eq (t := 21) F dX7_near_16 (by decide) (fun c16 => ?_) (fun c16 => ?_)
    · refine ex_bipush (v := -4) F dX7_near_21 (by decide) ?_
      refine ex_istore F dX7_near_23 (by decide) ?_
      refine ex_iconst (v := 0) F dX7_near_25 (by decide) ?_
      refine ex_istore F dX7_near_26 (by decide) ?_
      have key : ∀ (k r : Nat) (v o : Int32), r + k = 31 → v = nI r → o = sNear a b c xx y (-4) r → EX x g (xmL YX7_near) M 28 [(0, .ref (ad g 0)), (1, .int a), (2, .int b), (3, .int c), (4, .int xx), (5, .int y), (6, .int o), (7, .int v)] [] := by
        intro k
        induction k with
        | zero =>
          intro r v o hi hv ho
          obtain rfl : r = 31 := by omega
          subst hv
          refine ex_iload F dX7_near_28 rfl ?_
          refine ex_bipush (v := 30) F dX7_near_30 (by decide) ?_
          refine ex_icmp_gt (t := 67) F dX7_near_32 (by decide) (fun _ => ?_) (fun c => absurd (by decide) c)
          refine ex_iload F dX7_near_67 rfl ?_
          exact ex_iret F R dX7_near_69 rfl (⟨by rw [if_neg (by simp [b2i_0.mp c6, b2i_0.mp c16])]; exact ho, rfl⟩)
        | succ k ih =>
          intro r v o hi hv ho
          subst hv
          refine ex_iload F dX7_near_28 rfl ?_
          refine ex_bipush (v := 30) F dX7_near_30 (by decide) ?_
          refine ex_icmp_gt (t := 67) F dX7_near_32 (by decide) (fun c => absurd c (nI_nlt (b := r) (a := 30) (by omega) (by decide))) (fun _ => ?_)
          refine ex_iload F dX7_near_35 rfl ?_
          refine ex_iload_n F dX7_near_37 rfl rfl ?_
          refine ex_iload_n F dX7_near_38 rfl rfl ?_
          refine ex_iload_n F dX7_near_39 rfl rfl ?_
          refine ex_callSi F (c_X7_chancesAbove) dX7_near_40 cs_X7_near_229 rfl rfl (Nat.le_of_ble_eq_true rfl) (fun v40 M40 h40 => ?_)
          obtain ⟨rfl, q40⟩ := h40
          rw [q40]
          clear q40
          refine ex_iload F dX7_near_43 rfl ?_
          refine ex_imul F dX7_near_45 ?_
          refine ex_iload F dX7_near_46 rfl ?_
          refine ex_iload_n F dX7_near_48 rfl rfl ?_
          refine ex_iload_n F dX7_near_49 rfl rfl ?_
          refine ex_iadd F dX7_near_50 ?_
          refine ex_iload_n F dX7_near_51 rfl rfl ?_
          refine ex_iadd F dX7_near_52 ?_
          refine ex_imul F dX7_near_53 ?_
          refine ex_icmp_gt (t := 61) F dX7_near_54 (by decide) (fun c54 => ?_) (fun c54 => ?_)
          · refine ex_iinc (w := _ + 1) F dX7_near_61 rfl rfl (by decide) ?_
            refine ex_goto (t := 28) F dX7_near_64 (by decide) ?_
            exact ex_weak2 (ih (r + 1) _ _ (by omega) (nI_1 r) (by rw [sNear, if_neg (Int32.not_le.mpr c54), ho])) ⟨rfl, rfl, rfl, rfl, rfl, rfl, rfl, rfl, trivial⟩
          · refine ex_iload F dX7_near_57 rfl ?_
            refine ex_istore F dX7_near_59 (by decide) ?_
            refine ex_iinc (w := _ + 1) F dX7_near_61 rfl rfl (by decide) ?_
            refine ex_goto (t := 28) F dX7_near_64 (by decide) ?_
            exact ex_weak2 (ih (r + 1) _ _ (by omega) (nI_1 r) (by rw [sNear, if_pos (Int32.not_lt.mp c54)])) ⟨rfl, rfl, rfl, rfl, rfl, rfl, rfl, rfl, trivial⟩
      exact ex_weak2 (key 31 0 _ _ (by omega) rfl rfl) ⟨rfl, rfl, rfl, rfl, rfl, rfl, rfl, rfl, trivial⟩
    · refine ex_iconst (v := -1) F dX7_near_19 (by decide) ?_
      exact ex_iret F R dX7_near_20 rfl (⟨by rw [if_pos (by simp [b2i_0.mp c6, b2i_1.mp c16])], rfl⟩)
theorem rod_n {a b c : Int32} (h : badRod a b c = false) : ∃ x y z, x ≤ 9 ∧ y ≤ 9 ∧ z ≤ 9 ∧ 0 < x + y + z ∧ a = nI x ∧ b = nI y ∧ c = nI z := by
  simp only [badRod, Bool.or_eq_false_iff, decide_eq_false_iff_not] at h
  obtain ⟨x, -, lx, ex⟩ := outB_n (a := 0) (b := 9) (by decide) h.1 (by decide)
  obtain ⟨y, -, ly, ey⟩ := outB_n (a := 0) (b := 9) (by decide) h.2.1 (by decide)
  obtain ⟨z, -, lz, ez⟩ := outB_n (a := 0) (b := 9) (by decide) h.2.2.1 (by decide)
  refine ⟨x, y, z, lx, ly, lz, ?_, ex, ey, ez⟩
  rcases Nat.eq_zero_or_pos (x + y + z) with q | q
  · exact absurd (by rw [ex, ey, ez, nI_add, nI_add, q]; rfl) h.2.2.2
  · exact q
theorem above_n {r a b c : Int32} {x y z : Nat} (ea : a = nI x) (eb : b = nI y) (ec : c = nI z) : ∃ n, n ≤ x + y + z ∧ sAbove r a b c = nI n := by
  unfold sAbove
  have h1 : ∀ (p : Prop) [Decidable p] (v : Int32) (n : Nat), v = nI n → ∃ k, k ≤ n ∧ (if p then v else 0) = nI k := by
    intro p _ v n hv
    by_cases hp : p
    · exact ⟨n, Nat.le_refl _, by rw [if_pos hp, hv]⟩
    · exact ⟨0, Nat.zero_le _, by rw [if_neg hp]; rfl⟩
  obtain ⟨k1, l1, e1⟩ := h1 (16 < r + 1) a x ea
  obtain ⟨k2, l2, e2⟩ := h1 (16 < r) b y eb
  obtain ⟨k3, l3, e3⟩ := h1 (16 < r - 1) c z ec
  exact ⟨k1 + k2 + k3, by omega, by rw [e1, e2, e3, nI_add, nI_add]⟩
theorem cs_X7_rod_85 : CSS (xmN YX7_rod).cls (xmF YX7_rod) (xmW YX7_rod) 85 3 YX7_outside := ⟨⟨ml_X7_85, ini_X7, cd_X7_outside, by decide +kernel, by decide⟩, st_X7_outside⟩
theorem cs_X7_rod_226 : CSS (xmN YX7_rod).cls (xmF YX7_rod) (xmW YX7_rod) 226 3 YX7_isBadRod := ⟨⟨ml_X7_226, ini_X7, cd_X7_isBadRod, by decide +kernel, by decide⟩, st_X7_isBadRod⟩
theorem cs_X7_rod_229 : CSS (xmN YX7_rod).cls (xmF YX7_rod) (xmW YX7_rod) 229 4 YX7_chancesAbove := ⟨⟨ml_X7_229, ini_X7, cd_X7_chancesAbove, by decide +kernel, by decide⟩, st_X7_chancesAbove⟩
theorem cs_X7_rod_212 : CSS (xmN YX7_rod).cls (xmF YX7_rod) (xmW YX7_rod) 212 3 YX7_lowest := ⟨⟨ml_X7_212, ini_X7, cd_X7_lowest, by decide +kernel, by decide⟩, st_X7_lowest⟩
set_option maxRecDepth 100000 in
theorem c_X7_rod {l : Launch} {g : XG} {M : Mem} {r a b c wh : Int32} : Call l g YX7_rod [.ref (ad g 0), .int r, .int a, .int b, .int c, .int wh] M (PI (fun v M' => v = (if (outB r 0 30 || (badRod a b c || outB wh 0 1)) = true then -1 else (sLow (sAbove r a b c).toNatClampNeg (a + b + c).toNatClampNeg wh).toInt32) ∧ M' = M)) := by
  refine call_of (by decide +kernel) (Nat.le_of_ble_eq_true rfl) (fun x hxl F R => ?_)
  subst hxl
  refine ex_iload_n F dX7_rod_0 rfl rfl ?_
  refine ex_iconst (v := 0) F dX7_rod_1 (by decide) ?_
  refine ex_bipush (v := 30) F dX7_rod_2 (by decide) ?_
  refine ex_callSi F (c_X7_outside) dX7_rod_4 cs_X7_rod_85 rfl rfl (Nat.le_of_ble_eq_true rfl) (fun v4 M4 h4 => ?_)
  obtain ⟨rfl, q4⟩ := h4
  rw [q4]
  clear q4
  refine ex_if_ne (t := 30) F dX7_rod_7 (by decide) (fun c7 => ?_) (fun c7 => ?_)
  · refine ex_iconst (v := -1) F dX7_rod_30 (by decide) ?_
    exact ex_iret F R dX7_rod_31 rfl (⟨by rw [if_pos (by simp [b2i_1.mp c7])], rfl⟩)
  · refine ex_iload_n F dX7_rod_10 rfl rfl ?_
    refine ex_iload_n F dX7_rod_11 rfl rfl ?_
    refine ex_iload F dX7_rod_12 rfl ?_
    refine ex_callSi F (c_X7_isBadRod) dX7_rod_14 cs_X7_rod_226 rfl rfl (Nat.le_of_ble_eq_true rfl) (fun v14 M14 h14 => ?_)
    obtain ⟨rfl, q14⟩ := h14
    rw [q14]
    clear q14
    refine ex_if_ne (t := 30) F dX7_rod_17 (by decide) (fun c17 => ?_) (fun c17 => ?_)
    · refine ex_iconst (v := -1) F dX7_rod_30 (by decide) ?_
      exact ex_iret F R dX7_rod_31 rfl (⟨by rw [if_pos (by simp [b2i_0.mp c7, b2i_1.mp c17])], rfl⟩)
    · refine ex_iload F dX7_rod_20 rfl ?_
      refine ex_iconst (v := 0) F dX7_rod_22 (by decide) ?_
      refine ex_iconst (v := 1) F dX7_rod_23 (by decide) ?_
      refine ex_callSi F (c_X7_outside) dX7_rod_24 cs_X7_rod_85 rfl rfl (Nat.le_of_ble_eq_true rfl) (fun v24 M24 h24 => ?_)
      obtain ⟨rfl, q24⟩ := h24
      rw [q24]
      clear q24
      refine ex_if_eq (t := 32) F dX7_rod_27 (by decide) (fun c27 => ?_) (fun c27 => ?_)
      · obtain ⟨xa, xb, xc, la, lb, lc, l0, ea, eb, ec⟩ := rod_n (b2i_0.mp c17)
        obtain ⟨ab, lab, eab⟩ := above_n (r := r) ea eb ec
        have es : a + b + c = nI (xa + xb + xc) := by rw [ea, eb, ec, nI_add, nI_add]
        have n1 : (sAbove r a b c).toNatClampNeg = ab := by rw [eab]; exact nI_clamp (by omega)
        have n2 : (a + b + c).toNatClampNeg = xa + xb + xc := by rw [es]; exact nI_clamp (by omega)
        refine ex_iload_n F dX7_rod_32 rfl rfl ?_
        refine ex_iload_n F dX7_rod_33 rfl rfl ?_
        refine ex_iload_n F dX7_rod_34 rfl rfl ?_
        refine ex_iload F dX7_rod_35 rfl ?_
        refine ex_callSi F (c_X7_chancesAbove) dX7_rod_37 cs_X7_rod_229 rfl rfl (Nat.le_of_ble_eq_true rfl) (fun v37 M37 h37 => ?_)
        obtain ⟨rfl, q37⟩ := h37
        rw [q37]
        clear q37
        refine ex_i2l F dX7_rod_40 ?_
        refine ex_iload_n F dX7_rod_41 rfl rfl ?_
        refine ex_iload_n F dX7_rod_42 rfl rfl ?_
        refine ex_iadd F dX7_rod_43 ?_
        refine ex_iload F dX7_rod_44 rfl ?_
        refine ex_iadd F dX7_rod_46 ?_
        refine ex_i2l F dX7_rod_47 ?_
        refine ex_iload F dX7_rod_48 rfl ?_
        rw [eab, es, nI_l (by omega), nI_l (by omega)]
        refine ex_callSl F (c_X7_lowest (X := ab) (Y := xa + xb + xc) (by omega) l0 (by omega)) dX7_rod_50 cs_X7_rod_212 rfl rfl (Nat.le_of_ble_eq_true rfl) (fun v50 M50 h50 => ?_)
        obtain ⟨rfl, q50⟩ := h50
        rw [q50]
        clear q50
        refine ex_l2i F dX7_rod_53 ?_
        exact ex_iret F R dX7_rod_54 rfl (⟨by rw [if_neg (by simp [b2i_0.mp c7, b2i_0.mp c17, b2i_0.mp c27]), n1, n2], rfl⟩)
      · refine ex_iconst (v := -1) F dX7_rod_30 (by decide) ?_
        exact ex_iret F R dX7_rod_31 rfl (⟨by rw [if_pos (by simp [b2i_0.mp c7, b2i_0.mp c17, b2i_1.mp c27])], rfl⟩)
