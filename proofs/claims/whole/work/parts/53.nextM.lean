def nxI (r : Nat → Int32) (p : Int32) (c : Nat → Int32) (d : Nat) (dd bt : Int32) : Prop := (sNextN r p c d = (-4, -4) ∧ dd = -4 ∧ bt = 401) ∨ (¬ (sNextN r p c d).1 = -4 ∧ dd = (sNextN r p c d).2 ∧ bt = (sNextN r p c d).1 ∧ ¬ dd = -4)
theorem nx_skip {r : Nat → Int32} {p : Int32} {c : Nat → Int32} {d : Nat} {dd bt S : Int32} (h : nxI r p c d dd bt) (hS : S = sTillN r p (sDeed d c) 400 1) (h2 : S = -4 ∨ (¬ S < bt ∧ S < 401)) : nxI r p c (d + 1) dd bt := by
  have e : sNextN r p c (d + 1) = sNextN r p c d := by
    rw [sNextN, ← hS]
    rcases h2 with q | ⟨q, q2⟩
    · rw [if_pos q]
    · by_cases q3 : S = -4
      · rw [if_pos q3]
      · rw [if_neg q3]
        rcases h with ⟨e1, e2, e3⟩ | ⟨e1, e2, e3, e4⟩
        · rw [e3] at q; exact absurd q2 q
        · rw [if_neg]
          rintro (z | z)
          · exact e1 z
          · rw [← e3] at z; exact q z
  unfold nxI
  rw [e]
  exact h
theorem nx_take {r : Nat → Int32} {p : Int32} {c : Nat → Int32} {d : Nat} {dd bt S : Int32} (h : nxI r p c d dd bt) (hS : S = sTillN r p (sDeed d c) 400 1) (h1 : ¬ S = -4) (h2 : S < bt) (hd : d < 4) : nxI r p c (d + 1) (nI d) S := by
  have e : sNextN r p c (d + 1) = (S, nI d) := by
    rw [sNextN, ← hS, if_neg h1, if_pos]
    rcases h with ⟨e1, e2, e3⟩ | ⟨e1, e2, e3, e4⟩
    · exact Or.inl (by rw [e1])
    · exact Or.inr (by rw [← e3]; exact h2)
  unfold nxI
  rw [e]
  exact Or.inr ⟨h1, rfl, rfl, nI_m4 (by omega)⟩
theorem clampI {w z : Nat} (hw : w ≤ 400) : (nI w + 0 : Int32) = nI w := Int32.add_zero _
theorem i_ofInt {x : Int32} {z : Int} (h : x.toInt = z) (a b : Int32) (ha : x < a ↔ z < a.toInt) : True := trivial
theorem nx_m4 {r : Nat → Int32} {p : Int32} {c : Nat → Int32} {dd bt wh : Int32} (h : nxI r p c 4 dd bt) (e : dd = -4) : dd = if wh = 0 then (sNextN r p c 4).2 else (sNextN r p c 4).1 := by
  rcases h with ⟨e1, e2, e3⟩ | ⟨e1, e2, e3, e4⟩
  · rw [e1, e]; split <;> rfl
  · exact absurd e e4
theorem nx_d {r : Nat → Int32} {p : Int32} {c : Nat → Int32} {dd bt wh : Int32} (h : nxI r p c 4 dd bt) (e : wh = 0) : dd = if wh = 0 then (sNextN r p c 4).2 else (sNextN r p c 4).1 := by
  rw [if_pos e]
  rcases h with ⟨e1, e2, e3⟩ | ⟨e1, e2, e3, e4⟩
  · rw [e1, e2]
  · exact e2
theorem nx_t {r : Nat → Int32} {p : Int32} {c : Nat → Int32} {dd bt wh : Int32} (h : nxI r p c 4 dd bt) (h4 : ¬ dd = -4) (e : ¬ wh = 0) : bt = if wh = 0 then (sNextN r p c 4).2 else (sNextN r p c 4).1 := by
  rw [if_neg e]
  rcases h with ⟨e1, e2, e3⟩ | ⟨e1, e2, e3, e4⟩
  · exact absurd e2 h4
  · exact e3
theorem upd1_id {c : Nat → Int32} {x : Int32} (h : c 1 = x) : upd c 1 x = c := by
  funext j
  by_cases q : j = 1
  · subst q; rw [pk_us, h]
  · rw [pk_un q]
theorem d_int {x : Nat} (hx : x ≤ 400) : (nI x + 20).toInt = (x : Int) + 20 ∧ (nI x + (-20)).toInt = (x : Int) - 20 := by
  have h20 : (20 : Int32).toInt = 20 := by decide
  have hm20 : (-20 : Int32).toInt = -20 := by decide
  have hx2 : (nI x).toInt = x := nI_toInt (by omega)
  exact ⟨by rw [Jvm.Kit.i32_add (by rw [hx2, h20]; omega) (by rw [hx2, h20]; omega), hx2, h20], by rw [Jvm.Kit.i32_add (by rw [hx2, hm20]; omega) (by rw [hx2, hm20]; omega), hx2, hm20]; rfl⟩
theorem d_lo {x : Int32} {z : Int} (e : x.toInt = z) (hz : 0 ≤ z) : (0 : Int32) ≤ x := Int32.le_iff_toInt_le.mpr (by rw [e]; exact hz)
theorem d_hi {x : Int32} {z : Int} (e : x.toInt = z) (hz : z ≤ 400) : x ≤ (400 : Int32) := Int32.le_iff_toInt_le.mpr (by rw [e]; exact hz)
theorem deed0_lo {c : Nat → Int32} {w : Nat} (lw : w ≤ 400) (hw : c 1 = nI w) (h : ¬ (0 : Int32) ≤ nI w + 0) : upd c 1 0 = sDeed 0 c := absurd (by rw [Int32.add_zero]; exact nI_le (a := 0) (Nat.zero_le w) (by omega)) h
theorem deed0_in {c : Nat → Int32} {w : Nat} (lw : w ≤ 400) (hw : c 1 = nI w) (h : (0 : Int32) ≤ nI w + 0) (h2 : nI w + 0 ≤ (400 : Int32)) : upd c 1 (nI w + 0) = sDeed 0 c := by
  rw [Int32.add_zero, upd1_id hw]; rfl
theorem deed0_hi {c : Nat → Int32} {w : Nat} (lw : w ≤ 400) (hw : c 1 = nI w) (h : (0 : Int32) ≤ nI w + 0) (h2 : ¬ nI w + 0 ≤ (400 : Int32)) : upd c 1 400 = sDeed 0 c := absurd (by rw [Int32.add_zero]; exact nI_le (b := 400) lw (by decide)) h2
theorem deed1_lo {c : Nat → Int32} {w : Nat} (lw : w ≤ 400) (hw : c 1 = nI w) (h : ¬ (0 : Int32) ≤ nI w + 0) : upd (sHalfN 7 c) 1 0 = sDeed 1 c := absurd (by rw [Int32.add_zero]; exact nI_le (a := 0) (Nat.zero_le w) (by omega)) h
theorem deed1_in {c : Nat → Int32} {w : Nat} (lw : w ≤ 400) (hw : c 1 = nI w) (h : (0 : Int32) ≤ nI w + 0) (h2 : nI w + 0 ≤ (400 : Int32)) : upd (sHalfN 7 c) 1 (nI w + 0) = sDeed 1 c := by
  rw [Int32.add_zero, upd1_id (c := sHalfN 7 c) hw]; rfl
theorem deed1_hi {c : Nat → Int32} {w : Nat} (lw : w ≤ 400) (hw : c 1 = nI w) (h : (0 : Int32) ≤ nI w + 0) (h2 : ¬ nI w + 0 ≤ (400 : Int32)) : upd (sHalfN 7 c) 1 400 = sDeed 1 c := absurd (by rw [Int32.add_zero]; exact nI_le (b := 400) lw (by decide)) h2
theorem deed2_e (c : Nat → Int32) : sDeed 2 c = upd c 1 (if c 1 + 20 < 400 then c 1 + 20 else 400) := rfl
theorem deed3_e (c : Nat → Int32) : sDeed 3 c = upd c 1 (if 0 < c 1 - 20 then c 1 - 20 else 0) := rfl
theorem deed2_lo {c : Nat → Int32} {w : Nat} (lw : w ≤ 400) (hw : c 1 = nI w) (h : ¬ (0 : Int32) ≤ nI w + 20) : upd c 1 0 = sDeed 2 c := absurd (d_lo (d_int lw).1 (by omega)) h
theorem deed2_in {c : Nat → Int32} {w : Nat} (lw : w ≤ 400) (hw : c 1 = nI w) (h : (0 : Int32) ≤ nI w + 20) (h2 : nI w + 20 ≤ (400 : Int32)) : upd c 1 (nI w + 20) = sDeed 2 c := by
  rw [deed2_e, capLe, hw, if_pos h2]
theorem deed2_hi {c : Nat → Int32} {w : Nat} (lw : w ≤ 400) (hw : c 1 = nI w) (h : (0 : Int32) ≤ nI w + 20) (h2 : ¬ nI w + 20 ≤ (400 : Int32)) : upd c 1 400 = sDeed 2 c := by
  rw [deed2_e, capLe, hw, if_neg h2]
theorem sub20 (x : Int32) : x - 20 = x + (-20) := Int32.sub_eq_add_neg x 20
theorem deed3_lo {c : Nat → Int32} {w : Nat} (lw : w ≤ 400) (hw : c 1 = nI w) (h : ¬ (0 : Int32) ≤ nI w + (-20)) : upd c 1 0 = sDeed 3 c := by
  rw [deed3_e, hw, sub20, if_neg (fun q => h (Int32.le_of_lt q))]
theorem deed3_in {c : Nat → Int32} {w : Nat} (lw : w ≤ 400) (hw : c 1 = nI w) (h : (0 : Int32) ≤ nI w + (-20)) (h2 : nI w + (-20) ≤ (400 : Int32)) : upd c 1 (nI w + (-20)) = sDeed 3 c := by
  rw [deed3_e, hw, sub20]
  rcases Int32.lt_or_eq_of_le h with q | q
  · rw [if_pos q]
  · rw [← q, if_neg (Int32.lt_irrefl)]
theorem deed3_hi {c : Nat → Int32} {w : Nat} (lw : w ≤ 400) (hw : c 1 = nI w) (h : (0 : Int32) ≤ nI w + (-20)) (h2 : ¬ nI w + (-20) ≤ (400 : Int32)) : upd c 1 400 = sDeed 3 c := absurd (d_hi (d_int lw).2 (by omega)) h2
theorem cs_X8_next_190 : CSV (xmN YX8_next).cls (xmF YX8_next) (xmW YX8_next) 190 0 YX8_awake := ⟨⟨ml_X8_190, ini_X8, cd_X8_awake, by decide +kernel, by decide⟩, im_X8_awake, se_X8_awake⟩
theorem cs_X8_next_193 : CSS (xmN YX8_next).cls (xmF YX8_next) (xmW YX8_next) 193 1 YX8_isPace := ⟨⟨ml_X8_193, ini_X8, cd_X8_isPace, by decide +kernel, by decide⟩, st_X8_isPace⟩
theorem cs_X8_next_78 : CSS (xmN YX8_next).cls (xmF YX8_next) (xmW YX8_next) 78 3 YX8_in := ⟨⟨ml_X8_78, ini_X8, cd_X8_in, by decide +kernel, by decide⟩, st_X8_in⟩
theorem cs_X8_next_233 : CSV (xmN YX8_next).cls (xmF YX8_next) (xmW YX8_next) 233 2 YX8_copies := ⟨⟨ml_X8_233, ini_X8, cd_X8_copies, by decide +kernel, by decide⟩, im_X8_copies, se_X8_copies⟩
theorem cs_X8_next_200 : CSV (xmN YX8_next).cls (xmF YX8_next) (xmW YX8_next) 200 1 YX8_halves := ⟨⟨ml_X8_200, ini_X8, cd_X8_halves, by decide +kernel, by decide⟩, im_X8_halves, se_X8_halves⟩
theorem cs_X8_next_217 : CSV (xmN YX8_next).cls (xmF YX8_next) (xmW YX8_next) 217 2 YX8_tillCome := ⟨⟨ml_X8_217, ini_X8, cd_X8_tillCome, by decide +kernel, by decide⟩, im_X8_tillCome, se_X8_tillCome⟩
set_option maxRecDepth 100000 in
theorem c_X8_next {l : Launch} {g : XG} {M : Mem} {c r : Nat → Int32} {T : Nat} (hR : okR r) (hr : mR M r) (hC : RC c (r 1) M T) (hT : T + 402 < 2 ^ 31) {p wh : Int32} : Call l g YX8_next [.ref (ad g 38), .int p, .int wh] M (PI (fun v M' => v = (if (outB p 1 9 || outB wh 0 1) = true then -1 else if sCome c = true then -2 else if wh = 0 then (sNextN r p c 4).2 else (sNextN r p c 4).1) ∧ RC c (r 1) M' T ∧ frB M M')) := by
  refine call_of (by decide +kernel) (Nat.le_of_ble_eq_true rfl) (fun x hxl F R => ?_)
  subst hxl
  have hw : M 47 1 = r 1 := hr 1 (by decide)
  refine ex_aload_n F dX8_next_0 rfl rfl ?_
  refine ex_callVv F (c_X8_awake) dX8_next_1 cs_X8_next_190 ob_8 rfl rfl rfl rfl (Nat.le_of_ble_eq_true rfl) (fun M1 h1 => ?_)
  obtain ⟨w1, w2, w3, w4⟩ := wake_ok hC hw h1
  have hsc := cM_come w2
  rw [w1] at hsc
  refine ex_iload_n F dX8_next_4 rfl rfl ?_
  refine ex_callSi F (c_X8_isPace) dX8_next_5 cs_X8_next_193 rfl rfl (Nat.le_of_ble_eq_true rfl) (fun v5 M5 h5 => ?_)
  obtain ⟨rfl, q5⟩ := h5
  rw [q5]
  clear q5
  refine ex_if_eq (t := 21) F dX8_next_8 (by decide) (fun c8 => ?_) (fun c8 => ?_)
  · refine ex_iconst (v := -1) F dX8_next_21 (by decide) ?_
    exact ex_iret F R dX8_next_22 rfl (⟨by rw [ift (or_l (by simpa using b2i_0.mp c8))], RC_mk hC.okc w2 w3 w1, w4⟩)
  · refine ex_iload_n F dX8_next_11 rfl rfl ?_
    refine ex_i2l F dX8_next_12 ?_
    refine ex_lconst (v := 0) F dX8_next_13 (by decide) ?_
    refine ex_lconst (v := 1) F dX8_next_14 (by decide) ?_
    refine ex_callSi F (c_X8_in) dX8_next_15 cs_X8_next_78 rfl rfl (Nat.le_of_ble_eq_true rfl) (fun v15 M15 h15 => ?_)
    obtain ⟨e15, q15⟩ := h15
    rw [q15]
    clear q15
    rw [in_out (lo := 0) (hi := 1) (by decide) (by decide)] at e15
    subst e15
    refine ex_if_ne (t := 23) F dX8_next_18 (by decide) (fun c18 => ?_) (fun c18 => ?_)
    · refine ex_aload_n F dX8_next_23 rfl rfl ?_
      refine gf_8_23 F dX8_next_24 fl_X8_46 ?_
      refine ex_iconst (v := 5) F dX8_next_27 (by decide) ?_
      refine ex_iald (n := 80) F dX8_next_28 (by decide) (vpd (by decide)) (j := 5) (by decide) ?_
      refine ex_if_le (t := 35) F dX8_next_29 (by decide) (fun c29 => ?_) (fun c29 => ?_)
      · have hco : sCome c = false := by rw [hsc, come0 (A := 0) w2 c29]; rfl
        refine ex_bipush (v := -4) F dX8_next_35 (by decide) ?_
        refine ex_istore_n F dX8_next_37 rfl (by decide) ?_
        refine ex_sipush (v := 401) F dX8_next_38 (by decide) ?_
        refine ex_istore F dX8_next_41 (by decide) ?_
        refine ex_iconst (v := 0) F dX8_next_43 (by decide) ?_
        refine ex_istore F dX8_next_44 (by decide) ?_
        have hp0 : outB p 1 9 = false := by simpa using b2i_1.mp c8
        have hw0 : outB wh 0 1 = false := by simpa using b2i_1.mp c18
        obtain ⟨pp, -, lp, hp⟩ := outB_n (a := 1) (b := 9) (by decide) hp0 (by decide)
        rw [ifn (or_n hp0 hw0), ifn hco] at R
        have hrk := RC_mk hC.okc w2 w3 w1 (w0 := r 1)
        have key : ∀ (m d : Nat) (u dd bt : Int32) (N : Mem), d + m = 4 → u = nI d → frT M1 N 16 → nxI r p c d dd bt → EX x g (xmL YX8_next) N 46 [(0, .ref (ad g 38)), (1, .int p), (2, .int wh), (3, .int dd), (4, .int bt), (5, .int u)] [] := by
          intro m
          induction m with
          | zero =>
            intro d u dd bt N hd hu hf hx
            obtain rfl : d = 4 := by omega
            subst hu
            refine ex_iload F dX8_next_46 rfl ?_
            refine ex_iconst (v := 4) F dX8_next_48 (by decide) ?_
            refine ex_icmp_ge (t := 195) F dX8_next_49 (by decide) (fun _ => ?_) (fun c => absurd (by decide) c)
            refine ex_iload_n F dX8_next_195 rfl rfl ?_
            refine ex_bipush (v := -4) F dX8_next_196 (by decide) ?_
            refine ex_icmp_eq (t := 205) F dX8_next_198 (by decide) (fun c198 => ?_) (fun c198 => ?_)
            · refine ex_iload_n F dX8_next_205 rfl rfl ?_
              refine ex_goto (t := 211) F dX8_next_206 (by decide) ?_
              exact ex_iret F R dX8_next_211 rfl (⟨nx_m4 hx c198, RC_out hrk hf (by decide), frB_tr w4 (frB_T hf (by decide))⟩)
            · refine ex_iload_n F dX8_next_201 rfl rfl ?_
              refine ex_if_ne (t := 209) F dX8_next_202 (by decide) (fun c202 => ?_) (fun c202 => ?_)
              · refine ex_iload F dX8_next_209 rfl ?_
                exact ex_iret F R dX8_next_211 rfl (⟨nx_t hx c198 c202, RC_out hrk hf (by decide), frB_tr w4 (frB_T hf (by decide))⟩)
              · refine ex_iload_n F dX8_next_205 rfl rfl ?_
                refine ex_goto (t := 211) F dX8_next_206 (by decide) ?_
                exact ex_iret F R dX8_next_211 rfl (⟨nx_d hx c202, RC_out hrk hf (by decide), frB_tr w4 (frB_T hf (by decide))⟩)
          | succ m ih =>
            intro d u dd bt N hd hu hf hx
            subst hu
            have hcN : cM N 0 = c := (cM_out hf (by decide)).trans w1
            have hON : okM N 0 := okM_out hf (by decide) w2
            have row136 : ∀ N1, cM N1 16 = sDeed d c → okM N1 16 → frT N N1 16 → EX x g (xmL YX8_next) N1 136 [(0, .ref (ad g 38)), (1, .int p), (2, .int wh), (3, .int dd), (4, .int bt), (5, .int (nI d))] [] := by
              intro N1 h1 h2 h3
              refine ex_aload_n F dX8_next_136 rfl rfl ?_
              refine ex_bipush (v := 16) F dX8_next_137 (by decide) ?_
              refine ex_iload_n F dX8_next_139 rfl rfl ?_
              refine ex_callVi F (c_X8_tillCome (A := 16) (T := T) (by decide) hR (mR_frT (frB_mR hr w4) (frT_tr hf h3)) (by rw [h1]; exact okC_deed hC.okc) h2 hT hp lp (by rw [h1, come_deed]; exact hco)) dX8_next_140 cs_X8_next_217 ob_8 rfl rfl rfl rfl (Nat.le_of_ble_eq_true rfl) (fun v140 M140 h140 => ?_)
              obtain ⟨e139, n139, m139, t1, t2, -, en139⟩ := h140
              rw [h1] at e139
              have l139 : ¬ v140 = -4 → v140 < 401 := fun z => by rw [(en139 z).1]; exact nI_lt (b := 401) (by omega) (by decide)
              refine ex_istore F dX8_next_143 (by decide) ?_
              refine ex_iload F dX8_next_145 rfl ?_
              refine ex_bipush (v := -4) F dX8_next_147 (by decide) ?_
              refine ex_icmp_eq (t := 164) F dX8_next_149 (by decide) (fun c149 => ?_) (fun c149 => ?_)
              · refine ex_iload_n F dX8_next_164 rfl rfl ?_
                refine ex_istore_n F dX8_next_165 rfl (by decide) ?_
                refine ex_iload F dX8_next_166 rfl ?_
                refine ex_bipush (v := -4) F dX8_next_168 (by decide) ?_
                refine ex_icmp_eq (t := 185) F dX8_next_170 (by decide) (fun _ => ?_) (fun c => absurd c149 c)
                refine ex_iload F dX8_next_185 rfl ?_
                refine ex_istore F dX8_next_187 (by decide) ?_
                refine ex_iinc (w := _ + 1) F dX8_next_189 rfl rfl (by decide) ?_
                refine ex_goto (t := 46) F dX8_next_192 (by decide) ?_
                have hS := e139

                have g := nx_skip hx e139 (Or.inl c149)
                exact ex_weak2 (ih (d + 1) _ _ _ _ (by omega) (nI_1 d) (frT_tr hf (frT_tr h3 (frT_of t2))) g) ⟨rfl, rfl, rfl, rfl, rfl, rfl, trivial⟩
              · refine ex_iload F dX8_next_152 rfl ?_
                refine ex_iload F dX8_next_154 rfl ?_
                refine ex_icmp_ge (t := 164) F dX8_next_156 (by decide) (fun c156 => ?_) (fun c156 => ?_)
                · refine ex_iload_n F dX8_next_164 rfl rfl ?_
                  refine ex_istore_n F dX8_next_165 rfl (by decide) ?_
                  refine ex_iload F dX8_next_166 rfl ?_
                  refine ex_bipush (v := -4) F dX8_next_168 (by decide) ?_
                  refine ex_icmp_eq (t := 185) F dX8_next_170 (by decide) (fun c => absurd c c149) (fun _ => ?_)
                  refine ex_iload F dX8_next_173 rfl ?_
                  refine ex_iload F dX8_next_175 rfl ?_
                  refine ex_icmp_ge (t := 185) F dX8_next_177 (by decide) (fun _ => ?_) (fun c => absurd c156 c)
                  refine ex_iload F dX8_next_185 rfl ?_
                  refine ex_istore F dX8_next_187 (by decide) ?_
                  refine ex_iinc (w := _ + 1) F dX8_next_189 rfl rfl (by decide) ?_
                  refine ex_goto (t := 46) F dX8_next_192 (by decide) ?_
                  have hS := e139

                  have g := nx_skip hx e139 (Or.inr ⟨Int32.not_lt.mpr c156, l139 c149⟩)
                  exact ex_weak2 (ih (d + 1) _ _ _ _ (by omega) (nI_1 d) (frT_tr hf (frT_tr h3 (frT_of t2))) g) ⟨rfl, rfl, rfl, rfl, rfl, rfl, trivial⟩
                · refine ex_iload F dX8_next_159 rfl ?_
                  refine ex_goto (t := 165) F dX8_next_161 (by decide) ?_
                  refine ex_istore_n F dX8_next_165 rfl (by decide) ?_
                  refine ex_iload F dX8_next_166 rfl ?_
                  refine ex_bipush (v := -4) F dX8_next_168 (by decide) ?_
                  refine ex_icmp_eq (t := 185) F dX8_next_170 (by decide) (fun c => absurd c c149) (fun _ => ?_)
                  refine ex_iload F dX8_next_173 rfl ?_
                  refine ex_iload F dX8_next_175 rfl ?_
                  refine ex_icmp_ge (t := 185) F dX8_next_177 (by decide) (fun c => absurd c c156) (fun _ => ?_)
                  refine ex_iload F dX8_next_180 rfl ?_
                  refine ex_goto (t := 187) F dX8_next_182 (by decide) ?_
                  refine ex_istore F dX8_next_187 (by decide) ?_
                  refine ex_iinc (w := _ + 1) F dX8_next_189 rfl rfl (by decide) ?_
                  refine ex_goto (t := 46) F dX8_next_192 (by decide) ?_
                  have hS := e139

                  have g := nx_take hx e139 c149 (Int32.not_le.mp c156) (by omega)
                  exact ex_weak2 (ih (d + 1) _ _ _ _ (by omega) (nI_1 d) (frT_tr hf (frT_tr h3 (frT_of t2))) g) ⟨rfl, rfl, rfl, rfl, rfl, rfl, trivial⟩
            have hd4 : d = 0 ∨ d = 1 ∨ d = 2 ∨ d = 3 := by omega
            obtain ⟨⟨cw, lcw, hcw⟩, -⟩ := hC.okc
            rcases hd4 with rfl | rfl | rfl | rfl
            · refine ex_iload F dX8_next_46 rfl ?_
              refine ex_iconst (v := 4) F dX8_next_48 (by decide) ?_
              refine ex_icmp_ge (t := 195) F dX8_next_49 (by decide) (fun c => absurd c (by decide)) (fun _ => ?_)
              refine ex_aload_n F dX8_next_52 rfl rfl ?_
              refine ex_iconst (v := 0) F dX8_next_53 (by decide) ?_
              refine ex_bipush (v := 16) F dX8_next_54 (by decide) ?_
              refine ex_callVv F (c_X8_copies (A := 0) (B := 16) (by decide) (by decide) (by decide)) dX8_next_56 cs_X8_next_233 ob_8 rfl rfl rfl rfl (Nat.le_of_ble_eq_true rfl) (fun M56 h56 => ?_)
              obtain ⟨k1, k2⟩ := h56
              have hb : cM M56 16 = c := (cM_eq (A := 0) (B := 16) (fun i hi => k1 i (by omega))).trans hcN
              have hOb : okM M56 16 := by
                obtain ⟨t, lt, e⟩ := hON
                exact ⟨t, lt, (k1 5 (by decide)).trans e⟩
              have hfb : frT N M56 16 := k2
              refine ex_iload F dX8_next_59 rfl ?_
              refine ex_iconst (v := 1) F dX8_next_61 (by decide) ?_
              refine ex_icmp_ne (t := 71) F dX8_next_62 (by decide) (fun _ => ?_) (fun c => absurd c (by decide))
              refine ex_aload_n F dX8_next_71 rfl rfl ?_
              refine gf_8_23 F dX8_next_72 fl_X8_46 ?_
              refine ex_bipush (v := 17) F dX8_next_75 (by decide) ?_
              refine ex_iald (n := 80) F dX8_next_77 (by decide) (vpd (by decide)) (j := 17) (by decide) ?_
              refine ex_iload F dX8_next_78 rfl ?_
              refine ex_iconst (v := 2) F dX8_next_80 (by decide) ?_
              refine ex_icmp_ne (t := 89) F dX8_next_81 (by decide) (fun _ => ?_) (fun c => absurd c (by decide))
              refine ex_iload F dX8_next_89 rfl ?_
              refine ex_iconst (v := 3) F dX8_next_91 (by decide) ?_
              refine ex_icmp_ne (t := 100) F dX8_next_92 (by decide) (fun _ => ?_) (fun c => absurd c (by decide))
              refine ex_iconst (v := 0) F dX8_next_100 (by decide) ?_
              refine ex_iadd F dX8_next_101 ?_
              refine ex_istore F dX8_next_102 (by decide) ?_
              refine ex_aload_n F dX8_next_104 rfl rfl ?_
              refine gf_8_23 F dX8_next_105 fl_X8_46 ?_
              refine ex_bipush (v := 17) F dX8_next_108 (by decide) ?_
              refine ex_iload F dX8_next_110 rfl ?_
              refine ex_if_ge (t := 119) F dX8_next_112 (by decide) (fun c112 => ?_) (fun c112 => ?_)
              · refine ex_iload F dX8_next_119 rfl ?_
                refine ex_sipush (v := 400) F dX8_next_121 (by decide) ?_
                refine ex_icmp_le (t := 133) F dX8_next_124 (by decide) (fun c124 => ?_) (fun c124 => ?_)
                · refine ex_iload F dX8_next_133 rfl ?_
                  refine ex_iast (n := 80) F dX8_next_135 (by decide) (vpd (by decide)) (j := 17) (by decide) ?_
                  have hb1 : M56 51 17 = nI cw := by
                    have q := congrFun hb 1
                    rw [cM_o (by decide) (by decide)] at q
                    exact q.trans hcw
                  rw [hb1]
                  refine ex_weak2 (row136 _ ?_ (okM_fr hOb (mu_j _ _ _ _ _ (by decide))) (frT_tr hfb (frT_of (frS_mu (A := 16) (j := 1) _ (by decide))))) ⟨rfl, rfl, rfl, rfl, rfl, rfl, trivial⟩
                  refine (cM_mu (A := 16) (j := 1) (by decide) (by decide)).trans ?_
                  rw [hb1] at c112 c124
                  rw [hb]
                  exact deed0_in lcw hcw c112 c124
                · refine ex_sipush (v := 400) F dX8_next_127 (by decide) ?_
                  refine ex_goto (t := 135) F dX8_next_130 (by decide) ?_
                  refine ex_iast (n := 80) F dX8_next_135 (by decide) (vpd (by decide)) (j := 17) (by decide) ?_
                  have hb1 : M56 51 17 = nI cw := by
                    have q := congrFun hb 1
                    rw [cM_o (by decide) (by decide)] at q
                    exact q.trans hcw
                  rw [hb1]
                  refine ex_weak2 (row136 _ ?_ (okM_fr hOb (mu_j _ _ _ _ _ (by decide))) (frT_tr hfb (frT_of (frS_mu (A := 16) (j := 1) _ (by decide))))) ⟨rfl, rfl, rfl, rfl, rfl, rfl, trivial⟩
                  refine (cM_mu (A := 16) (j := 1) (by decide) (by decide)).trans ?_
                  rw [hb1] at c112 c124
                  rw [hb]
                  exact deed0_hi lcw hcw c112 c124
              · refine ex_iconst (v := 0) F dX8_next_115 (by decide) ?_
                refine ex_goto (t := 135) F dX8_next_116 (by decide) ?_
                refine ex_iast (n := 80) F dX8_next_135 (by decide) (vpd (by decide)) (j := 17) (by decide) ?_
                have hb1 : M56 51 17 = nI cw := by
                  have q := congrFun hb 1
                  rw [cM_o (by decide) (by decide)] at q
                  exact q.trans hcw
                rw [hb1]
                refine ex_weak2 (row136 _ ?_ (okM_fr hOb (mu_j _ _ _ _ _ (by decide))) (frT_tr hfb (frT_of (frS_mu (A := 16) (j := 1) _ (by decide))))) ⟨rfl, rfl, rfl, rfl, rfl, rfl, trivial⟩
                refine (cM_mu (A := 16) (j := 1) (by decide) (by decide)).trans ?_
                rw [hb1] at c112
                rw [hb]
                exact deed0_lo lcw hcw c112
            · refine ex_iload F dX8_next_46 rfl ?_
              refine ex_iconst (v := 4) F dX8_next_48 (by decide) ?_
              refine ex_icmp_ge (t := 195) F dX8_next_49 (by decide) (fun c => absurd c (by decide)) (fun _ => ?_)
              refine ex_aload_n F dX8_next_52 rfl rfl ?_
              refine ex_iconst (v := 0) F dX8_next_53 (by decide) ?_
              refine ex_bipush (v := 16) F dX8_next_54 (by decide) ?_
              refine ex_callVv F (c_X8_copies (A := 0) (B := 16) (by decide) (by decide) (by decide)) dX8_next_56 cs_X8_next_233 ob_8 rfl rfl rfl rfl (Nat.le_of_ble_eq_true rfl) (fun M56 h56 => ?_)
              obtain ⟨k1, k2⟩ := h56
              have hb : cM M56 16 = c := (cM_eq (A := 0) (B := 16) (fun i hi => k1 i (by omega))).trans hcN
              have hOb : okM M56 16 := by
                obtain ⟨t, lt, e⟩ := hON
                exact ⟨t, lt, (k1 5 (by decide)).trans e⟩
              have hfb : frT N M56 16 := k2
              refine ex_iload F dX8_next_59 rfl ?_
              refine ex_iconst (v := 1) F dX8_next_61 (by decide) ?_
              refine ex_icmp_ne (t := 71) F dX8_next_62 (by decide) (fun c => absurd c (by decide)) (fun _ => ?_)
              refine ex_aload_n F dX8_next_65 rfl rfl ?_
              refine ex_bipush (v := 16) F dX8_next_66 (by decide) ?_
              refine ex_callVv F (c_X8_halves (A := 16) (by decide)) dX8_next_68 cs_X8_next_200 ob_8 rfl rfl rfl rfl (Nat.le_of_ble_eq_true rfl) (fun M68 h68 => ?_)
              obtain ⟨j1, j2, j3⟩ := h68
              rw [hb] at j1
              replace hb := j1
              replace hOb := okM_fr hOb j3
              replace hfb := frT_tr hfb (frT_of j2)
              refine ex_aload_n F dX8_next_71 rfl rfl ?_
              refine gf_8_23 F dX8_next_72 fl_X8_46 ?_
              refine ex_bipush (v := 17) F dX8_next_75 (by decide) ?_
              refine ex_iald (n := 80) F dX8_next_77 (by decide) (vpd (by decide)) (j := 17) (by decide) ?_
              refine ex_iload F dX8_next_78 rfl ?_
              refine ex_iconst (v := 2) F dX8_next_80 (by decide) ?_
              refine ex_icmp_ne (t := 89) F dX8_next_81 (by decide) (fun _ => ?_) (fun c => absurd c (by decide))
              refine ex_iload F dX8_next_89 rfl ?_
              refine ex_iconst (v := 3) F dX8_next_91 (by decide) ?_
              refine ex_icmp_ne (t := 100) F dX8_next_92 (by decide) (fun _ => ?_) (fun c => absurd c (by decide))
              refine ex_iconst (v := 0) F dX8_next_100 (by decide) ?_
              refine ex_iadd F dX8_next_101 ?_
              refine ex_istore F dX8_next_102 (by decide) ?_
              refine ex_aload_n F dX8_next_104 rfl rfl ?_
              refine gf_8_23 F dX8_next_105 fl_X8_46 ?_
              refine ex_bipush (v := 17) F dX8_next_108 (by decide) ?_
              refine ex_iload F dX8_next_110 rfl ?_
              refine ex_if_ge (t := 119) F dX8_next_112 (by decide) (fun c112 => ?_) (fun c112 => ?_)
              · refine ex_iload F dX8_next_119 rfl ?_
                refine ex_sipush (v := 400) F dX8_next_121 (by decide) ?_
                refine ex_icmp_le (t := 133) F dX8_next_124 (by decide) (fun c124 => ?_) (fun c124 => ?_)
                · refine ex_iload F dX8_next_133 rfl ?_
                  refine ex_iast (n := 80) F dX8_next_135 (by decide) (vpd (by decide)) (j := 17) (by decide) ?_
                  have hb1 : M68 51 17 = nI cw := by
                    have q := congrFun hb 1
                    rw [cM_o (by decide) (by decide)] at q
                    exact q.trans hcw
                  rw [hb1]
                  refine ex_weak2 (row136 _ ?_ (okM_fr hOb (mu_j _ _ _ _ _ (by decide))) (frT_tr hfb (frT_of (frS_mu (A := 16) (j := 1) _ (by decide))))) ⟨rfl, rfl, rfl, rfl, rfl, rfl, trivial⟩
                  refine (cM_mu (A := 16) (j := 1) (by decide) (by decide)).trans ?_
                  rw [hb1] at c112 c124
                  rw [hb]
                  exact deed1_in lcw hcw c112 c124
                · refine ex_sipush (v := 400) F dX8_next_127 (by decide) ?_
                  refine ex_goto (t := 135) F dX8_next_130 (by decide) ?_
                  refine ex_iast (n := 80) F dX8_next_135 (by decide) (vpd (by decide)) (j := 17) (by decide) ?_
                  have hb1 : M68 51 17 = nI cw := by
                    have q := congrFun hb 1
                    rw [cM_o (by decide) (by decide)] at q
                    exact q.trans hcw
                  rw [hb1]
                  refine ex_weak2 (row136 _ ?_ (okM_fr hOb (mu_j _ _ _ _ _ (by decide))) (frT_tr hfb (frT_of (frS_mu (A := 16) (j := 1) _ (by decide))))) ⟨rfl, rfl, rfl, rfl, rfl, rfl, trivial⟩
                  refine (cM_mu (A := 16) (j := 1) (by decide) (by decide)).trans ?_
                  rw [hb1] at c112 c124
                  rw [hb]
                  exact deed1_hi lcw hcw c112 c124
              · refine ex_iconst (v := 0) F dX8_next_115 (by decide) ?_
                refine ex_goto (t := 135) F dX8_next_116 (by decide) ?_
                refine ex_iast (n := 80) F dX8_next_135 (by decide) (vpd (by decide)) (j := 17) (by decide) ?_
                have hb1 : M68 51 17 = nI cw := by
                  have q := congrFun hb 1
                  rw [cM_o (by decide) (by decide)] at q
                  exact q.trans hcw
                rw [hb1]
                refine ex_weak2 (row136 _ ?_ (okM_fr hOb (mu_j _ _ _ _ _ (by decide))) (frT_tr hfb (frT_of (frS_mu (A := 16) (j := 1) _ (by decide))))) ⟨rfl, rfl, rfl, rfl, rfl, rfl, trivial⟩
                refine (cM_mu (A := 16) (j := 1) (by decide) (by decide)).trans ?_
                rw [hb1] at c112
                rw [hb]
                exact deed1_lo lcw hcw c112
            · refine ex_iload F dX8_next_46 rfl ?_
              refine ex_iconst (v := 4) F dX8_next_48 (by decide) ?_
              refine ex_icmp_ge (t := 195) F dX8_next_49 (by decide) (fun c => absurd c (by decide)) (fun _ => ?_)
              refine ex_aload_n F dX8_next_52 rfl rfl ?_
              refine ex_iconst (v := 0) F dX8_next_53 (by decide) ?_
              refine ex_bipush (v := 16) F dX8_next_54 (by decide) ?_
              refine ex_callVv F (c_X8_copies (A := 0) (B := 16) (by decide) (by decide) (by decide)) dX8_next_56 cs_X8_next_233 ob_8 rfl rfl rfl rfl (Nat.le_of_ble_eq_true rfl) (fun M56 h56 => ?_)
              obtain ⟨k1, k2⟩ := h56
              have hb : cM M56 16 = c := (cM_eq (A := 0) (B := 16) (fun i hi => k1 i (by omega))).trans hcN
              have hOb : okM M56 16 := by
                obtain ⟨t, lt, e⟩ := hON
                exact ⟨t, lt, (k1 5 (by decide)).trans e⟩
              have hfb : frT N M56 16 := k2
              refine ex_iload F dX8_next_59 rfl ?_
              refine ex_iconst (v := 1) F dX8_next_61 (by decide) ?_
              refine ex_icmp_ne (t := 71) F dX8_next_62 (by decide) (fun _ => ?_) (fun c => absurd c (by decide))
              refine ex_aload_n F dX8_next_71 rfl rfl ?_
              refine gf_8_23 F dX8_next_72 fl_X8_46 ?_
              refine ex_bipush (v := 17) F dX8_next_75 (by decide) ?_
              refine ex_iald (n := 80) F dX8_next_77 (by decide) (vpd (by decide)) (j := 17) (by decide) ?_
              refine ex_iload F dX8_next_78 rfl ?_
              refine ex_iconst (v := 2) F dX8_next_80 (by decide) ?_
              refine ex_icmp_ne (t := 89) F dX8_next_81 (by decide) (fun c => absurd c (by decide)) (fun _ => ?_)
              refine ex_bipush (v := 20) F dX8_next_84 (by decide) ?_
              refine ex_goto (t := 101) F dX8_next_86 (by decide) ?_
              refine ex_iadd F dX8_next_101 ?_
              refine ex_istore F dX8_next_102 (by decide) ?_
              refine ex_aload_n F dX8_next_104 rfl rfl ?_
              refine gf_8_23 F dX8_next_105 fl_X8_46 ?_
              refine ex_bipush (v := 17) F dX8_next_108 (by decide) ?_
              refine ex_iload F dX8_next_110 rfl ?_
              refine ex_if_ge (t := 119) F dX8_next_112 (by decide) (fun c112 => ?_) (fun c112 => ?_)
              · refine ex_iload F dX8_next_119 rfl ?_
                refine ex_sipush (v := 400) F dX8_next_121 (by decide) ?_
                refine ex_icmp_le (t := 133) F dX8_next_124 (by decide) (fun c124 => ?_) (fun c124 => ?_)
                · refine ex_iload F dX8_next_133 rfl ?_
                  refine ex_iast (n := 80) F dX8_next_135 (by decide) (vpd (by decide)) (j := 17) (by decide) ?_
                  have hb1 : M56 51 17 = nI cw := by
                    have q := congrFun hb 1
                    rw [cM_o (by decide) (by decide)] at q
                    exact q.trans hcw
                  rw [hb1]
                  refine ex_weak2 (row136 _ ?_ (okM_fr hOb (mu_j _ _ _ _ _ (by decide))) (frT_tr hfb (frT_of (frS_mu (A := 16) (j := 1) _ (by decide))))) ⟨rfl, rfl, rfl, rfl, rfl, rfl, trivial⟩
                  refine (cM_mu (A := 16) (j := 1) (by decide) (by decide)).trans ?_
                  rw [hb1] at c112 c124
                  rw [hb]
                  exact deed2_in lcw hcw c112 c124
                · refine ex_sipush (v := 400) F dX8_next_127 (by decide) ?_
                  refine ex_goto (t := 135) F dX8_next_130 (by decide) ?_
                  refine ex_iast (n := 80) F dX8_next_135 (by decide) (vpd (by decide)) (j := 17) (by decide) ?_
                  have hb1 : M56 51 17 = nI cw := by
                    have q := congrFun hb 1
                    rw [cM_o (by decide) (by decide)] at q
                    exact q.trans hcw
                  rw [hb1]
                  refine ex_weak2 (row136 _ ?_ (okM_fr hOb (mu_j _ _ _ _ _ (by decide))) (frT_tr hfb (frT_of (frS_mu (A := 16) (j := 1) _ (by decide))))) ⟨rfl, rfl, rfl, rfl, rfl, rfl, trivial⟩
                  refine (cM_mu (A := 16) (j := 1) (by decide) (by decide)).trans ?_
                  rw [hb1] at c112 c124
                  rw [hb]
                  exact deed2_hi lcw hcw c112 c124
              · refine ex_iconst (v := 0) F dX8_next_115 (by decide) ?_
                refine ex_goto (t := 135) F dX8_next_116 (by decide) ?_
                refine ex_iast (n := 80) F dX8_next_135 (by decide) (vpd (by decide)) (j := 17) (by decide) ?_
                have hb1 : M56 51 17 = nI cw := by
                  have q := congrFun hb 1
                  rw [cM_o (by decide) (by decide)] at q
                  exact q.trans hcw
                rw [hb1]
                refine ex_weak2 (row136 _ ?_ (okM_fr hOb (mu_j _ _ _ _ _ (by decide))) (frT_tr hfb (frT_of (frS_mu (A := 16) (j := 1) _ (by decide))))) ⟨rfl, rfl, rfl, rfl, rfl, rfl, trivial⟩
                refine (cM_mu (A := 16) (j := 1) (by decide) (by decide)).trans ?_
                rw [hb1] at c112
                rw [hb]
                exact deed2_lo lcw hcw c112
            · refine ex_iload F dX8_next_46 rfl ?_
              refine ex_iconst (v := 4) F dX8_next_48 (by decide) ?_
              refine ex_icmp_ge (t := 195) F dX8_next_49 (by decide) (fun c => absurd c (by decide)) (fun _ => ?_)
              refine ex_aload_n F dX8_next_52 rfl rfl ?_
              refine ex_iconst (v := 0) F dX8_next_53 (by decide) ?_
              refine ex_bipush (v := 16) F dX8_next_54 (by decide) ?_
              refine ex_callVv F (c_X8_copies (A := 0) (B := 16) (by decide) (by decide) (by decide)) dX8_next_56 cs_X8_next_233 ob_8 rfl rfl rfl rfl (Nat.le_of_ble_eq_true rfl) (fun M56 h56 => ?_)
              obtain ⟨k1, k2⟩ := h56
              have hb : cM M56 16 = c := (cM_eq (A := 0) (B := 16) (fun i hi => k1 i (by omega))).trans hcN
              have hOb : okM M56 16 := by
                obtain ⟨t, lt, e⟩ := hON
                exact ⟨t, lt, (k1 5 (by decide)).trans e⟩
              have hfb : frT N M56 16 := k2
              refine ex_iload F dX8_next_59 rfl ?_
              refine ex_iconst (v := 1) F dX8_next_61 (by decide) ?_
              refine ex_icmp_ne (t := 71) F dX8_next_62 (by decide) (fun _ => ?_) (fun c => absurd c (by decide))
              refine ex_aload_n F dX8_next_71 rfl rfl ?_
              refine gf_8_23 F dX8_next_72 fl_X8_46 ?_
              refine ex_bipush (v := 17) F dX8_next_75 (by decide) ?_
              refine ex_iald (n := 80) F dX8_next_77 (by decide) (vpd (by decide)) (j := 17) (by decide) ?_
              refine ex_iload F dX8_next_78 rfl ?_
              refine ex_iconst (v := 2) F dX8_next_80 (by decide) ?_
              refine ex_icmp_ne (t := 89) F dX8_next_81 (by decide) (fun _ => ?_) (fun c => absurd c (by decide))
              refine ex_iload F dX8_next_89 rfl ?_
              refine ex_iconst (v := 3) F dX8_next_91 (by decide) ?_
              refine ex_icmp_ne (t := 100) F dX8_next_92 (by decide) (fun c => absurd c (by decide)) (fun _ => ?_)
              refine ex_bipush (v := -20) F dX8_next_95 (by decide) ?_
              refine ex_goto (t := 101) F dX8_next_97 (by decide) ?_
              refine ex_iadd F dX8_next_101 ?_
              refine ex_istore F dX8_next_102 (by decide) ?_
              refine ex_aload_n F dX8_next_104 rfl rfl ?_
              refine gf_8_23 F dX8_next_105 fl_X8_46 ?_
              refine ex_bipush (v := 17) F dX8_next_108 (by decide) ?_
              refine ex_iload F dX8_next_110 rfl ?_
              refine ex_if_ge (t := 119) F dX8_next_112 (by decide) (fun c112 => ?_) (fun c112 => ?_)
              · refine ex_iload F dX8_next_119 rfl ?_
                refine ex_sipush (v := 400) F dX8_next_121 (by decide) ?_
                refine ex_icmp_le (t := 133) F dX8_next_124 (by decide) (fun c124 => ?_) (fun c124 => ?_)
                · refine ex_iload F dX8_next_133 rfl ?_
                  refine ex_iast (n := 80) F dX8_next_135 (by decide) (vpd (by decide)) (j := 17) (by decide) ?_
                  have hb1 : M56 51 17 = nI cw := by
                    have q := congrFun hb 1
                    rw [cM_o (by decide) (by decide)] at q
                    exact q.trans hcw
                  rw [hb1]
                  refine ex_weak2 (row136 _ ?_ (okM_fr hOb (mu_j _ _ _ _ _ (by decide))) (frT_tr hfb (frT_of (frS_mu (A := 16) (j := 1) _ (by decide))))) ⟨rfl, rfl, rfl, rfl, rfl, rfl, trivial⟩
                  refine (cM_mu (A := 16) (j := 1) (by decide) (by decide)).trans ?_
                  rw [hb1] at c112 c124
                  rw [hb]
                  exact deed3_in lcw hcw c112 c124
                · refine ex_sipush (v := 400) F dX8_next_127 (by decide) ?_
                  refine ex_goto (t := 135) F dX8_next_130 (by decide) ?_
                  refine ex_iast (n := 80) F dX8_next_135 (by decide) (vpd (by decide)) (j := 17) (by decide) ?_
                  have hb1 : M56 51 17 = nI cw := by
                    have q := congrFun hb 1
                    rw [cM_o (by decide) (by decide)] at q
                    exact q.trans hcw
                  rw [hb1]
                  refine ex_weak2 (row136 _ ?_ (okM_fr hOb (mu_j _ _ _ _ _ (by decide))) (frT_tr hfb (frT_of (frS_mu (A := 16) (j := 1) _ (by decide))))) ⟨rfl, rfl, rfl, rfl, rfl, rfl, trivial⟩
                  refine (cM_mu (A := 16) (j := 1) (by decide) (by decide)).trans ?_
                  rw [hb1] at c112 c124
                  rw [hb]
                  exact deed3_hi lcw hcw c112 c124
              · refine ex_iconst (v := 0) F dX8_next_115 (by decide) ?_
                refine ex_goto (t := 135) F dX8_next_116 (by decide) ?_
                refine ex_iast (n := 80) F dX8_next_135 (by decide) (vpd (by decide)) (j := 17) (by decide) ?_
                have hb1 : M56 51 17 = nI cw := by
                  have q := congrFun hb 1
                  rw [cM_o (by decide) (by decide)] at q
                  exact q.trans hcw
                rw [hb1]
                refine ex_weak2 (row136 _ ?_ (okM_fr hOb (mu_j _ _ _ _ _ (by decide))) (frT_tr hfb (frT_of (frS_mu (A := 16) (j := 1) _ (by decide))))) ⟨rfl, rfl, rfl, rfl, rfl, rfl, trivial⟩
                refine (cM_mu (A := 16) (j := 1) (by decide) (by decide)).trans ?_
                rw [hb1] at c112
                rw [hb]
                exact deed3_lo lcw hcw c112
        exact ex_weak2 (key 4 0 _ _ _ M1 (by omega) rfl (frT_rf M1 16) (Or.inl ⟨rfl, rfl, rfl⟩)) ⟨rfl, rfl, rfl, rfl, rfl, rfl, trivial⟩
      · refine ex_bipush (v := -2) F dX8_next_32 (by decide) ?_
        exact ex_iret F R dX8_next_34 rfl (⟨by rw [ifn (or_n (show outB p 1 9 = false by simpa using b2i_1.mp c8) (show outB wh 0 1 = false by simpa using b2i_1.mp c18)), ift (by rw [hsc, come1 c29]; rfl)], RC_mk hC.okc w2 w3 w1, w4⟩)
    · refine ex_iconst (v := -1) F dX8_next_21 (by decide) ?_
      exact ex_iret F R dX8_next_22 rfl (⟨by rw [ift (or_r (by simpa using b2i_0.mp c18))], RC_mk hC.okc w2 w3 w1, w4⟩)
