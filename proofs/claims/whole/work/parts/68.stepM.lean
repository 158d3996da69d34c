theorem fls_rkm (M : Mem) (a s h t v y : Int32) : fls (rkm M 0 a s h t v) y = rkm M y h s h t v := by
  rw [fls, rkm_r3, if_pos rfl, rkm_3, rkm_r6, rkm_4]
def wrg (K : Mem) (n s : Nat) : Prop := (kd K n (tkP K n s) = 3 ∧ 3 < tkQ K n s - tkP K n s) ∨ kd K n (tkP K n s) = 5
def tkC (k : Int32) : Int32 := if k = 0 then 0 else if k = 2 then 1 else if k = 3 then 2 else 3
def stpM (K M : Mem) (n s : Nat) (b : Bool) : Mem := rkm M (if b then 1 else 0) (if b then nI (tkP K n s) else M 38 4) (nI (if kd K n (tkP K n s) = 0 then tkP K n s else tkQ K n s)) (nI (tkP K n s)) (tkC (kd K n (tkP K n s))) (if kd K n (tkP K n s) = 3 then nmb (tb K n) (min 3 (tkQ K n s - tkP K n s)) (tkP K n s) 0 else 0)
theorem stp_0 {K M : Mem} {n s P : Nat} (hP : tkP K n s = P) (h : kd K n P = 0) : rkm M 0 (M 38 4) (nI P) (nI P) 0 0 = stpM K M n s false := by
  rw [stpM, hP, h, if_pos rfl, tkC, if_pos rfl, if_neg (by decide), if_neg (by decide), if_neg (by decide)]
theorem stp_2 {K M : Mem} {n s P Q : Nat} (hP : tkP K n s = P) (hQ : tkQ K n s = Q) (h : kd K n P = 2) : rkm M 0 (M 38 4) (nI Q) (nI P) 1 0 = stpM K M n s false := by
  rw [stpM, hP, hQ, h, if_neg (by decide), if_neg (by decide), if_neg (by decide), if_neg (by decide), tkC, if_neg (by decide), if_pos rfl]
theorem stp_3 {K M : Mem} {n s P Q : Nat} (hP : tkP K n s = P) (hQ : tkQ K n s = Q) (h : kd K n P = 3) : rkm M 0 (M 38 4) (nI Q) (nI P) 2 (nmb (tb K n) (min 3 (Q - P)) P 0) = stpM K M n s false := by
  rw [stpM, hP, hQ, h, if_neg (by decide), if_neg (by decide), if_neg (by decide), if_pos rfl, tkC, if_neg (by decide), if_neg (by decide), if_pos rfl]
theorem stp_3w {K M : Mem} {n s P Q : Nat} (hP : tkP K n s = P) (hQ : tkQ K n s = Q) (h : kd K n P = 3) : rkm M 1 (nI P) (nI Q) (nI P) 2 (nmb (tb K n) (min 3 (Q - P)) P 0) = stpM K M n s true := by
  rw [stpM, hP, hQ, h, if_pos rfl, if_pos rfl, if_neg (by decide), if_pos rfl, tkC, if_neg (by decide), if_neg (by decide), if_pos rfl]
theorem tkC_3 {k : Int32} (h0 : ¬ k = 0) (h2 : ¬ k = 2) (h3 : ¬ k = 3) : tkC k = 3 := by rw [tkC, if_neg h0, if_neg h2, if_neg h3]
theorem stp_4 {K M : Mem} {n s P Q : Nat} (hP : tkP K n s = P) (hQ : tkQ K n s = Q) (h0 : ¬ kd K n P = 0) (h2 : ¬ kd K n P = 2) (h3 : ¬ kd K n P = 3) : rkm M 0 (M 38 4) (nI Q) (nI P) 3 0 = stpM K M n s false := by
  rw [stpM, hP, hQ, tkC_3 h0 h2 h3, if_neg h0, if_neg h3, if_neg (by decide), if_neg (by decide)]
theorem stp_4w {K M : Mem} {n s P Q : Nat} (hP : tkP K n s = P) (hQ : tkQ K n s = Q) (h0 : ¬ kd K n P = 0) (h2 : ¬ kd K n P = 2) (h3 : ¬ kd K n P = 3) : rkm M 1 (nI P) (nI Q) (nI P) 3 0 = stpM K M n s true := by
  rw [stpM, hP, hQ, tkC_3 h0 h2 h3, if_neg h0, if_neg h3, if_pos rfl, if_pos rfl]
theorem kdB_v (b : Int32) : kdB b = 1 ∨ kdB b = 4 ∨ kdB b = 2 ∨ kdB b = 3 ∨ kdB b = 5 := by
  unfold kdB
  repeat' split
  · exact Or.inl rfl
  · exact Or.inr (Or.inl rfl)
  · exact Or.inr (Or.inr (Or.inl rfl))
  · exact Or.inr (Or.inr (Or.inr (Or.inl rfl)))
  · exact Or.inr (Or.inr (Or.inr (Or.inr rfl)))
theorem kd_v (K : Mem) (n p : Nat) : kd K n p = 0 ∨ kd K n p = 1 ∨ kd K n p = 4 ∨ kd K n p = 2 ∨ kd K n p = 3 ∨ kd K n p = 5 := by
  by_cases h : n ≤ p
  · exact Or.inl (kd_0 h)
  · exact Or.inr (by rw [kd_lt (by omega)]; exact kdB_v _)
theorem skp_out (f : Nat → Int32) (c : Int32) (n : Nat) (hf : ∀ p, n ≤ p → ¬ f p = c) : ∀ m p, n ≤ p + m → ¬ f (skp f c m p) = c := by
  intro m
  induction m with
  | zero => intro p h; exact hf p h
  | succ m ih =>
    intro p h
    rw [skp]
    split
    · exact ih (p + 1) (by omega)
    · assumption
theorem tkP_not1 {K : Mem} {n s : Nat} (ln : n ≤ 320) : ¬ kd K n (tkP K n s) = 1 := skp_out _ _ n (fun p hp => by rw [kd_0 (show n ≤ p from hp)]; decide) 320 s (by omega)
theorem tkQ_2 {K : Mem} {n s P : Nat} (hP : tkP K n s = P) (h : kd K n P = 2) : skp (kd K n) 2 321 P = tkQ K n s := by
  rw [tkQ, hP, if_pos (Or.inl h), h, skp, if_pos h]
theorem tkQ_3 {K : Mem} {n s P : Nat} (hP : tkP K n s = P) (h : kd K n P = 3) : skp (kd K n) 3 321 P = tkQ K n s := by
  rw [tkQ, hP, if_pos (Or.inr h), h, skp, if_pos h]
theorem tkQ_4 {K : Mem} {n s P : Nat} (hP : tkP K n s = P) (h2 : ¬ kd K n P = 2) (h3 : ¬ kd K n P = 3) : P + 1 = tkQ K n s := by
  rw [tkQ, hP, if_neg (fun q => q.elim h2 h3)]
def stp (K M : Mem) (n s : Nat) : Mem := if (kd K n (tkP K n s) = 3 ∧ 3 < tkQ K n s - tkP K n s) ∨ kd K n (tkP K n s) = 5 then stpM K M n s true else stpM K M n s false
theorem stp_r0 {K M : Mem} {n s P Q : Nat} (hP : tkP K n s = P) (hQ : tkQ K n s = Q) (h : kd K n P = 0) : rkm M 0 (M 38 4) (nI P) (nI P) 0 0 = stp K M n s := by
  rw [stp, hP, hQ, h, if_neg (by rintro (⟨q, -⟩ | q) <;> exact absurd q (by decide)), ← stp_0 hP h]
theorem stp_r2 {K M : Mem} {n s P Q : Nat} (hP : tkP K n s = P) (hQ : tkQ K n s = Q) (h : kd K n P = 2) : rkm M 0 (M 38 4) (nI Q) (nI P) 1 0 = stp K M n s := by
  rw [stp, hP, hQ, h, if_neg (by rintro (⟨q, -⟩ | q) <;> exact absurd q (by decide)), ← stp_2 hP hQ h]
theorem stp_r3 {K M : Mem} {n s P Q : Nat} (hP : tkP K n s = P) (hQ : tkQ K n s = Q) (h : kd K n P = 3) (l : Q - P ≤ 3) : rkm M 0 (M 38 4) (nI Q) (nI P) 2 (nmb (tb K n) (min 3 (Q - P)) P 0) = stp K M n s := by
  rw [stp, hP, hQ, h, if_neg (by rintro (⟨-, q⟩ | q); omega; exact absurd q (by decide)), ← stp_3 hP hQ h]
theorem stp_r3w {K M : Mem} {n s P Q : Nat} (hP : tkP K n s = P) (hQ : tkQ K n s = Q) (h : kd K n P = 3) (l : ¬ Q - P ≤ 3) : fls (rkm M 0 (M 38 4) (nI Q) (nI P) 2 (nmb (tb K n) (min 3 (Q - P)) P 0)) 1 = stp K M n s := by
  rw [fls_rkm, stp, hP, hQ, if_pos (Or.inl ⟨h, by omega⟩), ← stp_3w hP hQ h]
theorem stp_r4 {K M : Mem} {n s P Q : Nat} (hP : tkP K n s = P) (hQ : tkQ K n s = Q) (h0 : ¬ kd K n P = 0) (h2 : ¬ kd K n P = 2) (h3 : ¬ kd K n P = 3) (h4 : kd K n P = 4) : rkm M 0 (M 38 4) (nI (P + 1)) (nI P) 3 0 = stp K M n s := by
  have e := tkQ_4 hP h2 h3
  rw [hQ] at e
  rw [e, stp, hP, hQ, h4, if_neg (by rintro (⟨q, -⟩ | q) <;> exact absurd q (by decide)), ← stp_4 hP hQ h0 h2 h3]
theorem stp_r5 {K M : Mem} {n s P Q : Nat} (hP : tkP K n s = P) (hQ : tkQ K n s = Q) (h0 : ¬ kd K n P = 0) (h2 : ¬ kd K n P = 2) (h3 : ¬ kd K n P = 3) (h1 : ¬ kd K n P = 1) (h4 : ¬ kd K n P = 4) : fls (rkm M 0 (M 38 4) (nI (P + 1)) (nI P) 3 0) 1 = stp K M n s := by
  have e := tkQ_4 hP h2 h3
  rw [hQ] at e
  have h5 : kd K n P = 5 := by
    rcases kd_v K n P with q | q | q | q | q | q
    · exact absurd q h0
    · exact absurd q h1
    · exact absurd q h4
    · exact absurd q h2
    · exact absurd q h3
    · exact q
  rw [fls_rkm, e, stp, hP, hQ, if_pos (Or.inr h5), ← stp_4w hP hQ h0 h2 h3]
theorem cs_X8_step_97 : CSV (xmN YX8_step).cls (xmF YX8_step) (xmW YX8_step) 97 1 YX8_byteAt := ⟨⟨ml_X8_97, ini_X8, cd_X8_byteAt, by decide +kernel, by decide⟩, im_X8_byteAt, se_X8_byteAt⟩
theorem cs_X8_step_78 : CSS (xmN YX8_step).cls (xmF YX8_step) (xmW YX8_step) 78 3 YX8_in := ⟨⟨ml_X8_78, ini_X8, cd_X8_in, by decide +kernel, by decide⟩, st_X8_in⟩
theorem cs_X8_step_112 : CSV (xmN YX8_step).cls (xmF YX8_step) (xmW YX8_step) 112 1 YX8_fails := ⟨⟨ml_X8_112, ini_X8, cd_X8_fails, by decide +kernel, by decide⟩, im_X8_fails, se_X8_fails⟩
set_option maxRecDepth 100000 in
theorem c_X8_step {l : Launch} {g : XG} {M : Mem} {K : Mem} {n s : Nat} (hT : RT K M n) (hY : BY K) (hb : M 38 3 = 0) (hs : M 38 5 = nI s) (ls : s < 1000000000) : Call l g YX8_step [.ref (ad g 38)] M (PV (fun M' => M' = stp K M n s)) := by
  refine call_of (by decide +kernel) (Nat.le_of_ble_eq_true rfl) (fun x hxl F R => ?_)
  subst hxl
  refine ex_M (rkm_id M) ?_
  rw [hb, hs]
  refine ex_aload_n F dX8_step_0 rfl rfl ?_
  refine gf_8_3 F dX8_step_1 fl_X8_82 ?_
  rw [rkm_r3]
  refine ex_if_le (t := 8) F dX8_step_4 (by decide) (fun _ => ?_) (fun c => absurd (by decide) c)
  obtain ⟨P, hP⟩ : ∃ P, tkP K n s = P := ⟨_, rfl⟩
  obtain ⟨Q, hQ⟩ : ∃ Q, tkQ K n s = Q := ⟨_, rfl⟩
  have bP := tkP_b K n s
  have bQ := tkQ_b K n s
  have nP := tkP_not1 (K := K) (s := s) hT.1
  rw [hP] at bP bQ nP
  rw [hQ] at bQ
  have ln := hT.1
  have tail : EX x g (xmL YX8_step) (rkm M 0 (M 38 4) (nI P) (M 38 6) (M 38 7) (M 38 8)) 34 [(0, .ref (ad g 38))] [] := by
    refine ex_aload_n F dX8_step_34 rfl rfl ?_
    refine ex_aload_n F dX8_step_35 rfl rfl ?_
    refine gf_8_5 F dX8_step_36 fl_X8_94 ?_
    rw [rkm_r5]
    refine pf_8_6 F dX8_step_39 fl_X8_85 ?_
    rw [rkm_6]
    refine ex_aload_n F dX8_step_42 rfl rfl ?_
    refine ex_aload_n F dX8_step_43 rfl rfl ?_
    refine gf_8_5 F dX8_step_44 fl_X8_94 ?_
    rw [rkm_r5]
    refine ex_callVi F (c_X8_byteAt (M := (rkm M 0 (M 38 4) (nI P) (nI P) (M 38 7) (M 38 8))) (K := K) (n := n) (p := P) (by exact hT) (by omega)) dX8_step_47 cs_X8_step_97 ob_8 rfl rfl rfl rfl (Nat.le_of_ble_eq_true rfl) (fun v47 M47 h47 => ?_)
    obtain ⟨rfl, q47⟩ := h47
    rw [q47]
    clear q47
    refine ex_istore_n F dX8_step_50 rfl (by decide) ?_
    refine ex_aload_n F dX8_step_51 rfl rfl ?_
    refine ex_iconst (v := 0) F dX8_step_52 (by decide) ?_
    refine pf_8_8 F dX8_step_53 fl_X8_101 ?_
    rw [rkm_8]
    refine ex_iload_n F dX8_step_56 rfl rfl ?_
    refine ex_bipush (v := -4) F dX8_step_57 (by decide) ?_
    refine ex_icmp_ne (t := 70) F dX8_step_59 (by decide) (fun c59 => ?_) (fun c59 => ?_)
    · refine ex_iload_n F dX8_step_70 rfl rfl ?_
      refine ex_i2l F dX8_step_71 ?_
      refine ex_ldc2 F dX8_step_72 kc_X8_104 ?_
      refine ex_ldc2 F dX8_step_75 kc_X8_106 ?_
      refine ex_callSi F (c_X8_in) dX8_step_78 cs_X8_step_78 rfl rfl (Nat.le_of_ble_eq_true rfl) (fun v78 M78 h78 => ?_)
      obtain ⟨e78, q78⟩ := h78
      rw [q78]
      clear q78
      rw [in_out (lo := 97) (hi := 122) (by decide) (by decide)] at e78
      subst e78
      refine ex_if_eq (t := 126) F dX8_step_81 (by decide) (fun c81 => ?_) (fun c81 => ?_)
      · refine ex_iload_n F dX8_step_126 rfl rfl ?_
        refine ex_i2l F dX8_step_127 ?_
        refine ex_ldc2 F dX8_step_128 kc_X8_108 ?_
        refine ex_ldc2 F dX8_step_131 kc_X8_110 ?_
        refine ex_callSi F (c_X8_in) dX8_step_134 cs_X8_step_78 rfl rfl (Nat.le_of_ble_eq_true rfl) (fun v134 M134 h134 => ?_)
        obtain ⟨e134, q134⟩ := h134
        rw [q134]
        clear q134
        rw [in_out (lo := 48) (hi := 57) (by decide) (by decide)] at e134
        subst e134
        refine ex_if_eq (t := 243) F dX8_step_137 (by decide) (fun c137 => ?_) (fun c137 => ?_)
        · refine ex_aload_n F dX8_step_243 rfl rfl ?_
          refine ex_iconst (v := 3) F dX8_step_244 (by decide) ?_
          refine pf_8_7 F dX8_step_245 fl_X8_91 ?_
          rw [rkm_7]
          refine ex_aload_n F dX8_step_248 rfl rfl ?_
          refine ex_dup F dX8_step_249 rfl ?_
          refine gf_8_5 F dX8_step_250 fl_X8_94 ?_
          rw [rkm_r5]
          refine ex_iconst (v := 1) F dX8_step_253 (by decide) ?_
          refine ex_iadd F dX8_step_254 ?_
          rw [nI_1]
          refine pf_8_5 F dX8_step_255 fl_X8_94 ?_
          rw [rkm_5]
          refine ex_iload_n F dX8_step_258 rfl rfl ?_
          refine ex_bipush (v := 59) F dX8_step_259 (by decide) ?_
          refine ex_icmp_eq (t := 269) F dX8_step_261 (by decide) (fun c261 => ?_) (fun c261 => ?_)
          · exact ex_vret F R dX8_step_269 rfl (stp_r4 hP hQ (fun z => c59 ((rb_t hY n P).2.2.2.2.mpr z)) (fun z => outB_tt c81 ((rb_t hY n P).2.2.1.mpr z)) (fun z => outB_tt c137 ((rb_t hY n P).2.2.2.1.mpr z)) ((rb_t hY n P).2.1.mp c261))
          · refine ex_aload_n F dX8_step_264 rfl rfl ?_
            refine ex_iconst (v := 1) F dX8_step_265 (by decide) ?_
            refine ex_callVv F (c_X8_fails) dX8_step_266 cs_X8_step_112 ob_8 rfl rfl rfl rfl (Nat.le_of_ble_eq_true rfl) (fun M266 h266 => ?_)
            rw [h266]
            exact ex_vret F R dX8_step_269 rfl (stp_r5 hP hQ (fun z => c59 ((rb_t hY n P).2.2.2.2.mpr z)) (fun z => outB_tt c81 ((rb_t hY n P).2.2.1.mpr z)) (fun z => outB_tt c137 ((rb_t hY n P).2.2.2.1.mpr z)) nP (fun z => c261 ((rb_t hY n P).2.1.mpr z)))
        · have k3 : kd K n P = 3 := (rb_t hY n P).2.2.2.1.mp (outB_ff c137)
          have key : ∀ (m q : Nat), n ≤ q + m → q < 1000000000 + 321 → P ≤ q → skp (kd K n) 3 m q = Q → EX x g (xmL YX8_step) (rkm M 0 (M 38 4) (nI q) (nI P) (M 38 7) (nmb (tb K n) (min 3 (q - P)) P 0)) 140 [(0, .ref (ad g 38))] [] := by
            intro m
            induction m with
            | zero =>
              intro q hq lq lPq hs9
              obtain rfl : q = Q := hs9
              refine ex_aload_n F dX8_step_140 rfl rfl ?_
              refine ex_aload_n F dX8_step_141 rfl rfl ?_
              refine gf_8_5 F dX8_step_142 fl_X8_94 ?_
              rw [rkm_r5]
              refine ex_callVi F (c_X8_byteAt (M := (rkm M 0 (M 38 4) (nI q) (nI P) (M 38 7) (nmb (tb K n) (min 3 (q - P)) P 0))) (K := K) (n := n) (p := q) (by exact hT) (by omega)) dX8_step_145 cs_X8_step_97 ob_8 rfl rfl rfl rfl (Nat.le_of_ble_eq_true rfl) (fun v145 M145 h145 => ?_)
              obtain ⟨rfl, q145⟩ := h145
              rw [q145]
              clear q145
              refine ex_i2l F dX8_step_148 ?_
              refine ex_ldc2 F dX8_step_149 kc_X8_108 ?_
              refine ex_ldc2 F dX8_step_152 kc_X8_110 ?_
              refine ex_callSi F (c_X8_in) dX8_step_155 cs_X8_step_78 rfl rfl (Nat.le_of_ble_eq_true rfl) (fun v155 M155 h155 => ?_)
              obtain ⟨e155, q155⟩ := h155
              rw [q155]
              clear q155
              rw [in_out (lo := 48) (hi := 57) (by decide) (by decide)] at e155
              subst e155
              refine ex_if_eq (t := 217) F dX8_step_158 (by decide) (fun _ => ?_) (fun c => absurd (by rw [b2i_0, Bool.not_eq_false']; exact Bool.not_eq_false _ |>.mp (fun z => absurd ((rb_t hY n q).2.2.2.1.mp z) (by rw [kd_0 (show n ≤ q from hq)]; decide))) c)
              refine ex_aload_n F dX8_step_217 rfl rfl ?_
              refine ex_iconst (v := 2) F dX8_step_218 (by decide) ?_
              refine pf_8_7 F dX8_step_219 fl_X8_91 ?_
              rw [rkm_7]
              refine ex_aload_n F dX8_step_222 rfl rfl ?_
              refine gf_8_5 F dX8_step_223 fl_X8_94 ?_
              rw [rkm_r5]
              refine ex_aload_n F dX8_step_226 rfl rfl ?_
              refine gf_8_6 F dX8_step_227 fl_X8_85 ?_
              rw [rkm_r6]
              refine ex_isub F dX8_step_230 ?_
              rw [nI_sub (by omega)]
              refine ex_iconst (v := 3) F dX8_step_231 (by decide) ?_
              refine ex_icmp_le (t := 269) F dX8_step_232 (by decide) (fun c232 => ?_) (fun c232 => ?_)
              · exact ex_vret F R dX8_step_269 rfl (stp_r3 hP hQ k3 ((nI_leI (b := 3) (by omega) (by decide)).mp c232))
              · refine ex_aload_n F dX8_step_235 rfl rfl ?_
                refine ex_iconst (v := 1) F dX8_step_236 (by decide) ?_
                refine ex_callVv F (c_X8_fails) dX8_step_237 cs_X8_step_112 ob_8 rfl rfl rfl rfl (Nat.le_of_ble_eq_true rfl) (fun M237 h237 => ?_)
                rw [h237]
                refine ex_goto (t := 269) F dX8_step_240 (by decide) ?_
                exact ex_vret F R dX8_step_269 rfl (stp_r3w hP hQ k3 (fun z => c232 (nI_le (b := 3) z (by decide))))
            | succ m ih =>
              intro q hq lq lPq hs9
              refine ex_aload_n F dX8_step_140 rfl rfl ?_
              refine ex_aload_n F dX8_step_141 rfl rfl ?_
              refine gf_8_5 F dX8_step_142 fl_X8_94 ?_
              rw [rkm_r5]
              refine ex_callVi F (c_X8_byteAt (M := (rkm M 0 (M 38 4) (nI q) (nI P) (M 38 7) (nmb (tb K n) (min 3 (q - P)) P 0))) (K := K) (n := n) (p := q) (by exact hT) (by omega)) dX8_step_145 cs_X8_step_97 ob_8 rfl rfl rfl rfl (Nat.le_of_ble_eq_true rfl) (fun v145 M145 h145 => ?_)
              obtain ⟨rfl, q145⟩ := h145
              rw [q145]
              clear q145
              refine ex_i2l F dX8_step_148 ?_
              refine ex_ldc2 F dX8_step_149 kc_X8_108 ?_
              refine ex_ldc2 F dX8_step_152 kc_X8_110 ?_
              refine ex_callSi F (c_X8_in) dX8_step_155 cs_X8_step_78 rfl rfl (Nat.le_of_ble_eq_true rfl) (fun v155 M155 h155 => ?_)
              obtain ⟨e155, q155⟩ := h155
              rw [q155]
              clear q155
              rw [in_out (lo := 48) (hi := 57) (by decide) (by decide)] at e155
              subst e155
              refine ex_if_eq (t := 217) F dX8_step_158 (by decide) (fun c158 => ?_) (fun c158 => ?_)
              · obtain rfl : q = Q := by first | exact hs9 | rw [← hs9, skp, if_neg (fun z => outB_tt c158 ((rb_t hY n q).2.2.2.1.mpr z))]
                refine ex_aload_n F dX8_step_217 rfl rfl ?_
                refine ex_iconst (v := 2) F dX8_step_218 (by decide) ?_
                refine pf_8_7 F dX8_step_219 fl_X8_91 ?_
                rw [rkm_7]
                refine ex_aload_n F dX8_step_222 rfl rfl ?_
                refine gf_8_5 F dX8_step_223 fl_X8_94 ?_
                rw [rkm_r5]
                refine ex_aload_n F dX8_step_226 rfl rfl ?_
                refine gf_8_6 F dX8_step_227 fl_X8_85 ?_
                rw [rkm_r6]
                refine ex_isub F dX8_step_230 ?_
                rw [nI_sub (by omega)]
                refine ex_iconst (v := 3) F dX8_step_231 (by decide) ?_
                refine ex_icmp_le (t := 269) F dX8_step_232 (by decide) (fun c232 => ?_) (fun c232 => ?_)
                · exact ex_vret F R dX8_step_269 rfl (stp_r3 hP hQ k3 ((nI_leI (b := 3) (by omega) (by decide)).mp c232))
                · refine ex_aload_n F dX8_step_235 rfl rfl ?_
                  refine ex_iconst (v := 1) F dX8_step_236 (by decide) ?_
                  refine ex_callVv F (c_X8_fails) dX8_step_237 cs_X8_step_112 ob_8 rfl rfl rfl rfl (Nat.le_of_ble_eq_true rfl) (fun M237 h237 => ?_)
                  rw [h237]
                  refine ex_goto (t := 269) F dX8_step_240 (by decide) ?_
                  exact ex_vret F R dX8_step_269 rfl (stp_r3w hP hQ k3 (fun z => c232 (nI_le (b := 3) z (by decide))))
              · have k3q := (rb_t hY n q).2.2.2.1.mp (outB_ff c158)
                have lqn : q < n := lt_n (by rw [k3q]; decide)
                refine ex_aload_n F dX8_step_161 rfl rfl ?_
                refine ex_aload_n F dX8_step_162 rfl rfl ?_
                refine gf_8_5 F dX8_step_163 fl_X8_94 ?_
                rw [rkm_r5]
                refine ex_aload_n F dX8_step_166 rfl rfl ?_
                refine gf_8_6 F dX8_step_167 fl_X8_85 ?_
                rw [rkm_r6]
                refine ex_isub F dX8_step_170 ?_
                rw [nI_sub lPq]
                refine ex_iconst (v := 3) F dX8_step_171 (by decide) ?_
                refine ex_icmp_ge (t := 197) F dX8_step_172 (by decide) (fun c172 => ?_) (fun c172 => ?_)
                · refine ex_aload_n F dX8_step_197 rfl rfl ?_
                  refine gf_8_8 F dX8_step_198 fl_X8_101 ?_
                  try rw [rkm_r8]
                  refine pf_8_8 F dX8_step_201 fl_X8_101 ?_
                  rw [rkm_8]
                  refine ex_aload_n F dX8_step_204 rfl rfl ?_
                  refine ex_dup F dX8_step_205 rfl ?_
                  refine gf_8_5 F dX8_step_206 fl_X8_94 ?_
                  rw [rkm_r5]
                  refine ex_iconst (v := 1) F dX8_step_209 (by decide) ?_
                  refine ex_iadd F dX8_step_210 ?_
                  rw [nI_1]
                  refine pf_8_5 F dX8_step_211 fl_X8_94 ?_
                  rw [rkm_5]
                  refine ex_goto (t := 140) F dX8_step_214 (by decide) ?_
                  have l3 : 3 ≤ q - P := (nI_leI (a := 3) (by decide) (by omega)).mp c172
                  have eV : nmb (tb K n) (min 3 (q - P)) P 0 = nmb (tb K n) (min 3 (q + 1 - P)) P 0 := by rw [Nat.min_eq_left l3, Nat.min_eq_left (by omega)]
                  rw [eV]
                  exact ex_weak2 (ih (q + 1) (by omega) (by omega) (by omega) (by rw [← hs9, skp, if_pos k3q])) ⟨rfl, trivial⟩
                · refine ex_bipush (v := 10) F dX8_step_175 (by decide) ?_
                  refine ex_aload_n F dX8_step_177 rfl rfl ?_
                  refine gf_8_8 F dX8_step_178 fl_X8_101 ?_
                  rw [rkm_r8]
                  refine ex_imul F dX8_step_181 ?_
                  refine ex_aload_n F dX8_step_182 rfl rfl ?_
                  refine ex_aload_n F dX8_step_183 rfl rfl ?_
                  refine gf_8_5 F dX8_step_184 fl_X8_94 ?_
                  rw [rkm_r5]
                  refine ex_callVi F (c_X8_byteAt (M := (rkm M 0 (M 38 4) (nI q) (nI P) (M 38 7) (nmb (tb K n) (min 3 (q - P)) P 0))) (K := K) (n := n) (p := q) (by exact hT) (by omega)) dX8_step_187 cs_X8_step_97 ob_8 rfl rfl rfl rfl (Nat.le_of_ble_eq_true rfl) (fun v187 M187 h187 => ?_)
                  obtain ⟨e187, q187⟩ := h187
                  rw [q187]
                  clear q187
                  rw [rb_d hY k3q] at e187
                  subst e187
                  refine ex_iadd F dX8_step_190 ?_
                  refine ex_bipush (v := 48) F dX8_step_191 (by decide) ?_
                  refine ex_isub F dX8_step_193 ?_
                  refine ex_goto (t := 201) F dX8_step_194 (by decide) ?_
                  try rw [rkm_r8]
                  refine pf_8_8 F dX8_step_201 fl_X8_101 ?_
                  rw [rkm_8]
                  refine ex_aload_n F dX8_step_204 rfl rfl ?_
                  refine ex_dup F dX8_step_205 rfl ?_
                  refine gf_8_5 F dX8_step_206 fl_X8_94 ?_
                  rw [rkm_r5]
                  refine ex_iconst (v := 1) F dX8_step_209 (by decide) ?_
                  refine ex_iadd F dX8_step_210 ?_
                  rw [nI_1]
                  refine pf_8_5 F dX8_step_211 fl_X8_94 ?_
                  rw [rkm_5]
                  refine ex_goto (t := 140) F dX8_step_214 (by decide) ?_
                  have l3 : q - P < 3 := nI_ltof (b := 3) (by omega) c172
                  have eV : 10 * nmb (tb K n) (min 3 (q - P)) P 0 + tb K n q - 48 = nmb (tb K n) (min 3 (q + 1 - P)) P 0 := by
                    rw [Nat.min_eq_right (show q - P ≤ 3 by omega), Nat.min_eq_right (show q + 1 - P ≤ 3 by omega), show q + 1 - P = (q - P) + 1 by omega, nmb_S, show P + (q - P) = q by omega]
                  rw [eV]
                  exact ex_weak2 (ih (q + 1) (by omega) (by omega) (by omega) (by rw [← hs9, skp, if_pos k3q])) ⟨rfl, trivial⟩
          refine ex_M (M1 := (rkm M 0 (M 38 4) (nI P) (nI P) (M 38 7) (nmb (tb K n) (min 3 (P - P)) P 0))) (by rw [show P - P = 0 by omega]; rfl) ?_
          exact ex_weak2 (key 321 P (by omega) (by omega) (by omega) (by rw [tkQ_3 hP k3, hQ])) ⟨rfl, trivial⟩
      · have k2 : kd K n P = 2 := (rb_t hY n P).2.2.1.mp (outB_ff c81)
        have key : ∀ (m q : Nat), n ≤ q + m → q < 1000000000 + 321 → skp (kd K n) 2 m q = Q → EX x g (xmL YX8_step) (rkm M 0 (M 38 4) (nI q) (nI P) (M 38 7) 0) 84 [(0, .ref (ad g 38))] [] := by
          intro m
          induction m with
          | zero =>
            intro q hq lq hs9
            obtain rfl : q = Q := hs9
            refine ex_aload_n F dX8_step_84 rfl rfl ?_
            refine ex_aload_n F dX8_step_85 rfl rfl ?_
            refine gf_8_5 F dX8_step_86 fl_X8_94 ?_
            rw [rkm_r5]
            refine ex_callVi F (c_X8_byteAt (M := (rkm M 0 (M 38 4) (nI q) (nI P) (M 38 7) 0)) (K := K) (n := n) (p := q) (by exact hT) (by omega)) dX8_step_89 cs_X8_step_97 ob_8 rfl rfl rfl rfl (Nat.le_of_ble_eq_true rfl) (fun v89 M89 h89 => ?_)
            obtain ⟨rfl, q89⟩ := h89
            rw [q89]
            clear q89
            refine ex_i2l F dX8_step_92 ?_
            refine ex_ldc2 F dX8_step_93 kc_X8_104 ?_
            refine ex_ldc2 F dX8_step_96 kc_X8_106 ?_
            refine ex_callSi F (c_X8_in) dX8_step_99 cs_X8_step_78 rfl rfl (Nat.le_of_ble_eq_true rfl) (fun v99 M99 h99 => ?_)
            obtain ⟨e99, q99⟩ := h99
            rw [q99]
            clear q99
            rw [in_out (lo := 97) (hi := 122) (by decide) (by decide)] at e99
            subst e99
            refine ex_if_eq (t := 118) F dX8_step_102 (by decide) (fun _ => ?_) (fun c => absurd (by rw [b2i_0, Bool.not_eq_false']; exact Bool.not_eq_false _ |>.mp (fun z => absurd ((rb_t hY n q).2.2.1.mp z) (by rw [kd_0 (show n ≤ q from hq)]; decide))) c)
            refine ex_aload_n F dX8_step_118 rfl rfl ?_
            refine ex_iconst (v := 1) F dX8_step_119 (by decide) ?_
            refine pf_8_7 F dX8_step_120 fl_X8_91 ?_
            rw [rkm_7]
            refine ex_goto (t := 269) F dX8_step_123 (by decide) ?_
            exact ex_vret F R dX8_step_269 rfl (stp_r2 hP hQ k2)
          | succ m ih =>
            intro q hq lq hs9
            refine ex_aload_n F dX8_step_84 rfl rfl ?_
            refine ex_aload_n F dX8_step_85 rfl rfl ?_
            refine gf_8_5 F dX8_step_86 fl_X8_94 ?_
            rw [rkm_r5]
            refine ex_callVi F (c_X8_byteAt (M := (rkm M 0 (M 38 4) (nI q) (nI P) (M 38 7) 0)) (K := K) (n := n) (p := q) (by exact hT) (by omega)) dX8_step_89 cs_X8_step_97 ob_8 rfl rfl rfl rfl (Nat.le_of_ble_eq_true rfl) (fun v89 M89 h89 => ?_)
            obtain ⟨rfl, q89⟩ := h89
            rw [q89]
            clear q89
            refine ex_i2l F dX8_step_92 ?_
            refine ex_ldc2 F dX8_step_93 kc_X8_104 ?_
            refine ex_ldc2 F dX8_step_96 kc_X8_106 ?_
            refine ex_callSi F (c_X8_in) dX8_step_99 cs_X8_step_78 rfl rfl (Nat.le_of_ble_eq_true rfl) (fun v99 M99 h99 => ?_)
            obtain ⟨e99, q99⟩ := h99
            rw [q99]
            clear q99
            rw [in_out (lo := 97) (hi := 122) (by decide) (by decide)] at e99
            subst e99
            refine ex_if_eq (t := 118) F dX8_step_102 (by decide) (fun c102 => ?_) (fun c102 => ?_)
            · obtain rfl : q = Q := by first | exact hs9 | rw [← hs9, skp, if_neg (fun z => outB_tt c102 ((rb_t hY n q).2.2.1.mpr z))]
              refine ex_aload_n F dX8_step_118 rfl rfl ?_
              refine ex_iconst (v := 1) F dX8_step_119 (by decide) ?_
              refine pf_8_7 F dX8_step_120 fl_X8_91 ?_
              rw [rkm_7]
              refine ex_goto (t := 269) F dX8_step_123 (by decide) ?_
              exact ex_vret F R dX8_step_269 rfl (stp_r2 hP hQ k2)
            · refine ex_aload_n F dX8_step_105 rfl rfl ?_
              refine ex_dup F dX8_step_106 rfl ?_
              refine gf_8_5 F dX8_step_107 fl_X8_94 ?_
              rw [rkm_r5]
              refine ex_iconst (v := 1) F dX8_step_110 (by decide) ?_
              refine ex_iadd F dX8_step_111 ?_
              rw [nI_1]
              refine pf_8_5 F dX8_step_112 fl_X8_94 ?_
              rw [rkm_5]
              refine ex_goto (t := 84) F dX8_step_115 (by decide) ?_
              have k2q := (rb_t hY n q).2.2.1.mp (outB_ff c102)
              have lqn : q < n := lt_n (by rw [k2q]; decide)
              exact ex_weak2 (ih (q + 1) (by omega) (by omega) (by rw [← hs9, skp, if_pos k2q])) ⟨rfl, trivial⟩
        exact ex_weak2 (key 321 P (by omega) (by omega) (by rw [tkQ_2 hP k2, hQ])) ⟨rfl, trivial⟩
    · refine ex_aload_n F dX8_step_62 rfl rfl ?_
      refine ex_iconst (v := 0) F dX8_step_63 (by decide) ?_
      refine pf_8_7 F dX8_step_64 fl_X8_91 ?_
      rw [rkm_7]
      refine ex_goto (t := 269) F dX8_step_67 (by decide) ?_
      exact ex_vret F R dX8_step_269 rfl (stp_r0 hP hQ ((rb_t hY n P).2.2.2.2.mp c59))
  have key : ∀ (m p : Nat), n ≤ p + m → p < 1000000000 → skp (kd K n) 1 m p = P → EX x g (xmL YX8_step) (rkm M 0 (M 38 4) (nI p) (M 38 6) (M 38 7) (M 38 8)) 8 [(0, .ref (ad g 38))] [] := by
    intro m
    induction m with
    | zero =>
      intro p hp lp hs9
      obtain rfl : p = P := hs9
      refine ex_aload_n F dX8_step_8 rfl rfl ?_
      refine ex_aload_n F dX8_step_9 rfl rfl ?_
      refine gf_8_5 F dX8_step_10 fl_X8_94 ?_
      rw [rkm_r5]
      refine ex_callVi F (c_X8_byteAt (M := (rkm M 0 (M 38 4) (nI p) (M 38 6) (M 38 7) (M 38 8))) (K := K) (n := n) (p := p) (by exact hT) (by omega)) dX8_step_13 cs_X8_step_97 ob_8 rfl rfl rfl rfl (Nat.le_of_ble_eq_true rfl) (fun v13 M13 h13 => ?_)
      obtain ⟨rfl, q13⟩ := h13
      rw [q13]
      clear q13
      refine ex_bipush (v := 32) F dX8_step_16 (by decide) ?_
      refine ex_icmp_ne (t := 34) F dX8_step_18 (by decide) (fun _ => ?_) (fun c => absurd c (fun q => absurd ((rb_t hY n p).1.mp q) (by rw [kd_0 (show n ≤ p from hp)]; decide)))
      exact ex_weak2 tail ⟨rfl, trivial⟩
    | succ m ih =>
      intro p hp lp hs9
      refine ex_aload_n F dX8_step_8 rfl rfl ?_
      refine ex_aload_n F dX8_step_9 rfl rfl ?_
      refine gf_8_5 F dX8_step_10 fl_X8_94 ?_
      rw [rkm_r5]
      refine ex_callVi F (c_X8_byteAt (M := (rkm M 0 (M 38 4) (nI p) (M 38 6) (M 38 7) (M 38 8))) (K := K) (n := n) (p := p) (by exact hT) (by omega)) dX8_step_13 cs_X8_step_97 ob_8 rfl rfl rfl rfl (Nat.le_of_ble_eq_true rfl) (fun v13 M13 h13 => ?_)
      obtain ⟨rfl, q13⟩ := h13
      rw [q13]
      clear q13
      refine ex_bipush (v := 32) F dX8_step_16 (by decide) ?_
      refine ex_icmp_ne (t := 34) F dX8_step_18 (by decide) (fun c18 => ?_) (fun c18 => ?_)
      · obtain rfl : p = P := by rw [← hs9, skp, if_neg (fun q => c18 ((rb_t hY n p).1.mpr q))]
        exact ex_weak2 tail ⟨rfl, trivial⟩
      · refine ex_aload_n F dX8_step_21 rfl rfl ?_
        refine ex_dup F dX8_step_22 rfl ?_
        refine gf_8_5 F dX8_step_23 fl_X8_94 ?_
        rw [rkm_r5]
        refine ex_iconst (v := 1) F dX8_step_26 (by decide) ?_
        refine ex_iadd F dX8_step_27 ?_
        rw [nI_1]
        refine pf_8_5 F dX8_step_28 fl_X8_94 ?_
        rw [rkm_5]
        refine ex_goto (t := 8) F dX8_step_31 (by decide) ?_
        have k1 := (rb_t hY n p).1.mp c18
        have lpn : p < n := lt_n (by rw [k1]; decide)
        exact ex_weak2 (ih (p + 1) (by omega) (by omega) (by rw [← hs9, skp, if_pos k1])) ⟨rfl, trivial⟩
  exact ex_weak2 (key 320 s (by omega) ls hP) ⟨rfl, trivial⟩
set_option maxRecDepth 100000 in
theorem c_X8_stepB {l : Launch} {g : XG} {M : Mem} (hb : 0 < M 38 3) : Call l g YX8_step [.ref (ad g 38)] M (PV (fun M' => M' = M)) := by
  refine call_of (by decide +kernel) (Nat.le_of_ble_eq_true rfl) (fun x hxl F R => ?_)
  subst hxl
  refine ex_aload_n F dX8_step_0 rfl rfl ?_
  refine gf_8_3 F dX8_step_1 fl_X8_82 ?_
  refine ex_if_le (t := 8) F dX8_step_4 (by decide) (fun c => absurd c (Int32.not_le.mpr hb)) (fun _ => ?_)
  exact ex_vret F R dX8_step_7 rfl (rfl)
