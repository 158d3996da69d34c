def putW (M : Mem) (f : Nat → Int32) : Mem := fun q => if q = 37 then f else M q
theorem putW_mu (M : Mem) (j : Nat) (y : Int32) : mu M 37 j y = putW M (upd (M 37) j y) := by
  funext q
  by_cases h : q = 37
  · subst h; simp [mu, putW]
  · simp [mu, putW, h]
theorem putW_W (M : Mem) (f h : Nat → Int32) : putW (putW M f) h = putW M h := by
  funext q
  by_cases e : q = 37 <;> simp [putW, e]
theorem putW_rd (M : Mem) (f : Nat → Int32) : putW M f 37 = f := by simp [putW]
theorem putW_id (M : Mem) : putW M (M 37) = M := by
  funext q
  by_cases e : q = 37
  · subst e; simp [putW]
  · simp [putW, e]
theorem putW_jX {M : Mem} {f : Nat → Int32} (h : zC (cX M 16)) : jX M (putW M f) := by
  refine ⟨fun q _ _ _ h => by simp [putW, h], ?_⟩
  have : cX (putW M f) 16 = cX M 16 := by funext j; simp [cX, putW]
  rw [this]; exact h
def cut7 (s f : Nat → Int32) (n : Nat) : Nat → Int32 := fun j => if j < n then s j else f j
theorem cut7_S (s f : Nat → Int32) (n : Nat) : upd (cut7 s f n) n (s n) = cut7 s f (n + 1) := by
  funext j
  by_cases h : j = n
  · subst h; simp [upd, cut7]
  · by_cases h1 : j < n
    · simp [upd, cut7, h, h1, show j < n + 1 by omega]
    · simp [upd, cut7, h, h1, show ¬ j < n + 1 by omega]
-- a pass, step by step: what stands when 1 .. k - 1 have been done
def midP (s f : Nat → Int32) (k : Nat) : Nat → Int32 := fun j => if j < 7 then (if j + 1 < k then sPass s j else if j + 1 = k ∧ 1 ≤ j then 0 else s j) else f j
theorem midP_1 (s f : Nat → Int32) : midP s f 1 = cut7 s f 7 := by
  funext j
  by_cases h : j < 7
  · simp [midP, cut7, h, show ¬ j + 1 < 1 by omega]
    intro q1 q2; exfalso; omega
  · simp [midP, cut7, h]
theorem midP_7 (s f : Nat → Int32) : midP s f 7 = cut7 (sPass s) f 7 := by
  funext j
  by_cases h : j < 7
  · by_cases h6 : j = 6
    · subst h6; simp [midP, cut7, sPass]
    · simp [midP, cut7, h, show j + 1 < 7 by omega]
  · simp [midP, cut7, h]
theorem midP_S (s f : Nat → Int32) {k : Nat} (h1 : 1 ≤ k) (h7 : k < 7) : upd (upd (midP s f k) (k - 1) (midP s f k (k - 1) + 2 * midP s f k k)) k 0 = midP s f (k + 1) := by
  have e1 : midP s f k k = s k := by simp [midP, h7, show ¬ k + 1 < k by omega]
  rw [e1]
  funext j
  by_cases hk : j = k
  · subst hk
    rw [pk_us]
    simp [midP, h7, show ¬ j + 1 < j + 1 by omega, h1]
  · rw [pk_un hk]
    by_cases hk1 : j = k - 1
    · subst hk1
      rw [pk_us]
      by_cases h2 : k = 1
      · subst h2; simp [midP, sPass]
      · simp [midP, sPass, show k - 1 < 7 by omega, show k - 1 + 1 = k by omega, show ¬ k < k by omega, show 1 ≤ k - 1 by omega, show k < k + 1 by omega, show ¬ k - 1 = 0 by omega, show k - 1 < 6 by omega]
    · rw [pk_un hk1]
      by_cases h : j < 7
      · by_cases h3 : j + 1 < k
        · simp [midP, h, h3, show j + 1 < k + 1 by omega]
        · simp [midP, h, h3, show ¬ j + 1 < k + 1 by omega, show ¬ j + 1 = k by omega]
          intro q1 q2; exfalso; omega
      · simp [midP, h]
theorem fig_n (v : Nat) (hv : v < 2 ^ 31) : ∀ n, ∃ x, x < 2 ^ 31 ∧ figN (nI v) n = nI x := by
  intro n
  induction n with
  | zero => exact ⟨v, hv, rfl⟩
  | succ n ih =>
    obtain ⟨x, hx, e⟩ := ih
    exact ⟨x / 10, by omega, by rw [figN, e, show (10 : Int32) = nI 10 from rfl, pk_div hx (by decide) (by decide)]⟩
set_option maxRecDepth 100000 in
theorem c_X7_workWater {l : Launch} {g : XG} {M : Mem} {v0 p : Int32} {n : Nat} (hn : p = nI n) (ln : n ≤ 6) : Call l g YX7_workWater [.ref (ad g 0), .int v0, .int p] M (PV (fun M' => M' = putW M (cut7 (sWat v0 n) (M 37) 7))) := by
  refine call_of (by decide +kernel) (Nat.le_of_ble_eq_true rfl) (fun x hxl F R => ?_)
  subst hxl
  have pass : ∀ (m i : Nat) (v : Int32), i + m = n → v = nI i → EX x g (xmL YX7_workWater) (putW M (cut7 (sWat v0 i) (M 37) 7)) 40 [(0, .ref (ad g 0)), (1, .int v0), (2, .int p), (4, .int v)] [] := by
    intro m
    induction m with
    | zero =>
      intro i v hi hv
      obtain rfl : i = n := by omega
      subst hv
      refine ex_iload F dX7_workWater_40 rfl ?_
      refine ex_iload_n F dX7_workWater_42 rfl rfl ?_
      refine ex_icmp_ge (t := 100) F dX7_workWater_43 (by decide) (fun _ => ?_) (fun c => absurd (by rw [hn]; exact Int32.le_refl _) c)
      exact ex_vret F R dX7_workWater_100 rfl (rfl)
    | succ m ih =>
      intro i v hi hv
      subst hv
      have inner : ∀ (kk k : Nat) (u : Int32), 1 ≤ k → k + kk = 7 → u = nI k → EX x g (xmL YX7_workWater) (putW M (midP (sWat v0 i) (M 37) k)) 49 [(0, .ref (ad g 0)), (1, .int v0), (2, .int p), (4, .int (nI i)), (5, .int u)] [] := by
        intro kk
        induction kk with
        | zero =>
          intro k u hk1 hk hu
          obtain rfl : k = 7 := by omega
          subst hu
          refine ex_iload F dX7_workWater_49 rfl ?_
          refine ex_aload_n F dX7_workWater_51 rfl rfl ?_
          refine gf_7_9 F dX7_workWater_52 fl_X7_61 ?_
          refine ex_ilen (n := 7) (v := 7) F dX7_workWater_55 (by decide) (by decide) ?_
          refine ex_icmp_ge (t := 94) F dX7_workWater_56 (by decide) (fun _ => ?_) (fun c => absurd (by decide) c)
          refine ex_iinc (w := _ + 1) F dX7_workWater_94 rfl rfl (by decide) ?_
          refine ex_goto (t := 40) F dX7_workWater_97 (by decide) ?_
          refine ex_M (M1 := putW M (cut7 (sWat v0 (i + 1)) (M 37) 7)) ?_ (ex_weak2 (ih (i + 1) _ (by omega) (nI_1 i)) ⟨rfl, rfl, rfl, rfl, trivial⟩)
          rw [midP_7]; rfl
        | succ kk ih2 =>
          intro k u hk1 hk hu
          subst hu
          refine ex_iload F dX7_workWater_49 rfl ?_
          refine ex_aload_n F dX7_workWater_51 rfl rfl ?_
          refine gf_7_9 F dX7_workWater_52 fl_X7_61 ?_
          refine ex_ilen (n := 7) (v := 7) F dX7_workWater_55 (by decide) (by decide) ?_
          refine ex_icmp_ge (t := 94) F dX7_workWater_56 (by decide) (fun c => absurd c (nI_ge (b := 7) (by omega) (by decide))) (fun _ => ?_)
          refine ex_aload_n F dX7_workWater_59 rfl rfl ?_
          refine gf_7_9 F dX7_workWater_60 fl_X7_61 ?_
          refine ex_iload F dX7_workWater_63 rfl ?_
          refine ex_iconst (v := 1) F dX7_workWater_65 (by decide) ?_
          refine ex_isub F dX7_workWater_66 ?_
          refine ex_dup2 F dX7_workWater_67 rfl rfl ?_
          refine ex_iald (n := 7) F dX7_workWater_68 (by decide) (by rw [show nI k - 1 = nI (k - 1) from pk_sub (b := 1) hk1]; exact vp_in_nI (by omega) (by decide)) (j := k - 1) (by rw [show nI k - 1 = nI (k - 1) from pk_sub (b := 1) hk1]; exact nI_clamp (by omega)) ?_
          refine ex_iconst (v := 2) F dX7_workWater_69 (by decide) ?_
          refine ex_aload_n F dX7_workWater_70 rfl rfl ?_
          refine gf_7_9 F dX7_workWater_71 fl_X7_61 ?_
          refine ex_iload F dX7_workWater_74 rfl ?_
          refine ex_iald (n := 7) F dX7_workWater_76 (by decide) (vp_in_nI (by omega) (by decide)) (j := k) (nI_clamp (by omega)) ?_
          refine ex_imul F dX7_workWater_77 ?_
          refine ex_iadd F dX7_workWater_78 ?_
          refine ex_iast (n := 7) F dX7_workWater_79 (by decide) (by rw [show nI k - 1 = nI (k - 1) from pk_sub (b := 1) hk1]; exact vp_in_nI (by omega) (by decide)) (j := k - 1) (by rw [show nI k - 1 = nI (k - 1) from pk_sub (b := 1) hk1]; exact nI_clamp (by omega)) ?_
          refine ex_aload_n F dX7_workWater_80 rfl rfl ?_
          refine gf_7_9 F dX7_workWater_81 fl_X7_61 ?_
          refine ex_iload F dX7_workWater_84 rfl ?_
          refine ex_iconst (v := 0) F dX7_workWater_86 (by decide) ?_
          refine ex_iast (n := 7) F dX7_workWater_87 (by decide) (vp_in_nI (by omega) (by decide)) (j := k) (nI_clamp (by omega)) ?_
          refine ex_iinc (w := _ + 1) F dX7_workWater_88 rfl rfl (by decide) ?_
          refine ex_goto (t := 49) F dX7_workWater_91 (by decide) ?_
          refine ex_M (M1 := putW M (midP (sWat v0 i) (M 37) (k + 1))) ?_ (ex_weak2 (ih2 (k + 1) _ (by omega) (by omega) (nI_1 k)) ⟨rfl, rfl, rfl, rfl, rfl, trivial⟩)
          rw [putW_mu, putW_mu, putW_W, putW_W, putW_rd, putW_rd, midP_S _ _ hk1 (by omega)]
      refine ex_iload F dX7_workWater_40 rfl ?_
      refine ex_iload_n F dX7_workWater_42 rfl rfl ?_
      refine ex_icmp_ge (t := 100) F dX7_workWater_43 (by decide) (fun c => absurd c (by rw [hn]; exact nI_ge (by omega) (by omega))) (fun _ => ?_)
      refine ex_iconst (v := 1) F dX7_workWater_46 (by decide) ?_
      refine ex_istore F dX7_workWater_47 (by decide) ?_
      refine ex_M (M1 := putW M (midP (sWat v0 i) (M 37) 1)) ?_ (ex_weak2 (inner 6 1 _ (by omega) (by omega) rfl) ⟨rfl, rfl, rfl, rfl, rfl, trivial⟩)
      rw [midP_1]
  refine ex_iload_n F dX7_workWater_0 rfl rfl ?_
  refine ex_istore_n F dX7_workWater_1 rfl (by decide) ?_
  refine ex_iconst (v := 0) F dX7_workWater_2 (by decide) ?_
  refine ex_istore F dX7_workWater_3 (by decide) ?_
  have key : ∀ (m i : Nat) (v : Int32), i + m = 7 → v = nI i → EX x g (xmL YX7_workWater) (putW M (cut7 (sDig v0) (M 37) i)) 5 [(0, .ref (ad g 0)), (1, .int v0), (2, .int p), (3, .int (figN v0 i)), (4, .int v)] [] := by
    intro m
    induction m with
    | zero =>
      intro i v hi hv
      obtain rfl : i = 7 := by omega
      subst hv
      refine ex_iload F dX7_workWater_5 rfl ?_
      refine ex_aload_n F dX7_workWater_7 rfl rfl ?_
      refine gf_7_9 F dX7_workWater_8 fl_X7_61 ?_
      refine ex_ilen (n := 7) (v := 7) F dX7_workWater_11 (by decide) (by decide) ?_
      refine ex_icmp_ge (t := 37) F dX7_workWater_12 (by decide) (fun _ => ?_) (fun c => absurd (by decide) c)
      refine ex_iconst (v := 0) F dX7_workWater_37 (by decide) ?_
      refine ex_istore F dX7_workWater_38 (by decide) ?_
      exact ex_weak2 (pass n 0 _ (by omega) rfl) ⟨rfl, rfl, rfl, rfl, trivial⟩
    | succ m ih =>
      intro i v hi hv
      subst hv
      refine ex_iload F dX7_workWater_5 rfl ?_
      refine ex_aload_n F dX7_workWater_7 rfl rfl ?_
      refine gf_7_9 F dX7_workWater_8 fl_X7_61 ?_
      refine ex_ilen (n := 7) (v := 7) F dX7_workWater_11 (by decide) (by decide) ?_
      refine ex_icmp_ge (t := 37) F dX7_workWater_12 (by decide) (fun c => absurd c (nI_ge (b := 7) (by omega) (by decide))) (fun _ => ?_)
      refine ex_aload_n F dX7_workWater_15 rfl rfl ?_
      refine gf_7_9 F dX7_workWater_16 fl_X7_61 ?_
      refine ex_iload F dX7_workWater_19 rfl ?_
      refine ex_iload_n F dX7_workWater_21 rfl rfl ?_
      refine ex_bipush (v := 10) F dX7_workWater_22 (by decide) ?_
      refine ex_irem F dX7_workWater_24 (by decide) ?_
      refine ex_iast (n := 7) F dX7_workWater_25 (by decide) (vp_in_nI (by omega) (by decide)) (j := i) (nI_clamp (by omega)) ?_
      refine ex_iload_n F dX7_workWater_26 rfl rfl ?_
      refine ex_bipush (v := 10) F dX7_workWater_27 (by decide) ?_
      refine ex_idiv F dX7_workWater_29 (by decide) ?_
      refine ex_istore_n F dX7_workWater_30 rfl (by decide) ?_
      refine ex_iinc (w := _ + 1) F dX7_workWater_31 rfl rfl (by decide) ?_
      refine ex_goto (t := 5) F dX7_workWater_34 (by decide) ?_
      refine ex_M (M1 := putW M (cut7 (sDig v0) (M 37) (i + 1))) ?_ (ex_weak2 (ih (i + 1) _ (by omega) (nI_1 i)) ⟨rfl, rfl, rfl, rfl, rfl, trivial⟩)
      rw [putW_mu, putW_W, putW_rd, ← cut7_S]
      rfl
  refine ex_M (M1 := putW M (cut7 (sDig v0) (M 37) 0)) ?_ (ex_weak2 (key 7 0 _ (by omega) rfl) ⟨rfl, rfl, rfl, rfl, rfl, trivial⟩)
  have e : cut7 (sDig v0) (M 37) 0 = M 37 := by funext j; simp [cut7]
  rw [e, putW_id]
theorem lt_7 {k : Int32} (q : 6 < k) : 7 ≤ k := by
  have q1 := Int32.lt_iff_toInt_lt.mp q
  have q3 : (6 : Int32).toInt = 6 := by decide
  have q4 : (7 : Int32).toInt = 7 := by decide
  exact Int32.le_iff_toInt_le.mpr (by omega)
theorem cs_X7_worked_219 : CSS (xmN YX7_worked).cls (xmF YX7_worked) (xmW YX7_worked) 219 2 YX7_isBadWater := ⟨⟨ml_X7_219, ini_X7, cd_X7_isBadWater, by decide +kernel, by decide⟩, st_X7_isBadWater⟩
theorem cs_X7_worked_222 : CSV (xmN YX7_worked).cls (xmF YX7_worked) (xmW YX7_worked) 222 2 YX7_workWater := ⟨⟨ml_X7_222, ini_X7, cd_X7_workWater, by decide +kernel, by decide⟩, im_X7_workWater, se_X7_workWater⟩
set_option maxRecDepth 100000 in
theorem c_X7_worked {l : Launch} {g : XG} {M : Mem} {v0 p k0 : Int32} (h16 : zC (cX M 16)) : Call l g YX7_worked [.ref (ad g 0), .int v0, .int p, .int k0] M (PI (fun v M' => v = (if (badWater v0 p || outB k0 0 6) = true then -1 else sWat v0 p.toNatClampNeg k0.toNatClampNeg) ∧ jX M M')) := by
  refine call_of (by decide +kernel) (Nat.le_of_ble_eq_true rfl) (fun x hxl F R => ?_)
  subst hxl
  refine ex_iload_n F dX7_worked_0 rfl rfl ?_
  refine ex_iload_n F dX7_worked_1 rfl rfl ?_
  refine ex_callSi F (c_X7_isBadWater) dX7_worked_2 cs_X7_worked_219 rfl rfl (Nat.le_of_ble_eq_true rfl) (fun v2 M2 h2 => ?_)
  obtain ⟨rfl, q2⟩ := h2
  rw [q2]
  clear q2
  refine ex_if_ne (t := 21) F dX7_worked_5 (by decide) (fun c5 => ?_) (fun c5 => ?_)
  · refine ex_iconst (v := -1) F dX7_worked_21 (by decide) ?_
    exact ex_iret F R dX7_worked_22 rfl (⟨by rw [if_pos (by simp [b2i_1.mp c5])], jX_rf h16⟩)
  · refine ex_iload_n F dX7_worked_8 rfl rfl ?_
    refine ex_if_lt (t := 21) F dX7_worked_9 (by decide) (fun c9 => ?_) (fun c9 => ?_)
    · refine ex_iconst (v := -1) F dX7_worked_21 (by decide) ?_
      exact ex_iret F R dX7_worked_22 rfl (⟨by rw [if_pos (by simp [outB, c9])], jX_rf h16⟩)
    · refine ex_iload_n F dX7_worked_12 rfl rfl ?_
      refine ex_aload_n F dX7_worked_13 rfl rfl ?_
      refine gf_7_9 F dX7_worked_14 fl_X7_61 ?_
      refine ex_ilen (n := 7) (v := 7) F dX7_worked_17 (by decide) (by decide) ?_
      refine ex_icmp_lt (t := 23) F dX7_worked_18 (by decide) (fun c18 => ?_) (fun c18 => ?_)
      · have hw0 := b2i_0.mp c5
        simp only [badWater, Bool.or_eq_false_iff] at hw0
        obtain ⟨n, -, ln, hn⟩ := outB_n (a := 0) (b := 6) (by decide) hw0.2 (by decide)
        have nn : p.toNatClampNeg = n := by rw [hn]; exact nI_clamp (by omega)
        have hk : vp_in k0 7 := vp_in_iff.mpr (by have q1 := Int32.le_iff_toInt_le.mp (Int32.not_lt.mp c9); have q2 := Int32.lt_iff_toInt_lt.mp c18; have q3 : (0 : Int32).toInt = 0 := (by decide); have q4 : (7 : Int32).toInt = 7 := (by decide); omega)
        refine ex_aload_n F dX7_worked_23 rfl rfl ?_
        refine ex_iload_n F dX7_worked_24 rfl rfl ?_
        refine ex_iload_n F dX7_worked_25 rfl rfl ?_
        refine ex_callVv F (c_X7_workWater hn ln) dX7_worked_26 cs_X7_worked_222 ob_7 rfl rfl rfl rfl (Nat.le_of_ble_eq_true rfl) (fun M26 h26 => ?_)
        rw [h26]
        refine ex_aload_n F dX7_worked_29 rfl rfl ?_
        refine gf_7_9 F dX7_worked_30 fl_X7_61 ?_
        refine ex_iload_n F dX7_worked_33 rfl rfl ?_
        refine ex_iald (n := 7) F dX7_worked_34 (by decide) hk rfl ?_
        exact ex_iret F R dX7_worked_35 rfl (⟨by rw [if_neg (by simp only [b2i_0.mp c5, outB, Bool.false_or, Bool.or_eq_true, decide_eq_true_eq]; exact fun q => q.elim c9 (fun q => absurd c18 (Int32.not_lt.mpr (lt_7 q)))), putW_rd, nn, cut7, if_pos (Nat.not_le.mp fun q => hk (Or.inr q))], putW_jX h16⟩)
      · refine ex_iconst (v := -1) F dX7_worked_21 (by decide) ?_
        exact ex_iret F R dX7_worked_22 rfl (⟨by rw [if_pos (by simp only [outB, Bool.or_eq_true, decide_eq_true_eq]; exact Or.inr (Or.inr (Int32.lt_of_lt_of_le (by decide) (Int32.not_lt.mp c18))))], jX_rf h16⟩)
theorem cs_X7_keeps_219 : CSS (xmN YX7_keeps).cls (xmF YX7_keeps) (xmW YX7_keeps) 219 2 YX7_isBadWater := ⟨⟨ml_X7_219, ini_X7, cd_X7_isBadWater, by decide +kernel, by decide⟩, st_X7_isBadWater⟩
theorem cs_X7_keeps_222 : CSV (xmN YX7_keeps).cls (xmF YX7_keeps) (xmW YX7_keeps) 222 2 YX7_workWater := ⟨⟨ml_X7_222, ini_X7, cd_X7_workWater, by decide +kernel, by decide⟩, im_X7_workWater, se_X7_workWater⟩
set_option maxRecDepth 100000 in
theorem c_X7_keeps {l : Launch} {g : XG} {M : Mem} {v0 p : Int32} (h16 : zC (cX M 16)) : Call l g YX7_keeps [.ref (ad g 0), .int v0, .int p] M (PI (fun v M' => v = (if badWater v0 p = true then -1 else (64 : Int32) >>> (sGreat (sWat v0 p.toNatClampNeg) 7 &&& 31)) ∧ jX M M')) := by
  refine call_of (by decide +kernel) (Nat.le_of_ble_eq_true rfl) (fun x hxl F R => ?_)
  subst hxl
  refine ex_iload_n F dX7_keeps_0 rfl rfl ?_
  refine ex_iload_n F dX7_keeps_1 rfl rfl ?_
  refine ex_callSi F (c_X7_isBadWater) dX7_keeps_2 cs_X7_keeps_219 rfl rfl (Nat.le_of_ble_eq_true rfl) (fun v2 M2 h2 => ?_)
  obtain ⟨rfl, q2⟩ := h2
  rw [q2]
  clear q2
  refine ex_if_eq (t := 10) F dX7_keeps_5 (by decide) (fun c5 => ?_) (fun c5 => ?_)
  · have hw0 := b2i_0.mp c5
    simp only [badWater, Bool.or_eq_false_iff] at hw0
    obtain ⟨n, -, ln, hn⟩ := outB_n (a := 0) (b := 6) (by decide) hw0.2 (by decide)
    have nn : p.toNatClampNeg = n := by rw [hn]; exact nI_clamp (by omega)
    refine ex_aload_n F dX7_keeps_10 rfl rfl ?_
    refine ex_iload_n F dX7_keeps_11 rfl rfl ?_
    refine ex_iload_n F dX7_keeps_12 rfl rfl ?_
    refine ex_callVv F (c_X7_workWater hn ln) dX7_keeps_13 cs_X7_keeps_222 ob_7 rfl rfl rfl rfl (Nat.le_of_ble_eq_true rfl) (fun M13 h13 => ?_)
    rw [h13]
    refine ex_iconst (v := 0) F dX7_keeps_16 (by decide) ?_
    refine ex_istore_n F dX7_keeps_17 rfl (by decide) ?_
    refine ex_iconst (v := 0) F dX7_keeps_18 (by decide) ?_
    refine ex_istore F dX7_keeps_19 (by decide) ?_
    have key : ∀ (m i : Nat) (v o : Int32), i + m = 7 → v = nI i → o = sGreat (sWat v0 n) i → EX x g (xmL YX7_keeps) (putW M (cut7 (sWat v0 n) (M 37) 7)) 21 [(0, .ref (ad g 0)), (1, .int v0), (2, .int p), (3, .int o), (4, .int v)] [] := by
      intro m
      induction m with
      | zero =>
        intro i v o hi hv ho
        obtain rfl : i = 7 := by omega
        subst hv
        refine ex_iload F dX7_keeps_21 rfl ?_
        refine ex_aload_n F dX7_keeps_23 rfl rfl ?_
        refine gf_7_9 F dX7_keeps_24 fl_X7_61 ?_
        refine ex_ilen (n := 7) (v := 7) F dX7_keeps_27 (by decide) (by decide) ?_
        refine ex_icmp_ge (t := 50) F dX7_keeps_28 (by decide) (fun _ => ?_) (fun c => absurd (by decide) c)
        refine ex_bipush (v := 64) F dX7_keeps_50 (by decide) ?_
        refine ex_iload_n F dX7_keeps_52 rfl rfl ?_
        refine ex_ishr F dX7_keeps_53 ?_
        exact ex_iret F R dX7_keeps_54 rfl (⟨by rw [if_neg (by rw [b2i_0.mp c5]; decide), nn, ← ho], putW_jX h16⟩)
      | succ m ih =>
        intro i v o hi hv ho
        subst hv
        refine ex_iload F dX7_keeps_21 rfl ?_
        refine ex_aload_n F dX7_keeps_23 rfl rfl ?_
        refine gf_7_9 F dX7_keeps_24 fl_X7_61 ?_
        refine ex_ilen (n := 7) (v := 7) F dX7_keeps_27 (by decide) (by decide) ?_
        refine ex_icmp_ge (t := 50) F dX7_keeps_28 (by decide) (fun c => absurd c (nI_ge (b := 7) (by omega) (by decide))) (fun _ => ?_)
        refine ex_aload_n F dX7_keeps_31 rfl rfl ?_
        refine gf_7_9 F dX7_keeps_32 fl_X7_61 ?_
        refine ex_iload F dX7_keeps_35 rfl ?_
        refine ex_iald (n := 7) F dX7_keeps_37 (by decide) (vp_in_nI (by omega) (by decide)) (j := i) (nI_clamp (by omega)) ?_
        refine ex_if_le (t := 44) F dX7_keeps_38 (by decide) (fun c38 => ?_) (fun c38 => ?_)
        · refine ex_iinc (w := _ + 1) F dX7_keeps_44 rfl rfl (by decide) ?_
          refine ex_goto (t := 21) F dX7_keeps_47 (by decide) ?_
          have e : putW M (cut7 (sWat v0 n) (M 37) 7) 37 i = sWat v0 n i := by rw [putW_rd, cut7, if_pos (by omega)]
          rw [e] at c38
          exact ex_weak2 (ih (i + 1) _ _ (by omega) (nI_1 i) (by rw [sGreat, if_neg (Int32.not_lt.mpr c38), ho])) ⟨rfl, rfl, rfl, rfl, rfl, trivial⟩
        · refine ex_iload F dX7_keeps_41 rfl ?_
          refine ex_istore_n F dX7_keeps_43 rfl (by decide) ?_
          refine ex_iinc (w := _ + 1) F dX7_keeps_44 rfl rfl (by decide) ?_
          refine ex_goto (t := 21) F dX7_keeps_47 (by decide) ?_
          have e : putW M (cut7 (sWat v0 n) (M 37) 7) 37 i = sWat v0 n i := by rw [putW_rd, cut7, if_pos (by omega)]
          rw [e] at c38
          exact ex_weak2 (ih (i + 1) _ _ (by omega) (nI_1 i) (by rw [sGreat, if_pos (Int32.not_le.mp c38)])) ⟨rfl, rfl, rfl, rfl, rfl, trivial⟩
    exact ex_weak2 (key 7 0 _ _ (by omega) rfl rfl) ⟨rfl, rfl, rfl, rfl, rfl, trivial⟩
  · refine ex_iconst (v := -1) F dX7_keeps_8 (by decide) ?_
    exact ex_iret F R dX7_keeps_9 rfl (⟨by rw [if_pos (b2i_1.mp c5)], jX_rf h16⟩)
theorem way_le (n : Nat) (hn : n ≤ 12) : ∀ i, i ≤ 13 → wayN n i ≤ 12 ^ i := by
  intro i
  induction i with
  | zero => intro _; exact Nat.le_refl _
  | succ i ih =>
    intro hi
    have h1 := ih (by omega)
    show wayN n i * (n - i) / (i + 1) ≤ 12 ^ (i + 1)
    rw [Nat.pow_succ]
    exact Nat.le_trans (Nat.div_le_self _ _) (Nat.mul_le_mul h1 (by omega))
theorem pow13 {i : Nat} (h : i ≤ 13) : 12 ^ i ≤ 106993205379072 := Nat.le_trans (Nat.pow_le_pow_right (by decide) h) (by decide)
theorem sumW_all : ∀ n, n ≤ 12 → ∀ b, b ≤ 9 → ∀ a, a ≤ b → sumW n 0 a b (n + 1) < 4611686018427387904 := by decide +kernel
theorem sumW_le (n k a b : Nat) : ∀ i, sumW n k a b i ≤ sumW n 0 a b i := by
  intro i
  induction i with
  | zero => exact Nat.le_refl _
  | succ i ih =>
    rw [sumW, sumW, if_pos (Nat.zero_le i)]
    split <;> omega
theorem sumW_lt {n k a b : Nat} (hn : n ≤ 12) (hb : b ≤ 9) (ha : a ≤ b) : sumW n k a b (n + 1) < 2 ^ 63 := Nat.lt_of_le_of_lt (sumW_le n k a b (n + 1)) (Nat.lt_trans (sumW_all n hn b hb a ha) (by decide))
theorem cs_X7_witch_85 : CSS (xmN YX7_witch).cls (xmF YX7_witch) (xmW YX7_witch) 85 3 YX7_outside := ⟨⟨ml_X7_85, ini_X7, cd_X7_outside, by decide +kernel, by decide⟩, st_X7_outside⟩
theorem cs_X7_witch_208 : CSS (xmN YX7_witch).cls (xmF YX7_witch) (xmW YX7_witch) 208 2 YX7_power := ⟨⟨ml_X7_208, ini_X7, cd_X7_power, by decide +kernel, by decide⟩, st_X7_power⟩
theorem cs_X7_witch_212 : CSS (xmN YX7_witch).cls (xmF YX7_witch) (xmW YX7_witch) 212 3 YX7_lowest := ⟨⟨ml_X7_212, ini_X7, cd_X7_lowest, by decide +kernel, by decide⟩, st_X7_lowest⟩
set_option maxRecDepth 100000 in
theorem c_X7_witch {l : Launch} {g : XG} {M : Mem} {n0 k0 a0 b0 wh : Int32} : Call l g YX7_witch [.ref (ad g 0), .int n0, .int k0, .int a0, .int b0, .int wh] M (PL (fun v M' => v = (if badWitch n0 k0 a0 b0 wh = true then -1 else sLow (sumW n0.toNatClampNeg k0.toNatClampNeg a0.toNatClampNeg b0.toNatClampNeg (n0.toNatClampNeg + 1)) (b0.toNatClampNeg ^ n0.toNatClampNeg) wh) ∧ M' = M)) := by
  refine call_of (by decide +kernel) (Nat.le_of_ble_eq_true rfl) (fun x hxl F R => ?_)
  subst hxl
  refine ex_iload_n F dX7_witch_0 rfl rfl ?_
  refine ex_iconst (v := 1) F dX7_witch_1 (by decide) ?_
  refine ex_bipush (v := 12) F dX7_witch_2 (by decide) ?_
  refine ex_callSi F (c_X7_outside) dX7_witch_4 cs_X7_witch_85 rfl rfl (Nat.le_of_ble_eq_true rfl) (fun v4 M4 h4 => ?_)
  obtain ⟨rfl, q4⟩ := h4
  rw [q4]
  clear q4
  refine ex_if_ne (t := 50) F dX7_witch_7 (by decide) (fun c7 => ?_) (fun c7 => ?_)
  · refine ex_ldc2 F dX7_witch_50 kc_X7_206 ?_
    exact ex_lret F R dX7_witch_53 rfl (⟨by rw [if_pos (by simp [badWitch, b2i_1.mp c7])], rfl⟩)
  · refine ex_iload_n F dX7_witch_10 rfl rfl ?_
    refine ex_iconst (v := 0) F dX7_witch_11 (by decide) ?_
    refine ex_iload_n F dX7_witch_12 rfl rfl ?_
    refine ex_callSi F (c_X7_outside) dX7_witch_13 cs_X7_witch_85 rfl rfl (Nat.le_of_ble_eq_true rfl) (fun v13 M13 h13 => ?_)
    obtain ⟨rfl, q13⟩ := h13
    rw [q13]
    clear q13
    refine ex_if_ne (t := 50) F dX7_witch_16 (by decide) (fun c16 => ?_) (fun c16 => ?_)
    · refine ex_ldc2 F dX7_witch_50 kc_X7_206 ?_
      exact ex_lret F R dX7_witch_53 rfl (⟨by rw [if_pos (by simp [badWitch, b2i_0.mp c7, b2i_1.mp c16])], rfl⟩)
    · refine ex_iload F dX7_witch_19 rfl ?_
      refine ex_iconst (v := 1) F dX7_witch_21 (by decide) ?_
      refine ex_bipush (v := 9) F dX7_witch_22 (by decide) ?_
      refine ex_callSi F (c_X7_outside) dX7_witch_24 cs_X7_witch_85 rfl rfl (Nat.le_of_ble_eq_true rfl) (fun v24 M24 h24 => ?_)
      obtain ⟨rfl, q24⟩ := h24
      rw [q24]
      clear q24
      refine ex_if_ne (t := 50) F dX7_witch_27 (by decide) (fun c27 => ?_) (fun c27 => ?_)
      · refine ex_ldc2 F dX7_witch_50 kc_X7_206 ?_
        exact ex_lret F R dX7_witch_53 rfl (⟨by rw [if_pos (by simp [badWitch, b2i_0.mp c7, b2i_0.mp c16, b2i_1.mp c27])], rfl⟩)
      · refine ex_iload_n F dX7_witch_30 rfl rfl ?_
        refine ex_iconst (v := 0) F dX7_witch_31 (by decide) ?_
        refine ex_iload F dX7_witch_32 rfl ?_
        refine ex_callSi F (c_X7_outside) dX7_witch_34 cs_X7_witch_85 rfl rfl (Nat.le_of_ble_eq_true rfl) (fun v34 M34 h34 => ?_)
        obtain ⟨rfl, q34⟩ := h34
        rw [q34]
        clear q34
        refine ex_if_ne (t := 50) F dX7_witch_37 (by decide) (fun c37 => ?_) (fun c37 => ?_)
        · refine ex_ldc2 F dX7_witch_50 kc_X7_206 ?_
          exact ex_lret F R dX7_witch_53 rfl (⟨by rw [if_pos (by simp [badWitch, b2i_0.mp c7, b2i_0.mp c16, b2i_0.mp c27, b2i_1.mp c37])], rfl⟩)
        · refine ex_iload F dX7_witch_40 rfl ?_
          refine ex_iconst (v := 0) F dX7_witch_42 (by decide) ?_
          refine ex_iconst (v := 1) F dX7_witch_43 (by decide) ?_
          refine ex_callSi F (c_X7_outside) dX7_witch_44 cs_X7_witch_85 rfl rfl (Nat.le_of_ble_eq_true rfl) (fun v44 M44 h44 => ?_)
          obtain ⟨rfl, q44⟩ := h44
          rw [q44]
          clear q44
          refine ex_if_eq (t := 54) F dX7_witch_47 (by decide) (fun c47 => ?_) (fun c47 => ?_)
          · obtain ⟨n, n1, n2, en⟩ := outB_n (a := 1) (b := 12) (by decide) (b2i_0.mp c7) (by decide)
            have hk0 := b2i_0.mp c16
            have ha0 := b2i_0.mp c37
            obtain ⟨b, b1, b2, eb⟩ := outB_n (a := 1) (b := 9) (by decide) (b2i_0.mp c27) (by decide)
            rw [en] at hk0
            rw [eb] at ha0
            obtain ⟨k, -, k2, ek⟩ := outB_n (a := 0) (b := n) (by omega) hk0 (by decide)
            obtain ⟨a, -, a2, ea⟩ := outB_n (a := 0) (b := b) (by omega) ha0 (by decide)
            have hbad : ¬ badWitch n0 k0 a0 b0 wh = true := by simp [badWitch, b2i_0.mp c7, b2i_0.mp c16, b2i_0.mp c27, b2i_0.mp c37, b2i_0.mp c47]
            have e1 : n0.toNatClampNeg = n := by rw [en]; exact nI_clamp (by omega)
            have e2 : k0.toNatClampNeg = k := by rw [ek]; exact nI_clamp (by omega)
            have e3 : a0.toNatClampNeg = a := by rw [ea]; exact nI_clamp (by omega)
            have e4 : b0.toNatClampNeg = b := by rw [eb]; exact nI_clamp (by omega)
            simp only [if_neg hbad, e1, e2, e3, e4] at R
            clear hbad e1 e2 e3 e4 c7 c16 c27 c37 hk0 ha0
            subst en; subst eb; subst ek; subst ea
            refine ex_lconst (v := 0) F dX7_witch_54 (by decide) ?_
            refine ex_lstore F dX7_witch_55 (by decide) ?_
            refine ex_lconst (v := 1) F dX7_witch_57 (by decide) ?_
            refine ex_lstore F dX7_witch_58 (by decide) ?_
            refine ex_iconst (v := 0) F dX7_witch_60 (by decide) ?_
            refine ex_istore F dX7_witch_61 (by decide) ?_
            have key : ∀ (m i : Nat) (v : Int32), i + m = n + 1 → v = nI i → EX x g (xmL YX7_witch) M 63 [(0, .ref (ad g 0)), (1, .int (nI n)), (2, .int (nI k)), (3, .int (nI a)), (4, .int (nI b)), (5, .int wh), (6, .long (lN (sumW n k a b i))), (8, .long (lN (wayN n i))), (10, .int v)] [] := by
              intro m
              induction m with
              | zero =>
                intro i v hi hv
                obtain rfl : i = n + 1 := by omega
                subst hv
                refine ex_iload F dX7_witch_63 rfl ?_
                refine ex_iload_n F dX7_witch_65 rfl rfl ?_
                refine ex_icmp_gt (t := 125) F dX7_witch_66 (by decide) (fun _ => ?_) (fun c => absurd (nI_lt (by omega) (by omega)) c)
                refine ex_lload F dX7_witch_125 rfl ?_
                refine ex_iload F dX7_witch_127 rfl ?_
                refine ex_i2l F dX7_witch_129 ?_
                refine ex_iload_n F dX7_witch_130 rfl rfl ?_
                refine ex_callSl F (c_X7_power (n := n) rfl (by omega)) dX7_witch_131 cs_X7_witch_208 rfl rfl (Nat.le_of_ble_eq_true rfl) (fun v131 M131 h131 => ?_)
                obtain ⟨e131, q131⟩ := h131
                rw [q131]
                clear q131
                rw [nI_l (by omega), sPow_n] at e131
                subst e131
                refine ex_iload F dX7_witch_134 rfl ?_
                refine ex_callSl F (c_X7_lowest (sumW_lt n2 b2 a2) (Nat.pow_pos (by omega)) (Nat.lt_of_le_of_lt (Nat.le_trans (Nat.pow_le_pow_left b2 _) (Nat.pow_le_pow_right (by decide) n2)) (by decide))) dX7_witch_136 cs_X7_witch_212 rfl rfl (Nat.le_of_ble_eq_true rfl) (fun v136 M136 h136 => ?_)
                obtain ⟨rfl, q136⟩ := h136
                rw [q136]
                clear q136
                exact ex_lret F R dX7_witch_139 rfl (⟨rfl, rfl⟩)
              | succ m ih =>
                intro i v hi hv
                subst hv
                have hw := way_le n (by omega) i (by omega)
                have h13 := pow13 (show i ≤ 13 by omega)
                have hwn : wayN n i * (n - i) ≤ 106993205379072 * 12 := Nat.mul_le_mul (Nat.le_trans hw h13) (by omega)
                refine ex_iload F dX7_witch_63 rfl ?_
                refine ex_iload_n F dX7_witch_65 rfl rfl ?_
                refine ex_icmp_gt (t := 125) F dX7_witch_66 (by decide) (fun c => absurd c (nI_nlt (by omega) (by omega))) (fun _ => ?_)
                refine ex_iload F dX7_witch_69 rfl ?_
                refine ex_iload_n F dX7_witch_71 rfl rfl ?_
                refine ex_icmp_lt (t := 103) F dX7_witch_72 (by decide) (fun c72 => ?_) (fun c72 => ?_)
                · refine ex_lload F dX7_witch_103 rfl ?_
                  refine ex_iload_n F dX7_witch_105 rfl rfl ?_
                  refine ex_iload F dX7_witch_106 rfl ?_
                  refine ex_isub F dX7_witch_108 ?_
                  refine ex_i2l F dX7_witch_109 ?_
                  refine ex_lmul F dX7_witch_110 ?_
                  refine ex_iload F dX7_witch_111 rfl ?_
                  refine ex_iconst (v := 1) F dX7_witch_113 (by decide) ?_
                  refine ex_iadd F dX7_witch_114 ?_
                  refine ex_i2l F dX7_witch_115 ?_
                  refine ex_ldiv F dX7_witch_116 (by rw [nI_1, nI_l (by omega)]; exact fun q => absurd ((pk_lEQ (b := 0) (by omega) (by decide)).mp q) (by omega)) ?_
                  refine ex_lstore F dX7_witch_117 (by decide) ?_
                  refine ex_iinc (w := _ + 1) F dX7_witch_119 rfl rfl (by decide) ?_
                  refine ex_goto (t := 63) F dX7_witch_122 (by decide) ?_
                  refine ex_weak2 (ih (i + 1) _ (by omega) (nI_1 i)) ⟨rfl, rfl, rfl, rfl, rfl, rfl, ?_, ?_, rfl, trivial⟩
                  · rw [sumW, if_neg (fun q => absurd (nI_le q (by omega)) (Int32.not_le.mpr c72))]; rfl
                  · refine congrArg (fun z => some (Value.long z)) ?_
                    rw [pk_sub (by omega), nI_l (by omega), nI_1, nI_l (by omega), lN_mul, pk_lDiv (by omega) (by omega) (by omega)]
                    rfl
                · refine ex_lload F dX7_witch_75 rfl ?_
                  refine ex_lload F dX7_witch_77 rfl ?_
                  refine ex_iload_n F dX7_witch_79 rfl rfl ?_
                  refine ex_i2l F dX7_witch_80 ?_
                  refine ex_iload F dX7_witch_81 rfl ?_
                  refine ex_callSl F (c_X7_power (n := i) rfl (by omega)) dX7_witch_83 cs_X7_witch_208 rfl rfl (Nat.le_of_ble_eq_true rfl) (fun v83 M83 h83 => ?_)
                  obtain ⟨e83, q83⟩ := h83
                  rw [q83]
                  clear q83
                  rw [nI_l (by omega), sPow_n] at e83
                  subst e83
                  refine ex_lmul F dX7_witch_86 ?_
                  refine ex_iload F dX7_witch_87 rfl ?_
                  refine ex_iload_n F dX7_witch_89 rfl rfl ?_
                  refine ex_isub F dX7_witch_90 ?_
                  refine ex_i2l F dX7_witch_91 ?_
                  refine ex_iload_n F dX7_witch_92 rfl rfl ?_
                  refine ex_iload F dX7_witch_93 rfl ?_
                  refine ex_isub F dX7_witch_95 ?_
                  refine ex_callSl F (c_X7_power (n := n - i) (pk_sub (by omega)) (by omega)) dX7_witch_96 cs_X7_witch_208 rfl rfl (Nat.le_of_ble_eq_true rfl) (fun v96 M96 h96 => ?_)
                  obtain ⟨e96, q96⟩ := h96
                  rw [q96]
                  clear q96
                  rw [pk_sub (by omega), nI_l (by omega), sPow_n] at e96
                  subst e96
                  rw [lN_mul]
                  refine ex_lmul F dX7_witch_99 ?_
                  rw [lN_mul]
                  refine ex_ladd F dX7_witch_100 ?_
                  rw [lN_add]
                  refine ex_lstore F dX7_witch_101 (by decide) ?_
                  refine ex_lload F dX7_witch_103 rfl ?_
                  refine ex_iload_n F dX7_witch_105 rfl rfl ?_
                  refine ex_iload F dX7_witch_106 rfl ?_
                  refine ex_isub F dX7_witch_108 ?_
                  refine ex_i2l F dX7_witch_109 ?_
                  refine ex_lmul F dX7_witch_110 ?_
                  refine ex_iload F dX7_witch_111 rfl ?_
                  refine ex_iconst (v := 1) F dX7_witch_113 (by decide) ?_
                  refine ex_iadd F dX7_witch_114 ?_
                  refine ex_i2l F dX7_witch_115 ?_
                  refine ex_ldiv F dX7_witch_116 (by rw [nI_1, nI_l (by omega)]; exact fun q => absurd ((pk_lEQ (b := 0) (by omega) (by decide)).mp q) (by omega)) ?_
                  refine ex_lstore F dX7_witch_117 (by decide) ?_
                  refine ex_iinc (w := _ + 1) F dX7_witch_119 rfl rfl (by decide) ?_
                  refine ex_goto (t := 63) F dX7_witch_122 (by decide) ?_
                  refine ex_weak2 (ih (i + 1) _ (by omega) (nI_1 i)) ⟨rfl, rfl, rfl, rfl, rfl, rfl, ?_, ?_, rfl, trivial⟩
                  · rw [sumW, if_pos ((nI_leI (by omega) (by omega)).mp (Int32.not_lt.mp c72))]; rfl
                  · refine congrArg (fun z => some (Value.long z)) ?_
                    rw [pk_sub (by omega), nI_l (by omega), nI_1, nI_l (by omega), lN_mul, pk_lDiv (by omega) (by omega) (by omega)]
                    rfl
            exact ex_weak2 (key (n + 1) 0 _ (by omega) rfl) ⟨rfl, rfl, rfl, rfl, rfl, rfl, rfl, rfl, rfl, trivial⟩
          · refine ex_ldc2 F dX7_witch_50 kc_X7_206 ?_
            exact ex_lret F R dX7_witch_53 rfl (⟨by rw [if_pos (by simp [badWitch, b2i_0.mp c7, b2i_0.mp c16, b2i_0.mp c27, b2i_0.mp c37, b2i_1.mp c47])], rfl⟩)
