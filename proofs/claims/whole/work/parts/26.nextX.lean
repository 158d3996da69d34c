def sRunV (r c : Nat → Int32) (w : Int32) : Int32 := if w < 10 then sTell r c w else sDropC c (w - 10)
def sDeed (d : Nat) (c : Nat → Int32) : Nat → Int32 := if d = 1 then sHalfN 7 c else if d = 2 then upd c 1 (if c 1 + 20 < 400 then c 1 + 20 else 400) else if d = 3 then upd c 1 (if 0 < c 1 - 20 then c 1 - 20 else 0) else c
theorem deed_o {d : Nat} {c : Nat → Int32} {j : Nat} (h1 : j ≠ 1) (h0 : j ≠ 0) (h3 : j ≠ 3) (h6 : j < 6 ∨ 13 ≤ j) : sDeed d c j = c j := by
  unfold sDeed
  split
  · unfold sHalfN; rw [if_neg (by omega)]
  · split
    · exact pk_un h1
    · split
      · exact pk_un h1
      · rfl
theorem okC_deed {T d : Nat} {c : Nat → Int32} (h : okC T c) : okC T (sDeed d c) := by
  obtain ⟨⟨w, lw, hw⟩, ⟨h', lh, hh⟩, ⟨t, lt, ht⟩, h5, hz⟩ := h
  refine ⟨?_, ⟨h', lh, by rw [deed_o (by decide) (by decide) (by decide) (by decide)]; exact hh⟩, ⟨t, lt, by rw [deed_o (by decide) (by decide) (by decide) (by decide)]; exact ht⟩, by rw [deed_o (by decide) (by decide) (by decide) (by decide)]; exact h5, fun j hj => by rw [deed_o (by omega) (by omega) (by omega) (Or.inr hj)]; exact hz j hj⟩
  unfold sDeed
  split
  · exact ⟨w, lw, by rw [show sHalfN 7 c 1 = c 1 from rfl]; exact hw⟩
  · split
    · rw [pk_us, hw, show (20 : Int32) = nI 20 from rfl, nI_add]
      by_cases q : w + 20 < 400
      · exact ⟨w + 20, by omega, by rw [if_pos (show nI (w + 20) < 400 from nI_lt (b := 400) q (by decide))]⟩
      · exact ⟨400, by decide, by rw [if_neg (show ¬ nI (w + 20) < 400 from nI_nlt (a := w + 20) (b := 400) (by omega) (by omega))]; rfl⟩
    · split
      · rw [pk_us, hw]
        by_cases q : 20 < w
        · have e : nI w - 20 = nI (w - 20) := pk_sub (b := 20) (by omega)
          rw [e]
          exact ⟨w - 20, by omega, by rw [if_pos (show 0 < nI (w - 20) from nI_lt (a := 0) (by omega) (by omega))]⟩
        · refine ⟨0, by decide, ?_⟩
          rw [if_neg ?_]
          · rfl
          · intro q2
            have e : (nI w - 20).toInt = (w : Int) - 20 := pk_sub_toInt (b := 20) (by omega) (by decide)
            have := Int32.lt_iff_toInt_lt.mp q2
            rw [e] at this
            simp at this
            omega
      · exact ⟨w, lw, hw⟩
theorem come_deed {d : Nat} {c : Nat → Int32} : sCome (sDeed d c) = sCome c := sCome_congr (deed_o (by decide) (by decide) (by decide) (by decide))
def sNextN (r : Nat → Int32) (p : Int32) (c : Nat → Int32) : Nat → Int32 × Int32
  | 0 => (-4, -4)
  | d + 1 => if sTillN r p (sDeed d c) 400 1 = -4 then sNextN r p c d else if (sNextN r p c d).1 = -4 ∨ sTillN r p (sDeed d c) 400 1 < (sNextN r p c d).1 then (sTillN r p (sDeed d c) 400 1, nI d) else sNextN r p c d
def putB (M : Mem) (f : Nat → Int32) : Mem := fun q => if q = 18 then f else M q
theorem putB_mu (M : Mem) (j : Nat) (y : Int32) : mu M 18 j y = putB M (upd (M 18) j y) := by
  funext q
  by_cases h : q = 18
  · subst h; simp [mu, putB]
  · simp [mu, putB, h]
theorem putB_B (M : Mem) (f h : Nat → Int32) : putB (putB M f) h = putB M h := by
  funext q
  by_cases e : q = 18 <;> simp [putB, e]
theorem putB_rd (M : Mem) (f : Nat → Int32) : putB M f 18 = f := by simp [putB]
theorem putB_id (M : Mem) : putB M (M 18) = M := by
  funext q
  by_cases e : q = 18
  · subst e; simp [putB]
  · simp [putB, e]
def sOffer (f : Nat → Int32) (w p t l : Int32) : Nat → Int32 := if ¬ f 0 = 0 ∧ (f 4 < l ∨ (l = f 4 ∧ ¬ t < f 3)) then f else upd (upd (upd (upd (upd f 0 1) 1 w) 2 p) 3 t) 4 l
def sBestTell (f : Nat → Int32) (w : Int32) : Int32 := if w = 0 then f 1 else if w = 1 then f 2 else if w = 2 then f 3 else f 4

theorem cs_X7_run_159 : CSV (xmN YX7_run).cls (xmF YX7_run) (xmW YX7_run) 159 3 YX7_isBadRun := ⟨⟨ml_X7_159, ini_X7, cd_X7_isBadRun, by decide +kernel, by decide⟩, im_X7_isBadRun, se_X7_isBadRun⟩
theorem cs_X7_run_85 : CSS (xmN YX7_run).cls (xmF YX7_run) (xmW YX7_run) 85 3 YX7_outside := ⟨⟨ml_X7_85, ini_X7, cd_X7_outside, by decide +kernel, by decide⟩, st_X7_outside⟩
theorem cs_X7_run_108 : CSV (xmN YX7_run).cls (xmF YX7_run) (xmW YX7_run) 108 3 YX1_fillWith := ⟨⟨ml_X7_108, ini_X1, cd_X1_fillWith, by decide +kernel, by decide⟩, im_X1_fillWith, se_X1_fillWith⟩
theorem cs_X7_run_162 : CSV (xmN YX7_run).cls (xmF YX7_run) (xmW YX7_run) 162 2 YX1_turnOnce := ⟨⟨ml_X7_162, ini_X1, cd_X1_turnOnce, by decide +kernel, by decide⟩, im_X1_turnOnce, se_X1_turnOnce⟩
theorem cs_X7_run_151 : CSV (xmN YX7_run).cls (xmF YX7_run) (xmW YX7_run) 151 2 YX1_tell := ⟨⟨ml_X7_151, ini_X1, cd_X1_tell, by decide +kernel, by decide⟩, im_X1_tell, se_X1_tell⟩
theorem cs_X7_run_155 : CSV (xmN YX7_run).cls (xmF YX7_run) (xmW YX7_run) 155 1 YX1_dropsOf := ⟨⟨ml_X7_155, ini_X1, cd_X1_dropsOf, by decide +kernel, by decide⟩, im_X1_dropsOf, se_X1_dropsOf⟩
set_option maxRecDepth 100000 in
theorem c_X7_run {l : Launch} {g : XG} {M : Mem} {b w0 p n0 wh : Int32} (hR : okR (M 2)) (hO : tO M) (h16 : zC (cX M 16)) : Call l g YX7_run [.ref (ad g 0), .int b, .int w0, .int p, .int n0, .int wh] M (PI (fun v M' => v = (if (badR (M 1 4) b w0 p || (outB n0 0 400 || outB wh 0 16)) = true then -1 else sRunV (M 2) (itT (M 2) p n0.toNatClampNeg (sRowB M b w0)) wh) ∧ jX M M')) := by
  refine call_of (by decide +kernel) (Nat.le_of_ble_eq_true rfl) (fun x hxl F R => ?_)
  subst hxl
  refine ex_aload_n F dX7_run_0 rfl rfl ?_
  refine ex_iload_n F dX7_run_1 rfl rfl ?_
  refine ex_iload_n F dX7_run_2 rfl rfl ?_
  refine ex_iload_n F dX7_run_3 rfl rfl ?_
  refine ex_callVi F (c_X7_isBadRun) dX7_run_4 cs_X7_run_159 ob_7 rfl rfl rfl rfl (Nat.le_of_ble_eq_true rfl) (fun v4 M4 h4 => ?_)
  obtain ⟨rfl, q4⟩ := h4
  rw [q4]
  clear q4
  refine ex_if_ne (t := 33) F dX7_run_7 (by decide) (fun c7 => ?_) (fun c7 => ?_)
  · refine ex_iconst (v := -1) F dX7_run_33 (by decide) ?_
    exact ex_iret F R dX7_run_34 rfl (⟨by simp [b2i_1.mp c7], jX_rf h16⟩)
  · refine ex_iload F dX7_run_10 rfl ?_
    refine ex_iconst (v := 0) F dX7_run_12 (by decide) ?_
    refine ex_sipush (v := 400) F dX7_run_13 (by decide) ?_
    refine ex_callSi F (c_X7_outside) dX7_run_16 cs_X7_run_85 rfl rfl (Nat.le_of_ble_eq_true rfl) (fun v16 M16 h16 => ?_)
    obtain ⟨rfl, q16⟩ := h16
    rw [q16]
    clear q16
    refine ex_if_ne (t := 33) F dX7_run_19 (by decide) (fun c19 => ?_) (fun c19 => ?_)
    · refine ex_iconst (v := -1) F dX7_run_33 (by decide) ?_
      exact ex_iret F R dX7_run_34 rfl (⟨by simp [b2i_0.mp c7, b2i_1.mp c19], jX_rf h16⟩)
    · refine ex_iload F dX7_run_22 rfl ?_
      refine ex_iconst (v := 0) F dX7_run_24 (by decide) ?_
      refine ex_bipush (v := 16) F dX7_run_25 (by decide) ?_
      refine ex_callSi F (c_X7_outside) dX7_run_27 cs_X7_run_85 rfl rfl (Nat.le_of_ble_eq_true rfl) (fun v27 M27 h27 => ?_)
      obtain ⟨rfl, q27⟩ := h27
      rw [q27]
      clear q27
      refine ex_if_eq (t := 35) F dX7_run_30 (by decide) (fun c30 => ?_) (fun c30 => ?_)
      · refine ex_aload_n F dX7_run_35 rfl rfl ?_
        refine gf_7_3 F dX7_run_36 fl_X7_30 ?_
        refine ex_aload_n F dX7_run_39 rfl rfl ?_
        refine gf_7_0 F dX7_run_40 fl_X7_10 ?_
        refine ex_iload_n F dX7_run_43 rfl rfl ?_
        refine ex_iload_n F dX7_run_44 rfl rfl ?_
        obtain ⟨hCf, pp, -, lp, hp⟩ := badR_n hO (b2i_0.mp c7)
        obtain ⟨n, -, ln, hn⟩ := outB_n (a := 0) (b := 400) (by decide) (b2i_0.mp c19) (by decide)
        have en : n0.toNatClampNeg = n := by rw [hn]; exact nI_clamp (by omega)
        refine ex_callVv F (c_X1_fillWith (k := 16) (by decide)) dX7_run_45 cs_X7_run_108 (ob_1 (by decide)) rfl rfl rfl rfl (Nat.le_of_ble_eq_true rfl) (fun M45 h45 => ?_)
        rw [fill_z h16] at h45
        have h45 : M45 = putC M 16 (sRowB M b w0) := h45
        rw [h45]
        clear h45
        refine ex_iconst (v := 0) F dX7_run_48 (by decide) ?_
        refine ex_istore F dX7_run_49 (by decide) ?_
        have key : ∀ (m i : Nat) (v : Int32), i + m = n → v = nI i → EX x g (xmL YX7_run) (putC M 16 (itT (M 2) p i (sRowB M b w0))) 51 [(0, .ref (ad g 0)), (1, .int b), (2, .int w0), (3, .int p), (4, .int n0), (5, .int wh), (6, .int v)] [] := by
          intro m
          induction m with
          | zero =>
            intro i v hi hv
            obtain rfl : i = n := by omega
            subst hv
            refine ex_iload F dX7_run_51 rfl ?_
            refine ex_iload F dX7_run_53 rfl ?_
            refine ex_icmp_ge (t := 77) F dX7_run_55 (by decide) (fun _ => ?_) (fun c => absurd (by rw [hn]; exact Int32.le_refl _) c)
            refine ex_iload F dX7_run_77 rfl ?_
            refine ex_bipush (v := 10) F dX7_run_79 (by decide) ?_
            refine ex_icmp_ge (t := 100) F dX7_run_81 (by decide) (fun c81 => ?_) (fun c81 => ?_)
            · refine ex_aload_n F dX7_run_100 rfl rfl ?_
              refine gf_7_3 F dX7_run_101 fl_X7_30 ?_
              refine ex_iload F dX7_run_104 rfl ?_
              refine ex_bipush (v := 10) F dX7_run_106 (by decide) ?_
              refine ex_isub F dX7_run_108 ?_
              refine ex_callVi F (c_X1_dropsOf (k := 16) (by decide)) dX7_run_109 cs_X7_run_155 (ob_1 (by decide)) rfl rfl rfl rfl (Nat.le_of_ble_eq_true rfl) (fun v109 M109 h109 => ?_)
              rw [cX_putC] at h109
              obtain ⟨e109, q109⟩ := h109
              rw [q109]
              clear q109
              exact ex_iret F R dX7_run_112 rfl (⟨by rw [if_neg (by simp [b2i_0.mp c7, b2i_0.mp c19, b2i_0.mp c30]), en, sRunV, if_neg (Int32.not_lt.mpr c81)]; exact e109, jX_put (zC_it _ hCf.2.2.2.2)⟩)
            · refine ex_aload_n F dX7_run_84 rfl rfl ?_
              refine gf_7_3 F dX7_run_85 fl_X7_30 ?_
              refine ex_aload_n F dX7_run_88 rfl rfl ?_
              refine gf_7_0 F dX7_run_89 fl_X7_10 ?_
              refine ex_iload F dX7_run_92 rfl ?_
              refine ex_callVi F (c_X1_tell (M := putC M 16 _) (k := 16) (by decide) hR) dX7_run_94 cs_X7_run_151 (ob_1 (by decide)) rfl rfl rfl rfl (Nat.le_of_ble_eq_true rfl) (fun v94 M94 h94 => ?_)
              rw [cX_putC] at h94
              obtain ⟨e94, q94⟩ := h94
              rw [q94]
              clear q94
              refine ex_goto (t := 112) F dX7_run_97 (by decide) ?_
              exact ex_iret F R dX7_run_112 rfl (⟨by rw [if_neg (by simp [b2i_0.mp c7, b2i_0.mp c19, b2i_0.mp c30]), en, sRunV, if_pos (Int32.not_le.mp c81)]; exact e94, jX_put (zC_it _ hCf.2.2.2.2)⟩)
          | succ m ih =>
            intro i v hi hv
            subst hv
            refine ex_iload F dX7_run_51 rfl ?_
            refine ex_iload F dX7_run_53 rfl ?_
            refine ex_icmp_ge (t := 77) F dX7_run_55 (by decide) (fun c => absurd c (by rw [hn]; exact nI_ge (by omega) (by omega))) (fun _ => ?_)
            refine ex_aload_n F dX7_run_58 rfl rfl ?_
            refine gf_7_3 F dX7_run_59 fl_X7_30 ?_
            refine ex_aload_n F dX7_run_62 rfl rfl ?_
            refine gf_7_0 F dX7_run_63 fl_X7_10 ?_
            refine ex_iload_n F dX7_run_66 rfl rfl ?_
            refine ex_callVi F (c_X1_turnOnce (M := putC M 16 _) (k := 16) (by decide) hR) dX7_run_67 cs_X7_run_162 (ob_1 (by decide)) rfl rfl rfl rfl (Nat.le_of_ble_eq_true rfl) (fun v67 M67 h67 => ?_)
            obtain ⟨-, q67⟩ := h67
            rw [cX_putC, putC_putC] at q67
            have q67 : M67 = putC M 16 (itT (M 2) p (i + 1) (sRowB M b w0)) := q67
            rw [q67]
            clear q67
            refine ex_pop F dX7_run_70 rfl ?_
            refine ex_iinc (w := _ + 1) F dX7_run_71 rfl rfl (by decide) ?_
            refine ex_goto (t := 51) F dX7_run_74 (by decide) ?_
            exact ex_weak2 (ih (i + 1) _ (by omega) (nI_1 i)) ⟨rfl, rfl, rfl, rfl, rfl, rfl, rfl, trivial⟩
        exact ex_weak2 (key n 0 _ (by omega) rfl) ⟨rfl, rfl, rfl, rfl, rfl, rfl, rfl, trivial⟩
      · refine ex_iconst (v := -1) F dX7_run_33 (by decide) ?_
        exact ex_iret F R dX7_run_34 rfl (⟨by simp [b2i_0.mp c7, b2i_0.mp c19, b2i_1.mp c30], jX_rf h16⟩)
theorem eqd {d0 : Int32} {d k : Nat} (h : d0 = nI d) (hd : d < 2 ^ 31) (hk : k < 2 ^ 31) {z : Int32} (e : d0 = z) (hz : z = nI k := by rfl) : d = k := by
  rw [h, hz] at e
  exact (nI_eq hd hk).mp e
theorem ned {d0 : Int32} {d k : Nat} (h : d0 = nI d) {z : Int32} (e : ¬ d0 = z) (hz : z = nI k := by rfl) : d ≠ k := fun q => e (by rw [h, hz, q])
theorem cs_X7_tryDeed_197 : CSV (xmN YX7_tryDeed).cls (xmF YX7_tryDeed) (xmW YX7_tryDeed) 197 1 YX1_becomeLike := ⟨⟨ml_X7_197, ini_X1, cd_X1_becomeLike, by decide +kernel, by decide⟩, im_X1_becomeLike, se_X1_becomeLike⟩
theorem cs_X7_tryDeed_148 : CSV (xmN YX7_tryDeed).cls (xmF YX7_tryDeed) (xmW YX7_tryDeed) 148 0 YX1_halve := ⟨⟨ml_X7_148, ini_X1, cd_X1_halve, by decide +kernel, by decide⟩, im_X1_halve, se_X1_halve⟩
set_option maxRecDepth 100000 in
theorem c_X7_tryDeed {l : Launch} {g : XG} {M : Mem} {d0 : Int32} {d : Nat} (hd : d0 = nI d) (ld : d < 4) (h14 : zC (cX M 14)) (h16 : zC (cX M 16)) : Call l g YX7_tryDeed [.ref (ad g 0), .int d0] M (PV (fun M' => M' = putC M 16 (sDeed d (cX M 14)))) := by
  refine call_of (by decide +kernel) (Nat.le_of_ble_eq_true rfl) (fun x hxl F R => ?_)
  subst hxl
  refine ex_aload_n F dX7_tryDeed_0 rfl rfl ?_
  refine gf_7_3 F dX7_tryDeed_1 fl_X7_30 ?_
  refine ex_aload_n F dX7_tryDeed_4 rfl rfl ?_
  refine gf_7_2 F dX7_tryDeed_5 fl_X7_26 ?_
  refine ex_callVv F (c_X1_becomeLike (k := 16) (q := 14) (by decide) (by decide) (by decide)) dX7_tryDeed_8 cs_X7_tryDeed_197 (ob_1 (by decide)) rfl rfl rfl rfl (Nat.le_of_ble_eq_true rfl) (fun M8 h8 => ?_)
  rw [cpC_z h14 h16] at h8
  rw [h8]
  clear h8
  refine ex_iload_n F dX7_tryDeed_11 rfl rfl ?_
  refine ex_iconst (v := 1) F dX7_tryDeed_12 (by decide) ?_
  refine ex_icmp_ne (t := 26) F dX7_tryDeed_13 (by decide) (fun c13 => ?_) (fun c13 => ?_)
  · refine ex_iload_n F dX7_tryDeed_26 rfl rfl ?_
    refine ex_iconst (v := 2) F dX7_tryDeed_27 (by decide) ?_
    refine ex_icmp_ne (t := 57) F dX7_tryDeed_28 (by decide) (fun c28 => ?_) (fun c28 => ?_)
    · refine ex_iload_n F dX7_tryDeed_57 rfl rfl ?_
      refine ex_iconst (v := 3) F dX7_tryDeed_58 (by decide) ?_
      refine ex_icmp_ne (t := 83) F dX7_tryDeed_59 (by decide) (fun c59 => ?_) (fun c59 => ?_)
      · exact ex_vret F R dX7_tryDeed_83 rfl (by have a1 := ned (k := 1) hd c13; have a2 := ned (k := 2) hd c28; have a3 := ned (k := 3) hd c59; have hk : d = 0 := (by omega); subst hk; rfl)
      · refine ex_aload_n F dX7_tryDeed_62 rfl rfl ?_
        refine gf_7_3 F dX7_tryDeed_63 fl_X7_30 ?_
        refine ex_iconst (v := 0) F dX7_tryDeed_66 (by decide) ?_
        refine ex_aload_n F dX7_tryDeed_67 rfl rfl ?_
        refine gf_7_3 F dX7_tryDeed_68 fl_X7_30 ?_
        refine gf_1_2 (by decide) F dX7_tryDeed_71 fl_X7_68 ?_
        refine ex_bipush (v := 20) F dX7_tryDeed_74 (by decide) ?_
        refine ex_isub F dX7_tryDeed_76 ?_
        refine ex_mmax F dX7_tryDeed_77 ml_X7_290 st_max ini_math cd_max (by decide) (Nat.le_of_ble_eq_true rfl) ?_
        refine pf_1_2 (by decide) F dX7_tryDeed_80 fl_X7_68 ?_
        exact ex_vret F R dX7_tryDeed_83 rfl (by have hk : d = 3 := eqd hd (by omega) (by decide) c59; subst hk; simp [sDeed, mu_c1, mu_c2, mu_c3, mu_c4, mu_c5, mu_c6, putC_putC, cX_putC, putC_cX, rd_1, rd_2, rd_3, rd_4, rd_5, rd_6])
    · refine ex_aload_n F dX7_tryDeed_31 rfl rfl ?_
      refine gf_7_3 F dX7_tryDeed_32 fl_X7_30 ?_
      refine ex_sipush (v := 400) F dX7_tryDeed_35 (by decide) ?_
      refine ex_aload_n F dX7_tryDeed_38 rfl rfl ?_
      refine gf_7_3 F dX7_tryDeed_39 fl_X7_30 ?_
      refine gf_1_2 (by decide) F dX7_tryDeed_42 fl_X7_68 ?_
      refine ex_bipush (v := 20) F dX7_tryDeed_45 (by decide) ?_
      refine ex_iadd F dX7_tryDeed_47 ?_
      refine ex_mmin F dX7_tryDeed_48 ml_X7_285 st_min ini_math cd_min (by decide) (Nat.le_of_ble_eq_true rfl) ?_
      refine pf_1_2 (by decide) F dX7_tryDeed_51 fl_X7_68 ?_
      refine ex_goto (t := 83) F dX7_tryDeed_54 (by decide) ?_
      exact ex_vret F R dX7_tryDeed_83 rfl (by have hk : d = 2 := eqd hd (by omega) (by decide) c28; subst hk; simp [sDeed, mu_c1, mu_c2, mu_c3, mu_c4, mu_c5, mu_c6, putC_putC, cX_putC, putC_cX, rd_1, rd_2, rd_3, rd_4, rd_5, rd_6])
  · refine ex_aload_n F dX7_tryDeed_16 rfl rfl ?_
    refine gf_7_3 F dX7_tryDeed_17 fl_X7_30 ?_
    refine ex_callVv F (c_X1_halve (k := 16) (by decide)) dX7_tryDeed_20 cs_X7_tryDeed_148 (ob_1 (by decide)) rfl rfl rfl rfl (Nat.le_of_ble_eq_true rfl) (fun M20 h20 => ?_)
    rw [cX_putC, putC_putC] at h20
    rw [h20]
    clear h20
    refine ex_goto (t := 83) F dX7_tryDeed_23 (by decide) ?_
    exact ex_vret F R dX7_tryDeed_83 rfl (by have hk : d = 1 := eqd hd (by omega) (by decide) c13; subst hk; simp [sDeed, mu_c1, mu_c2, mu_c3, mu_c4, mu_c5, mu_c6, putC_putC, cX_putC, putC_cX, rd_1, rd_2, rd_3, rd_4, rd_5, rd_6])
theorem cs_X7_next_85 : CSS (xmN YX7_next).cls (xmF YX7_next) (xmW YX7_next) 85 3 YX7_outside := ⟨⟨ml_X7_85, ini_X7, cd_X7_outside, by decide +kernel, by decide⟩, st_X7_outside⟩
theorem cs_X7_next_190 : CSV (xmN YX7_next).cls (xmF YX7_next) (xmW YX7_next) 190 0 YX1_hasCome := ⟨⟨ml_X7_190, ini_X1, cd_X1_hasCome, by decide +kernel, by decide⟩, im_X1_hasCome, se_X1_hasCome⟩
theorem cs_X7_next_194 : CSV (xmN YX7_next).cls (xmF YX7_next) (xmW YX7_next) 194 1 YX7_tryDeed := ⟨⟨ml_X7_194, ini_X7, cd_X7_tryDeed, by decide +kernel, by decide⟩, im_X7_tryDeed, se_X7_tryDeed⟩
theorem cs_X7_next_166 : CSV (xmN YX7_next).cls (xmF YX7_next) (xmW YX7_next) 166 2 YX7_turnTrialTillCome := ⟨⟨ml_X7_166, ini_X7, cd_X7_turnTrialTillCome, by decide +kernel, by decide⟩, im_X7_turnTrialTillCome, se_X7_turnTrialTillCome⟩
set_option maxRecDepth 100000 in
theorem c_X7_next {l : Launch} {g : XG} {M : Mem} {p wh : Int32} {T : Nat} (hR : okR (M 2)) (hC : okC T (cX M 14)) (hT : T + 400 < 2 ^ 31) (h16 : zC (cX M 16)) : Call l g YX7_next [.ref (ad g 0), .int p, .int wh] M (PI (fun v M' => v = (if (outB p 1 9 || outB wh 0 1) = true then -1 else if sCome (cX M 14) = true then -2 else if wh = 0 then (sNextN (M 2) p (cX M 14) 4).2 else (sNextN (M 2) p (cX M 14) 4).1) ∧ jX M M')) := by
  refine call_of (by decide +kernel) (Nat.le_of_ble_eq_true rfl) (fun x hxl F R => ?_)
  subst hxl
  refine ex_iload_n F dX7_next_0 rfl rfl ?_
  refine ex_iconst (v := 1) F dX7_next_1 (by decide) ?_
  refine ex_bipush (v := 9) F dX7_next_2 (by decide) ?_
  refine ex_callSi F (c_X7_outside) dX7_next_4 cs_X7_next_85 rfl rfl (Nat.le_of_ble_eq_true rfl) (fun v4 M4 h4 => ?_)
  obtain ⟨rfl, q4⟩ := h4
  rw [q4]
  clear q4
  refine ex_if_ne (t := 19) F dX7_next_7 (by decide) (fun c7 => ?_) (fun c7 => ?_)
  · refine ex_iconst (v := -1) F dX7_next_19 (by decide) ?_
    exact ex_iret F R dX7_next_20 rfl (⟨by simp [b2i_1.mp c7], jX_rf h16⟩)
  · refine ex_iload_n F dX7_next_10 rfl rfl ?_
    refine ex_iconst (v := 0) F dX7_next_11 (by decide) ?_
    refine ex_iconst (v := 1) F dX7_next_12 (by decide) ?_
    refine ex_callSi F (c_X7_outside) dX7_next_13 cs_X7_next_85 rfl rfl (Nat.le_of_ble_eq_true rfl) (fun v13 M13 h13 => ?_)
    obtain ⟨rfl, q13⟩ := h13
    rw [q13]
    clear q13
    refine ex_if_eq (t := 21) F dX7_next_16 (by decide) (fun c16 => ?_) (fun c16 => ?_)
    · refine ex_aload_n F dX7_next_21 rfl rfl ?_
      refine gf_7_2 F dX7_next_22 fl_X7_26 ?_
      refine ex_callVi F (c_X1_hasCome (k := 14) (by decide)) dX7_next_25 cs_X7_next_190 (ob_1 (by decide)) rfl rfl rfl rfl (Nat.le_of_ble_eq_true rfl) (fun v25 M25 h25 => ?_)
      obtain ⟨rfl, q25⟩ := h25
      rw [q25]
      clear q25
      refine ex_if_eq (t := 34) F dX7_next_28 (by decide) (fun c28 => ?_) (fun c28 => ?_)
      · obtain ⟨pp, -, lp, hp⟩ := outB_n (a := 1) (b := 9) (by decide) (b2i_0.mp c7) (by decide)
        refine ex_bipush (v := -4) F dX7_next_34 (by decide) ?_
        refine ex_istore_n F dX7_next_36 rfl (by decide) ?_
        refine ex_bipush (v := -4) F dX7_next_37 (by decide) ?_
        refine ex_istore F dX7_next_39 (by decide) ?_
        refine ex_iconst (v := 0) F dX7_next_41 (by decide) ?_
        refine ex_istore F dX7_next_42 (by decide) ?_
        have key : ∀ (m d : Nat) (v : Int32) (c : Nat → Int32), d + m = 4 → v = nI d → zC c → EX x g (xmL YX7_next) (putC M 16 c) 44 [(0, .ref (ad g 0)), (1, .int p), (2, .int wh), (3, .int (sNextN (M 2) p (cX M 14) d).1), (4, .int (sNextN (M 2) p (cX M 14) d).2), (5, .int v)] [] := by
          intro m
          induction m with
          | zero =>
            intro d v c hi hv hz
            obtain rfl : d = 4 := by omega
            subst hv
            refine ex_iload F dX7_next_44 rfl ?_
            refine ex_iconst (v := 3) F dX7_next_46 (by decide) ?_
            refine ex_icmp_gt (t := 98) F dX7_next_47 (by decide) (fun _ => ?_) (fun c => absurd (by decide) c)
            refine ex_iload_n F dX7_next_98 rfl rfl ?_
            refine ex_if_ne (t := 107) F dX7_next_99 (by decide) (fun c99 => ?_) (fun c99 => ?_)
            · refine ex_iload_n F dX7_next_107 rfl rfl ?_
              exact ex_iret F R dX7_next_108 rfl (⟨by rw [if_neg (by simp [b2i_0.mp c7, b2i_0.mp c16]), if_neg (by rw [b2i_0.mp c28]; decide), if_neg c99], jX_put hz⟩)
            · refine ex_iload F dX7_next_102 rfl ?_
              refine ex_goto (t := 108) F dX7_next_104 (by decide) ?_
              exact ex_iret F R dX7_next_108 rfl (⟨by rw [if_neg (by simp [b2i_0.mp c7, b2i_0.mp c16]), if_neg (by rw [b2i_0.mp c28]; decide), if_pos c99], jX_put hz⟩)
          | succ m ih =>
            intro d v c hi hv hz
            subst hv
            refine ex_iload F dX7_next_44 rfl ?_
            refine ex_iconst (v := 3) F dX7_next_46 (by decide) ?_
            refine ex_icmp_gt (t := 98) F dX7_next_47 (by decide) (fun c => absurd c (nI_nlt (b := d) (a := 3) (by omega) (by decide))) (fun _ => ?_)
            refine ex_aload_n F dX7_next_50 rfl rfl ?_
            refine ex_iload F dX7_next_51 rfl ?_
            refine ex_callVv F (c_X7_tryDeed (M := putC M 16 _) (d := d) rfl (by omega) hC.2.2.2.2 (by rw [cX_putC]; exact hz)) dX7_next_53 cs_X7_next_194 ob_7 rfl rfl rfl rfl (Nat.le_of_ble_eq_true rfl) (fun M53 h53 => ?_)
            rw [putC_putC] at h53
            have h53 : M53 = putC M 16 (sDeed d (cX M 14)) := h53
            rw [h53]
            clear h53
            refine ex_aload_n F dX7_next_56 rfl rfl ?_
            refine ex_iload_n F dX7_next_57 rfl rfl ?_
            refine ex_sipush (v := 400) F dX7_next_58 (by decide) ?_
            refine ex_callVi F (c_X7_turnTrialTillCome (M := putC M 16 _) (mm := 400) (T := T) hR (by rw [cX_putC]; exact okC_deed hC) hT (by decide) hp lp rfl (by rw [cX_putC, come_deed]; exact b2i_0.mp c28)) dX7_next_61 cs_X7_next_166 ob_7 rfl rfl rfl rfl (Nat.le_of_ble_eq_true rfl) (fun v61 M61 h61 => ?_)
            obtain ⟨e61, n61, -, q61, -⟩ := h61
            rw [cX_putC] at e61
            rw [cX_putC, putC_putC] at q61
            have e61 : v61 = sTillN (M 2) p (sDeed d (cX M 14)) 400 1 := e61
            have q61 : M61 = putC M 16 (itT (M 2) p n61 (sDeed d (cX M 14))) := q61
            have hz2 : zC (itT (M 2) p n61 (sDeed d (cX M 14))) := zC_it _ (okC_deed hC).2.2.2.2
            rw [q61]
            clear q61
            refine ex_istore F dX7_next_64 (by decide) ?_
            refine ex_iload F dX7_next_66 rfl ?_
            refine ex_bipush (v := -4) F dX7_next_68 (by decide) ?_
            refine ex_icmp_eq (t := 92) F dX7_next_70 (by decide) (fun c70 => ?_) (fun c70 => ?_)
            · refine ex_iinc (w := _ + 1) F dX7_next_92 rfl rfl (by decide) ?_
              refine ex_goto (t := 44) F dX7_next_95 (by decide) ?_
              have en : sNextN (M 2) p (cX M 14) (d + 1) = sNextN (M 2) p (cX M 14) d := by rw [sNextN, ← e61, if_pos c70]
              refine ex_weak2 (ih (d + 1) _ _ (by omega) (nI_1 d) hz2) ⟨rfl, rfl, rfl, ?_, ?_, rfl, trivial⟩
              · rw [en]; rfl
              · rw [en]; rfl
            · refine ex_iload_n F dX7_next_73 rfl rfl ?_
              refine ex_bipush (v := -4) F dX7_next_74 (by decide) ?_
              refine ex_icmp_eq (t := 85) F dX7_next_76 (by decide) (fun c76 => ?_) (fun c76 => ?_)
              · refine ex_iload F dX7_next_85 rfl ?_
                refine ex_istore_n F dX7_next_87 rfl (by decide) ?_
                refine ex_iload F dX7_next_88 rfl ?_
                refine ex_istore F dX7_next_90 (by decide) ?_
                refine ex_iinc (w := _ + 1) F dX7_next_92 rfl rfl (by decide) ?_
                refine ex_goto (t := 44) F dX7_next_95 (by decide) ?_
                have en : sNextN (M 2) p (cX M 14) (d + 1) = (v61, nI d) := by rw [sNextN, ← e61, if_neg c70, if_pos (Or.inl c76)]
                refine ex_weak2 (ih (d + 1) _ _ (by omega) (nI_1 d) hz2) ⟨rfl, rfl, rfl, ?_, ?_, rfl, trivial⟩
                · rw [en]; rfl
                · rw [en]; rfl
              · refine ex_iload F dX7_next_79 rfl ?_
                refine ex_iload_n F dX7_next_81 rfl rfl ?_
                refine ex_icmp_ge (t := 92) F dX7_next_82 (by decide) (fun c82 => ?_) (fun c82 => ?_)
                · refine ex_iinc (w := _ + 1) F dX7_next_92 rfl rfl (by decide) ?_
                  refine ex_goto (t := 44) F dX7_next_95 (by decide) ?_
                  have en : sNextN (M 2) p (cX M 14) (d + 1) = sNextN (M 2) p (cX M 14) d := by rw [sNextN, ← e61, if_neg c70, if_neg (fun q => q.elim c76 (Int32.not_lt.mpr c82))]
                  refine ex_weak2 (ih (d + 1) _ _ (by omega) (nI_1 d) hz2) ⟨rfl, rfl, rfl, ?_, ?_, rfl, trivial⟩
                  · rw [en]; rfl
                  · rw [en]; rfl
                · refine ex_iload F dX7_next_85 rfl ?_
                  refine ex_istore_n F dX7_next_87 rfl (by decide) ?_
                  refine ex_iload F dX7_next_88 rfl ?_
                  refine ex_istore F dX7_next_90 (by decide) ?_
                  refine ex_iinc (w := _ + 1) F dX7_next_92 rfl rfl (by decide) ?_
                  refine ex_goto (t := 44) F dX7_next_95 (by decide) ?_
                  have en : sNextN (M 2) p (cX M 14) (d + 1) = (v61, nI d) := by rw [sNextN, ← e61, if_neg c70, if_pos (Or.inr (Int32.not_le.mp c82))]
                  refine ex_weak2 (ih (d + 1) _ _ (by omega) (nI_1 d) hz2) ⟨rfl, rfl, rfl, ?_, ?_, rfl, trivial⟩
                  · rw [en]; rfl
                  · rw [en]; rfl
        exact ex_M (putC_cX M 16).symm (ex_weak2 (key 4 0 _ _ (by omega) rfl h16) ⟨rfl, rfl, rfl, rfl, rfl, rfl, trivial⟩)
      · refine ex_bipush (v := -2) F dX7_next_31 (by decide) ?_
        exact ex_iret F R dX7_next_33 rfl (⟨by rw [if_neg (by simp [b2i_0.mp c7, b2i_0.mp c16]), if_pos (b2i_1.mp c28)], jX_rf h16⟩)
    · refine ex_iconst (v := -1) F dX7_next_19 (by decide) ?_
      exact ex_iret F R dX7_next_20 rfl (⟨by simp [b2i_0.mp c7, b2i_1.mp c16], jX_rf h16⟩)
set_option maxRecDepth 100000 in
theorem c_X0_offer {l : Launch} {g : XG} {M : Mem} {w0 p t l0 : Int32} : Call l g YX0_offer [.ref (ad g 18), .int w0, .int p, .int t, .int l0] M (PV (fun M' => M' = putB M (sOffer (M 18) w0 p t l0))) := by
  refine call_of (by decide +kernel) (Nat.le_of_ble_eq_true rfl) (fun x hxl F R => ?_)
  subst hxl
  refine ex_aload_n F dX0_offer_0 rfl rfl ?_
  refine gf_0_0 F dX0_offer_1 fl_X0_7 ?_
  refine ex_if_eq (t := 34) F dX0_offer_4 (by decide) (fun c4 => ?_) (fun c4 => ?_)
  · refine ex_aload_n F dX0_offer_34 rfl rfl ?_
    refine ex_iconst (v := 1) F dX0_offer_35 (by decide) ?_
    refine pf_0_0 F dX0_offer_36 fl_X0_7 (by first | exact Or.inl rfl | exact Or.inr rfl | assumption) ?_
    refine ex_aload_n F dX0_offer_39 rfl rfl ?_
    refine ex_iload_n F dX0_offer_40 rfl rfl ?_
    refine pf_0_1 F dX0_offer_41 fl_X0_20 ?_
    refine ex_aload_n F dX0_offer_44 rfl rfl ?_
    refine ex_iload_n F dX0_offer_45 rfl rfl ?_
    refine pf_0_2 F dX0_offer_46 fl_X0_23 ?_
    refine ex_aload_n F dX0_offer_49 rfl rfl ?_
    refine ex_iload_n F dX0_offer_50 rfl rfl ?_
    refine pf_0_3 F dX0_offer_51 fl_X0_17 ?_
    refine ex_aload_n F dX0_offer_54 rfl rfl ?_
    refine ex_iload F dX0_offer_55 rfl ?_
    refine pf_0_4 F dX0_offer_57 fl_X0_13 ?_
    exact ex_vret F R dX0_offer_60 rfl (by rw [sOffer, if_neg (fun q => q.1 c4), putB_mu, putB_mu, putB_mu, putB_mu, putB_mu]; simp [putB_B, putB_rd])
  · refine ex_iload F dX0_offer_7 rfl ?_
    refine ex_aload_n F dX0_offer_9 rfl rfl ?_
    refine gf_0_4 F dX0_offer_10 fl_X0_13 ?_
    refine ex_icmp_gt (t := 33) F dX0_offer_13 (by decide) (fun c13 => ?_) (fun c13 => ?_)
    · exact ex_vret F R dX0_offer_33 rfl (by rw [sOffer, if_pos ⟨c4, Or.inl c13⟩, putB_id])
    · refine ex_iload F dX0_offer_16 rfl ?_
      refine ex_aload_n F dX0_offer_18 rfl rfl ?_
      refine gf_0_4 F dX0_offer_19 fl_X0_13 ?_
      refine ex_icmp_ne (t := 34) F dX0_offer_22 (by decide) (fun c22 => ?_) (fun c22 => ?_)
      · refine ex_aload_n F dX0_offer_34 rfl rfl ?_
        refine ex_iconst (v := 1) F dX0_offer_35 (by decide) ?_
        refine pf_0_0 F dX0_offer_36 fl_X0_7 (by first | exact Or.inl rfl | exact Or.inr rfl | assumption) ?_
        refine ex_aload_n F dX0_offer_39 rfl rfl ?_
        refine ex_iload_n F dX0_offer_40 rfl rfl ?_
        refine pf_0_1 F dX0_offer_41 fl_X0_20 ?_
        refine ex_aload_n F dX0_offer_44 rfl rfl ?_
        refine ex_iload_n F dX0_offer_45 rfl rfl ?_
        refine pf_0_2 F dX0_offer_46 fl_X0_23 ?_
        refine ex_aload_n F dX0_offer_49 rfl rfl ?_
        refine ex_iload_n F dX0_offer_50 rfl rfl ?_
        refine pf_0_3 F dX0_offer_51 fl_X0_17 ?_
        refine ex_aload_n F dX0_offer_54 rfl rfl ?_
        refine ex_iload F dX0_offer_55 rfl ?_
        refine pf_0_4 F dX0_offer_57 fl_X0_13 ?_
        exact ex_vret F R dX0_offer_60 rfl (by rw [sOffer, if_neg (fun q => q.2.elim c13 (fun z => c22 z.1)), putB_mu, putB_mu, putB_mu, putB_mu, putB_mu]; simp [putB_B, putB_rd])
      · refine ex_iload_n F dX0_offer_25 rfl rfl ?_
        refine ex_aload_n F dX0_offer_26 rfl rfl ?_
        refine gf_0_3 F dX0_offer_27 fl_X0_17 ?_
        refine ex_icmp_lt (t := 34) F dX0_offer_30 (by decide) (fun c30 => ?_) (fun c30 => ?_)
        · refine ex_aload_n F dX0_offer_34 rfl rfl ?_
          refine ex_iconst (v := 1) F dX0_offer_35 (by decide) ?_
          refine pf_0_0 F dX0_offer_36 fl_X0_7 (by first | exact Or.inl rfl | exact Or.inr rfl | assumption) ?_
          refine ex_aload_n F dX0_offer_39 rfl rfl ?_
          refine ex_iload_n F dX0_offer_40 rfl rfl ?_
          refine pf_0_1 F dX0_offer_41 fl_X0_20 ?_
          refine ex_aload_n F dX0_offer_44 rfl rfl ?_
          refine ex_iload_n F dX0_offer_45 rfl rfl ?_
          refine pf_0_2 F dX0_offer_46 fl_X0_23 ?_
          refine ex_aload_n F dX0_offer_49 rfl rfl ?_
          refine ex_iload_n F dX0_offer_50 rfl rfl ?_
          refine pf_0_3 F dX0_offer_51 fl_X0_17 ?_
          refine ex_aload_n F dX0_offer_54 rfl rfl ?_
          refine ex_iload F dX0_offer_55 rfl ?_
          refine pf_0_4 F dX0_offer_57 fl_X0_13 ?_
          exact ex_vret F R dX0_offer_60 rfl (by rw [sOffer, if_neg (fun q => q.2.elim c13 (fun z => z.2 c30)), putB_mu, putB_mu, putB_mu, putB_mu, putB_mu]; simp [putB_B, putB_rd])
        · exact ex_vret F R dX0_offer_33 rfl (by rw [sOffer, if_pos ⟨c4, Or.inr ⟨c22, c30⟩⟩, putB_id])
set_option maxRecDepth 100000 in
theorem c_X0_tell {l : Launch} {g : XG} {M : Mem} {w0 : Int32} : Call l g YX0_tell [.ref (ad g 18), .int w0] M (PI (fun v M' => v = sBestTell (M 18) w0 ∧ M' = M)) := by
  refine call_of (by decide +kernel) (Nat.le_of_ble_eq_true rfl) (fun x hxl F R => ?_)
  subst hxl
  refine ex_iload_n F dX0_tell_0 rfl rfl ?_
  by_cases w1_0 : w0 = 0
  · rw [w1_0]
    refine ex_tswIn (t := 28) F dX0_tell_1 (by decide) (by decide) rfl (by decide) ?_
    refine ex_aload_n F dX0_tell_28 rfl rfl ?_
    refine gf_0_1 F dX0_tell_29 fl_X0_20 ?_
    exact ex_iret F R dX0_tell_32 rfl (⟨by rw [w1_0]; rfl, rfl⟩)
  by_cases w1_1 : w0 = 1
  · rw [w1_1]
    refine ex_tswIn (t := 33) F dX0_tell_1 (by decide) (by decide) rfl (by decide) ?_
    refine ex_aload_n F dX0_tell_33 rfl rfl ?_
    refine gf_0_2 F dX0_tell_34 fl_X0_23 ?_
    exact ex_iret F R dX0_tell_37 rfl (⟨by rw [w1_1]; rfl, rfl⟩)
  by_cases w1_2 : w0 = 2
  · rw [w1_2]
    refine ex_tswIn (t := 38) F dX0_tell_1 (by decide) (by decide) rfl (by decide) ?_
    refine ex_aload_n F dX0_tell_38 rfl rfl ?_
    refine gf_0_3 F dX0_tell_39 fl_X0_17 ?_
    exact ex_iret F R dX0_tell_42 rfl (⟨by rw [w1_2]; rfl, rfl⟩)
  refine ex_tswOut (t := 43) F dX0_tell_1 (tsw_out 2 (by decide) (fun k hk => match k, hk with | 0, _ => w1_0 | 1, _ => w1_1 | 2, _ => w1_2 | n + 3, h => absurd h (by omega))) (by decide) ?_
  refine ex_aload_n F dX0_tell_43 rfl rfl ?_
  refine gf_0_4 F dX0_tell_44 fl_X0_13 ?_
  exact ex_iret F R dX0_tell_47 rfl (⟨by simp [sBestTell, w1_0, w1_1, w1_2], rfl⟩)
