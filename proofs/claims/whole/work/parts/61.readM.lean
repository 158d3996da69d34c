def frR (M M' : Mem) : Prop := (∀ q, q ≠ 38 → q ≠ 51 → q ≠ 52 → q ≠ 53 → q ≠ 55 → M' q = M q) ∧ (∀ j, j ≠ 24 → j ≠ 34 → M' 38 j = M 38 j) ∧ (∀ i, (32 ≤ i ∧ i < 64) → M' 51 i = M 51 i) ∧ (M 38 24 = 1 → M' 38 24 = 1)
theorem frR_B {M M' : Mem} (h : frB M M') : frR M M' := ⟨h.1, fun j a _ => h.2.1 j a, h.2.2⟩
theorem frR_34 {M M' : Mem} (h : frB M M') (y : Int32) : frR M (mu M' 38 34 y) := ⟨fun q a b c d e => by rw [mu_k _ _ _ _ _ a]; exact h.1 q a b c d e, fun j a b => by rw [mu_j _ _ _ _ _ b]; exact h.2.1 j a, fun i hi => by rw [mu_k _ _ _ 51 _ (by decide)]; exact h.2.2.1 i hi, fun q => by rw [mu_j _ _ _ _ _ (by decide)]; exact h.2.2.2 q⟩
theorem RC_34 {c : Nat → Int32} {w0 : Int32} {M : Mem} {T : Nat} (h : okC T c) (hO : okM M 0) (ha : M 38 24 = 1) (hc : cM M 0 = c) (y : Int32) : RC c w0 (mu M 38 34 y) T := by
  have e51 : mu M 38 34 y 51 = M 51 := mu_k _ _ _ 51 _ (by decide)
  exact RC_mk h (okM_fr hO (by rw [e51])) (by rw [mu_j _ _ _ _ _ (by decide)]; exact ha) ((cM_eq (A := 0) (B := 0) (fun i _ => by rw [e51])).trans hc)
theorem cell_in {K M : Mem} {kk z j : Nat} (h3 : K (27 + 2 * kk) 2 = nI z) (hz : z ≤ 40) (h7 : ∀ j, j < 40 → M 59 (40 * kk + j) = K (27 + 2 * kk + 1) j) (hj : j < z) : sCell K (27 + 2 * kk) (nI j) = M 59 (40 * kk + j) := by
  rw [sCell, if_neg (nI_pos (by omega)), h3, if_neg (nI_ge hj (by omega)), if_neg (show ¬ (40 : Int32) ≤ nI j from nI_ge (b := 40) (by omega) (by decide)), nI_clamp (by omega), h7 j (by omega)]
theorem f2j (ff j : Nat) : nI ff + 2 * nI j = nI (ff + 2 * j) := by rw [show (2 : Int32) * nI j = nI (2 * j) from pk_mul 2 j, nI_add]
theorem f2j1 (ff j : Nat) : nI ff + 2 * nI j + 1 = nI (ff + 2 * j + 1) := by rw [f2j, nI_1]
theorem do_S (r : Nat → Int32) (K : Mem) (q : Nat) (f : Int32) (i : Nat) (c : Nat → Int32) : sDo r K q f (i + 1) c = itT r (sCell K q (f + 2 * nI i + 1)) (sCell K q (f + 2 * nI i)).toNatClampNeg (sDo r K q f i c) := rfl
theorem mod2 (i : Nat) (hi : i < 2 ^ 31) : nI i - nI i / 2 * 2 = nI (i % 2) := pk_rem (d := 2) hi (by decide) (by decide)
theorem sh_of {K M : Mem} {k : Nat} (h : SM K M k) : shO K (27 + 2 * k) := by
  rcases h with ⟨-, q⟩ | ⟨la, z, -, h2, -, -, h5, -⟩
  · exact Or.inl q
  · exact Or.inr ⟨z, h2, h5⟩
theorem in_lt {z y : Nat} (hz : z ≤ 40) (hy : y < 2 ^ 31) (c : ¬ b2i (!outB (nI y) 0 (nI z - 1)) = 0) : y < z := by
  have h : outB (nI y) 0 (nI z - 1) = false := by simpa using b2i_1.mp c
  rw [out_len hz] at h
  simp only [Bool.or_eq_false_iff, decide_eq_false_iff_not] at h
  exact nI_ltof hy h.2.1
theorem f_out {z : Nat} {f : Int32} (hz : z ≤ 40) (h : (decide (f < 0) || (decide (nI z ≤ f) || decide (40 ≤ f))) = true) : f < 0 ∨ nI z ≤ f := by
  simp only [Bool.or_eq_true, decide_eq_true_eq] at h
  rcases h with h | h | h
  · exact Or.inl h
  · exact Or.inr h
  · exact Or.inr (Int32.le_trans (nI_le (b := 40) hz (by decide)) h)
theorem in_ge {z ff i : Nat} (hz : z ≤ 40) (hy : ff + i < 2 ^ 31) (h2 : ff + i ≤ z) (c : b2i (!outB (nI (ff + i)) 0 (nI z - 1)) = 0) : z = ff + i := by
  have h : outB (nI (ff + i)) 0 (nI z - 1) = true := by simpa using b2i_0.mp c
  rw [out_len hz] at h
  rcases f_out hz h with q | q
  · exact absurd q (nI_pos hy)
  · have := (nI_leI (by omega) hy).mp q
    omega
theorem pairs_z {K : Mem} {q wn nn : Nat} {la f : Int32} (hW : sPairs K q la f (nI nn) = nI wn) (h : sThere K q = false ∨ ¬ K q 1 = la ∨ (f < 0 ∨ K q 2 ≤ f)) (hw : wn < 2 ^ 31) : wn = 0 := by
  rw [sPairs, if_pos] at hW
  · exact (nI_inj (i := 0) (by decide) hw hW).symm
  · simp only [Bool.or_eq_true, Bool.not_eq_true', decide_eq_true_eq, decide_eq_false_iff_not]
    exact h
theorem pairs_w {K : Mem} {q wn nn ff z : Nat} {la f : Int32} (h1 : sThere K q = true) (h2 : K q 1 = la) (h3 : K q 2 = nI z) (hz : z ≤ 40) (hf : f = nI ff) (hlt : ff < z) (ln : nn ≤ 20) (lw : wn ≤ nn) (hW : sPairs K q la f (nI nn) = nI wn) : 2 * wn ≤ z - ff ∧ (wn = nn ∨ z - ff < 2 * wn + 2) := by
  subst hf
  rw [sPairs, if_neg] at hW
  · have e : (K q 2 - nI ff) / 2 = nI ((z - ff) / 2) := by rw [h3, pk_sub (by omega)]; exact pk_div (d := 2) (by omega) (by decide) (by decide)
    rw [e] at hW
    by_cases hm : nI ((z - ff) / 2) < nI nn
    · rw [if_pos hm] at hW
      have := nI_inj (by omega) (by omega) hW
      omega
    · rw [if_neg hm] at hW
      have e1 := nI_inj (by omega) (by omega) hW
      have : ¬ (z - ff) / 2 < nn := fun q => hm (nI_lt q (by omega))
      omega
  · simp only [Bool.or_eq_true, Bool.not_eq_true', decide_eq_true_eq, decide_eq_false_iff_not]
    rintro (q1 | q1 | q1 | q1)
    · rw [h1] at q1; exact absurd q1 (by decide)
    · exact q1 h2
    · exact nI_pos (by omega) q1
    · rw [h3] at q1; exact nI_ge hlt (by omega) q1
theorem cs_X8_read_190 : CSV (xmN YX8_read).cls (xmF YX8_read) (xmW YX8_read) 190 0 YX8_awake := ⟨⟨ml_X8_190, ini_X8, cd_X8_awake, by decide +kernel, by decide⟩, im_X8_awake, se_X8_awake⟩
theorem cs_X8_read_78 : CSS (xmN YX8_read).cls (xmF YX8_read) (xmW YX8_read) 78 3 YX8_in := ⟨⟨ml_X8_78, ini_X8, cd_X8_in, by decide +kernel, by decide⟩, st_X8_in⟩
theorem cs_X8_read_193 : CSS (xmN YX8_read).cls (xmF YX8_read) (xmW YX8_read) 193 1 YX8_isPace := ⟨⟨ml_X8_193, ini_X8, cd_X8_isPace, by decide +kernel, by decide⟩, st_X8_isPace⟩
theorem cs_X8_read_196 : CSV (xmN YX8_read).cls (xmF YX8_read) (xmW YX8_read) 196 2 YX8_turns := ⟨⟨ml_X8_196, ini_X8, cd_X8_turns, by decide +kernel, by decide⟩, im_X8_turns, se_X8_turns⟩
set_option maxRecDepth 100000 in
theorem c_X8_read {l : Launch} {g : XG} {M : Mem} {K : Mem} {c r : Nat → Int32} {T : Nat} (hR : okR r) (hr : mR M r) (hC : RC c (r 1) M T) (hT : T + 9000 < 2 ^ 31) (hS : RSh K M) {k0 la f n0 : Int32} : Call l g YX8_read [.ref (ad g 38), .int k0, .int la, .int f, .int n0] M (PI (fun v M' => v = (if (outN k0 4 || (outB la 0 2 || outB n0 0 20)) = true then -1 else if sBadAt K (27 + 2 * k0.toNatClampNeg) f (sPairs K (27 + 2 * k0.toNatClampNeg) la f n0).toNatClampNeg 0 = 0 then sPairs K (27 + 2 * k0.toNatClampNeg) la f n0 else sBadAt K (27 + 2 * k0.toNatClampNeg) f (sPairs K (27 + 2 * k0.toNatClampNeg) la f n0).toNatClampNeg 0) ∧ RC (if (outN k0 4 || (outB la 0 2 || outB n0 0 20)) = true then c else if sBadAt K (27 + 2 * k0.toNatClampNeg) f (sPairs K (27 + 2 * k0.toNatClampNeg) la f n0).toNatClampNeg 0 = 0 then sDo r K (27 + 2 * k0.toNatClampNeg) f (sPairs K (27 + 2 * k0.toNatClampNeg) la f n0).toNatClampNeg c else c) (r 1) M' (T + 8000) ∧ M' 38 34 = (if (outN k0 4 || (outB la 0 2 || outB n0 0 20)) = true then M 38 34 else if sBadAt K (27 + 2 * k0.toNatClampNeg) f (sPairs K (27 + 2 * k0.toNatClampNeg) la f n0).toNatClampNeg 0 = 0 then (if sPairs K (27 + 2 * k0.toNatClampNeg) la f n0 = n0 then 0 else sFaultAs K (27 + 2 * k0.toNatClampNeg) la) else M 38 34) ∧ frR M M')) := by
  refine call_of (by decide +kernel) (Nat.le_of_ble_eq_true rfl) (fun x hxl F R => ?_)
  subst hxl
  have hw : M 47 1 = r 1 := hr 1 (by decide)
  refine ex_aload_n F dX8_read_0 rfl rfl ?_
  refine ex_callVv F (c_X8_awake) dX8_read_1 cs_X8_read_190 ob_8 rfl rfl rfl rfl (Nat.le_of_ble_eq_true rfl) (fun M1 h1 => ?_)
  obtain ⟨w1, w2, w3, w4⟩ := wake_ok hC hw h1
  have hr1 := frB_mR hr w4
  refine ex_iload_n F dX8_read_4 rfl rfl ?_
  refine ex_i2l F dX8_read_5 ?_
  refine ex_lconst (v := 0) F dX8_read_6 (by decide) ?_
  refine ex_ldc2 F dX8_read_7 kc_X8_220 ?_
  refine ex_callSi F (c_X8_in) dX8_read_10 cs_X8_read_78 rfl rfl (Nat.le_of_ble_eq_true rfl) (fun v10 M10 h10 => ?_)
  obtain ⟨e10, q10⟩ := h10
  rw [q10]
  clear q10
  rw [in_out (lo := 0) (hi := 3) (by decide) (by decide)] at e10
  subst e10
  rw [out4]
  refine ex_if_eq (t := 41) F dX8_read_13 (by decide) (fun c13 => ?_) (fun c13 => ?_)
  · refine ex_iconst (v := -1) F dX8_read_41 (by decide) ?_
    exact ex_iret F R dX8_read_42 rfl (⟨by rw [ift (or_l (by simpa using b2i_0.mp c13))], by rw [ift (or_l (by simpa using b2i_0.mp c13))]; exact RC_mk (okC_mono hC.okc (by omega)) w2 w3 w1, by rw [ift (or_l (by simpa using b2i_0.mp c13))]; exact w4.2.1 34 (by decide), frR_B w4⟩)
  · refine ex_iload_n F dX8_read_16 rfl rfl ?_
    refine ex_i2l F dX8_read_17 ?_
    refine ex_lconst (v := 0) F dX8_read_18 (by decide) ?_
    refine ex_ldc2 F dX8_read_19 kc_X8_228 ?_
    refine ex_callSi F (c_X8_in) dX8_read_22 cs_X8_read_78 rfl rfl (Nat.le_of_ble_eq_true rfl) (fun v22 M22 h22 => ?_)
    obtain ⟨e22, q22⟩ := h22
    rw [q22]
    clear q22
    rw [in_out (lo := 0) (hi := 2) (by decide) (by decide)] at e22
    subst e22
    refine ex_if_eq (t := 41) F dX8_read_25 (by decide) (fun c25 => ?_) (fun c25 => ?_)
    · refine ex_iconst (v := -1) F dX8_read_41 (by decide) ?_
      exact ex_iret F R dX8_read_42 rfl (⟨by rw [ift (or_r (or_l (by simpa using b2i_0.mp c25)))], by rw [ift (or_r (or_l (by simpa using b2i_0.mp c25)))]; exact RC_mk (okC_mono hC.okc (by omega)) w2 w3 w1, by rw [ift (or_r (or_l (by simpa using b2i_0.mp c25)))]; exact w4.2.1 34 (by decide), frR_B w4⟩)
    · refine ex_iload F dX8_read_28 rfl ?_
      refine ex_i2l F dX8_read_30 ?_
      refine ex_lconst (v := 0) F dX8_read_31 (by decide) ?_
      refine ex_ldc2 F dX8_read_32 kc_X8_270 ?_
      refine ex_callSi F (c_X8_in) dX8_read_35 cs_X8_read_78 rfl rfl (Nat.le_of_ble_eq_true rfl) (fun v35 M35 h35 => ?_)
      obtain ⟨e35, q35⟩ := h35
      rw [q35]
      clear q35
      rw [in_out (lo := 0) (hi := 20) (by decide) (by decide)] at e35
      subst e35
      refine ex_if_ne (t := 43) F dX8_read_38 (by decide) (fun c38 => ?_) (fun c38 => ?_)
      · refine ex_iconst (v := 0) F dX8_read_43 (by decide) ?_
        refine ex_istore F dX8_read_44 (by decide) ?_
        refine ex_iconst (v := 0) F dX8_read_46 (by decide) ?_
        refine ex_istore F dX8_read_47 (by decide) ?_
        refine ex_iconst (v := 0) F dX8_read_49 (by decide) ?_
        refine ex_istore F dX8_read_50 (by decide) ?_
        have z1 : outN k0 4 = false := by simpa using b2i_1.mp c13
        have z2 : outB la 0 2 = false := by simpa using b2i_1.mp c25
        have z3 : outB n0 0 20 = false := by simpa using b2i_1.mp c38
        have hbad : (outN k0 4 || (outB la 0 2 || outB n0 0 20)) = false := or_n z1 (or_n z2 z3)
        obtain ⟨kk, lk, rfl⟩ := outN_n (m := 4) (by decide) z1
        obtain ⟨nn, -, ln, rfl⟩ := outB_n (a := 0) (b := 20) (by decide) z3 (by decide)
        simp only [ifn hbad, nI_clamp (show kk < 2 ^ 31 by omega)] at R
        have hSM : SM K M1 kk := RSh_fr hS (w4.1 57 (by decide) (by decide) (by decide) (by decide) (by decide)) (w4.1 58 (by decide) (by decide) (by decide) (by decide) (by decide)) (w4.1 59 (by decide) (by decide) (by decide) (by decide) (by decide)) kk lk
        obtain ⟨wn, lwn, hWn⟩ := pairs_n (la := la) (f := f) (sh_of hSM) ln
        rw [hWn, nI_clamp (show wn < 2 ^ 31 by omega)] at R
        generalize hb0 : sBadAt K (27 + 2 * kk) f wn 0 = bad at R
        have tail : ∀ (fl i : Int32), bad = 0 → fl = (if nI wn = nI nn then 0 else sFaultAs K (27 + 2 * kk) la) → (0 < wn → ∃ ff z, f = nI ff ∧ ff + 2 * wn ≤ z ∧ z ≤ 40 ∧ K (27 + 2 * kk) 2 = nI z ∧ ∀ j, j < 40 → M1 59 (40 * kk + j) = K (27 + 2 * kk + 1) j) → EX x g (xmL YX8_read) M1 198 [(0, .ref (ad g 38)), (1, .int (nI kk)), (2, .int la), (3, .int f), (4, .int (nI nn)), (5, .int fl), (6, .int (nI wn)), (7, .int i)] [] := by
          intro fl i hb hF hex
          rw [if_pos hb, if_pos hb, if_pos hb] at R
          have hall := sBad_all wn 0 (by omega) (hb0.trans hb)
          have keyB : ∀ (m d : Nat) (u : Int32) (N : Mem), d + m = wn → u = nI d → cM N 0 = sDo r K (27 + 2 * kk) f d c → okC (T + 400 * d) (sDo r K (27 + 2 * kk) f d c) → okM N 0 → N 38 24 = 1 → frB M N → N 59 = M1 59 → EX x g (xmL YX8_read) N 201 [(0, .ref (ad g 38)), (1, .int (nI kk)), (2, .int la), (3, .int f), (4, .int (nI nn)), (5, .int fl), (6, .int (nI wn)), (7, .int u)] [] := by
            intro m
            induction m with
            | zero =>
              intro d u N hd hu h1 h2 h3 h4 h5 h6
              obtain rfl : d = wn := by omega
              subst hu
              refine ex_iload F dX8_read_201 rfl ?_
              refine ex_iload F dX8_read_203 rfl ?_
              refine ex_icmp_ge (t := 263) F dX8_read_205 (by decide) (fun _ => ?_) (fun c => absurd (Int32.le_refl _) c)
              refine ex_aload_n F dX8_read_263 rfl rfl ?_
              refine ex_iload F dX8_read_264 rfl ?_
              refine pf_8_34 F dX8_read_266 fl_X8_272 ?_
              refine ex_iload F dX8_read_269 rfl ?_
              exact ex_iret F R dX8_read_271 rfl (⟨rfl, RC_34 (okC_mono h2 (by omega)) h3 h4 h1 _, (mu_same _ _ _ _).trans hF, frR_34 h5 _⟩)
            | succ m ih =>
              intro d u N hd hu h1 h2 h3 h4 h5 h6
              subst hu
              obtain ⟨ff, z, hff, lz, lz4, g3, g7⟩ := hex (by omega)
              have hbt := hall d (by omega) (by omega)
              have e0 : sCell K (27 + 2 * kk) (f + 2 * nI d) = N 59 (40 * kk + (ff + 2 * d)) := by rw [hff, f2j, cell_in g3 lz4 g7 (show ff + 2 * d < z by omega), h6]
              have e1 : sCell K (27 + 2 * kk) (f + 2 * nI d + 1) = N 59 (40 * kk + (ff + 2 * d) + 1) := by rw [hff, f2j1, cell_in g3 lz4 g7 (show ff + 2 * d + 1 < z by omega), h6]; rfl
              have hS1 := do_S r K (27 + 2 * kk) f d c
              rw [e0, e1] at hbt hS1
              simp only [badT, Bool.or_eq_false_iff] at hbt
              obtain ⟨tn, -, ltn, etn⟩ := outB_n (a := 1) (b := 400) (by decide) hbt.1 (by decide)
              obtain ⟨pp, -, lp, hp⟩ := outB_n (a := 1) (b := 9) (by decide) hbt.2 (by decide)
              rw [etn, nI_clamp (show tn < 2 ^ 31 by omega)] at hS1
              generalize hcc : sDo r K (27 + 2 * kk) f d c = cc at h1 h2 hS1
              have ex8 : (40 : Int32) * nI kk + f + 2 * nI d = nI (40 * kk + (ff + 2 * d)) := by
                rw [hff, at40, show (2 : Int32) * nI d = nI (2 * d) from pk_mul 2 d, nI_add, nI_add]; exact congrArg nI (by omega)
              have keyC : ∀ (m2 t : Nat) (v : Int32) (N2 : Mem), t + m2 = tn → v = nI t → cM N2 0 = itT r (N 59 (40 * kk + (ff + 2 * d) + 1)) t cc → okM N2 0 → N2 38 24 = 1 → frB M N2 → N2 59 = N 59 → EX x g (xmL YX8_read) N2 224 [(0, .ref (ad g 38)), (1, .int (nI kk)), (2, .int la), (3, .int f), (4, .int (nI nn)), (5, .int fl), (6, .int (nI wn)), (7, .int (nI d)), (8, .int (nI (40 * kk + (ff + 2 * d)))), (9, .int v)] [] := by
                intro m2
                induction m2 with
                | zero =>
                  intro t v N2 ht hv k1 k3 k4 k5 k6
                  obtain rfl : t = tn := by omega
                  subst hv
                  refine ex_iload F dX8_read_224 rfl ?_
                  refine ex_aload_n F dX8_read_226 rfl rfl ?_
                  refine gf_8_33 F dX8_read_227 fl_X8_71 ?_
                  refine ex_iload F dX8_read_230 rfl ?_
                  refine ex_iald (n := 160) F dX8_read_232 (by decide) (vp_in_nI (by omega) (by decide)) (j := 40 * kk + (ff + 2 * d)) (nI_clamp (by omega)) ?_
                  refine ex_icmp_ge (t := 257) F dX8_read_233 (by decide) (fun _ => ?_) (fun c => absurd (by rw [k6, etn]; exact Int32.le_refl _) c)
                  refine ex_iinc (w := _ + 1) F dX8_read_257 rfl rfl (by decide) ?_
                  refine ex_goto (t := 201) F dX8_read_260 (by decide) ?_
                  exact ex_weak2 (ih (d + 1) _ N2 (by omega) (nI_1 d) (by rw [hS1]; exact k1) (by rw [hS1]; exact okC_mono (okC_it h2 hp lp t) (by omega)) k3 k4 k5 (k6.trans h6)) ⟨rfl, rfl, rfl, rfl, rfl, rfl, rfl, rfl, trivial⟩
                | succ m2 ih2 =>
                  intro t v N2 ht hv k1 k3 k4 k5 k6
                  subst hv
                  refine ex_iload F dX8_read_224 rfl ?_
                  refine ex_aload_n F dX8_read_226 rfl rfl ?_
                  refine gf_8_33 F dX8_read_227 fl_X8_71 ?_
                  refine ex_iload F dX8_read_230 rfl ?_
                  refine ex_iald (n := 160) F dX8_read_232 (by decide) (vp_in_nI (by omega) (by decide)) (j := 40 * kk + (ff + 2 * d)) (nI_clamp (by omega)) ?_
                  refine ex_icmp_ge (t := 257) F dX8_read_233 (by decide) (fun c => absurd c (by rw [k6, etn]; exact nI_ge (by omega) (by omega))) (fun _ => ?_)
                  refine ex_aload_n F dX8_read_236 rfl rfl ?_
                  refine ex_iconst (v := 0) F dX8_read_237 (by decide) ?_
                  refine ex_aload_n F dX8_read_238 rfl rfl ?_
                  refine gf_8_33 F dX8_read_239 fl_X8_71 ?_
                  refine ex_iload F dX8_read_242 rfl ?_
                  refine ex_iconst (v := 1) F dX8_read_244 (by decide) ?_
                  refine ex_iadd F dX8_read_245 ?_
                  refine ex_iald (n := 160) F dX8_read_246 (by decide) (by rw [nI_1]; exact vp_in_nI (by omega) (by decide)) (j := 40 * kk + (ff + 2 * d) + 1) (by rw [nI_1]; exact nI_clamp (by omega)) ?_
                  rw [k6]
                  refine ex_callVi F (c_X8_turns (A := 0) (T := T + 400 * d + t) (by decide) hR (frB_mR hr k5) (by rw [k1]; exact okC_it h2 hp lp t) k3 (by omega)) dX8_read_247 cs_X8_read_196 ob_8 rfl rfl rfl rfl (Nat.le_of_ble_eq_true rfl) (fun v247 M247 h247 => ?_)
                  obtain ⟨-, t1, t2, t3⟩ := h247
                  rw [k1] at t1
                  refine ex_pop F dX8_read_250 rfl ?_
                  refine ex_iinc (w := _ + 1) F dX8_read_251 rfl rfl (by decide) ?_
                  refine ex_goto (t := 224) F dX8_read_254 (by decide) ?_
                  exact ex_weak2 (ih2 (t + 1) _ _ (by omega) (nI_1 t) t1 t3 (by rw [t2.1 38 (by decide) (by decide)]; exact k4) (frB_tr k5 (frB_S t2 (by decide))) ((t2.1 59 (by decide) (by decide)).trans k6)) ⟨rfl, rfl, rfl, rfl, rfl, rfl, rfl, rfl, rfl, rfl, trivial⟩
              refine ex_iload F dX8_read_201 rfl ?_
              refine ex_iload F dX8_read_203 rfl ?_
              refine ex_icmp_ge (t := 263) F dX8_read_205 (by decide) (fun c => absurd c (nI_ge (by omega) (by omega))) (fun _ => ?_)
              refine ex_bipush (v := 40) F dX8_read_208 (by decide) ?_
              refine ex_iload_n F dX8_read_210 rfl rfl ?_
              refine ex_imul F dX8_read_211 ?_
              refine ex_iload_n F dX8_read_212 rfl rfl ?_
              refine ex_iadd F dX8_read_213 ?_
              refine ex_iconst (v := 2) F dX8_read_214 (by decide) ?_
              refine ex_iload F dX8_read_215 rfl ?_
              refine ex_imul F dX8_read_217 ?_
              refine ex_iadd F dX8_read_218 ?_
              rw [ex8]
              refine ex_istore F dX8_read_219 (by decide) ?_
              refine ex_iconst (v := 0) F dX8_read_221 (by decide) ?_
              refine ex_istore F dX8_read_222 (by decide) ?_
              exact ex_weak2 (keyC tn 0 _ N (by omega) rfl h1 h3 h4 h5 rfl) ⟨rfl, rfl, rfl, rfl, rfl, rfl, rfl, rfl, rfl, rfl, trivial⟩
          refine ex_iconst (v := 0) F dX8_read_198 (by decide) ?_
          refine ex_istore F dX8_read_199 (by decide) ?_
          exact ex_weak2 (keyB wn 0 _ M1 (by omega) rfl w1 hC.okc w2 w3 w4 rfl) ⟨rfl, rfl, rfl, rfl, rfl, rfl, rfl, rfl, trivial⟩
        have brk : ∀ (fl w9 i : Int32), ¬ fl = 0 → EX x g (xmL YX8_read) M1 198 [(0, .ref (ad g 38)), (1, .int (nI kk)), (2, .int la), (3, .int f), (4, .int (nI nn)), (5, .int fl), (6, .int w9), (7, .int i)] [] → EX x g (xmL YX8_read) M1 52 [(0, .ref (ad g 38)), (1, .int (nI kk)), (2, .int la), (3, .int f), (4, .int (nI nn)), (5, .int fl), (6, .int w9), (7, .int i)] [] := by
          intro fl w9 i hfl K9
          refine ex_iload F dX8_read_52 rfl ?_
          refine ex_iconst (v := 2) F dX8_read_54 (by decide) ?_
          refine ex_iload F dX8_read_55 rfl ?_
          refine ex_imul F dX8_read_57 ?_
          refine ex_icmp_ge (t := 198) F dX8_read_58 (by decide) (fun c58 => ?_) (fun c58 => ?_)
          · exact K9
          · refine ex_iload F dX8_read_61 rfl ?_
            refine ex_if_ne (t := 198) F dX8_read_63 (by decide) (fun _ => ?_) (fun c => absurd c hfl)
            exact K9
        have none : ∀ (fl i : Int32), wn = 0 → ¬ wn = nn → fl = sFaultAs K (27 + 2 * kk) la → ¬ fl = 0 → EX x g (xmL YX8_read) M1 52 [(0, .ref (ad g 38)), (1, .int (nI kk)), (2, .int la), (3, .int f), (4, .int (nI nn)), (5, .int fl), (6, .int 0), (7, .int i)] [] := by
          intro fl i h0 hn hfl h00
          exact brk fl 0 i h00 (ex_weak2 (tail fl i (by rw [← hb0, h0]; rfl) (by rw [if_neg (fun q => hn (nI_inj (by omega) (by omega) q))]; exact hfl) (fun q => absurd q (by omega))) ⟨rfl, rfl, rfl, rfl, rfl, rfl, by rw [h0]; rfl, rfl, trivial⟩)
        have key : ∀ (ff z : Nat), f = nI ff → ff < z → z ≤ 40 → K (27 + 2 * kk) 2 = nI z → M1 58 kk = nI z → ¬ M1 57 kk = -4 → M1 57 kk = la → sFaultAs K (27 + 2 * kk) la = 2 → (∀ j, j < 40 → M1 59 (40 * kk + j) = K (27 + 2 * kk + 1) j) → 2 * wn ≤ z - ff → (wn = nn ∨ z - ff < 2 * wn + 2) → ∀ (m i : Nat) (u w9 : Int32), i + m = 2 * nn → u = nI i → w9 = nI (i / 2) → ff + i ≤ z → sBadAt K (27 + 2 * kk) (nI ff) (wn - i / 2) (i / 2) = bad → EX x g (xmL YX8_read) M1 52 [(0, .ref (ad g 38)), (1, .int (nI kk)), (2, .int la), (3, .int f), (4, .int (nI nn)), (5, .int 0), (6, .int w9), (7, .int u)] [] := by
          intro ff z hff lz lz4 g3 g4 hn4 hlaq hsf g7 hw2 hw3 m
          induction m with
          | zero =>
            intro i u w9 hi hu hw9 hz hbs
            have ew : i / 2 = wn := by omega
            have ewn : wn = nn := by omega
            rw [ew, Nat.sub_self] at hbs
            subst hu; subst hw9
            refine ex_iload F dX8_read_52 rfl ?_
            refine ex_iconst (v := 2) F dX8_read_54 (by decide) ?_
            refine ex_iload F dX8_read_55 rfl ?_
            refine ex_imul F dX8_read_57 ?_
            refine ex_icmp_ge (t := 198) F dX8_read_58 (by decide) (fun _ => ?_) (fun c => absurd (by rw [ix2]; exact nI_le (by omega) (by omega)) c)
            exact ex_weak2 (tail 0 (nI i) hbs.symm (by rw [if_pos (by rw [ewn])]) (fun _ => ⟨ff, z, hff, by omega, lz4, g3, g7⟩)) ⟨rfl, rfl, rfl, rfl, rfl, rfl, by rw [← ew]; rfl, rfl, trivial⟩
          | succ m ih =>
            intro i u w9 hi hu hw9 hz hbs
            subst hu; subst hw9
            refine ex_iload F dX8_read_52 rfl ?_
            refine ex_iconst (v := 2) F dX8_read_54 (by decide) ?_
            refine ex_iload F dX8_read_55 rfl ?_
            refine ex_imul F dX8_read_57 ?_
            refine ex_icmp_ge (t := 198) F dX8_read_58 (by decide) (fun c => absurd c (by rw [ix2]; exact nI_ge (by omega) (by omega))) (fun _ => ?_)
            refine ex_iload F dX8_read_61 rfl ?_
            refine ex_if_ne (t := 198) F dX8_read_63 (by decide) (fun c => absurd c (by decide)) (fun _ => ?_)
            refine ex_aload_n F dX8_read_66 rfl rfl ?_
            refine gf_8_31 F dX8_read_67 fl_X8_65 ?_
            refine ex_iload_n F dX8_read_70 rfl rfl ?_
            refine ex_iald (n := 4) F dX8_read_71 (by decide) (vp_in_nI (by omega) (by decide)) (j := kk) (nI_clamp (by omega)) ?_
            refine ex_bipush (v := -4) F dX8_read_72 (by decide) ?_
            refine ex_icmp_ne (t := 81) F dX8_read_74 (by decide) (fun _ => ?_) (fun c => absurd c hn4)
            refine ex_aload_n F dX8_read_81 rfl rfl ?_
            refine gf_8_31 F dX8_read_82 fl_X8_65 ?_
            refine ex_iload_n F dX8_read_85 rfl rfl ?_
            refine ex_iald (n := 4) F dX8_read_86 (by decide) (vp_in_nI (by omega) (by decide)) (j := kk) (nI_clamp (by omega)) ?_
            refine ex_iload_n F dX8_read_87 rfl rfl ?_
            refine ex_icmp_eq (t := 95) F dX8_read_88 (by decide) (fun _ => ?_) (fun c => absurd hlaq c)
            refine ex_iload_n F dX8_read_95 rfl rfl ?_
            refine ex_i2l F dX8_read_96 ?_
            refine ex_iload F dX8_read_97 rfl ?_
            refine ex_i2l F dX8_read_99 ?_
            refine ex_ladd F dX8_read_100 ?_
            refine ex_lconst (v := 0) F dX8_read_101 (by decide) ?_
            refine ex_aload_n F dX8_read_102 rfl rfl ?_
            refine gf_8_32 F dX8_read_103 fl_X8_68 ?_
            refine ex_iload_n F dX8_read_106 rfl rfl ?_
            refine ex_iald (n := 4) F dX8_read_107 (by decide) (vp_in_nI (by omega) (by decide)) (j := kk) (nI_clamp (by omega)) ?_
            refine ex_iconst (v := 1) F dX8_read_108 (by decide) ?_
            rw [g4]
            refine ex_isub F dX8_read_109 ?_
            refine ex_i2l F dX8_read_110 ?_
            refine ex_callSi F (c_X8_in) dX8_read_111 cs_X8_read_78 rfl rfl (Nat.le_of_ble_eq_true rfl) (fun v111 M111 h111 => ?_)
            obtain ⟨e111, q111⟩ := h111
            rw [q111]
            clear q111
            rw [hff, nI_l (by omega), nI_l (by omega), lN_add, ← nI_l (by omega), in_out (lo := 0) (hi := nI z - 1) (by decide) rfl] at e111
            subst e111
            refine ex_if_ne (t := 121) F dX8_read_114 (by decide) (fun c114 => ?_) (fun c114 => ?_)
            · refine ex_iconst (v := 0) F dX8_read_121 (by decide) ?_
              refine ex_istore F dX8_read_122 (by decide) ?_
              refine ex_iload F dX8_read_124 rfl ?_
              refine ex_if_ne (t := 192) F dX8_read_126 (by decide) (fun c => absurd c (by decide)) (fun _ => ?_)
              refine ex_iload F dX8_read_129 rfl ?_
              refine ex_iconst (v := 2) F dX8_read_131 (by decide) ?_
              refine ex_irem F dX8_read_132 (by decide) ?_
              refine ex_iconst (v := 1) F dX8_read_133 (by decide) ?_
              rw [mod2 i (by omega)]
              refine ex_icmp_ne (t := 192) F dX8_read_134 (by decide) (fun c134 => ?_) (fun c134 => ?_)
              · refine ex_iinc (w := _ + 1) F dX8_read_192 rfl rfl (by decide) ?_
                refine ex_goto (t := 52) F dX8_read_195 (by decide) ?_
                have hlt : ff + i < z := in_lt lz4 (by omega) c114
                have hev : i % 2 = 0 := by
                  rcases Nat.mod_two_eq_zero_or_one i with q | q
                  · exact q
                  · exact absurd (by rw [q]; rfl) c134
                exact ex_weak2 (ih (i + 1) _ _ (by omega) (nI_1 i) rfl (by omega) (by rw [show (i + 1) / 2 = i / 2 by omega]; exact hbs)) ⟨rfl, rfl, rfl, rfl, rfl, rfl, by rw [show (i + 1) / 2 = i / 2 by omega]; rfl, rfl, trivial⟩
              · have hlt : ff + i < z := in_lt lz4 (by omega) c114
                have hodd : i % 2 = 1 := nI_inj (by omega) (by decide) c134
                have hcell0 := cell_in g3 lz4 g7 (show ff + 2 * (i / 2) < z by omega)
                have hcell1 := cell_in g3 lz4 g7 (show ff + 2 * (i / 2) + 1 < z by omega)
                rw [show wn - i / 2 = (wn - (i / 2 + 1)) + 1 by omega, sBadAt, f2j1, f2j, hcell0, hcell1, show 40 * kk + (ff + 2 * (i / 2) + 1) = 40 * kk + (ff + 2 * (i / 2)) + 1 by omega] at hbs
                refine ex_bipush (v := 40) F dX8_read_137 (by decide) ?_
                refine ex_iload_n F dX8_read_139 rfl rfl ?_
                refine ex_imul F dX8_read_140 ?_
                refine ex_iload_n F dX8_read_141 rfl rfl ?_
                refine ex_iadd F dX8_read_142 ?_
                refine ex_iload F dX8_read_143 rfl ?_
                refine ex_iadd F dX8_read_145 ?_
                refine ex_iconst (v := 1) F dX8_read_146 (by decide) ?_
                refine ex_isub F dX8_read_147 ?_
                have ex8 : (40 : Int32) * nI kk + f + nI i - 1 = nI (40 * kk + (ff + 2 * (i / 2))) := by
                  rw [hff, at40, nI_add, nI_add]
                  exact (pk_sub (b := 1) (by omega)).trans (congrArg nI (by omega))
                rw [ex8]
                refine ex_istore F dX8_read_148 (by decide) ?_
                refine ex_aload_n F dX8_read_150 rfl rfl ?_
                refine gf_8_33 F dX8_read_151 fl_X8_71 ?_
                refine ex_iload F dX8_read_154 rfl ?_
                refine ex_iald (n := 160) F dX8_read_156 (by decide) (vp_in_nI (by omega) (by decide)) (j := 40 * kk + (ff + 2 * (i / 2))) (nI_clamp (by omega)) ?_
                refine ex_i2l F dX8_read_157 ?_
                refine ex_lconst (v := 1) F dX8_read_158 (by decide) ?_
                refine ex_ldc2 F dX8_read_159 kc_X8_182 ?_
                refine ex_callSi F (c_X8_in) dX8_read_162 cs_X8_read_78 rfl rfl (Nat.le_of_ble_eq_true rfl) (fun v162 M162 h162 => ?_)
                obtain ⟨e162, q162⟩ := h162
                rw [q162]
                clear q162
                rw [in_out (lo := 1) (hi := 400) (by decide) (by decide)] at e162
                subst e162
                refine ex_if_eq (t := 183) F dX8_read_165 (by decide) (fun c165 => ?_) (fun c165 => ?_)
                · refine ex_bipush (v := -20) F dX8_read_183 (by decide) ?_
                  refine ex_iload F dX8_read_185 rfl ?_
                  refine ex_isub F dX8_read_187 ?_
                  exact ex_iret F R dX8_read_188 rfl (by
                                      rw [ift (show badT (M1 59 (40 * kk + (ff + 2 * (i / 2)))) (M1 59 (40 * kk + (ff + 2 * (i / 2)) + 1)) = true from or_l (by simpa using b2i_0.mp c165))] at hbs
                                      have hb9 : ¬ bad = 0 := by rw [← hbs]; exact neg20 (by omega)
                                      exact ⟨by rw [if_neg hb9, ← hbs], by rw [if_neg hb9]; exact RC_mk (okC_mono hC.okc (by omega)) w2 w3 w1, by rw [if_neg hb9]; exact w4.2.1 34 (by decide), frR_B w4⟩)
                · refine ex_aload_n F dX8_read_168 rfl rfl ?_
                  refine gf_8_33 F dX8_read_169 fl_X8_71 ?_
                  refine ex_iload F dX8_read_172 rfl ?_
                  refine ex_iconst (v := 1) F dX8_read_174 (by decide) ?_
                  refine ex_iadd F dX8_read_175 ?_
                  refine ex_iald (n := 160) F dX8_read_176 (by decide) (by rw [nI_1]; exact vp_in_nI (by omega) (by decide)) (j := 40 * kk + (ff + 2 * (i / 2)) + 1) (by rw [nI_1]; exact nI_clamp (by omega)) ?_
                  refine ex_callSi F (c_X8_isPace) dX8_read_177 cs_X8_read_193 rfl rfl (Nat.le_of_ble_eq_true rfl) (fun v177 M177 h177 => ?_)
                  obtain ⟨rfl, q177⟩ := h177
                  rw [q177]
                  clear q177
                  refine ex_if_ne (t := 189) F dX8_read_180 (by decide) (fun c180 => ?_) (fun c180 => ?_)
                  · refine ex_iinc (w := _ + 1) F dX8_read_189 rfl rfl (by decide) ?_
                    refine ex_iinc (w := _ + 1) F dX8_read_192 rfl rfl (by decide) ?_
                    refine ex_goto (t := 52) F dX8_read_195 (by decide) ?_
                    have b1 : outB (M1 59 (40 * kk + (ff + 2 * (i / 2)))) 1 400 = false := by simpa using b2i_1.mp c165
                    have b2 : outB (M1 59 (40 * kk + (ff + 2 * (i / 2)) + 1)) 1 9 = false := by simpa using b2i_1.mp c180
                    rw [ifn (show badT (M1 59 (40 * kk + (ff + 2 * (i / 2)))) (M1 59 (40 * kk + (ff + 2 * (i / 2)) + 1)) = false from or_n b1 b2)] at hbs
                    exact ex_weak2 (ih (i + 1) _ _ (by omega) (nI_1 i) rfl (by omega) (by rw [show (i + 1) / 2 = i / 2 + 1 by omega]; exact hbs)) ⟨rfl, rfl, rfl, rfl, rfl, rfl, by rw [show (i + 1) / 2 = i / 2 + 1 by omega]; exact congrArg some (congrArg Value.int (nI_1 _)), rfl, trivial⟩
                  · refine ex_bipush (v := -20) F dX8_read_183 (by decide) ?_
                    refine ex_iload F dX8_read_185 rfl ?_
                    refine ex_isub F dX8_read_187 ?_
                    exact ex_iret F R dX8_read_188 rfl (by
                                          rw [ift (show badT (M1 59 (40 * kk + (ff + 2 * (i / 2)))) (M1 59 (40 * kk + (ff + 2 * (i / 2)) + 1)) = true from or_r (by simpa using b2i_0.mp c180))] at hbs
                                          have hb9 : ¬ bad = 0 := by rw [← hbs]; exact neg20 (by omega)
                                          exact ⟨by rw [if_neg hb9, ← hbs], by rw [if_neg hb9]; exact RC_mk (okC_mono hC.okc (by omega)) w2 w3 w1, by rw [if_neg hb9]; exact w4.2.1 34 (by decide), frR_B w4⟩)
            · refine ex_iconst (v := 2) F dX8_read_117 (by decide) ?_
              refine ex_goto (t := 122) F dX8_read_118 (by decide) ?_
              refine ex_istore F dX8_read_122 (by decide) ?_
              refine ex_iload F dX8_read_124 rfl ?_
              refine ex_if_ne (t := 192) F dX8_read_126 (by decide) (fun _ => ?_) (fun c => absurd c (by decide))
              refine ex_iinc (w := _ + 1) F dX8_read_192 rfl rfl (by decide) ?_
              refine ex_goto (t := 52) F dX8_read_195 (by decide) ?_
              have hge : z = ff + i := in_ge lz4 (by omega) hz c114
              have ew : i / 2 = wn := by omega
              rw [ew, Nat.sub_self] at hbs
              exact ex_weak2 (brk 2 _ _ (by decide) (ex_weak2 (tail 2 (nI i + 1) hbs.symm (by rw [if_neg (fun q => absurd (nI_inj (by omega) (by omega) q) (by omega)), hsf]) (fun _ => ⟨ff, z, hff, by omega, lz4, g3, g7⟩)) ⟨rfl, rfl, rfl, rfl, rfl, rfl, by rw [← ew]; rfl, rfl, trivial⟩)) ⟨rfl, rfl, rfl, rfl, rfl, rfl, rfl, rfl, trivial⟩
        rcases Nat.eq_zero_or_pos nn with hn0 | hn0
        · have w0 : wn = 0 := by omega
          subst hn0
          refine ex_iload F dX8_read_52 rfl ?_
          refine ex_iconst (v := 2) F dX8_read_54 (by decide) ?_
          refine ex_iload F dX8_read_55 rfl ?_
          refine ex_imul F dX8_read_57 ?_
          refine ex_icmp_ge (t := 198) F dX8_read_58 (by decide) (fun _ => ?_) (fun c => absurd (by decide) c)
          exact ex_weak2 (tail 0 0 (by rw [← hb0, w0]; rfl) (by rw [w0, if_pos rfl]) (fun q => absurd q (by omega))) ⟨rfl, rfl, rfl, rfl, rfl, rfl, by rw [w0]; rfl, rfl, trivial⟩
        · refine ex_iload F dX8_read_52 rfl ?_
          refine ex_iconst (v := 2) F dX8_read_54 (by decide) ?_
          refine ex_iload F dX8_read_55 rfl ?_
          refine ex_imul F dX8_read_57 ?_
          refine ex_icmp_ge (t := 198) F dX8_read_58 (by decide) (fun c => absurd c (by rw [ix2]; exact nI_ge (a := 0) (by omega) (by omega))) (fun _ => ?_)
          refine ex_iload F dX8_read_61 rfl ?_
          refine ex_if_ne (t := 198) F dX8_read_63 (by decide) (fun c => absurd c (by decide)) (fun _ => ?_)
          refine ex_aload_n F dX8_read_66 rfl rfl ?_
          refine gf_8_31 F dX8_read_67 fl_X8_65 ?_
          refine ex_iload_n F dX8_read_70 rfl rfl ?_
          refine ex_iald (n := 4) F dX8_read_71 (by decide) (vp_in_nI (by omega) (by decide)) (j := kk) (nI_clamp (by omega)) ?_
          refine ex_bipush (v := -4) F dX8_read_72 (by decide) ?_
          refine ex_icmp_ne (t := 81) F dX8_read_74 (by decide) (fun c74 => ?_) (fun c74 => ?_)
          · refine ex_aload_n F dX8_read_81 rfl rfl ?_
            refine gf_8_31 F dX8_read_82 fl_X8_65 ?_
            refine ex_iload_n F dX8_read_85 rfl rfl ?_
            refine ex_iald (n := 4) F dX8_read_86 (by decide) (vp_in_nI (by omega) (by decide)) (j := kk) (nI_clamp (by omega)) ?_
            refine ex_iload_n F dX8_read_87 rfl rfl ?_
            refine ex_icmp_eq (t := 95) F dX8_read_88 (by decide) (fun c88 => ?_) (fun c88 => ?_)
            · obtain ⟨hth, la2, z, l2, lz, g1, g2, g3, g4, g5⟩ := sm_is hSM c74
              refine ex_iload_n F dX8_read_95 rfl rfl ?_
              refine ex_i2l F dX8_read_96 ?_
              refine ex_iload F dX8_read_97 rfl ?_
              refine ex_i2l F dX8_read_99 ?_
              refine ex_ladd F dX8_read_100 ?_
              refine ex_lconst (v := 0) F dX8_read_101 (by decide) ?_
              refine ex_aload_n F dX8_read_102 rfl rfl ?_
              refine gf_8_32 F dX8_read_103 fl_X8_68 ?_
              refine ex_iload_n F dX8_read_106 rfl rfl ?_
              refine ex_iald (n := 4) F dX8_read_107 (by decide) (vp_in_nI (by omega) (by decide)) (j := kk) (nI_clamp (by omega)) ?_
              refine ex_iconst (v := 1) F dX8_read_108 (by decide) ?_
              rw [g4]
              refine ex_isub F dX8_read_109 ?_
              refine ex_i2l F dX8_read_110 ?_
              refine ex_callSi F (c_X8_in) dX8_read_111 cs_X8_read_78 rfl rfl (Nat.le_of_ble_eq_true rfl) (fun v111 M111 h111 => ?_)
              obtain ⟨e111, q111⟩ := h111
              rw [q111]
              clear q111
              rw [show (Int32.toInt64 0) = 0 from rfl, Int64.add_zero, in_out (lo := 0) (hi := nI z - 1) (by decide) rfl] at e111
              subst e111
              refine ex_if_ne (t := 121) F dX8_read_114 (by decide) (fun c114 => ?_) (fun c114 => ?_)
              · refine ex_iconst (v := 0) F dX8_read_121 (by decide) ?_
                refine ex_istore F dX8_read_122 (by decide) ?_
                refine ex_iload F dX8_read_124 rfl ?_
                refine ex_if_ne (t := 192) F dX8_read_126 (by decide) (fun c => absurd c (by decide)) (fun _ => ?_)
                refine ex_iload F dX8_read_129 rfl ?_
                refine ex_iconst (v := 2) F dX8_read_131 (by decide) ?_
                refine ex_irem F dX8_read_132 (by decide) ?_
                refine ex_iconst (v := 1) F dX8_read_133 (by decide) ?_
                refine ex_icmp_ne (t := 192) F dX8_read_134 (by decide) (fun _ => ?_) (fun c => absurd c (by decide))
                refine ex_iinc (w := _ + 1) F dX8_read_192 rfl rfl (by decide) ?_
                refine ex_goto (t := 52) F dX8_read_195 (by decide) ?_
                have hla : K (27 + 2 * kk) 1 = la := by rw [g2, ← g1]; exact c88
                have hsf : sFaultAs K (27 + 2 * kk) la = 2 := by rw [sFaultAs, ift hth, if_pos hla]
                have hin : outB f 0 (nI z - 1) = false := by simpa using b2i_1.mp c114
                rw [out_len lz] at hin
                simp only [Bool.or_eq_false_iff, decide_eq_false_iff_not] at hin
                obtain ⟨ff, lff, hff⟩ := nI_of hin.1
                have lfz : ff < z := nI_ltof lff (by rw [← hff]; exact hin.2.1)
                obtain ⟨p1, p2⟩ := pairs_w hth hla g3 lz hff lfz ln lwn hWn
                exact ex_weak2 (key ff z hff lfz lz g3 g4 c74 c88 hsf g5 p1 p2 (2 * nn - 1) 1 _ _ (by omega) rfl rfl (by omega) (by rw [← hff]; exact hb0)) ⟨rfl, rfl, rfl, rfl, rfl, rfl, rfl, rfl, trivial⟩
              · refine ex_iconst (v := 2) F dX8_read_117 (by decide) ?_
                refine ex_goto (t := 122) F dX8_read_118 (by decide) ?_
                refine ex_istore F dX8_read_122 (by decide) ?_
                refine ex_iload F dX8_read_124 rfl ?_
                refine ex_if_ne (t := 192) F dX8_read_126 (by decide) (fun _ => ?_) (fun c => absurd c (by decide))
                refine ex_iinc (w := _ + 1) F dX8_read_192 rfl rfl (by decide) ?_
                refine ex_goto (t := 52) F dX8_read_195 (by decide) ?_
                have hla : K (27 + 2 * kk) 1 = la := by rw [g2, ← g1]; exact c88
                have hsf : sFaultAs K (27 + 2 * kk) la = 2 := by rw [sFaultAs, ift hth, if_pos hla]
                have hout : outB f 0 (nI z - 1) = true := by simpa using b2i_0.mp c114
                rw [out_len lz] at hout
                have w0 := pairs_z hWn (Or.inr (Or.inr (by rw [g3]; exact f_out lz hout))) (by omega)
                exact ex_weak2 (none 2 _ w0 (by omega) hsf.symm (by decide)) ⟨rfl, rfl, rfl, rfl, rfl, rfl, rfl, rfl, trivial⟩
            · refine ex_iconst (v := 3) F dX8_read_91 (by decide) ?_
              refine ex_goto (t := 122) F dX8_read_92 (by decide) ?_
              refine ex_istore F dX8_read_122 (by decide) ?_
              refine ex_iload F dX8_read_124 rfl ?_
              refine ex_if_ne (t := 192) F dX8_read_126 (by decide) (fun _ => ?_) (fun c => absurd c (by decide))
              refine ex_iinc (w := _ + 1) F dX8_read_192 rfl rfl (by decide) ?_
              refine ex_goto (t := 52) F dX8_read_195 (by decide) ?_
              obtain ⟨hth, la2, z, l2, lz, g1, g2, g3, g4, g5⟩ := sm_is hSM c74
              have hne : ¬ K (27 + 2 * kk) 1 = la := fun q => c88 (by rw [g1, ← g2]; exact q)
              have w0 := pairs_z hWn (Or.inr (Or.inl hne)) (by omega)
              exact ex_weak2 (none 3 _ w0 (by omega) (by rw [sFaultAs, ift hth, if_neg hne]) (by decide)) ⟨rfl, rfl, rfl, rfl, rfl, rfl, rfl, rfl, trivial⟩
          · refine ex_iconst (v := 1) F dX8_read_77 (by decide) ?_
            refine ex_goto (t := 122) F dX8_read_78 (by decide) ?_
            refine ex_istore F dX8_read_122 (by decide) ?_
            refine ex_iload F dX8_read_124 rfl ?_
            refine ex_if_ne (t := 192) F dX8_read_126 (by decide) (fun _ => ?_) (fun c => absurd c (by decide))
            refine ex_iinc (w := _ + 1) F dX8_read_192 rfl rfl (by decide) ?_
            refine ex_goto (t := 52) F dX8_read_195 (by decide) ?_
            have w0 := pairs_z hWn (Or.inl (sm_not hSM c74)) (by omega)
            exact ex_weak2 (none 1 _ w0 (by omega) (by rw [sFaultAs, ifn (sm_not hSM c74)]) (by decide)) ⟨rfl, rfl, rfl, rfl, rfl, rfl, rfl, rfl, trivial⟩
      · refine ex_iconst (v := -1) F dX8_read_41 (by decide) ?_
        exact ex_iret F R dX8_read_42 rfl (⟨by rw [ift (or_r (or_r (by simpa using b2i_0.mp c38)))], by rw [ift (or_r (or_r (by simpa using b2i_0.mp c38)))]; exact RC_mk (okC_mono hC.okc (by omega)) w2 w3 w1, by rw [ift (or_r (or_r (by simpa using b2i_0.mp c38)))]; exact w4.2.1 34 (by decide), frR_B w4⟩)
