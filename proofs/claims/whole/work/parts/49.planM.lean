def jM (M M' : Mem) : Prop := (∀ q, q ≠ 51 → q ≠ 52 → q ≠ 53 → q ≠ 55 → M' q = M q) ∧ ∀ i, (i < 16 ∨ (32 ≤ i ∧ i < 64)) → M' 51 i = M 51 i
theorem jM_rf (M : Mem) : jM M M := ⟨fun _ _ _ _ _ => rfl, fun _ _ => rfl⟩
theorem jM_tr {M M1 M2 : Mem} (h1 : jM M M1) (h2 : jM M1 M2) : jM M M2 := ⟨fun q a b c d => (h2.1 q a b c d).trans (h1.1 q a b c d), fun i h => (h2.2 i h).trans (h1.2 i h)⟩
theorem jM_T {M M' : Mem} (h : frT M M' 16) : jM M M' := ⟨fun q a b _ _ => h.1 q a b, fun i hi => h.2 i (by omega)⟩
theorem jM_53 {M : Mem} (j : Nat) (y : Int32) : jM M (mu M 53 j y) := ⟨fun q _ _ a _ => mu_k _ _ _ _ _ a, fun i _ => by rw [mu_k M 53 j 51 y (by decide)]⟩
theorem jM_55 {M : Mem} (j : Nat) (y : Int32) : jM M (mu M 55 j y) := ⟨fun q _ _ _ a => mu_k _ _ _ _ _ a, fun i _ => by rw [mu_k M 55 j 51 y (by decide)]⟩
theorem jM_fr {M M' : Mem} (h : jM M M') : frB M M' := ⟨fun q _ b c d e => h.1 q b c d e, fun j _ => by rw [h.1 38 (by decide) (by decide) (by decide) (by decide)], fun i hi => h.2 i (Or.inr hi), fun q => by rw [h.1 38 (by decide) (by decide) (by decide) (by decide)]; exact q⟩
theorem jM_RC {c : Nat → Int32} {w0 : Int32} {M M' : Mem} {T : Nat} (h : RC c w0 M T) (hf : jM M M') : RC c w0 M' T := by
  have e : M' 38 = M 38 := hf.1 38 (by decide) (by decide) (by decide) (by decide)
  refine ⟨h.okc, okM_fr h.okm (hf.2 5 (by decide)), by rw [e]; exact h.aw, ?_⟩
  rw [e, cM_eq (A := 0) (B := 0) (fun i hi => hf.2 _ (by omega))]; exact h.row
theorem jM_RB {K M M' : Mem} {n : Nat} (h : RB K M n) (hf : jM M M') : RB K M' n := frB_RB h (jM_fr hf)
theorem in_good (r : Nat → Int32) (h : Int32) : inB h.toInt64 (r 7).toInt64 (r 8).toInt64 = sGood r h := by
  unfold inB sGood
  simp only [w_le]
-- the best: the class's row f of five, the reference's four in cell 53
def bestIs (N : Mem) (f : Nat → Int32) (fd : Int32) : Prop := (fd = 0 ∧ f 0 = 0) ∨ (fd = 1 ∧ f 0 = 1 ∧ ∀ j, j < 4 → N 53 j = f (j + 1))
theorem best_take {N N' : Mem} {f : Nat → Int32} {fd p t l wm : Int32} (h : bestIs N f fd) (hb : fd = 0 ∨ l < N 53 3 ∨ (l = N 53 3 ∧ t < N 53 2)) (h0 : N' 53 0 = wm) (h1 : N' 53 1 = p) (h2 : N' 53 2 = t) (h3 : N' 53 3 = l) : bestIs N' (sOffer f wm p t l) 1 := by
  have hn : ¬ (¬ f 0 = 0 ∧ (f 4 < l ∨ (l = f 4 ∧ ¬ t < f 3))) := by
    rintro ⟨z, q⟩
    rcases h with ⟨-, e⟩ | ⟨e1, -, e⟩
    · exact z e
    · rw [e 3 (by decide), e 2 (by decide)] at hb
      rcases hb with k | k | ⟨k, k2⟩
      · rw [e1] at k; exact absurd k (by decide)
      · rcases q with q | ⟨q, -⟩
        · exact absurd (Int32.lt_trans k q) Int32.lt_irrefl
        · rw [q] at k; exact absurd k Int32.lt_irrefl
      · rcases q with q | ⟨-, q⟩
        · rw [k] at q; exact absurd q Int32.lt_irrefl
        · exact q k2
  rw [sOffer, if_neg hn]
  refine Or.inr ⟨rfl, by simp [upd], fun j hj => ?_⟩
  match j, hj with
  | 0, _ => simp [upd, h0]
  | 1, _ => simp [upd, h1]
  | 2, _ => simp [upd, h2]
  | 3, _ => simp [upd, h3]
theorem best_keep {N : Mem} {f : Nat → Int32} {fd p t l wm : Int32} (h : bestIs N f fd) (h0 : ¬ fd = 0) (h1 : ¬ l < N 53 3) (h2 : ¬ (l = N 53 3 ∧ t < N 53 2)) : sOffer f wm p t l = f := by
  rcases h with ⟨e, -⟩ | ⟨-, e0, e⟩
  · exact absurd e h0
  · rw [e 3 (by decide)] at h1 h2
    rw [e 2 (by decide)] at h2
    rw [sOffer, if_pos]
    refine ⟨by rw [e0]; decide, ?_⟩
    rcases Int32.lt_or_eq_of_le (Int32.not_lt.mp h1) with q | q
    · exact Or.inl q
    · exact Or.inr ⟨q.symm, fun z => h2 ⟨q.symm, z⟩⟩
theorem narrow_fd {N : Mem} {f : Nat → Int32} {fd : Int32} (h : bestIs N f fd) : narrow .boolean (.int fd) = .int fd := by
  rcases h with ⟨e, -⟩ | ⟨e, -⟩ <;> subst e <;> rfl
theorem best_fr {N N' : Mem} {f : Nat → Int32} {fd : Int32} (h : bestIs N f fd) (e : N' 53 = N 53) : bestIs N' f fd := by
  unfold bestIs; rw [e]; exact h
theorem cs_X8_layPlan_145 : CSV (xmN YX8_layPlan).cls (xmF YX8_layPlan) (xmW YX8_layPlan) 145 3 YX8_fills := ⟨⟨ml_X8_145, ini_X8, cd_X8_fills, by decide +kernel, by decide⟩, im_X8_fills, se_X8_fills⟩
theorem cs_X8_layPlan_217 : CSV (xmN YX8_layPlan).cls (xmF YX8_layPlan) (xmW YX8_layPlan) 217 2 YX8_tillCome := ⟨⟨ml_X8_217, ini_X8, cd_X8_tillCome, by decide +kernel, by decide⟩, im_X8_tillCome, se_X8_tillCome⟩
theorem cs_X8_layPlan_169 : CSV (xmN YX8_layPlan).cls (xmF YX8_layPlan) (xmW YX8_layPlan) 169 1 YX8_hardness := ⟨⟨ml_X8_169, ini_X8, cd_X8_hardness, by decide +kernel, by decide⟩, im_X8_hardness, se_X8_hardness⟩
theorem cs_X8_layPlan_206 : CSV (xmN YX8_layPlan).cls (xmF YX8_layPlan) (xmW YX8_layPlan) 206 1 YX8_left := ⟨⟨ml_X8_206, ini_X8, cd_X8_left, by decide +kernel, by decide⟩, im_X8_left, se_X8_left⟩
theorem cs_X8_layPlan_78 : CSS (xmN YX8_layPlan).cls (xmF YX8_layPlan) (xmW YX8_layPlan) 78 3 YX8_in := ⟨⟨ml_X8_78, ini_X8, cd_X8_in, by decide +kernel, by decide⟩, st_X8_in⟩
set_option maxRecDepth 100000 in
theorem c_X8_layPlan {l : Launch} {g : XG} {M : Mem} {K : Mem} {n : Nat} (hB : RB K M n) {b : Int32} (hb : sHasCows (K 1 4) b = true) : Call l g YX8_layPlan [.ref (ad g 38), .int b] M (PI (fun v M' => bestIs M' (sBestN K b 189) v ∧ jM M M')) := by
  refine call_of (by decide +kernel) (Nat.le_of_ble_eq_true rfl) (fun x hxl F R => ?_)
  subst hxl
  refine ex_iconst (v := 0) F dX8_layPlan_0 (by decide) ?_
  refine ex_istore_n F dX8_layPlan_1 rfl (by decide) ?_
  refine ex_iconst (v := 0) F dX8_layPlan_2 (by decide) ?_
  refine ex_istore_n F dX8_layPlan_3 rfl (by decide) ?_
  have key : ∀ (m a : Nat) (v fd : Int32) (N : Mem), a + m = 21 → v = nI (20 * a) → jM M N → bestIs N (sBestN K b (9 * a)) fd → EX x g (xmL YX8_layPlan) N 4 [(0, .ref (ad g 38)), (1, .int b), (2, .int fd), (3, .int v)] [] := by
    intro m
    induction m with
    | zero =>
      intro a v fd N ha hv hj hf
      obtain rfl : a = 21 := by omega
      subst hv
      refine ex_iload_n F dX8_layPlan_4 rfl rfl ?_
      refine ex_sipush (v := 400) F dX8_layPlan_5 (by decide) ?_
      refine ex_icmp_gt (t := 193) F dX8_layPlan_8 (by decide) (fun _ => ?_) (fun c => absurd (by decide) c)
      refine ex_iload_n F dX8_layPlan_193 rfl rfl ?_
      exact ex_zret (ty := .boolean) F R dX8_layPlan_194 rfl (narrow_fd hf) (⟨hf, hj⟩)
    | succ m ih =>
      intro a v fd N ha hv hj hf
      subst hv
      have inner : ∀ (k q : Nat) (u fd : Int32) (N : Mem), q + k = 9 → u = nI (q + 1) → jM M N → bestIs N (sBestN K b (9 * a + q)) fd → EX x g (xmL YX8_layPlan) N 14 [(0, .ref (ad g 38)), (1, .int b), (2, .int fd), (3, .int (nI (20 * a))), (4, .int u)] [] := by
        intro k
        induction k with
        | zero =>
          intro q u fd N hq hu hj hf
          obtain rfl : q = 9 := by omega
          subst hu
          refine ex_iload F dX8_layPlan_14 rfl ?_
          refine ex_bipush (v := 10) F dX8_layPlan_16 (by decide) ?_
          refine ex_icmp_ge (t := 187) F dX8_layPlan_18 (by decide) (fun _ => ?_) (fun c => absurd (by decide) c)
          refine ex_iinc (w := _ + 20) F dX8_layPlan_187 rfl rfl (by decide) ?_
          refine ex_goto (t := 4) F dX8_layPlan_190 (by decide) ?_
          refine ex_weak2 (ih (a + 1) _ fd N (by omega) ?_ hj hf) ⟨rfl, rfl, rfl, rfl, trivial⟩
          rw [show (20 : Int32) = nI 20 from rfl, nI_add]; rfl
        | succ k ih2 =>
          intro q u fd N hq hu hj hf
          subst hu
          have hv4 : outB (nI (20 * a)) 0 400 = false := by
            simp only [outB, Bool.or_eq_false_iff, decide_eq_false_iff_not]
            exact ⟨nI_pos (by omega), nI_nlt (a := 400) (b := 20 * a) (by omega) (by decide)⟩
          have hC0 := row_okC hB hb hv4
          have hN := jM_RB hB hj
          refine ex_iload F dX8_layPlan_14 rfl ?_
          refine ex_bipush (v := 10) F dX8_layPlan_16 (by decide) ?_
          refine ex_icmp_ge (t := 187) F dX8_layPlan_18 (by decide) (fun c => absurd c (nI_ge (b := 10) (by omega) (by decide))) (fun _ => ?_)
          refine ex_aload_n F dX8_layPlan_21 rfl rfl ?_
          refine ex_bipush (v := 16) F dX8_layPlan_22 (by decide) ?_
          refine ex_iload_n F dX8_layPlan_24 rfl rfl ?_
          refine ex_iload_n F dX8_layPlan_25 rfl rfl ?_
          refine ex_callVv F (c_X8_fills (A := 16) (n := n) (by decide) hN.mn hN.n8) dX8_layPlan_26 cs_X8_layPlan_145 ob_8 rfl rfl rfl rfl (Nat.le_of_ble_eq_true rfl) (fun M26 h26 => ?_)
          obtain ⟨k1, k2, k3⟩ := h26
          rw [row_eq hN hb] at k1
          refine ex_aload_n F dX8_layPlan_29 rfl rfl ?_
          refine ex_bipush (v := 16) F dX8_layPlan_30 (by decide) ?_
          refine ex_iload F dX8_layPlan_32 rfl ?_
          refine ex_callVi F (c_X8_tillCome (A := 16) (T := 0) (pp := q + 1) (by decide) hB.ok (mR_frT hN.ru k2) (by rw [k1]; exact hC0) (okM_zero k3) (by decide) rfl (by omega) (by rw [k1]; rfl)) dX8_layPlan_34 cs_X8_layPlan_217 ob_8 rfl rfl rfl rfl (Nat.le_of_ble_eq_true rfl) (fun v34 M34 h34 => ?_)
          obtain ⟨e36, n34, l34, t1, t2, -, en⟩ := h34
          rw [k1] at e36 t1
          have hr36 := mR_frT (mR_frT hN.ru k2) (frT_of t2)
          have en36 : ¬ v34 = -4 → v34.toNatClampNeg = n34 := fun z => by rw [(en z).1]; exact nI_clamp (by omega)
          have hj2 := jM_tr hj (jM_tr (jM_T k2) (jM_T (frT_of t2)))
          have hf2 := best_fr hf ((t2.1 53 (by decide) (by decide)).trans (k2.1 53 (by decide) (by decide)))
          refine ex_istore F dX8_layPlan_37 (by decide) ?_
          refine ex_aload_n F dX8_layPlan_39 rfl rfl ?_
          refine ex_bipush (v := 16) F dX8_layPlan_40 (by decide) ?_
          refine ex_callVi F (c_X8_hardness (A := 16) (T := 0 + n34) (by decide) hB.ok hr36 (by rw [t1]; exact okC_it hC0 (pp := q + 1) rfl (by omega) n34)) dX8_layPlan_42 cs_X8_layPlan_169 ob_8 rfl rfl rfl rfl (Nat.le_of_ble_eq_true rfl) (fun v42 M42 h42 => ?_)
          obtain ⟨rfl, q42⟩ := h42
          rw [q42]
          clear q42
          refine ex_istore F dX8_layPlan_45 (by decide) ?_
          refine ex_aload_n F dX8_layPlan_47 rfl rfl ?_
          refine ex_bipush (v := 16) F dX8_layPlan_48 (by decide) ?_
          refine ex_callVi F (c_X8_left (A := 16) (by decide) hB.ok hr36) dX8_layPlan_50 cs_X8_layPlan_206 ob_8 rfl rfl rfl rfl (Nat.le_of_ble_eq_true rfl) (fun v50 M50 h50 => ?_)
          obtain ⟨rfl, q50⟩ := h50
          rw [q50]
          clear q50
          refine ex_istore F dX8_layPlan_53 (by decide) ?_
          refine ex_iload F dX8_layPlan_55 rfl ?_
          refine ex_bipush (v := -4) F dX8_layPlan_57 (by decide) ?_
          refine ex_icmp_eq (t := 91) F dX8_layPlan_59 (by decide) (fun c59 => ?_) (fun c59 => ?_)
          · refine ex_iconst (v := 0) F dX8_layPlan_91 (by decide) ?_
            refine ex_istore F dX8_layPlan_92 (by decide) ?_
            refine ex_iload_n F dX8_layPlan_94 rfl rfl ?_
            refine ex_if_eq (t := 131) F dX8_layPlan_95 (by decide) (fun c95 => ?_) (fun c95 => ?_)
            · refine ex_iconst (v := 1) F dX8_layPlan_131 (by decide) ?_
              refine ex_goto (t := 136) F dX8_layPlan_132 (by decide) ?_
              refine ex_istore F dX8_layPlan_136 (by decide) ?_
              refine ex_iload F dX8_layPlan_138 rfl ?_
              refine ex_if_eq (t := 181) F dX8_layPlan_140 (by decide) (fun _ => ?_) (fun c => absurd (by decide) c)
              refine ex_iinc (w := _ + 1) F dX8_layPlan_181 rfl rfl (by decide) ?_
              refine ex_goto (t := 14) F dX8_layPlan_184 (by decide) ?_
              have hS := sBest_S K b (a := a) (q := q) (by omega)
              rw [sBestStep, ← e36] at hS
              rw [if_pos c59] at hS
              refine ex_weak2 (ih2 (q + 1) _ _ _ (by omega) (nI_1 (q + 1)) hj2 (by rw [← Nat.add_assoc, hS]; exact hf2)) ⟨rfl, rfl, rfl, rfl, rfl, trivial⟩
            · refine ex_iload F dX8_layPlan_98 rfl ?_
              refine ex_aload_n F dX8_layPlan_100 rfl rfl ?_
              refine gf_8_26 F dX8_layPlan_101 fl_X8_52 ?_
              refine ex_iconst (v := 3) F dX8_layPlan_104 (by decide) ?_
              refine ex_iald (n := 4) F dX8_layPlan_105 (by decide) (vpd (by decide)) (j := 3) (by decide) ?_
              refine ex_icmp_lt (t := 131) F dX8_layPlan_106 (by decide) (fun c106 => ?_) (fun c106 => ?_)
              · refine ex_iconst (v := 1) F dX8_layPlan_131 (by decide) ?_
                refine ex_goto (t := 136) F dX8_layPlan_132 (by decide) ?_
                refine ex_istore F dX8_layPlan_136 (by decide) ?_
                refine ex_iload F dX8_layPlan_138 rfl ?_
                refine ex_if_eq (t := 181) F dX8_layPlan_140 (by decide) (fun _ => ?_) (fun c => absurd (by decide) c)
                refine ex_iinc (w := _ + 1) F dX8_layPlan_181 rfl rfl (by decide) ?_
                refine ex_goto (t := 14) F dX8_layPlan_184 (by decide) ?_
                have hS := sBest_S K b (a := a) (q := q) (by omega)
                rw [sBestStep, ← e36] at hS
                rw [if_pos c59] at hS
                refine ex_weak2 (ih2 (q + 1) _ _ _ (by omega) (nI_1 (q + 1)) hj2 (by rw [← Nat.add_assoc, hS]; exact hf2)) ⟨rfl, rfl, rfl, rfl, rfl, trivial⟩
              · refine ex_iload F dX8_layPlan_109 rfl ?_
                refine ex_aload_n F dX8_layPlan_111 rfl rfl ?_
                refine gf_8_26 F dX8_layPlan_112 fl_X8_52 ?_
                refine ex_iconst (v := 3) F dX8_layPlan_115 (by decide) ?_
                refine ex_iald (n := 4) F dX8_layPlan_116 (by decide) (vpd (by decide)) (j := 3) (by decide) ?_
                refine ex_icmp_ne (t := 135) F dX8_layPlan_117 (by decide) (fun c117 => ?_) (fun c117 => ?_)
                · refine ex_iconst (v := 0) F dX8_layPlan_135 (by decide) ?_
                  refine ex_istore F dX8_layPlan_136 (by decide) ?_
                  refine ex_iload F dX8_layPlan_138 rfl ?_
                  refine ex_if_eq (t := 181) F dX8_layPlan_140 (by decide) (fun _ => ?_) (fun c => absurd (by decide) c)
                  refine ex_iinc (w := _ + 1) F dX8_layPlan_181 rfl rfl (by decide) ?_
                  refine ex_goto (t := 14) F dX8_layPlan_184 (by decide) ?_
                  have hS := sBest_S K b (a := a) (q := q) (by omega)
                  rw [sBestStep, ← e36] at hS
                  rw [if_pos c59] at hS
                  refine ex_weak2 (ih2 (q + 1) _ _ _ (by omega) (nI_1 (q + 1)) hj2 (by rw [← Nat.add_assoc, hS]; exact hf2)) ⟨rfl, rfl, rfl, rfl, rfl, trivial⟩
                · refine ex_iload F dX8_layPlan_120 rfl ?_
                  refine ex_aload_n F dX8_layPlan_122 rfl rfl ?_
                  refine gf_8_26 F dX8_layPlan_123 fl_X8_52 ?_
                  refine ex_iconst (v := 2) F dX8_layPlan_126 (by decide) ?_
                  refine ex_iald (n := 4) F dX8_layPlan_127 (by decide) (vpd (by decide)) (j := 2) (by decide) ?_
                  refine ex_icmp_ge (t := 135) F dX8_layPlan_128 (by decide) (fun c128 => ?_) (fun c128 => ?_)
                  · refine ex_iconst (v := 0) F dX8_layPlan_135 (by decide) ?_
                    refine ex_istore F dX8_layPlan_136 (by decide) ?_
                    refine ex_iload F dX8_layPlan_138 rfl ?_
                    refine ex_if_eq (t := 181) F dX8_layPlan_140 (by decide) (fun _ => ?_) (fun c => absurd (by decide) c)
                    refine ex_iinc (w := _ + 1) F dX8_layPlan_181 rfl rfl (by decide) ?_
                    refine ex_goto (t := 14) F dX8_layPlan_184 (by decide) ?_
                    have hS := sBest_S K b (a := a) (q := q) (by omega)
                    rw [sBestStep, ← e36] at hS
                    rw [if_pos c59] at hS
                    refine ex_weak2 (ih2 (q + 1) _ _ _ (by omega) (nI_1 (q + 1)) hj2 (by rw [← Nat.add_assoc, hS]; exact hf2)) ⟨rfl, rfl, rfl, rfl, rfl, trivial⟩
                  · refine ex_iconst (v := 1) F dX8_layPlan_131 (by decide) ?_
                    refine ex_goto (t := 136) F dX8_layPlan_132 (by decide) ?_
                    refine ex_istore F dX8_layPlan_136 (by decide) ?_
                    refine ex_iload F dX8_layPlan_138 rfl ?_
                    refine ex_if_eq (t := 181) F dX8_layPlan_140 (by decide) (fun _ => ?_) (fun c => absurd (by decide) c)
                    refine ex_iinc (w := _ + 1) F dX8_layPlan_181 rfl rfl (by decide) ?_
                    refine ex_goto (t := 14) F dX8_layPlan_184 (by decide) ?_
                    have hS := sBest_S K b (a := a) (q := q) (by omega)
                    rw [sBestStep, ← e36] at hS
                    rw [if_pos c59] at hS
                    refine ex_weak2 (ih2 (q + 1) _ _ _ (by omega) (nI_1 (q + 1)) hj2 (by rw [← Nat.add_assoc, hS]; exact hf2)) ⟨rfl, rfl, rfl, rfl, rfl, trivial⟩
          · refine ex_iload F dX8_layPlan_62 rfl ?_
            refine ex_i2l F dX8_layPlan_64 ?_
            refine ex_aload_n F dX8_layPlan_65 rfl rfl ?_
            refine gf_8_16 F dX8_layPlan_66 fl_X8_34 ?_
            refine ex_bipush (v := 7) F dX8_layPlan_69 (by decide) ?_
            refine ex_iald (n := 13) F dX8_layPlan_71 (by decide) (vpd (by decide)) (j := 7) (by decide) ?_
            refine ex_i2l F dX8_layPlan_72 ?_
            refine ex_aload_n F dX8_layPlan_73 rfl rfl ?_
            refine gf_8_16 F dX8_layPlan_74 fl_X8_34 ?_
            refine ex_bipush (v := 8) F dX8_layPlan_77 (by decide) ?_
            refine ex_iald (n := 13) F dX8_layPlan_79 (by decide) (vpd (by decide)) (j := 8) (by decide) ?_
            refine ex_i2l F dX8_layPlan_80 ?_
            refine ex_callSi F (c_X8_in) dX8_layPlan_81 cs_X8_layPlan_78 rfl rfl (Nat.le_of_ble_eq_true rfl) (fun v81 M81 h81 => ?_)
            obtain ⟨e81, q81⟩ := h81
            rw [q81]
            clear q81
            rw [hr36 7 (by decide), hr36 8 (by decide), in_good] at e81
            subst e81
            refine ex_if_eq (t := 91) F dX8_layPlan_84 (by decide) (fun c84 => ?_) (fun c84 => ?_)
            · refine ex_iconst (v := 0) F dX8_layPlan_91 (by decide) ?_
              refine ex_istore F dX8_layPlan_92 (by decide) ?_
              refine ex_iload_n F dX8_layPlan_94 rfl rfl ?_
              refine ex_if_eq (t := 131) F dX8_layPlan_95 (by decide) (fun c95 => ?_) (fun c95 => ?_)
              · refine ex_iconst (v := 1) F dX8_layPlan_131 (by decide) ?_
                refine ex_goto (t := 136) F dX8_layPlan_132 (by decide) ?_
                refine ex_istore F dX8_layPlan_136 (by decide) ?_
                refine ex_iload F dX8_layPlan_138 rfl ?_
                refine ex_if_eq (t := 181) F dX8_layPlan_140 (by decide) (fun _ => ?_) (fun c => absurd (by decide) c)
                refine ex_iinc (w := _ + 1) F dX8_layPlan_181 rfl rfl (by decide) ?_
                refine ex_goto (t := 14) F dX8_layPlan_184 (by decide) ?_
                have hS := sBest_S K b (a := a) (q := q) (by omega)
                rw [sBestStep, ← e36] at hS
                rw [if_neg c59, en36 c59] at hS
                rw [if_neg (by rw [← t1, b2i_0.mp c84]; decide)] at hS
                refine ex_weak2 (ih2 (q + 1) _ _ _ (by omega) (nI_1 (q + 1)) hj2 (by rw [← Nat.add_assoc, hS]; exact hf2)) ⟨rfl, rfl, rfl, rfl, rfl, trivial⟩
              · refine ex_iload F dX8_layPlan_98 rfl ?_
                refine ex_aload_n F dX8_layPlan_100 rfl rfl ?_
                refine gf_8_26 F dX8_layPlan_101 fl_X8_52 ?_
                refine ex_iconst (v := 3) F dX8_layPlan_104 (by decide) ?_
                refine ex_iald (n := 4) F dX8_layPlan_105 (by decide) (vpd (by decide)) (j := 3) (by decide) ?_
                refine ex_icmp_lt (t := 131) F dX8_layPlan_106 (by decide) (fun c106 => ?_) (fun c106 => ?_)
                · refine ex_iconst (v := 1) F dX8_layPlan_131 (by decide) ?_
                  refine ex_goto (t := 136) F dX8_layPlan_132 (by decide) ?_
                  refine ex_istore F dX8_layPlan_136 (by decide) ?_
                  refine ex_iload F dX8_layPlan_138 rfl ?_
                  refine ex_if_eq (t := 181) F dX8_layPlan_140 (by decide) (fun _ => ?_) (fun c => absurd (by decide) c)
                  refine ex_iinc (w := _ + 1) F dX8_layPlan_181 rfl rfl (by decide) ?_
                  refine ex_goto (t := 14) F dX8_layPlan_184 (by decide) ?_
                  have hS := sBest_S K b (a := a) (q := q) (by omega)
                  rw [sBestStep, ← e36] at hS
                  rw [if_neg c59, en36 c59] at hS
                  rw [if_neg (by rw [← t1, b2i_0.mp c84]; decide)] at hS
                  refine ex_weak2 (ih2 (q + 1) _ _ _ (by omega) (nI_1 (q + 1)) hj2 (by rw [← Nat.add_assoc, hS]; exact hf2)) ⟨rfl, rfl, rfl, rfl, rfl, trivial⟩
                · refine ex_iload F dX8_layPlan_109 rfl ?_
                  refine ex_aload_n F dX8_layPlan_111 rfl rfl ?_
                  refine gf_8_26 F dX8_layPlan_112 fl_X8_52 ?_
                  refine ex_iconst (v := 3) F dX8_layPlan_115 (by decide) ?_
                  refine ex_iald (n := 4) F dX8_layPlan_116 (by decide) (vpd (by decide)) (j := 3) (by decide) ?_
                  refine ex_icmp_ne (t := 135) F dX8_layPlan_117 (by decide) (fun c117 => ?_) (fun c117 => ?_)
                  · refine ex_iconst (v := 0) F dX8_layPlan_135 (by decide) ?_
                    refine ex_istore F dX8_layPlan_136 (by decide) ?_
                    refine ex_iload F dX8_layPlan_138 rfl ?_
                    refine ex_if_eq (t := 181) F dX8_layPlan_140 (by decide) (fun _ => ?_) (fun c => absurd (by decide) c)
                    refine ex_iinc (w := _ + 1) F dX8_layPlan_181 rfl rfl (by decide) ?_
                    refine ex_goto (t := 14) F dX8_layPlan_184 (by decide) ?_
                    have hS := sBest_S K b (a := a) (q := q) (by omega)
                    rw [sBestStep, ← e36] at hS
                    rw [if_neg c59, en36 c59] at hS
                    rw [if_neg (by rw [← t1, b2i_0.mp c84]; decide)] at hS
                    refine ex_weak2 (ih2 (q + 1) _ _ _ (by omega) (nI_1 (q + 1)) hj2 (by rw [← Nat.add_assoc, hS]; exact hf2)) ⟨rfl, rfl, rfl, rfl, rfl, trivial⟩
                  · refine ex_iload F dX8_layPlan_120 rfl ?_
                    refine ex_aload_n F dX8_layPlan_122 rfl rfl ?_
                    refine gf_8_26 F dX8_layPlan_123 fl_X8_52 ?_
                    refine ex_iconst (v := 2) F dX8_layPlan_126 (by decide) ?_
                    refine ex_iald (n := 4) F dX8_layPlan_127 (by decide) (vpd (by decide)) (j := 2) (by decide) ?_
                    refine ex_icmp_ge (t := 135) F dX8_layPlan_128 (by decide) (fun c128 => ?_) (fun c128 => ?_)
                    · refine ex_iconst (v := 0) F dX8_layPlan_135 (by decide) ?_
                      refine ex_istore F dX8_layPlan_136 (by decide) ?_
                      refine ex_iload F dX8_layPlan_138 rfl ?_
                      refine ex_if_eq (t := 181) F dX8_layPlan_140 (by decide) (fun _ => ?_) (fun c => absurd (by decide) c)
                      refine ex_iinc (w := _ + 1) F dX8_layPlan_181 rfl rfl (by decide) ?_
                      refine ex_goto (t := 14) F dX8_layPlan_184 (by decide) ?_
                      have hS := sBest_S K b (a := a) (q := q) (by omega)
                      rw [sBestStep, ← e36] at hS
                      rw [if_neg c59, en36 c59] at hS
                      rw [if_neg (by rw [← t1, b2i_0.mp c84]; decide)] at hS
                      refine ex_weak2 (ih2 (q + 1) _ _ _ (by omega) (nI_1 (q + 1)) hj2 (by rw [← Nat.add_assoc, hS]; exact hf2)) ⟨rfl, rfl, rfl, rfl, rfl, trivial⟩
                    · refine ex_iconst (v := 1) F dX8_layPlan_131 (by decide) ?_
                      refine ex_goto (t := 136) F dX8_layPlan_132 (by decide) ?_
                      refine ex_istore F dX8_layPlan_136 (by decide) ?_
                      refine ex_iload F dX8_layPlan_138 rfl ?_
                      refine ex_if_eq (t := 181) F dX8_layPlan_140 (by decide) (fun _ => ?_) (fun c => absurd (by decide) c)
                      refine ex_iinc (w := _ + 1) F dX8_layPlan_181 rfl rfl (by decide) ?_
                      refine ex_goto (t := 14) F dX8_layPlan_184 (by decide) ?_
                      have hS := sBest_S K b (a := a) (q := q) (by omega)
                      rw [sBestStep, ← e36] at hS
                      rw [if_neg c59, en36 c59] at hS
                      rw [if_neg (by rw [← t1, b2i_0.mp c84]; decide)] at hS
                      refine ex_weak2 (ih2 (q + 1) _ _ _ (by omega) (nI_1 (q + 1)) hj2 (by rw [← Nat.add_assoc, hS]; exact hf2)) ⟨rfl, rfl, rfl, rfl, rfl, trivial⟩
            · refine ex_iconst (v := 1) F dX8_layPlan_87 (by decide) ?_
              refine ex_goto (t := 92) F dX8_layPlan_88 (by decide) ?_
              refine ex_istore F dX8_layPlan_92 (by decide) ?_
              refine ex_iload_n F dX8_layPlan_94 rfl rfl ?_
              refine ex_if_eq (t := 131) F dX8_layPlan_95 (by decide) (fun c95 => ?_) (fun c95 => ?_)
              · refine ex_iconst (v := 1) F dX8_layPlan_131 (by decide) ?_
                refine ex_goto (t := 136) F dX8_layPlan_132 (by decide) ?_
                refine ex_istore F dX8_layPlan_136 (by decide) ?_
                refine ex_iload F dX8_layPlan_138 rfl ?_
                refine ex_if_eq (t := 181) F dX8_layPlan_140 (by decide) (fun c => absurd c (by decide)) (fun _ => ?_)
                refine ex_iload F dX8_layPlan_143 rfl ?_
                refine ex_if_eq (t := 181) F dX8_layPlan_145 (by decide) (fun c => absurd c (by decide)) (fun _ => ?_)
                refine ex_iconst (v := 1) F dX8_layPlan_148 (by decide) ?_
                refine ex_istore_n F dX8_layPlan_149 rfl (by decide) ?_
                refine ex_aload_n F dX8_layPlan_150 rfl rfl ?_
                refine gf_8_26 F dX8_layPlan_151 fl_X8_52 ?_
                refine ex_iconst (v := 0) F dX8_layPlan_154 (by decide) ?_
                refine ex_iload_n F dX8_layPlan_155 rfl rfl ?_
                refine ex_iast (n := 4) F dX8_layPlan_156 (by decide) (vpd (by decide)) (j := 0) (by decide) ?_
                refine ex_aload_n F dX8_layPlan_157 rfl rfl ?_
                refine gf_8_26 F dX8_layPlan_158 fl_X8_52 ?_
                refine ex_iconst (v := 1) F dX8_layPlan_161 (by decide) ?_
                refine ex_iload F dX8_layPlan_162 rfl ?_
                refine ex_iast (n := 4) F dX8_layPlan_164 (by decide) (vpd (by decide)) (j := 1) (by decide) ?_
                refine ex_aload_n F dX8_layPlan_165 rfl rfl ?_
                refine gf_8_26 F dX8_layPlan_166 fl_X8_52 ?_
                refine ex_iconst (v := 2) F dX8_layPlan_169 (by decide) ?_
                refine ex_iload F dX8_layPlan_170 rfl ?_
                refine ex_iast (n := 4) F dX8_layPlan_172 (by decide) (vpd (by decide)) (j := 2) (by decide) ?_
                refine ex_aload_n F dX8_layPlan_173 rfl rfl ?_
                refine gf_8_26 F dX8_layPlan_174 fl_X8_52 ?_
                refine ex_iconst (v := 3) F dX8_layPlan_177 (by decide) ?_
                refine ex_iload F dX8_layPlan_178 rfl ?_
                refine ex_iast (n := 4) F dX8_layPlan_180 (by decide) (vpd (by decide)) (j := 3) (by decide) ?_
                refine ex_iinc (w := _ + 1) F dX8_layPlan_181 rfl rfl (by decide) ?_
                refine ex_goto (t := 14) F dX8_layPlan_184 (by decide) ?_
                have hS := sBest_S K b (a := a) (q := q) (by omega)
                rw [sBestStep, ← e36] at hS
                rw [if_neg c59, en36 c59] at hS
                rw [if_pos (by rw [← t1]; exact b2i_1.mp c84), ← t1] at hS
                refine ex_weak2 (ih2 (q + 1) _ _ _ (by omega) (nI_1 (q + 1)) (jM_tr hj2 (jM_tr (jM_tr (jM_tr (jM_53 _ _) (jM_53 _ _)) (jM_53 _ _)) (jM_53 _ _))) (by rw [← Nat.add_assoc, hS]; exact best_take hf2 (Or.inl c95) (by simp [mu, upd]) (by simp [mu, upd]) (by simp [mu, upd]) (by simp [mu, upd]))) ⟨rfl, rfl, rfl, rfl, rfl, trivial⟩
              · refine ex_iload F dX8_layPlan_98 rfl ?_
                refine ex_aload_n F dX8_layPlan_100 rfl rfl ?_
                refine gf_8_26 F dX8_layPlan_101 fl_X8_52 ?_
                refine ex_iconst (v := 3) F dX8_layPlan_104 (by decide) ?_
                refine ex_iald (n := 4) F dX8_layPlan_105 (by decide) (vpd (by decide)) (j := 3) (by decide) ?_
                refine ex_icmp_lt (t := 131) F dX8_layPlan_106 (by decide) (fun c106 => ?_) (fun c106 => ?_)
                · refine ex_iconst (v := 1) F dX8_layPlan_131 (by decide) ?_
                  refine ex_goto (t := 136) F dX8_layPlan_132 (by decide) ?_
                  refine ex_istore F dX8_layPlan_136 (by decide) ?_
                  refine ex_iload F dX8_layPlan_138 rfl ?_
                  refine ex_if_eq (t := 181) F dX8_layPlan_140 (by decide) (fun c => absurd c (by decide)) (fun _ => ?_)
                  refine ex_iload F dX8_layPlan_143 rfl ?_
                  refine ex_if_eq (t := 181) F dX8_layPlan_145 (by decide) (fun c => absurd c (by decide)) (fun _ => ?_)
                  refine ex_iconst (v := 1) F dX8_layPlan_148 (by decide) ?_
                  refine ex_istore_n F dX8_layPlan_149 rfl (by decide) ?_
                  refine ex_aload_n F dX8_layPlan_150 rfl rfl ?_
                  refine gf_8_26 F dX8_layPlan_151 fl_X8_52 ?_
                  refine ex_iconst (v := 0) F dX8_layPlan_154 (by decide) ?_
                  refine ex_iload_n F dX8_layPlan_155 rfl rfl ?_
                  refine ex_iast (n := 4) F dX8_layPlan_156 (by decide) (vpd (by decide)) (j := 0) (by decide) ?_
                  refine ex_aload_n F dX8_layPlan_157 rfl rfl ?_
                  refine gf_8_26 F dX8_layPlan_158 fl_X8_52 ?_
                  refine ex_iconst (v := 1) F dX8_layPlan_161 (by decide) ?_
                  refine ex_iload F dX8_layPlan_162 rfl ?_
                  refine ex_iast (n := 4) F dX8_layPlan_164 (by decide) (vpd (by decide)) (j := 1) (by decide) ?_
                  refine ex_aload_n F dX8_layPlan_165 rfl rfl ?_
                  refine gf_8_26 F dX8_layPlan_166 fl_X8_52 ?_
                  refine ex_iconst (v := 2) F dX8_layPlan_169 (by decide) ?_
                  refine ex_iload F dX8_layPlan_170 rfl ?_
                  refine ex_iast (n := 4) F dX8_layPlan_172 (by decide) (vpd (by decide)) (j := 2) (by decide) ?_
                  refine ex_aload_n F dX8_layPlan_173 rfl rfl ?_
                  refine gf_8_26 F dX8_layPlan_174 fl_X8_52 ?_
                  refine ex_iconst (v := 3) F dX8_layPlan_177 (by decide) ?_
                  refine ex_iload F dX8_layPlan_178 rfl ?_
                  refine ex_iast (n := 4) F dX8_layPlan_180 (by decide) (vpd (by decide)) (j := 3) (by decide) ?_
                  refine ex_iinc (w := _ + 1) F dX8_layPlan_181 rfl rfl (by decide) ?_
                  refine ex_goto (t := 14) F dX8_layPlan_184 (by decide) ?_
                  have hS := sBest_S K b (a := a) (q := q) (by omega)
                  rw [sBestStep, ← e36] at hS
                  rw [if_neg c59, en36 c59] at hS
                  rw [if_pos (by rw [← t1]; exact b2i_1.mp c84), ← t1] at hS
                  refine ex_weak2 (ih2 (q + 1) _ _ _ (by omega) (nI_1 (q + 1)) (jM_tr hj2 (jM_tr (jM_tr (jM_tr (jM_53 _ _) (jM_53 _ _)) (jM_53 _ _)) (jM_53 _ _))) (by rw [← Nat.add_assoc, hS]; exact best_take hf2 (Or.inr (Or.inl c106)) (by simp [mu, upd]) (by simp [mu, upd]) (by simp [mu, upd]) (by simp [mu, upd]))) ⟨rfl, rfl, rfl, rfl, rfl, trivial⟩
                · refine ex_iload F dX8_layPlan_109 rfl ?_
                  refine ex_aload_n F dX8_layPlan_111 rfl rfl ?_
                  refine gf_8_26 F dX8_layPlan_112 fl_X8_52 ?_
                  refine ex_iconst (v := 3) F dX8_layPlan_115 (by decide) ?_
                  refine ex_iald (n := 4) F dX8_layPlan_116 (by decide) (vpd (by decide)) (j := 3) (by decide) ?_
                  refine ex_icmp_ne (t := 135) F dX8_layPlan_117 (by decide) (fun c117 => ?_) (fun c117 => ?_)
                  · refine ex_iconst (v := 0) F dX8_layPlan_135 (by decide) ?_
                    refine ex_istore F dX8_layPlan_136 (by decide) ?_
                    refine ex_iload F dX8_layPlan_138 rfl ?_
                    refine ex_if_eq (t := 181) F dX8_layPlan_140 (by decide) (fun c => absurd c (by decide)) (fun _ => ?_)
                    refine ex_iload F dX8_layPlan_143 rfl ?_
                    refine ex_if_eq (t := 181) F dX8_layPlan_145 (by decide) (fun _ => ?_) (fun c => absurd (by decide) c)
                    refine ex_iinc (w := _ + 1) F dX8_layPlan_181 rfl rfl (by decide) ?_
                    refine ex_goto (t := 14) F dX8_layPlan_184 (by decide) ?_
                    have hS := sBest_S K b (a := a) (q := q) (by omega)
                    rw [sBestStep, ← e36] at hS
                    rw [if_neg c59, en36 c59] at hS
                    rw [if_pos (by rw [← t1]; exact b2i_1.mp c84), ← t1] at hS
                    refine ex_weak2 (ih2 (q + 1) _ _ _ (by omega) (nI_1 (q + 1)) hj2 (by rw [← Nat.add_assoc, hS, best_keep hf2 c95 (Int32.not_lt.mpr (Int32.not_lt.mp c106)) (fun z => c117 z.1)]; exact hf2)) ⟨rfl, rfl, rfl, rfl, rfl, trivial⟩
                  · refine ex_iload F dX8_layPlan_120 rfl ?_
                    refine ex_aload_n F dX8_layPlan_122 rfl rfl ?_
                    refine gf_8_26 F dX8_layPlan_123 fl_X8_52 ?_
                    refine ex_iconst (v := 2) F dX8_layPlan_126 (by decide) ?_
                    refine ex_iald (n := 4) F dX8_layPlan_127 (by decide) (vpd (by decide)) (j := 2) (by decide) ?_
                    refine ex_icmp_ge (t := 135) F dX8_layPlan_128 (by decide) (fun c128 => ?_) (fun c128 => ?_)
                    · refine ex_iconst (v := 0) F dX8_layPlan_135 (by decide) ?_
                      refine ex_istore F dX8_layPlan_136 (by decide) ?_
                      refine ex_iload F dX8_layPlan_138 rfl ?_
                      refine ex_if_eq (t := 181) F dX8_layPlan_140 (by decide) (fun c => absurd c (by decide)) (fun _ => ?_)
                      refine ex_iload F dX8_layPlan_143 rfl ?_
                      refine ex_if_eq (t := 181) F dX8_layPlan_145 (by decide) (fun _ => ?_) (fun c => absurd (by decide) c)
                      refine ex_iinc (w := _ + 1) F dX8_layPlan_181 rfl rfl (by decide) ?_
                      refine ex_goto (t := 14) F dX8_layPlan_184 (by decide) ?_
                      have hS := sBest_S K b (a := a) (q := q) (by omega)
                      rw [sBestStep, ← e36] at hS
                      rw [if_neg c59, en36 c59] at hS
                      rw [if_pos (by rw [← t1]; exact b2i_1.mp c84), ← t1] at hS
                      refine ex_weak2 (ih2 (q + 1) _ _ _ (by omega) (nI_1 (q + 1)) hj2 (by rw [← Nat.add_assoc, hS, best_keep hf2 c95 (Int32.not_lt.mpr (Int32.not_lt.mp c106)) (fun z => absurd z.2 (Int32.not_lt.mpr c128))]; exact hf2)) ⟨rfl, rfl, rfl, rfl, rfl, trivial⟩
                    · refine ex_iconst (v := 1) F dX8_layPlan_131 (by decide) ?_
                      refine ex_goto (t := 136) F dX8_layPlan_132 (by decide) ?_
                      refine ex_istore F dX8_layPlan_136 (by decide) ?_
                      refine ex_iload F dX8_layPlan_138 rfl ?_
                      refine ex_if_eq (t := 181) F dX8_layPlan_140 (by decide) (fun c => absurd c (by decide)) (fun _ => ?_)
                      refine ex_iload F dX8_layPlan_143 rfl ?_
                      refine ex_if_eq (t := 181) F dX8_layPlan_145 (by decide) (fun c => absurd c (by decide)) (fun _ => ?_)
                      refine ex_iconst (v := 1) F dX8_layPlan_148 (by decide) ?_
                      refine ex_istore_n F dX8_layPlan_149 rfl (by decide) ?_
                      refine ex_aload_n F dX8_layPlan_150 rfl rfl ?_
                      refine gf_8_26 F dX8_layPlan_151 fl_X8_52 ?_
                      refine ex_iconst (v := 0) F dX8_layPlan_154 (by decide) ?_
                      refine ex_iload_n F dX8_layPlan_155 rfl rfl ?_
                      refine ex_iast (n := 4) F dX8_layPlan_156 (by decide) (vpd (by decide)) (j := 0) (by decide) ?_
                      refine ex_aload_n F dX8_layPlan_157 rfl rfl ?_
                      refine gf_8_26 F dX8_layPlan_158 fl_X8_52 ?_
                      refine ex_iconst (v := 1) F dX8_layPlan_161 (by decide) ?_
                      refine ex_iload F dX8_layPlan_162 rfl ?_
                      refine ex_iast (n := 4) F dX8_layPlan_164 (by decide) (vpd (by decide)) (j := 1) (by decide) ?_
                      refine ex_aload_n F dX8_layPlan_165 rfl rfl ?_
                      refine gf_8_26 F dX8_layPlan_166 fl_X8_52 ?_
                      refine ex_iconst (v := 2) F dX8_layPlan_169 (by decide) ?_
                      refine ex_iload F dX8_layPlan_170 rfl ?_
                      refine ex_iast (n := 4) F dX8_layPlan_172 (by decide) (vpd (by decide)) (j := 2) (by decide) ?_
                      refine ex_aload_n F dX8_layPlan_173 rfl rfl ?_
                      refine gf_8_26 F dX8_layPlan_174 fl_X8_52 ?_
                      refine ex_iconst (v := 3) F dX8_layPlan_177 (by decide) ?_
                      refine ex_iload F dX8_layPlan_178 rfl ?_
                      refine ex_iast (n := 4) F dX8_layPlan_180 (by decide) (vpd (by decide)) (j := 3) (by decide) ?_
                      refine ex_iinc (w := _ + 1) F dX8_layPlan_181 rfl rfl (by decide) ?_
                      refine ex_goto (t := 14) F dX8_layPlan_184 (by decide) ?_
                      have hS := sBest_S K b (a := a) (q := q) (by omega)
                      rw [sBestStep, ← e36] at hS
                      rw [if_neg c59, en36 c59] at hS
                      rw [if_pos (by rw [← t1]; exact b2i_1.mp c84), ← t1] at hS
                      refine ex_weak2 (ih2 (q + 1) _ _ _ (by omega) (nI_1 (q + 1)) (jM_tr hj2 (jM_tr (jM_tr (jM_tr (jM_53 _ _) (jM_53 _ _)) (jM_53 _ _)) (jM_53 _ _))) (by rw [← Nat.add_assoc, hS]; exact best_take hf2 (Or.inr (Or.inr ⟨c117, Int32.not_le.mp c128⟩)) (by simp [mu, upd]) (by simp [mu, upd]) (by simp [mu, upd]) (by simp [mu, upd]))) ⟨rfl, rfl, rfl, rfl, rfl, trivial⟩
      refine ex_iload_n F dX8_layPlan_4 rfl rfl ?_
      refine ex_sipush (v := 400) F dX8_layPlan_5 (by decide) ?_
      refine ex_icmp_gt (t := 193) F dX8_layPlan_8 (by decide) (fun c => absurd c (nI_nlt (b := 20 * a) (a := 400) (by omega) (by decide))) (fun _ => ?_)
      refine ex_iconst (v := 1) F dX8_layPlan_11 (by decide) ?_
      refine ex_istore F dX8_layPlan_12 (by decide) ?_
      exact ex_weak2 (inner 9 0 _ fd N (by omega) rfl hj hf) ⟨rfl, rfl, rfl, rfl, rfl, trivial⟩
  exact ex_weak2 (key 21 0 _ 0 M (by omega) rfl (jM_rf M) (Or.inl ⟨rfl, by simp [sBestN, upd]⟩)) ⟨rfl, rfl, rfl, rfl, trivial⟩
