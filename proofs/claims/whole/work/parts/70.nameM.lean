theorem sp_mk {K : Mem} {n P Q i : Nat} (hn : K 7 1 = nI n) (ln : n ≤ 320) (hP : K 7 3 = nI P) (hQ : K 7 4 = nI Q) (lP : P ≤ Q) (lQ : Q < 1000000000) (h : splP K n P Q i) : spK K i = true := by
  rw [← spK_of hn ln hP hQ lP lQ]
  exact decide_eq_true h
theorem sp_dn {K : Mem} {n P Q i : Nat} (hn : K 7 1 = nI n) (ln : n ≤ 320) (hP : K 7 3 = nI P) (hQ : K 7 4 = nI Q) (lP : P ≤ Q) (lQ : Q < 1000000000) (h : spK K i = true) : splP K n P Q i := by
  rw [← spK_of hn ln hP hQ lP lQ] at h
  exact of_decide_eq_true h
theorem TK_1 {K M : Mem} {n P Q : Nat} (h : TK K M n P Q) (h1 : M 38 7 = 1) (hb : M 38 3 = 0) : K 7 2 = 2 ∧ M 38 5 = nI Q := by
  rcases h with ⟨-, a, -⟩ | ⟨-, ⟨a, -, b, -⟩ | ⟨-, a, -⟩ | ⟨-, a, -⟩ | ⟨-, a, -⟩⟩
  · rw [h1] at a; exact absurd a (by decide)
  · exact ⟨a, b⟩
  · rw [h1] at a; exact absurd a (by decide)
  · rw [h1] at a; exact absurd a (by decide)
  · rw [hb] at a; exact absurd a (by decide)
theorem TK_n1 {K M : Mem} {n P Q : Nat} (h : TK K M n P Q) (h1 : ¬ M 38 7 = 1) : ¬ K 7 2 = 2 := by
  intro q
  rcases h with ⟨a, -⟩ | ⟨-, ⟨-, b, -⟩ | ⟨a, -⟩ | ⟨a, -⟩ | ⟨a, -⟩⟩
  · rw [q] at a; exact absurd a (by decide)
  · exact h1 b
  · rw [q] at a; exact absurd a (by decide)
  · rw [q] at a; exact absurd a (by decide)
  · rw [q] at a; exact absurd a (by decide)
theorem cs_X8_nameHere_97 : CSV (xmN YX8_nameHere).cls (xmF YX8_nameHere) (xmW YX8_nameHere) 97 1 YX8_byteAt := ⟨⟨ml_X8_97, ini_X8, cd_X8_byteAt, by decide +kernel, by decide⟩, im_X8_byteAt, se_X8_byteAt⟩
set_option maxRecDepth 100000 in
theorem c_X8_nameHere {l : Launch} {g : XG} {M : Mem} {K : Mem} {n : Nat} (hS : TS K M n) (hK : KM M) (hb : M 38 3 = 0) : Call l g YX8_nameHere [.ref (ad g 38)] M (PI (fun v M' => M' = M ∧ ((lnm K = -1 ∧ v = -4) ∨ ∃ i, i < 8 ∧ v = nI i ∧ lnm K = nI (cmL i)))) := by
  refine call_of (by decide +kernel) (Nat.le_of_ble_eq_true rfl) (fun x hxl F R => ?_)
  subst hxl
  refine ex_iconst (v := 0) F dX8_nameHere_0 (by decide) ?_
  refine ex_istore_n F dX8_nameHere_1 rfl (by decide) ?_
  obtain ⟨hT, hY, P, Q, hP, hQ, lPQ, lQ, lP, hh, hTK⟩ := hS
  have hn := hT.2.1
  have ln := hT.1
  have key : ∀ (m i : Nat), i + m = 8 → (∀ j, j < i → ¬ spK K (cmL j) = true) → EX x g (xmL YX8_nameHere) M 2 [(0, .ref (ad g 38)), (1, .int (nI i))] [] := by
    intro m
    induction m with
    | zero =>
      intro i hi ha
      obtain rfl : i = 8 := by omega
      refine ex_iload_n F dX8_nameHere_2 rfl rfl ?_
      refine ex_bipush (v := 8) F dX8_nameHere_3 (by decide) ?_
      refine ex_icmp_ge (t := 118) F dX8_nameHere_5 (by decide) (fun _ => ?_) (fun c => absurd (by decide) c)
      refine ex_bipush (v := -4) F dX8_nameHere_118 (by decide) ?_
      exact ex_iret F R dX8_nameHere_120 rfl (⟨rfl, Or.inl ⟨lnm_no ha, rfl⟩⟩)
    | succ m ih =>
      intro i hi ha
      obtain ⟨d1, d2, d3, d4, d5⟩ := cut_t i (by omega)
      have l5 := sLen_le (cmL i) d4
      refine ex_iload_n F dX8_nameHere_2 rfl rfl ?_
      refine ex_bipush (v := 8) F dX8_nameHere_3 (by decide) ?_
      refine ex_icmp_ge (t := 118) F dX8_nameHere_5 (by decide) (fun c => absurd c (nI_ge (b := 8) (by omega) (by decide))) (fun _ => ?_)
      refine ex_aload_n F dX8_nameHere_8 rfl rfl ?_
      refine gf_8_7 F dX8_nameHere_9 fl_X8_91 ?_
      refine ex_iconst (v := 1) F dX8_nameHere_12 (by decide) ?_
      refine ex_icmp_ne (t := 118) F dX8_nameHere_13 (by decide) (fun c13 => ?_) (fun c13 => ?_)
      · refine ex_bipush (v := -4) F dX8_nameHere_118 (by decide) ?_
        exact ex_iret F R dX8_nameHere_120 rfl (⟨rfl, Or.inl ⟨lnm_no (fun j hj z => TK_n1 hTK c13 (sp_dn hn ln hP hQ (by omega) (by omega) z).1), rfl⟩⟩)
      · have k2 := TK_1 hTK c13 hb
        refine ex_aload_n F dX8_nameHere_16 rfl rfl ?_
        refine gf_8_5 F dX8_nameHere_17 fl_X8_94 ?_
        refine ex_aload_n F dX8_nameHere_20 rfl rfl ?_
        refine gf_8_6 F dX8_nameHere_21 fl_X8_85 ?_
        rw [k2.2, hh]
        refine ex_isub F dX8_nameHere_24 ?_
        rw [nI_sub (by omega)]
        refine ex_aload_n F dX8_nameHere_25 rfl rfl ?_
        refine gf_8_9 F dX8_nameHere_26 fl_X8_13 ?_
        refine ex_iload_n F dX8_nameHere_29 rfl rfl ?_
        refine ex_iconst (v := 1) F dX8_nameHere_30 (by decide) ?_
        refine ex_iadd F dX8_nameHere_31 ?_
        rw [nI_1]
        refine ex_iald (n := 9) F dX8_nameHere_32 (by decide) (vp_in_nI (by omega) (by decide)) (j := i + 1) (nI_clamp (by omega)) ?_
        rw [hK.cut (i + 1) (by omega)]
        refine ex_aload_n F dX8_nameHere_33 rfl rfl ?_
        refine gf_8_9 F dX8_nameHere_34 fl_X8_13 ?_
        refine ex_iload_n F dX8_nameHere_37 rfl rfl ?_
        refine ex_iald (n := 9) F dX8_nameHere_38 (by decide) (vp_in_nI (by omega) (by decide)) (j := i) (nI_clamp (by omega)) ?_
        rw [hK.cut i (by omega)]
        refine ex_isub F dX8_nameHere_39 ?_
        rw [nI_sub d2, d1]
        refine ex_icmp_ne (t := 47) F dX8_nameHere_40 (by decide) (fun c40 => ?_) (fun c40 => ?_)
        · refine ex_iconst (v := 0) F dX8_nameHere_47 (by decide) ?_
          refine ex_istore_n F dX8_nameHere_48 rfl (by decide) ?_
          refine ex_iconst (v := 0) F dX8_nameHere_49 (by decide) ?_
          refine ex_istore_n F dX8_nameHere_50 rfl (by decide) ?_
          refine ex_iload_n F dX8_nameHere_51 rfl rfl ?_
          refine ex_if_eq (t := 106) F dX8_nameHere_52 (by decide) (fun _ => ?_) (fun c => absurd rfl c)
          refine ex_iload_n F dX8_nameHere_106 rfl rfl ?_
          refine ex_if_eq (t := 112) F dX8_nameHere_107 (by decide) (fun _ => ?_) (fun c => absurd rfl c)
          refine ex_iinc (w := _ + 1) F dX8_nameHere_112 rfl rfl (by decide) ?_
          rw [nI_1]
          refine ex_goto (t := 2) F dX8_nameHere_115 (by decide) ?_
          exact ex_weak2 (ih (i + 1) (by omega) (fun j hj z => by
            by_cases e : j = i
            · subst e
              have y := sp_dn hn ln hP hQ (by omega) (by omega) z
              exact c40 (by rw [y.2.1])
            · exact ha j (by omega) z)) ⟨rfl, rfl, trivial⟩
        · refine ex_iconst (v := 1) F dX8_nameHere_43 (by decide) ?_
          refine ex_goto (t := 48) F dX8_nameHere_44 (by decide) ?_
          refine ex_istore_n F dX8_nameHere_48 rfl (by decide) ?_
          refine ex_iconst (v := 0) F dX8_nameHere_49 (by decide) ?_
          refine ex_istore_n F dX8_nameHere_50 rfl (by decide) ?_
          have eL : Q - P = strLen.getD (cmL i) 0 := nI_inj (by omega) (by omega) c40
          have key2 : ∀ (m2 k : Nat), k + m2 = Q - P → (∀ j, j < k → tb K n (P + j) = (strT (cmL i)).getD j 0) → EX x g (xmL YX8_nameHere) M 51 [(0, .ref (ad g 38)), (1, .int (nI i)), (2, .int 1), (3, .int (nI k))] [] := by
            intro m2
            induction m2 with
            | zero =>
              intro k hk hb2
              obtain rfl : k = Q - P := by omega
              refine ex_iload_n F dX8_nameHere_51 rfl rfl ?_
              refine ex_if_eq (t := 106) F dX8_nameHere_52 (by decide) (fun c => absurd c (by decide)) (fun _ => ?_)
              refine ex_iload_n F dX8_nameHere_55 rfl rfl ?_
              refine ex_aload_n F dX8_nameHere_56 rfl rfl ?_
              refine gf_8_5 F dX8_nameHere_57 fl_X8_94 ?_
              refine ex_aload_n F dX8_nameHere_60 rfl rfl ?_
              refine gf_8_6 F dX8_nameHere_61 fl_X8_85 ?_
              rw [k2.2, hh]
              refine ex_isub F dX8_nameHere_64 ?_
              rw [nI_sub (by omega)]
              refine ex_icmp_ge (t := 106) F dX8_nameHere_65 (by decide) (fun _ => ?_) (fun c => absurd (nI_le (Nat.le_refl _) (by omega)) c)
              refine ex_iload_n F dX8_nameHere_106 rfl rfl ?_
              refine ex_if_eq (t := 112) F dX8_nameHere_107 (by decide) (fun c => absurd c (by decide)) (fun _ => ?_)
              refine ex_iload_n F dX8_nameHere_110 rfl rfl ?_
              exact ex_iret F R dX8_nameHere_111 rfl (⟨rfl, Or.inr ⟨i, by omega, rfl, lnm_of d4 (sp_mk hn ln hP hQ (by omega) (by omega) ⟨k2.1, eL, fun j hj => hb2 j (by omega)⟩)⟩⟩)
            | succ m2 ih2 =>
              intro k hk hb2
              obtain ⟨d6, d7, d8, d9⟩ := d5 k (by omega) (by omega)
              refine ex_iload_n F dX8_nameHere_51 rfl rfl ?_
              refine ex_if_eq (t := 106) F dX8_nameHere_52 (by decide) (fun c => absurd c (by decide)) (fun _ => ?_)
              refine ex_iload_n F dX8_nameHere_55 rfl rfl ?_
              refine ex_aload_n F dX8_nameHere_56 rfl rfl ?_
              refine gf_8_5 F dX8_nameHere_57 fl_X8_94 ?_
              refine ex_aload_n F dX8_nameHere_60 rfl rfl ?_
              refine gf_8_6 F dX8_nameHere_61 fl_X8_85 ?_
              rw [k2.2, hh]
              refine ex_isub F dX8_nameHere_64 ?_
              rw [nI_sub (by omega)]
              refine ex_icmp_ge (t := 106) F dX8_nameHere_65 (by decide) (fun c => absurd c (nI_ge (by omega) (by omega))) (fun _ => ?_)
              refine ex_aload_n F dX8_nameHere_68 rfl rfl ?_
              refine ex_aload_n F dX8_nameHere_69 rfl rfl ?_
              refine gf_8_6 F dX8_nameHere_70 fl_X8_85 ?_
              rw [hh]
              refine ex_iload_n F dX8_nameHere_73 rfl rfl ?_
              refine ex_iadd F dX8_nameHere_74 ?_
              rw [nI_add]
              refine ex_callVi F (c_X8_byteAt (K := K) (n := n) (p := P + k) hT (by omega)) dX8_nameHere_75 cs_X8_nameHere_97 ob_8 rfl rfl rfl rfl (Nat.le_of_ble_eq_true rfl) (fun v75 M75 h75 => ?_)
              obtain ⟨rfl, q75⟩ := h75
              rw [q75]
              clear q75
              refine ex_aload_n F dX8_nameHere_78 rfl rfl ?_
              refine gf_8_10 F dX8_nameHere_79 fl_X8_16 ?_
              refine ex_aload_n F dX8_nameHere_82 rfl rfl ?_
              refine gf_8_9 F dX8_nameHere_83 fl_X8_13 ?_
              refine ex_iload_n F dX8_nameHere_86 rfl rfl ?_
              refine ex_iald (n := 9) F dX8_nameHere_87 (by decide) (vp_in_nI (by omega) (by decide)) (j := i) (nI_clamp (by omega)) ?_
              rw [hK.cut i (by omega)]
              refine ex_iload_n F dX8_nameHere_88 rfl rfl ?_
              refine ex_iadd F dX8_nameHere_89 ?_
              rw [nI_add]
              refine ex_iald (n := 34) F dX8_nameHere_90 (by decide) (vp_in_nI (by omega) (by decide)) (j := cutL i + k) (nI_clamp (by omega)) ?_
              rw [hK.let (cutL i + k) (by omega)]
              refine ex_icmp_ne (t := 98) F dX8_nameHere_91 (by decide) (fun c91 => ?_) (fun c91 => ?_)
              · refine ex_iconst (v := 0) F dX8_nameHere_98 (by decide) ?_
                refine ex_istore_n F dX8_nameHere_99 rfl (by decide) ?_
                refine ex_iinc (w := _ + 1) F dX8_nameHere_100 rfl rfl (by decide) ?_
                rw [nI_1]
                refine ex_goto (t := 51) F dX8_nameHere_103 (by decide) ?_
                refine ex_iload_n F dX8_nameHere_51 rfl rfl ?_
                refine ex_if_eq (t := 106) F dX8_nameHere_52 (by decide) (fun _ => ?_) (fun c => absurd rfl c)
                refine ex_iload_n F dX8_nameHere_106 rfl rfl ?_
                refine ex_if_eq (t := 112) F dX8_nameHere_107 (by decide) (fun _ => ?_) (fun c => absurd rfl c)
                refine ex_iinc (w := _ + 1) F dX8_nameHere_112 rfl rfl (by decide) ?_
                rw [nI_1]
                refine ex_goto (t := 2) F dX8_nameHere_115 (by decide) ?_
                exact ex_weak2 (ih (i + 1) (by omega) (fun j hj z => by
                  by_cases e : j = i
                  · subst e
                    have y := sp_dn hn ln hP hQ (by omega) (by omega) z
                    exact c91 ((rb_eq hY n (P + k) (a := letL (cutL j + k)) (by omega) (by omega)).mpr ((y.2.2 k (by omega)).trans d6))
                  · exact ha j (by omega) z)) ⟨rfl, rfl, trivial⟩
              · refine ex_iconst (v := 1) F dX8_nameHere_94 (by decide) ?_
                refine ex_goto (t := 99) F dX8_nameHere_95 (by decide) ?_
                refine ex_istore_n F dX8_nameHere_99 rfl (by decide) ?_
                refine ex_iinc (w := _ + 1) F dX8_nameHere_100 rfl rfl (by decide) ?_
                rw [nI_1]
                refine ex_goto (t := 51) F dX8_nameHere_103 (by decide) ?_
                exact ex_weak2 (ih2 (k + 1) (by omega) (fun j hj => by
                  by_cases e : j = k
                  · subst e
                    exact ((rb_eq hY n (P + j) (a := letL (cutL i + j)) (by omega) (by omega)).mp c91).trans d6.symm
                  · exact hb2 j (by omega))) ⟨rfl, rfl, rfl, rfl, trivial⟩
          exact ex_weak2 (key2 (Q - P) 0 (by omega) (fun j hj => absurd hj (by omega))) ⟨rfl, rfl, rfl, rfl, trivial⟩
  exact ex_weak2 (key 8 0 (by omega) (fun j hj => absurd hj (by omega))) ⟨rfl, rfl, trivial⟩
