theorem cow_mid {K N N1 M1 : Mem} {n c a : Nat} {v : Int32} (h9 : K 9 4 = nI c) (lc : c < 8) (hw : wch K = 0) (ht : takm K = mu (putD K (wch K) v) 6 3 (nI 1)) : (∀ q, q ≠ 6 → q ≠ 7 → q ≠ 12 → nx K q = K q) ∧ nx K 12 = upd (K 12) c v ∧ ∀ j, j ≠ 3 → nx K 6 j = K 6 j := by
  have p : ∀ q, q ≠ 6 → takm K q = mu K 12 c v q := fun q hq => by rw [ht, mu_k _ _ _ _ _ hq, hw, putD, if_neg (by decide), if_neg (by decide), if_neg (by decide), h9, cl_n (by omega)]
  refine ⟨fun q a b d => by rw [nx_o b, p q a, mu_k _ _ _ _ _ d], by rw [nx_o (by decide), p 12 (by decide)]; simp [mu], fun j hj => by rw [nx_o (by decide), ht, mu_j _ _ _ _ _ hj, putD_6]⟩
theorem cow_mid2 {K : Mem} {c : Nat} {v : Int32} (h9 : K 9 4 = nI c) (lc : c < 8) (hw : wch K = 1) (ht : takm K = mu (putD K (wch K) v) 6 3 (nI 2)) : (∀ q, q ≠ 6 → q ≠ 7 → q ≠ 13 → nx K q = K q) ∧ nx K 13 = upd (K 13) c v ∧ ∀ j, j ≠ 3 → nx K 6 j = K 6 j := by
  have p : ∀ q, q ≠ 6 → takm K q = mu K 13 c v q := fun q hq => by rw [ht, mu_k _ _ _ _ _ hq, hw, putD, if_neg (by decide), if_neg (by decide), if_pos rfl, h9, cl_n (by omega)]
  refine ⟨fun q a b d => by rw [nx_o b, p q a, mu_k _ _ _ _ _ d], by rw [nx_o (by decide), p 13 (by decide)]; simp [mu], fun j hj => by rw [nx_o (by decide), ht, mu_j _ _ _ _ _ hj, putD_6]⟩
theorem wch_of {K : Mem} {L j : Nat} (hL : K 6 2 = nI L) (lL : L < 8) (hj : K 6 3 = nI j) (lj : j < 100) : wch K = FT L + j := by rw [wch, hL, hj, cl_n (by omega), cl_n (by omega)]
theorem tst1 {b : Bool} (h : (if b = true then (1 : Int32) else 0) = 1) : b = true := by
  cases b
  · exact absurd h (by decide)
  · rfl
theorem tst0 {b : Bool} (h : ¬ (if b = true then (1 : Int32) else 0) = 1) : b = false := by
  cases b
  · rfl
  · exact absurd rfl h
def LPr (K M : Mem) (n i c a b : Nat) (N : Mem) (j : Nat) : Prop := frl M N ∧ ∃ K', BR K N ∨ ((∃ m, Rch (m + 1) K K') ∧ NS K K' N n (cmL i) j ∧ DR K' N c (a ||| 2 ^ cmL i) (b ||| 2 ^ i) (eIJ i j) ∧ K' 6 4 = K 6 4)
theorem c_X8_stpR {l : Launch} {g : XG} {K M N : Mem} {n i c a b Q : Nat} (hS : TS K M n) (hD : DR K M c a b false) (h2 : K 6 2 = -1) (h6 : K 6 6 = 0) (h0 : ¬ K 7 2 = 0) (hb : M 38 3 = 0) (hl : lnm K = nI (cmL i)) (i7 : i < 7) (hQ : K 7 4 = nI Q) (lQ : Q ≤ 641) (hs : M 38 5 = nI Q) (hN : (BR K N ∧ frl M N ∧ frs M N) ∨ (N = M ∧ b.testBit i = false)) :
    Call l g YX8_step [.ref (ad g 38)] (mu N 38 22 (nI (b ||| 2 ^ i))) (PV (fun M' => LPr K M n i c a b M' 0)) := by
  rcases hN with ⟨zB, zf, -⟩ | ⟨rfl, zb⟩
  · have zB2 : BR K (mu N 38 22 (nI (b ||| 2 ^ i))) := BR_j zB (mu_j _ _ _ _ _ (by decide)) (mu_j _ _ _ _ _ (by decide))
    refine call_imp (c_X8_stepB (BR_pos zB2)) (fun r M' q => ?_)
    obtain ⟨rfl, rfl⟩ := q
    exact ⟨rfl, frl_tr zf (frl_22 _ _), K, Or.inl zB2⟩
  · obtain ⟨hT, hY, P, Q', hP, hQ', lPQ, lQ9, lP, hh, hTK⟩ := id hS
    have n5 := TK_n5 hTK hb
    obtain ⟨cm1, cm8, cmT, cm12⟩ := cm_t i i7
    obtain ⟨d1, d2, d3, d4, d5, d6, d7, d8, d9, d10, d11, d12, d13⟩ := id hD
    obtain ⟨b2, b3, b6, b4, b5, bo⟩ := bgn_f n5 h2 hl cm8 d2 d1 d11 d9 (fun z => by omega) (fun _ => by rw [d13 i i7]; exact zb)
    have hT2 : RT (takm K) (mu N 38 22 (nI (b ||| 2 ^ i))) n := RT_of (RT_tak hT) (mu_j _ _ _ _ _ (by decide)) (mu_k _ _ _ 39 _ (by decide))
    refine call_imp (c_X8_step hT2 (BY_tak hY) (by rw [mu_j _ _ _ _ _ (by decide)]; exact hb) (s := Q) (by rw [mu_j _ _ _ _ _ (by decide)]; exact hs) (by omega)) (fun r M' q => ?_)
    obtain ⟨rfl, rfl⟩ := q
    have hTS := TS_step hT2 (BY_tak hY) (s := Q) (by rw [takm_7]; exact hQ) lQ
    have fr := frs_stp (takm K) (mu N 38 22 (nI (b ||| 2 ^ i))) n Q
    have ns : ¬ stopK K := fun q => h0 q.1
    have h66 : takm K 6 6 = 0 := by rw [b6]; exact h6
    have no : ∀ q, q ≠ 6 → q ≠ 7 → nx K q = K q := fun q a b => by rw [nx_o b, bo q a]
    refine ⟨rfl, frl_tr (frl_22 _ _) (frl_s fr), nx K, Or.inr ⟨⟨0, Rch_1 ns h66⟩, ⟨⟨1, Rch_1 ns h66⟩, hTS, by rw [nx_o (by decide)]; exact h66, by rw [nx_o (by decide)]; exact b2, by rw [nx_o (by decide)]; exact b3⟩, ?_, by rw [nx_o (by decide)]; exact b4⟩⟩
    have e0 : eIJ i 0 = false := decide_eq_false (fun z => absurd z.2 (by decide))
    rw [e0]
    refine ⟨d1, by rw [no 9 (by decide) (by decide)]; exact d2, by rw [fr.2 21 (by decide), mu_j _ _ _ _ _ (by decide)]; exact d3, ?_, ?_, ?_, ?_, ?_, (bit_t a d9 (cmL i) cm8).2.2, (bit_t b d10 i (by omega)).2.2, by rw [nx_o (by decide)]; exact b5, by rw [fr.2 22 (by decide), mu_same], fun k hk => ?_⟩
    · rw [fr.1 50 (by decide), mu_k _ _ _ 50 _ (by decide), no 12 (by decide) (by decide), no 13 (by decide) (by decide)]; exact d4
    · rw [no 12 (by decide) (by decide), no 13 (by decide) (by decide)]; exact d5
    · rw [no 10 (by decide) (by decide)]; exact d6
    · rw [no 10 (by decide) (by decide), fr.1 49 (by decide), mu_k _ _ _ 49 _ (by decide)]; exact d7
    · rw [no 11 (by decide) (by decide), fr.1 49 (by decide), mu_k _ _ _ 49 _ (by decide)]; exact d8
    · rw [Nat.testBit_or, Nat.testBit_or, d13 k hk, Nat.testBit_two_pow, Nat.testBit_two_pow]
      by_cases e : i = k
      · subst e; simp
      · rw [decide_eq_false e, decide_eq_false (fun z => e (cm_ne i (by omega) k (by omega) z))]
theorem lp_next {K M N M1 K' : Mem} {n i c a b j : Nat} {v lo hi : Int32} (i7 : i < 7) (lj : j < NM (cmL i)) (hf : frl M N) (fr : frs N M1) (hlo : lo = if froL i + j = 8 then N 49 7 else nI (lowL (froL i + j))) (hhi : hi = nI (topL (froL i + j)))
    (hz : (((∃ m, Rch (m + 1) K K') ∧ DR K' N c (a ||| 2 ^ cmL i) (b ||| 2 ^ i) (eIJ i j) ∧ K' 6 4 = K 6 4) ∧ NS K K' N n (cmL i) j ∧ NS K (nx K') M1 n (cmL i) (j + 1) ∧ takm K' = mu (putD K' (wch K') v) 6 3 (nI (j + 1)) ∧ outB v lo hi = false) ∨ BR K M1) : LPr K M n i c a b (mu M1 49 (froL i + j) v) (j + 1) := by
  obtain ⟨cm1, cm8, cmT, cm12⟩ := cm_t i i7
  have l4 := (NM_t (cmL i) cm8).2.2.1
  refine ⟨frl_tr hf (frl_tr (frl_s fr) (frl_49 _ _ _)), nx K', hz.symm.imp (fun z => BR_of z (mu_k _ _ _ 38 _ (by decide))) (fun z => ?_)⟩
  obtain ⟨⟨⟨m, zR⟩, zD, z4⟩, zN, zN2, zt, zo⟩ := z
  have hw : wch K' = FT (cmL i) + j := wch_of zN.2.2.2.1 cm8 zN.2.2.2.2 (by omega)
  have h66 : takm K' 6 6 = 0 := by rw [← nx_o (by decide : (6 : Nat) ≠ 7)]; exact zN2.2.2.1
  refine ⟨⟨m + 1, Rch_S zR (NS_stop zN cm8) h66⟩, NS_of zN2 (fun j _ => by rw [mu_k _ _ _ 38 _ (by decide)]) (mu_k _ _ _ 39 _ (by decide)), dr_up (n := n) i7 lj (by omega) zD fr hw zt zo hlo hhi, ?_⟩
  rw [nx_o (by decide), zt, mu_j _ _ _ _ _ (by decide), putD_6]; exact z4
theorem lp_end {K M N : Mem} {n i c a b : Nat} (i7 : i < 7) (h : LPr K M n i c a b N (NM (cmL i))) : GL K M n N := by
  obtain ⟨cm1, cm8, cmT, cm12⟩ := cm_t i i7
  obtain ⟨hf, K', h⟩ := h
  refine ⟨hf, h.imp (fun z => z) (fun z => ?_)⟩
  obtain ⟨⟨m, zR⟩, zN, zD, z4⟩ := z
  refine ⟨K', cmL i, c, a ||| 2 ^ cmL i, b ||| 2 ^ i, m, zR, zN, cm8, ?_, z4⟩
  have n0 : ¬ K' 6 2 = 0 := by rw [zN.2.2.2.1]; exact nI_ne0 (by omega) (by omega)
  have e0 : eIJ i (NM (cmL i)) = false := decide_eq_false (fun z => by have z1 := z.2; rw [z.1] at z1; exact absurd z1 (by decide))
  rw [e0] at zD
  obtain ⟨f1, f2, f3, f4, f5⟩ := enk_f K'
  refine DR_of zD ?_ (f5 10 (by decide) (by decide)) (f5 11 (by decide) (by decide)) (f5 12 (by decide) (by decide)) (f5 13 (by decide) (by decide)) f4 rfl rfl rfl rfl
  rw [enk, if_neg n0, mu_k _ _ _ 9 _ (by decide), mu_k _ _ _ 9 _ (by decide)]
theorem lp_num {K N K' : Mem} {n i c a b j : Nat} (hK : KM N) (i7 : i < 7) (lj : j < NM (cmL i)) (h : BR K N ∨ ((∃ m, Rch (m + 1) K K') ∧ NS K K' N n (cmL i) j ∧ DR K' N c (a ||| 2 ^ cmL i) (b ||| 2 ^ i) (eIJ i j) ∧ K' 6 4 = K 6 4)) {lo hi : Int32} (hlo : lo = if froL i + j = 8 then N 49 7 else nI (lowL (froL i + j))) (hhi : hi = nI (topL (froL i + j))) :
    (((∃ m, Rch (m + 1) K K') ∧ DR K' N c (a ||| 2 ^ cmL i) (b ||| 2 ^ i) (eIJ i j) ∧ K' 6 4 = K 6 4) ∧ NS K K' N n (cmL i) j ∧ lst K' = lo ∧ (stV 5).getD (wch K') 0 = hi) ∨ BR K N := by
  obtain ⟨cm1, cm8, cmT, cm12⟩ := cm_t i i7
  have l4 := (NM_t (cmL i) cm8).2.2.1
  refine h.symm.imp (fun z => ?_) (fun z => z)
  obtain ⟨zR, zN, zD, z4⟩ := z
  have hw : wch K' = FT (cmL i) + j := wch_of zN.2.2.2.1 cm8 zN.2.2.2.2 (by omega)
  obtain ⟨u1, u2⟩ := cm_u i i7 j (by omega) lj
  obtain ⟨v1, v2, v3, v4⟩ := cm_v i i7 j (by omega) lj
  refine ⟨⟨zR, zD, z4⟩, zN, ?_, by rw [hw, u2, hhi]⟩
  rw [lst, hw, hlo]
  by_cases e : FT (cmL i) + j = 14
  · rw [if_pos e, if_pos (v1.mp e)]
    exact (zD.2.2.2.2.2.2.1 7 (by decide)).symm
  · rw [if_neg e, if_neg (fun z => e (v1.mpr z)), u1]
theorem nam_no {K : Mem} {v : Int32} (h : (lnm K = -1 ∧ v = -4) ∨ ∃ i, i < 8 ∧ v = nI i ∧ lnm K = nI (cmL i)) (c : v = -4) : lnm K = -1 := by
  rcases h with h | ⟨i, hi, e, -⟩
  · exact h.1
  · rw [c] at e; exact absurd e.symm (nI_m4 (by omega))
theorem nam_yes {K : Mem} {v : Int32} (h : (lnm K = -1 ∧ v = -4) ∨ ∃ i, i < 8 ∧ v = nI i ∧ lnm K = nI (cmL i)) (c : ¬ v = -4) : ∃ i, i < 8 ∧ v = nI i ∧ lnm K = nI (cmL i) := by
  rcases h with h | h
  · exact absurd h.2 c
  · exact h
theorem cs_X8_readLine_119 : CSV (xmN YX8_readLine).cls (xmF YX8_readLine) (xmW YX8_readLine) 119 0 YX8_nameHere := ⟨⟨ml_X8_119, ini_X8, cd_X8_nameHere, by decide +kernel, by decide⟩, im_X8_nameHere, se_X8_nameHere⟩
theorem cs_X8_readLine_112 : CSV (xmN YX8_readLine).cls (xmF YX8_readLine) (xmW YX8_readLine) 112 1 YX8_fails := ⟨⟨ml_X8_112, ini_X8, cd_X8_fails, by decide +kernel, by decide⟩, im_X8_fails, se_X8_fails⟩
theorem cs_X8_readLine_116 : CSV (xmN YX8_readLine).cls (xmF YX8_readLine) (xmW YX8_readLine) 116 0 YX8_step := ⟨⟨ml_X8_116, ini_X8, cd_X8_step, by decide +kernel, by decide⟩, im_X8_step, se_X8_step⟩
theorem cs_X8_readLine_126 : CSV (xmN YX8_readLine).cls (xmF YX8_readLine) (xmW YX8_readLine) 126 2 YX8_number := ⟨⟨ml_X8_126, ini_X8, cd_X8_number, by decide +kernel, by decide⟩, im_X8_number, se_X8_number⟩
set_option maxRecDepth 100000 in
theorem c_X8_readLine {l : Launch} {g : XG} {M : Mem} {K : Mem} {n c a b : Nat} (hS : TS K M n) (hK : KM M) (hD : DR K M c a b false) (h2 : K 6 2 = -1) (h6 : K 6 6 = 0) (h0 : ¬ K 7 2 = 0) (hb : M 38 3 = 0) : Call l g YX8_readLine [.ref (ad g 38)] M (PV (fun M' => LN K M n M')) := by
  refine call_of (by decide +kernel) (Nat.le_of_ble_eq_true rfl) (fun x hxl F R => ?_)
  subst hxl
  obtain ⟨hT, hY, P, Q, hP, hQ, lPQ, lQ, lP, hh, hTK⟩ := id hS
  have n5 := TK_n5 hTK hb
  obtain ⟨hs, lPn⟩ := TK_s hTK h0 hb
  have ln := hT.1
  have ns : ¬ stopK K := fun q => h0 q.1
  obtain ⟨d1, d2, d3, d4, d5, d6, d7, d8, d9, d10, d11, d12, d13⟩ := id hD
  have tail : ∀ N, GL K M n N → EX x g (xmL YX8_readLine) N 187 [(0, .ref (ad g 38))] [] := by
    intro N hG
    refine ex_aload_n F dX8_readLine_187 rfl rfl ?_
    refine gf_8_3 F dX8_readLine_188 fl_X8_82 ?_
    refine ex_if_ne (t := 207) F dX8_readLine_191 (by decide) (fun c191 => ?_) (fun c191 => ?_)
    · refine ex_aload_n F dX8_readLine_207 rfl rfl ?_
      refine ex_callVv F (c_X8_stepB (ln_brk hG c191).1) dX8_readLine_208 cs_X8_readLine_116 ob_8 rfl rfl rfl rfl (Nat.le_of_ble_eq_true rfl) (fun M208 h208 => ?_)
      rw [h208]
      exact ex_vret F R dX8_readLine_211 rfl ((ln_brk hG c191).2)
    · refine ex_aload_n F dX8_readLine_194 rfl rfl ?_
      refine gf_8_7 F dX8_readLine_195 fl_X8_91 ?_
      refine ex_iconst (v := 3) F dX8_readLine_198 (by decide) ?_
      refine ex_icmp_eq (t := 207) F dX8_readLine_199 (by decide) (fun c199 => ?_) (fun c199 => ?_)
      · refine ex_aload_n F dX8_readLine_207 rfl rfl ?_
        obtain ⟨Kc, Q9, hT9, hY9, hQ9, lQ9, hs9, fin9⟩ := ln_end hG c191 c199
        refine ex_callVv F (c_X8_step hT9 hY9 c191 hs9 (by omega)) dX8_readLine_208 cs_X8_readLine_116 ob_8 rfl rfl rfl rfl (Nat.le_of_ble_eq_true rfl) (fun M208 h208 => ?_)
        rw [h208]
        exact ex_vret F R dX8_readLine_211 rfl (fin9 _ (frs_stp _ _ _ _) (TS_step hT9 hY9 hQ9 lQ9))
      · refine ex_aload_n F dX8_readLine_202 rfl rfl ?_
        refine ex_iconst (v := 2) F dX8_readLine_203 (by decide) ?_
        refine ex_callVv F (c_X8_fails) dX8_readLine_204 cs_X8_readLine_112 ob_8 rfl rfl rfl rfl (Nat.le_of_ble_eq_true rfl) (fun M204 h204 => ?_)
        rw [h204]
        refine ex_aload_n F dX8_readLine_207 rfl rfl ?_
        refine ex_callVv F (c_X8_stepB (ln_bad hG c191 c199).1) dX8_readLine_208 cs_X8_readLine_116 ob_8 rfl rfl rfl rfl (Nat.le_of_ble_eq_true rfl) (fun M208 h208 => ?_)
        rw [h208]
        exact ex_vret F R dX8_readLine_211 rfl ((ln_bad hG c191 c199).2)
  refine ex_aload_n F dX8_readLine_0 rfl rfl ?_
  refine ex_callVi F (c_X8_nameHere hS hK hb) dX8_readLine_1 cs_X8_readLine_119 ob_8 rfl rfl rfl rfl (Nat.le_of_ble_eq_true rfl) (fun v1 M1 h1 => ?_)
  obtain ⟨q1, hv⟩ := h1
  rw [q1]
  clear q1
  refine ex_istore_n F dX8_readLine_4 rfl (by decide) ?_
  refine ex_iload_n F dX8_readLine_5 rfl rfl ?_
  refine ex_bipush (v := -4) F dX8_readLine_6 (by decide) ?_
  refine ex_icmp_ne (t := 17) F dX8_readLine_8 (by decide) (fun c8 => ?_) (fun c8 => ?_)
  · obtain ⟨i, li, rfl, hl⟩ := nam_yes hv c8
    refine ex_iload_n F dX8_readLine_17 rfl rfl ?_
    refine ex_bipush (v := 7) F dX8_readLine_18 (by decide) ?_
    refine ex_icmp_ne (t := 93) F dX8_readLine_20 (by decide) (fun c20 => ?_) (fun c20 => ?_)
    · have i7 : i < 7 := by
        rcases Nat.lt_or_ge i 7 with z | z
        · exact z
        · exact absurd (by rw [show i = 7 by omega]; rfl) c20
      obtain ⟨cm1, cm8, cmT, cm12⟩ := cm_t i i7
      obtain ⟨-, -, l4, l1, -⟩ := NM_t (cmL i) cm8
      have bb := (bit_t b d10 i (by omega)).1
      have tail110 : ∀ N, ((BR K N ∧ frl M N ∧ frs M N) ∨ (N = M ∧ b.testBit i = false)) → EX x g (xmL YX8_readLine) N 110 [(0, .ref (ad g 38)), (1, .int (nI i))] [] := by
        intro N hN
        have frN : frs M N := hN.elim (fun z => z.2.2) (fun z => by rw [z.1]; exact frs_rf M)
        have e22 : N 38 22 = nI b := by rw [frN.2 22 (by decide)]; exact d12
        refine ex_aload_n F dX8_readLine_110 rfl rfl ?_
        refine ex_dup F dX8_readLine_111 rfl ?_
        refine gf_8_22 F dX8_readLine_112 fl_X8_130 ?_
        rw [e22]
        refine ex_iconst (v := 1) F dX8_readLine_115 (by decide) ?_
        refine ex_iload_n F dX8_readLine_116 rfl rfl ?_
        refine ex_ishl F dX8_readLine_117 ?_
        refine ex_ior F dX8_readLine_118 ?_
        rw [(bit_t b d10 i (by omega)).2.1]
        refine pf_8_22 F dX8_readLine_119 fl_X8_130 ?_
        refine ex_aload_n F dX8_readLine_122 rfl rfl ?_
        refine ex_callVv F (c_X8_stpR (K := K) (M := M) (n := n) (N := N) (i := i) (c := c) (a := a) (b := b) (Q := Q) hS hD h2 h6 h0 hb hl i7 hQ (by omega) hs hN) dX8_readLine_123 cs_X8_readLine_116 ob_8 rfl rfl rfl rfl (Nat.le_of_ble_eq_true rfl) (fun M123 h123 => ?_)
        have hLP0 : LPr K M n i c a b M123 0 := h123
        have hK2 : KM M123 := KM_l hK hLP0.1
        refine ex_aload_n F dX8_readLine_126 rfl rfl ?_
        refine gf_8_11 F dX8_readLine_127 fl_X8_19 ?_
        refine ex_iload_n F dX8_readLine_130 rfl rfl ?_
        refine ex_iald (n := 7) F dX8_readLine_131 (by decide) (vp_in_nI (by omega) (by decide)) (j := i) (nI_clamp (by omega)) ?_
        rw [hK2.fro i i7]
        refine ex_istore_n F dX8_readLine_132 rfl (by decide) ?_
        have key : ∀ (m j : Nat) (N : Mem), j + m = NM (cmL i) → LPr K M n i c a b N j → EX x g (xmL YX8_readLine) N 133 [(0, .ref (ad g 38)), (1, .int (nI i)), (2, .int (nI (froL i + j)))] [] := by
          intro m
          induction m with
          | zero =>
            intro j N hj hLP
            obtain rfl : j = NM (cmL i) := by omega
            have hK3 : KM N := KM_l hK hLP.1
            refine ex_iload_n F dX8_readLine_133 rfl rfl ?_
            refine ex_aload_n F dX8_readLine_134 rfl rfl ?_
            refine gf_8_12 F dX8_readLine_135 fl_X8_22 ?_
            refine ex_iload_n F dX8_readLine_138 rfl rfl ?_
            refine ex_iald (n := 7) F dX8_readLine_139 (by decide) (vp_in_nI (by omega) (by decide)) (j := i) (nI_clamp (by omega)) ?_
            rw [hK3.to i i7]
            refine ex_icmp_gt (t := 187) F dX8_readLine_140 (by decide) (fun _ => ?_) (fun c => absurd (nI_lt (by omega) (by omega)) c)
            exact ex_weak2 (tail _ (lp_end i7 hLP)) ⟨rfl, trivial⟩
          | succ m ih =>
            intro j N hj hLP
            have hK3 : KM N := KM_l hK hLP.1
            obtain ⟨hf, K', hz⟩ := hLP
            have lj : j < NM (cmL i) := by omega
            obtain ⟨v1, v2, v3, v4⟩ := cm_v i i7 j (by omega) lj
            refine ex_iload_n F dX8_readLine_133 rfl rfl ?_
            refine ex_aload_n F dX8_readLine_134 rfl rfl ?_
            refine gf_8_12 F dX8_readLine_135 fl_X8_22 ?_
            refine ex_iload_n F dX8_readLine_138 rfl rfl ?_
            refine ex_iald (n := 7) F dX8_readLine_139 (by decide) (vp_in_nI (by omega) (by decide)) (j := i) (nI_clamp (by omega)) ?_
            rw [hK3.to i i7]
            refine ex_icmp_gt (t := 187) F dX8_readLine_140 (by decide) (fun c => absurd c (nI_nlt (by omega) (by omega))) (fun _ => ?_)
            refine ex_aload_n F dX8_readLine_143 rfl rfl ?_
            refine gf_8_19 F dX8_readLine_144 fl_X8_40 ?_
            refine ex_iload_n F dX8_readLine_147 rfl rfl ?_
            refine ex_aload_n F dX8_readLine_148 rfl rfl ?_
            refine ex_iload_n F dX8_readLine_149 rfl rfl ?_
            refine ex_bipush (v := 8) F dX8_readLine_150 (by decide) ?_
            refine ex_icmp_ne (t := 165) F dX8_readLine_152 (by decide) (fun c152 => ?_) (fun c152 => ?_)
            · refine ex_aload_n F dX8_readLine_165 rfl rfl ?_
              refine gf_8_13 F dX8_readLine_166 fl_X8_25 ?_
              refine ex_iload_n F dX8_readLine_169 rfl rfl ?_
              refine ex_iald (n := 13) F dX8_readLine_170 (by decide) (vp_in_nI (by omega) (by decide)) (j := froL i + j) (nI_clamp (by omega)) ?_
              try rw [hK3.low (froL i + j) (by omega)]
              refine ex_aload_n F dX8_readLine_171 rfl rfl ?_
              refine gf_8_14 F dX8_readLine_172 fl_X8_28 ?_
              refine ex_iload_n F dX8_readLine_175 rfl rfl ?_
              refine ex_iald (n := 13) F dX8_readLine_176 (by decide) (vp_in_nI (by omega) (by decide)) (j := froL i + j) (nI_clamp (by omega)) ?_
              rw [hK3.top (froL i + j) (by omega)]
              refine ex_callVi F (c_X8_numP (lp_num hK3 i7 lj hz (by rw [if_neg (fun z => c152 (by rw [z]; rfl))]) rfl) cm8 lj) dX8_readLine_177 cs_X8_readLine_126 ob_8 rfl rfl rfl rfl (Nat.le_of_ble_eq_true rfl) (fun v177 M177 h177 => ?_)
              obtain ⟨fr177, hz177⟩ := h177
              refine ex_iast (n := 13) F dX8_readLine_180 (by decide) (vp_in_nI (by omega) (by decide)) (j := froL i + j) (nI_clamp (by omega)) ?_
              refine ex_iinc (w := _ + 1) F dX8_readLine_181 rfl rfl (by decide) ?_
              rw [nI_1]
              refine ex_goto (t := 133) F dX8_readLine_184 (by decide) ?_
              exact ex_weak2 (ih (j + 1) _ (by omega) (lp_next i7 lj hf fr177 (by rw [if_neg (fun z => c152 (by rw [z]; rfl))]) rfl hz177)) ⟨rfl, rfl, rfl, trivial⟩
            · refine ex_aload_n F dX8_readLine_155 rfl rfl ?_
              refine gf_8_19 F dX8_readLine_156 fl_X8_40 ?_
              refine ex_bipush (v := 7) F dX8_readLine_159 (by decide) ?_
              refine ex_iald (n := 13) F dX8_readLine_161 (by decide) (vpd (by decide)) (j := 7) (by decide) ?_
              refine ex_goto (t := 171) F dX8_readLine_162 (by decide) ?_
              try rw [hK3.low (froL i + j) (by omega)]
              refine ex_aload_n F dX8_readLine_171 rfl rfl ?_
              refine gf_8_14 F dX8_readLine_172 fl_X8_28 ?_
              refine ex_iload_n F dX8_readLine_175 rfl rfl ?_
              refine ex_iald (n := 13) F dX8_readLine_176 (by decide) (vp_in_nI (by omega) (by decide)) (j := froL i + j) (nI_clamp (by omega)) ?_
              rw [hK3.top (froL i + j) (by omega)]
              refine ex_callVi F (c_X8_numP (lp_num hK3 i7 lj hz (by rw [if_pos (nI_inj (j := 8) (by omega) (by decide) c152)]) rfl) cm8 lj) dX8_readLine_177 cs_X8_readLine_126 ob_8 rfl rfl rfl rfl (Nat.le_of_ble_eq_true rfl) (fun v177 M177 h177 => ?_)
              obtain ⟨fr177, hz177⟩ := h177
              refine ex_iast (n := 13) F dX8_readLine_180 (by decide) (vp_in_nI (by omega) (by decide)) (j := froL i + j) (nI_clamp (by omega)) ?_
              refine ex_iinc (w := _ + 1) F dX8_readLine_181 rfl rfl (by decide) ?_
              rw [nI_1]
              refine ex_goto (t := 133) F dX8_readLine_184 (by decide) ?_
              exact ex_weak2 (ih (j + 1) _ (by omega) (lp_next i7 lj hf fr177 (by rw [if_pos (nI_inj (j := 8) (by omega) (by decide) c152)]) rfl hz177)) ⟨rfl, rfl, rfl, trivial⟩
        exact ex_weak2 (key (NM (cmL i)) 0 _ (by omega) hLP0) ⟨rfl, rfl, rfl, trivial⟩
      refine ex_aload_n F dX8_readLine_93 rfl rfl ?_
      refine gf_8_22 F dX8_readLine_94 fl_X8_130 ?_
      rw [d12]
      refine ex_iload_n F dX8_readLine_97 rfl rfl ?_
      refine ex_ishr F dX8_readLine_98 ?_
      refine ex_iconst (v := 1) F dX8_readLine_99 (by decide) ?_
      refine ex_iand F dX8_readLine_100 ?_
      rw [bb]
      refine ex_iconst (v := 1) F dX8_readLine_101 (by decide) ?_
      refine ex_icmp_ne (t := 110) F dX8_readLine_102 (by decide) (fun c102 => ?_) (fun c102 => ?_)
      · exact ex_weak2 (tail110 M (Or.inr ⟨rfl, tst0 c102⟩)) ⟨rfl, rfl, trivial⟩
      · refine ex_aload_n F dX8_readLine_105 rfl rfl ?_
        refine ex_iconst (v := 4) F dX8_readLine_106 (by decide) ?_
        refine ex_callVv F (c_X8_fails) dX8_readLine_107 cs_X8_readLine_112 ob_8 rfl rfl rfl rfl (Nat.le_of_ble_eq_true rfl) (fun M107 h107 => ?_)
        rw [h107]
        refine ex_weak2 (tail110 _ (Or.inl ⟨⟨0, K, rfl, ns, ?_⟩, frl_s (frs_fls M 4), frs_fls M 4⟩)) ⟨rfl, rfl, trivial⟩
        rw [bgn_twice n5 h2 hl cm8 cm1 d11 d9 (by rw [d13 i i7]; exact tst1 c102)]
        exact BK_fls hP hh hb (by decide)
    · obtain rfl : i = 7 := nI_inj (j := 7) (by omega) (by decide) c20
      have hl0 : lnm K = nI 0 := hl
      refine ex_aload_n F dX8_readLine_23 rfl rfl ?_
      refine gf_8_21 F dX8_readLine_24 fl_X8_123 ?_
      refine ex_bipush (v := 8) F dX8_readLine_27 (by decide) ?_
      rw [d3]
      refine ex_icmp_ne (t := 38) F dX8_readLine_29 (by decide) (fun c29 => ?_) (fun c29 => ?_)
      · have lc : c < 8 := by
          rcases Nat.lt_or_ge c 8 with z | z
          · exact z
          · exact absurd (by rw [show c = 8 by omega]; rfl) c29
        obtain ⟨b2, b3, b6, b4, b5, bo⟩ := bgn_f n5 h2 hl0 (by decide) d2 d1 d11 d9 (fun _ => lc) (fun z => absurd z (by decide))
        refine ex_aload_n F dX8_readLine_38 rfl rfl ?_
        refine ex_callVv F (c_X8_stp2 (N := M) (K0 := K) (Kc := takm K) (n := n) (Q := Q) (Or.inr ⟨RT_tak hT, BY_tak hY, by rw [takm_7]; exact hQ, by omega, hs, hb⟩)) dX8_readLine_39 cs_X8_readLine_116 ob_8 rfl rfl rfl rfl (Nat.le_of_ble_eq_true rfl) (fun M39 h39 => ?_)
        obtain ⟨fr39, h39b⟩ := h39
        have fr1 := fr39
        have e21 : M39 38 21 = nI c := by rw [fr1.2 21 (by decide)]; exact d3
        refine ex_aload_n F dX8_readLine_42 rfl rfl ?_
        refine gf_8_20 F dX8_readLine_43 fl_X8_43 ?_
        refine ex_iconst (v := 2) F dX8_readLine_46 (by decide) ?_
        refine ex_aload_n F dX8_readLine_47 rfl rfl ?_
        refine gf_8_21 F dX8_readLine_48 fl_X8_123 ?_
        rw [e21]
        refine ex_imul F dX8_readLine_51 ?_
        rw [mul2_t c (by omega)]
        refine ex_aload_n F dX8_readLine_52 rfl rfl ?_
        refine ex_iconst (v := 1) F dX8_readLine_53 (by decide) ?_
        refine ex_bipush (v := 50) F dX8_readLine_54 (by decide) ?_
        have h39n : (True ∧ NS K (nx K) M39 n 0 0 ∧ lst (nx K) = 1 ∧ (stV 5).getD (wch (nx K)) 0 = 50) ∨ BR K M39 := by
          refine h39b.symm.imp (fun z => ?_) (fun z => z)
          have x2 : nx K 6 2 = nI 0 := by rw [nx_o (by decide)]; exact b2
          have x3 : nx K 6 3 = nI 0 := by rw [nx_o (by decide)]; exact b3
          have hw : wch (nx K) = 0 := (wch_of x2 (by decide) x3 (by decide)).trans (by decide +kernel)
          exact ⟨trivial, ⟨⟨1, Rch_1 ns (by rw [b6]; exact h6)⟩, z, by rw [nx_o (by decide), b6]; exact h6, x2, x3⟩, by rw [lst, hw]; rfl, by rw [hw]; rfl⟩
        refine ex_callVi F (c_X8_numP (K0 := K) (K := nx K) (n := n) (L := 0) (j := 0) (lo := 1) (hi := 50) (Pf := True) h39n (by decide) (by decide)) dX8_readLine_56 cs_X8_readLine_126 ob_8 rfl rfl rfl rfl (Nat.le_of_ble_eq_true rfl) (fun v56 M56 h56 => ?_)
        skip
        obtain ⟨fr56, hz56⟩ := h56
        refine ex_iast (n := 16) F dX8_readLine_59 (by decide) (vp_in_nI (by omega) (by decide)) (j := 2 * c) (nI_clamp (by omega)) ?_
        have e21b : mu M56 50 (2 * c) v56 38 21 = nI c := by rw [mu_k _ _ _ 38 _ (by decide), fr56.2 21 (by decide)]; exact e21
        refine ex_aload_n F dX8_readLine_60 rfl rfl ?_
        refine gf_8_20 F dX8_readLine_61 fl_X8_43 ?_
        refine ex_iconst (v := 2) F dX8_readLine_64 (by decide) ?_
        refine ex_aload_n F dX8_readLine_65 rfl rfl ?_
        refine gf_8_21 F dX8_readLine_66 fl_X8_123 ?_
        rw [e21b]
        refine ex_imul F dX8_readLine_69 ?_
        rw [mul2_t c (by omega)]
        refine ex_iconst (v := 1) F dX8_readLine_70 (by decide) ?_
        refine ex_iadd F dX8_readLine_71 ?_
        rw [nI_1]
        refine ex_aload_n F dX8_readLine_72 rfl rfl ?_
        refine ex_iconst (v := 0) F dX8_readLine_73 (by decide) ?_
        refine ex_bipush (v := 100) F dX8_readLine_74 (by decide) ?_
        have h56n : ((takm (nx K) = mu (putD (nx K) (wch (nx K)) v56) 6 3 (nI 1) ∧ outB v56 1 50 = false ∧ nx K 6 2 = nI 0 ∧ wch (nx K) = 0) ∧ NS K (nx (nx K)) (mu M56 50 (2 * c) v56) n 0 1 ∧ lst (nx (nx K)) = 0 ∧ (stV 5).getD (wch (nx (nx K))) 0 = 100) ∨ BR K (mu M56 50 (2 * c) v56) := by
          refine hz56.imp (fun z => ?_) (fun z => BR_of z (mu_k _ _ _ 38 _ (by decide)))
          obtain ⟨-, zN, zN2, zt, zo⟩ := z
          have hw : wch (nx (nx K)) = 1 := (wch_of zN2.2.2.2.1 (by decide) zN2.2.2.2.2 (by decide)).trans (by decide +kernel)
          exact ⟨⟨zt, zo, zN.2.2.2.1, (wch_of zN.2.2.2.1 (by decide) zN.2.2.2.2 (by decide)).trans (by decide +kernel)⟩, NS_of zN2 (fun j _ => by rw [mu_k _ _ _ 38 _ (by decide)]) (mu_k _ _ _ 39 _ (by decide)), by rw [lst, hw]; rfl, by rw [hw]; rfl⟩
        refine ex_callVi F (c_X8_numP (K0 := K) (K := nx (nx K)) (n := n) (L := 0) (j := 1) (lo := 0) (hi := 100) h56n (by decide) (by decide)) dX8_readLine_76 cs_X8_readLine_126 ob_8 rfl rfl rfl rfl (Nat.le_of_ble_eq_true rfl) (fun v76 M76 h76 => ?_)
        skip
        obtain ⟨fr76, hz76⟩ := h76
        refine ex_iast (n := 16) F dX8_readLine_79 (by decide) (vp_in_nI (by omega) (by decide)) (j := 2 * c + 1) (nI_clamp (by omega)) ?_
        refine ex_aload_n F dX8_readLine_80 rfl rfl ?_
        refine ex_dup F dX8_readLine_81 rfl ?_
        refine gf_8_21 F dX8_readLine_82 fl_X8_123 ?_
        rw [mu_k _ _ _ 38 _ (by decide), fr76.2 21 (by decide), e21b]
        refine ex_iconst (v := 1) F dX8_readLine_85 (by decide) ?_
        refine ex_iadd F dX8_readLine_86 ?_
        rw [nI_1]
        refine pf_8_21 F dX8_readLine_87 fl_X8_123 ?_
        refine ex_goto (t := 187) F dX8_readLine_90 (by decide) ?_
        refine ex_weak2 (tail _ ?_) ⟨rfl, trivial⟩
        have f1 : frl M M39 := frl_s fr1
        have f2 : frl M39 (mu M56 50 (2 * c) v56) := frl_tr (frl_s fr56) (frl_50 _ _ _)
        have f3 : frl (mu M56 50 (2 * c) v56) (mu (mu M76 50 (2 * c + 1) v76) 38 21 (nI (c + 1))) := frl_tr (frl_tr (frl_s fr76) (frl_50 _ _ _)) (frl_21 _ _)
        refine ⟨frl_tr (frl_tr f1 f2) f3, ?_⟩
        refine hz76.symm.imp (fun z => ?_) (fun z => ?_)
        · refine BR_j z ?_ ?_
          · rw [mu_j _ _ _ _ _ (by decide), mu_k _ _ _ 38 _ (by decide)]
          · rw [mu_j _ _ _ _ _ (by decide), mu_k _ _ _ 38 _ (by decide)]
        · obtain ⟨⟨t0, o0, l0, w0⟩, yN, yN2, t1, o1⟩ := z
          have k94 : nx K 9 4 = nI c := by rw [nx_o (by decide), bo 9 (by decide)]; exact d2
          obtain ⟨m1, m2, m3⟩ := cow_mid (N := M) (N1 := M) (M1 := M) (n := 0) (a := 0) k94 lc w0 t0
          have w1 : wch (nx (nx K)) = 1 := (wch_of yN.2.2.2.1 (by decide) yN.2.2.2.2 (by decide)).trans (by decide +kernel)
          have k94b : nx (nx K) 9 4 = nI c := by rw [m1 9 (by decide) (by decide) (by decide)]; exact k94
          obtain ⟨p1, p2, p3⟩ := cow_mid2 k94b lc w1 t1
          have s1 : ¬ stopK (nx K) := fun q => absurd (l0.symm.trans q.2) (by decide)
          have r0 : takm (nx K) 6 6 = 0 := by rw [← nx_o (by decide : (6 : Nat) ≠ 7)]; exact yN.2.2.1
          have r1 : takm (nx (nx K)) 6 6 = 0 := by rw [← nx_o (by decide : (6 : Nat) ≠ 7)]; exact yN2.2.2.1
          have ne : ∀ q, q ≠ 6 → q ≠ 7 → q ≠ 12 → q ≠ 13 → nx (nx (nx K)) q = K q := fun q a1 a2 a3 a4 => by rw [p1 q a1 a2 a4, m1 q a1 a2 a3, nx_o a2, bo q a1]
          refine ⟨nx (nx (nx K)), 0, c + 1, a ||| 2 ^ 0, b, 2, ?_, ?_, by decide, ?_, ?_⟩
          · exact Rch_S (Rch_S (Rch_1 ns (by rw [b6]; exact h6)) s1 r0) (NS_stop yN (by decide)) r1
          · rw [show NM 0 = 1 + 1 by decide +kernel]; exact NS_of yN2 (fun j hj => by rw [mu_j _ _ _ _ _ (by omega), mu_k _ _ _ 38 _ (by decide)]) (by rw [mu_k _ _ _ 39 _ (by decide), mu_k _ _ _ 39 _ (by decide)])
          · refine cow_gl (v0 := v56) (v1 := v76) hD lc (fun q => ?_) ?_ (mu_same _ _ _ _) ?_ ?_ (ne 10 (by decide) (by decide) (by decide) (by decide)) (ne 11 (by decide) (by decide) (by decide) (by decide)) ?_ ?_ ?_ ?_ o0 o1
            · rw [mu_k _ _ _ 50 _ (by decide)]
              by_cases e1 : q = 2 * c + 1
              · subst e1; rw [mu_same, if_pos rfl]
              · rw [mu_j _ _ _ _ _ e1, if_neg e1, fr76.1 50 (by decide)]
                by_cases e2 : q = 2 * c
                · subst e2; rw [mu_same, if_pos rfl]
                · rw [mu_j _ _ _ _ _ e2, if_neg e2, fr56.1 50 (by decide), fr1.1 50 (by decide)]
            · rw [mu_k _ _ _ 49 _ (by decide), mu_k _ _ _ 49 _ (by decide), fr76.1 49 (by decide), mu_k _ _ _ 49 _ (by decide), fr56.1 49 (by decide), fr1.1 49 (by decide)]
            · rw [mu_j _ _ _ _ _ (by decide), mu_k _ _ _ 38 _ (by decide), fr76.2 22 (by decide), mu_k _ _ _ 38 _ (by decide), fr56.2 22 (by decide), fr1.2 22 (by decide)]
            · rw [p1 9 (by decide) (by decide) (by decide)]; exact k94b
            · rw [p1 12 (by decide) (by decide) (by decide), m2, nx_o (by decide), bo 12 (by decide)]
            · rw [p2, m1 13 (by decide) (by decide) (by decide), nx_o (by decide), bo 13 (by decide)]
            · rw [p3 5 (by decide), m3 5 (by decide), nx_o (by decide)]; exact b5
            · rw [p3 2 (by decide), m3 2 (by decide), nx_o (by decide)]; exact b2
          · rw [p3 4 (by decide), m3 4 (by decide), nx_o (by decide)]; exact b4
      · refine ex_aload_n F dX8_readLine_32 rfl rfl ?_
        refine ex_iconst (v := 5) F dX8_readLine_33 (by decide) ?_
        refine ex_callVv F (c_X8_fails) dX8_readLine_34 cs_X8_readLine_112 ob_8 rfl rfl rfl rfl (Nat.le_of_ble_eq_true rfl) (fun M34 h34 => ?_)
        rw [h34]
        exact ex_vret F R dX8_readLine_37 rfl (⟨frl_s (frs_fls _ _), Or.inl ⟨0, K, rfl, ns, by rw [bgn_full n5 h2 hl0 (by rw [d2]; exact c29)]; exact BK_fls hP hh hb (by decide)⟩⟩)
  · refine ex_aload_n F dX8_readLine_11 rfl rfl ?_
    refine ex_iconst (v := 2) F dX8_readLine_12 (by decide) ?_
    refine ex_callVv F (c_X8_fails) dX8_readLine_13 cs_X8_readLine_112 ob_8 rfl rfl rfl rfl (Nat.le_of_ble_eq_true rfl) (fun M13 h13 => ?_)
    rw [h13]
    exact ex_vret F R dX8_readLine_16 rfl (⟨frl_s (frs_fls _ _), Or.inl ⟨0, K, rfl, ns, by rw [bgn_none n5 h2 (nam_no hv c8)]; exact BK_fls hP hh hb (by decide)⟩⟩)
