def cutL (j : Nat) : Nat := ([0, 5, 9, 13, 18, 22, 26, 31, 34] : List Nat).getD j 0
def letL (j : Nat) : Nat := ([99,104,117,114,110,115,111,102,116,98,101,97,116,103,114,97,105,110,104,101,97,116,103,111,111,100,100,114,111,112,115,99,111,119] : List Nat).getD j 0
def froL (j : Nat) : Nat := ([0, 1, 3, 5, 6, 7, 9] : List Nat).getD j 0
def toL (j : Nat) : Nat := ([0, 2, 4, 5, 6, 8, 12] : List Nat).getD j 0
def lowL (j : Nat) : Nat := ([10, 0, 1, 0, 0, 3, 1, 0, 0, 0, 0, 0, 0] : List Nat).getD j 0
def topL (j : Nat) : Nat := ([400, 400, 99, 50, 99, 6, 99, 100, 100, 99, 99, 99, 99] : List Nat).getD j 0
def plaL (j : Nat) : Nat := ([100, 130, 10, 10, 20, 4, 10, 20, 80, 64, 16, 4, 0] : List Nat).getD j 0
def cmL (j : Nat) : Nat := ([2, 3, 4, 5, 6, 7, 1, 0] : List Nat).getD j 0
def KM (M : Mem) : Prop := (∀ j, j < 9 → M 40 j = nI (cutL j)) ∧ (∀ j, j < 34 → M 41 j = nI (letL j)) ∧ (∀ j, j < 7 → M 42 j = nI (froL j)) ∧ (∀ j, j < 7 → M 43 j = nI (toL j)) ∧ (∀ j, j < 13 → M 44 j = nI (lowL j)) ∧ (∀ j, j < 13 → M 45 j = nI (topL j)) ∧ ∀ j, j < 13 → M 46 j = nI (plaL j)
theorem KM.cut {M : Mem} (h : KM M) : ∀ j, j < 9 → M 40 j = nI (cutL j) := h.1
theorem KM.let {M : Mem} (h : KM M) : ∀ j, j < 34 → M 41 j = nI (letL j) := h.2.1
theorem KM.fro {M : Mem} (h : KM M) : ∀ j, j < 7 → M 42 j = nI (froL j) := h.2.2.1
theorem KM.to {M : Mem} (h : KM M) : ∀ j, j < 7 → M 43 j = nI (toL j) := h.2.2.2.1
theorem KM.low {M : Mem} (h : KM M) : ∀ j, j < 13 → M 44 j = nI (lowL j) := h.2.2.2.2.1
theorem KM.top {M : Mem} (h : KM M) : ∀ j, j < 13 → M 45 j = nI (topL j) := h.2.2.2.2.2.1
theorem KM.pla {M : Mem} (h : KM M) : ∀ j, j < 13 → M 46 j = nI (plaL j) := h.2.2.2.2.2.2
theorem KM_of {M M' : Mem} (h : KM M) (hf : ∀ q, 40 ≤ q → q ≤ 46 → M' q = M q) : KM M' := by
  unfold KM
  rw [hf 40 (by decide) (by decide), hf 41 (by decide) (by decide), hf 42 (by decide) (by decide), hf 43 (by decide) (by decide), hf 44 (by decide) (by decide), hf 45 (by decide) (by decide), hf 46 (by decide) (by decide)]
  exact h
theorem cut_t : ∀ i, i < 8 → cutL (i + 1) - cutL i = strLen.getD (cmL i) 0 ∧ cutL i ≤ cutL (i + 1) ∧ cutL (i + 1) ≤ 34 ∧ cmL i < 8 ∧ ∀ k, k < 5 → k < strLen.getD (cmL i) 0 → (strT (cmL i)).getD k 0 = nI (letL (cutL i + k)) ∧ 97 ≤ letL (cutL i + k) ∧ letL (cutL i + k) ≤ 122 ∧ cutL i + k < cutL (i + 1) := by decide +kernel
theorem cm_in : ∀ a, a < 8 → ∃ i, i < 8 ∧ cmL i = a := by decide +kernel
theorem spl_dist : ∀ i, i < 8 → ∀ j, j < 8 → i ≠ j → (¬ strLen.getD i 0 = strLen.getD j 0) ∨ ∃ k, k < 5 ∧ k < strLen.getD i 0 ∧ ¬ (strT i).getD k 0 = (strT j).getD k 0 := by decide +kernel
theorem sp_uniq {K : Mem} {i j : Nat} (hi : i < 8) (hj : j < 8) (h1 : spK K i = true) (h2 : spK K j = true) : i = j := by
  refine Classical.not_not.mp (fun ne => ?_)
  obtain ⟨-, a1, b1⟩ := of_decide_eq_true h1
  obtain ⟨-, a2, b2⟩ := of_decide_eq_true h2
  rcases spl_dist i hi j hj ne with q | ⟨k, -, k1, q⟩
  · exact q (a1.symm.trans a2)
  · exact q ((b1 k k1).symm.trans (b2 k (by rw [← a2, a1]; exact k1)))
theorem sp_not {K : Mem} {i j : Nat} (hi : i < 8) (hj : j < 8) (h1 : spK K i = true) (ne : i ≠ j) : ¬ spK K j = true := fun h2 => ne (sp_uniq hi hj h1 h2)
theorem lnm_of {K : Mem} {i : Nat} (hi : i < 8) (h : spK K i = true) : lnm K = nI i := by
  match i, hi, h with
  | 0, hi, h => rw [lnm, if_pos h]; rfl
  | 1, hi, h => rw [lnm, if_neg (sp_not hi (by decide) h (by decide)), if_pos h]; rfl
  | 2, hi, h => rw [lnm, if_neg (sp_not hi (by decide) h (by decide)), if_neg (sp_not hi (by decide) h (by decide)), if_pos h]; rfl
  | 3, hi, h => rw [lnm, if_neg (sp_not hi (by decide) h (by decide)), if_neg (sp_not hi (by decide) h (by decide)), if_neg (sp_not hi (by decide) h (by decide)), if_pos h]; rfl
  | 4, hi, h => rw [lnm, if_neg (sp_not hi (by decide) h (by decide)), if_neg (sp_not hi (by decide) h (by decide)), if_neg (sp_not hi (by decide) h (by decide)), if_neg (sp_not hi (by decide) h (by decide)), if_pos h]; rfl
  | 5, hi, h => rw [lnm, if_neg (sp_not hi (by decide) h (by decide)), if_neg (sp_not hi (by decide) h (by decide)), if_neg (sp_not hi (by decide) h (by decide)), if_neg (sp_not hi (by decide) h (by decide)), if_neg (sp_not hi (by decide) h (by decide)), if_pos h]; rfl
  | 6, hi, h => rw [lnm, if_neg (sp_not hi (by decide) h (by decide)), if_neg (sp_not hi (by decide) h (by decide)), if_neg (sp_not hi (by decide) h (by decide)), if_neg (sp_not hi (by decide) h (by decide)), if_neg (sp_not hi (by decide) h (by decide)), if_neg (sp_not hi (by decide) h (by decide)), if_pos h]; rfl
  | 7, hi, h => rw [lnm, if_neg (sp_not hi (by decide) h (by decide)), if_neg (sp_not hi (by decide) h (by decide)), if_neg (sp_not hi (by decide) h (by decide)), if_neg (sp_not hi (by decide) h (by decide)), if_neg (sp_not hi (by decide) h (by decide)), if_neg (sp_not hi (by decide) h (by decide)), if_neg (sp_not hi (by decide) h (by decide)), if_pos h]; rfl
  | n + 8, hi, _ => omega
theorem lnm_no {K : Mem} (h : ∀ j, j < 8 → ¬ spK K (cmL j) = true) : lnm K = -1 := by
  have g : ∀ a, a < 8 → ¬ spK K a = true := fun a ha => by
    obtain ⟨i, hi, e⟩ := cm_in a ha
    rw [← e]; exact h i hi
  rw [lnm, if_neg (g 0 (by decide)), if_neg (g 1 (by decide)), if_neg (g 2 (by decide)), if_neg (g 3 (by decide)), if_neg (g 4 (by decide)), if_neg (g 5 (by decide)), if_neg (g 6 (by decide)), if_neg (g 7 (by decide))]
-- the token in both
def TK (K M : Mem) (n P Q : Nat) : Prop := (K 7 2 = 0 ∧ M 38 7 = 0 ∧ M 38 3 = 0) ∨ (P < n ∧ ((K 7 2 = 2 ∧ M 38 7 = 1 ∧ M 38 5 = nI Q ∧ M 38 3 = 0) ∨ (K 7 2 = 3 ∧ M 38 7 = 2 ∧ M 38 5 = nI Q ∧ M 38 3 = 0 ∧ M 38 8 = K 7 5) ∨ (K 7 2 = 4 ∧ M 38 7 = 3 ∧ M 38 5 = nI Q ∧ M 38 3 = 0) ∨ (K 7 2 = 5 ∧ M 38 3 = 1 ∧ M 38 4 = nI P)))
def TS (K M : Mem) (n : Nat) : Prop := RT K M n ∧ BY K ∧ ∃ P Q : Nat, K 7 3 = nI P ∧ K 7 4 = nI Q ∧ P < Q ∧ Q ≤ P + 321 ∧ P ≤ 1000 ∧ M 38 6 = nI P ∧ TK K M n P Q
theorem TS_step {K M : Mem} {n s : Nat} (hT : RT K M n) (hY : BY K) (hs : K 7 4 = nI s) (ls : s ≤ 641) : TS (advM K) (stp K M n s) n := by
  have hn := hT.2.1
  have ln := hT.1
  have bP := tkP_b K n s
  have bQ := tkQ_b K n s
  have nP := tkP_not1 (K := K) (s := s) hT.1
  rw [← adv_of hn ln hs (by omega)]
  have e2 : advm K n s 7 2 = tkK K n s := rfl
  have e5 : advm K n s 7 5 = tkN K n s := rfl
  have hR : ∀ b, RT (advm K n s) (stpM K M n s b) n := fun b => hT
  refine ⟨?_, hY, tkP K n s, tkQ K n s, rfl, rfl, by omega, by omega, by omega, ?_, ?_⟩
  · unfold stp; split <;> exact hT
  · unfold stp; split <;> rfl
  · rw [TK, e2, e5]
    by_cases h0 : kd K n (tkP K n s) = 0
    · have w0 : ¬ ((kd K n (tkP K n s) = 3 ∧ 3 < tkQ K n s - tkP K n s) ∨ kd K n (tkP K n s) = 5) := by rw [h0]; rintro (⟨q, -⟩ | q) <;> exact absurd q (by decide)
      rw [stp, if_neg w0, tkK, if_neg (fun q => w0 (Or.inl q)), h0]
      refine Or.inl ⟨rfl, ?_, rfl⟩
      show tkC (kd K n (tkP K n s)) = 0
      rw [h0]; rfl
    · refine Or.inr ⟨lt_n h0, ?_⟩
      have e38 : ∀ b, stpM K M n s b 38 5 = nI (tkQ K n s) := fun b => by
        show nI (if kd K n (tkP K n s) = 0 then tkP K n s else tkQ K n s) = _
        rw [if_neg h0]
      have t38 : ∀ b, stpM K M n s b 38 7 = tkC (kd K n (tkP K n s)) := fun b => rfl
      by_cases w0 : (kd K n (tkP K n s) = 3 ∧ 3 < tkQ K n s - tkP K n s) ∨ kd K n (tkP K n s) = 5
      · rw [stp, if_pos w0]
        refine Or.inr (Or.inr (Or.inr ⟨?_, rfl, rfl⟩))
        rw [tkK]
        by_cases z : kd K n (tkP K n s) = 3 ∧ 3 < tkQ K n s - tkP K n s
        · rw [if_pos z]
        · rw [if_neg z]
          exact w0.elim (fun q => absurd q z) (fun q => q)
      · rw [stp, if_neg w0, tkK, if_neg (fun q => w0 (Or.inl q)), e38, t38]
        rcases kd_v K n (tkP K n s) with q | q | q | q | q | q
        · exact absurd q h0
        · exact absurd q nP
        · rw [q]; exact Or.inr (Or.inr (Or.inl ⟨rfl, rfl, rfl, rfl⟩))
        · rw [q]; exact Or.inl ⟨rfl, rfl, rfl, rfl⟩
        · refine Or.inr (Or.inl ⟨q, by rw [q]; rfl, rfl, rfl, ?_⟩)
          have l3 : tkQ K n s - tkP K n s ≤ 3 := Nat.not_lt.mp (fun z => w0 (Or.inl ⟨q, z⟩))
          show (if kd K n (tkP K n s) = 3 then nmb (tb K n) (min 3 (tkQ K n s - tkP K n s)) (tkP K n s) 0 else 0) = tkN K n s
          rw [if_pos q, tkN, if_pos ⟨q, by omega⟩, Nat.min_eq_right l3]
        · exact absurd (Or.inr q) w0
def frs (M M' : Mem) : Prop := (∀ q, q ≠ 38 → M' q = M q) ∧ ∀ j, (j < 3 ∨ 8 < j) → M' 38 j = M 38 j
theorem frs_rf (M : Mem) : frs M M := ⟨fun _ _ => rfl, fun _ _ => rfl⟩
theorem frs_tr {M M1 M2 : Mem} (h1 : frs M M1) (h2 : frs M1 M2) : frs M M2 := ⟨fun q a => (h2.1 q a).trans (h1.1 q a), fun j a => (h2.2 j a).trans (h1.2 j a)⟩
theorem frs_rkm (M : Mem) (b a s h t v : Int32) : frs M (rkm M b a s h t v) := ⟨fun q e => rkm_o M b a s h t v e, fun j e => rkm_j M b a s h t v e⟩
theorem frs_stp (K M : Mem) (n s : Nat) : frs M (stp K M n s) := by unfold stp; split <;> exact frs_rkm _ _ _ _ _ _ _
theorem frs_fls (M : Mem) (v : Int32) : frs M (fls M v) := by
  unfold fls
  split
  · exact ⟨fun q e => by rw [mu_k _ _ _ _ _ e, mu_k _ _ _ _ _ e], fun j e => by rw [mu_j _ _ _ _ _ (by omega), mu_j _ _ _ _ _ (by omega)]⟩
  · exact frs_rf M
theorem fls_3 {M : Mem} {v : Int32} (h : M 38 3 = 0) : fls M v 38 3 = v := by rw [fls, if_pos h, mu_j _ _ _ _ _ (by decide), mu_same]
theorem fls_4 {M : Mem} {v : Int32} (h : M 38 3 = 0) : fls M v 38 4 = M 38 6 := by rw [fls, if_pos h, mu_same]
theorem fls_n {M : Mem} {v : Int32} (h : ¬ M 38 3 = 0) : fls M v = M := by rw [fls, if_neg h]
theorem cs_X8_number_112 : CSV (xmN YX8_number).cls (xmF YX8_number) (xmW YX8_number) 112 1 YX8_fails := ⟨⟨ml_X8_112, ini_X8, cd_X8_fails, by decide +kernel, by decide⟩, im_X8_fails, se_X8_fails⟩
theorem cs_X8_number_78 : CSS (xmN YX8_number).cls (xmF YX8_number) (xmW YX8_number) 78 3 YX8_in := ⟨⟨ml_X8_78, ini_X8, cd_X8_in, by decide +kernel, by decide⟩, st_X8_in⟩
theorem cs_X8_number_116 : CSV (xmN YX8_number).cls (xmF YX8_number) (xmW YX8_number) 116 0 YX8_step := ⟨⟨ml_X8_116, ini_X8, cd_X8_step, by decide +kernel, by decide⟩, im_X8_step, se_X8_step⟩
set_option maxRecDepth 100000 in
theorem c_X8_numB {l : Launch} {g : XG} {M : Mem} {lo hi : Int32} (hb : 0 < M 38 3) : Call l g YX8_number [.ref (ad g 38), .int lo, .int hi] M (PI (fun _ M' => M' = M)) := by
  refine call_of (by decide +kernel) (Nat.le_of_ble_eq_true rfl) (fun x hxl F R => ?_)
  subst hxl
  have hb0 : ¬ M 38 3 = 0 := fun q => by rw [q] at hb; exact absurd hb (by decide)
  refine ex_aload_n F dX8_number_0 rfl rfl ?_
  refine gf_8_3 F dX8_number_1 fl_X8_82 ?_
  refine ex_if_ne (t := 20) F dX8_number_4 (by decide) (fun _ => ?_) (fun c => absurd c hb0)
  refine ex_aload_n F dX8_number_20 rfl rfl ?_
  refine gf_8_3 F dX8_number_21 fl_X8_82 ?_
  refine ex_if_ne (t := 47) F dX8_number_24 (by decide) (fun _ => ?_) (fun c => absurd c hb0)
  refine ex_aload_n F dX8_number_47 rfl rfl ?_
  refine gf_8_3 F dX8_number_48 fl_X8_82 ?_
  refine ex_if_ne (t := 61) F dX8_number_51 (by decide) (fun _ => ?_) (fun c => absurd c hb0)
  refine ex_iload_n F dX8_number_61 rfl rfl ?_
  refine ex_istore_n F dX8_number_62 rfl (by decide) ?_
  refine ex_aload_n F dX8_number_63 rfl rfl ?_
  refine ex_callVv F (c_X8_stepB hb) dX8_number_64 cs_X8_number_116 ob_8 rfl rfl rfl rfl (Nat.le_of_ble_eq_true rfl) (fun M64 h64 => ?_)
  rw [h64]
  refine ex_iload_n F dX8_number_67 rfl rfl ?_
  exact ex_iret F R dX8_number_68 rfl (rfl)
set_option maxRecDepth 100000 in
theorem c_X8_numT {l : Launch} {g : XG} {M : Mem} {lo hi : Int32} (hb : M 38 3 = 0) (ht : ¬ M 38 7 = 2) : Call l g YX8_number [.ref (ad g 38), .int lo, .int hi] M (PI (fun _ M' => M' = fls M 2)) := by
  refine call_of (by decide +kernel) (Nat.le_of_ble_eq_true rfl) (fun x hxl F R => ?_)
  subst hxl
  refine ex_aload_n F dX8_number_0 rfl rfl ?_
  refine gf_8_3 F dX8_number_1 fl_X8_82 ?_
  refine ex_if_ne (t := 20) F dX8_number_4 (by decide) (fun c => absurd c (fun q => q hb)) (fun _ => ?_)
  refine ex_aload_n F dX8_number_7 rfl rfl ?_
  refine gf_8_7 F dX8_number_8 fl_X8_91 ?_
  refine ex_iconst (v := 2) F dX8_number_11 (by decide) ?_
  refine ex_icmp_eq (t := 20) F dX8_number_12 (by decide) (fun c => absurd c ht) (fun _ => ?_)
  refine ex_aload_n F dX8_number_15 rfl rfl ?_
  refine ex_iconst (v := 2) F dX8_number_16 (by decide) ?_
  refine ex_callVv F (c_X8_fails) dX8_number_17 cs_X8_number_112 ob_8 rfl rfl rfl rfl (Nat.le_of_ble_eq_true rfl) (fun M17 h17 => ?_)
  rw [h17]
  refine ex_aload_n F dX8_number_20 rfl rfl ?_
  refine gf_8_3 F dX8_number_21 fl_X8_82 ?_
  refine ex_if_ne (t := 47) F dX8_number_24 (by decide) (fun _ => ?_) (fun c => absurd c (by rw [fls_3 hb]; decide))
  refine ex_aload_n F dX8_number_47 rfl rfl ?_
  refine gf_8_3 F dX8_number_48 fl_X8_82 ?_
  refine ex_if_ne (t := 61) F dX8_number_51 (by decide) (fun _ => ?_) (fun c => absurd c (by rw [fls_3 hb]; decide))
  refine ex_iload_n F dX8_number_61 rfl rfl ?_
  refine ex_istore_n F dX8_number_62 rfl (by decide) ?_
  refine ex_aload_n F dX8_number_63 rfl rfl ?_
  refine ex_callVv F (c_X8_stepB (M := fls M 2) (by rw [fls_3 hb]; decide)) dX8_number_64 cs_X8_number_116 ob_8 rfl rfl rfl rfl (Nat.le_of_ble_eq_true rfl) (fun M64 h64 => ?_)
  rw [h64]
  refine ex_iload_n F dX8_number_67 rfl rfl ?_
  exact ex_iret F R dX8_number_68 rfl (rfl)
set_option maxRecDepth 100000 in
theorem c_X8_numO {l : Launch} {g : XG} {M : Mem} {lo hi : Int32} (hb : M 38 3 = 0) (ht : M 38 7 = 2) (ho : outB (M 38 8) lo hi = true) : Call l g YX8_number [.ref (ad g 38), .int lo, .int hi] M (PI (fun _ M' => M' = fls M 3)) := by
  refine call_of (by decide +kernel) (Nat.le_of_ble_eq_true rfl) (fun x hxl F R => ?_)
  subst hxl
  refine ex_aload_n F dX8_number_0 rfl rfl ?_
  refine gf_8_3 F dX8_number_1 fl_X8_82 ?_
  refine ex_if_ne (t := 20) F dX8_number_4 (by decide) (fun c => absurd c (fun q => q hb)) (fun _ => ?_)
  refine ex_aload_n F dX8_number_7 rfl rfl ?_
  refine gf_8_7 F dX8_number_8 fl_X8_91 ?_
  refine ex_iconst (v := 2) F dX8_number_11 (by decide) ?_
  refine ex_icmp_eq (t := 20) F dX8_number_12 (by decide) (fun _ => ?_) (fun c => absurd ht c)
  refine ex_aload_n F dX8_number_20 rfl rfl ?_
  refine gf_8_3 F dX8_number_21 fl_X8_82 ?_
  refine ex_if_ne (t := 47) F dX8_number_24 (by decide) (fun c => absurd c (fun q => q hb)) (fun _ => ?_)
  refine ex_aload_n F dX8_number_27 rfl rfl ?_
  refine gf_8_8 F dX8_number_28 fl_X8_101 ?_
  refine ex_i2l F dX8_number_31 ?_
  refine ex_iload_n F dX8_number_32 rfl rfl ?_
  refine ex_i2l F dX8_number_33 ?_
  refine ex_iload_n F dX8_number_34 rfl rfl ?_
  refine ex_i2l F dX8_number_35 ?_
  refine ex_callSi F (c_X8_in) dX8_number_36 cs_X8_number_78 rfl rfl (Nat.le_of_ble_eq_true rfl) (fun v36 M36 h36 => ?_)
  obtain ⟨e36, q36⟩ := h36
  rw [q36]
  clear q36
  rw [in_out (lo := lo) (hi := hi) rfl rfl] at e36
  subst e36
  refine ex_if_ne (t := 47) F dX8_number_39 (by decide) (fun c => absurd c (fun q => q (by rw [ho]; decide))) (fun _ => ?_)
  refine ex_aload_n F dX8_number_42 rfl rfl ?_
  refine ex_iconst (v := 3) F dX8_number_43 (by decide) ?_
  refine ex_callVv F (c_X8_fails) dX8_number_44 cs_X8_number_112 ob_8 rfl rfl rfl rfl (Nat.le_of_ble_eq_true rfl) (fun M44 h44 => ?_)
  rw [h44]
  refine ex_aload_n F dX8_number_47 rfl rfl ?_
  refine gf_8_3 F dX8_number_48 fl_X8_82 ?_
  refine ex_if_ne (t := 61) F dX8_number_51 (by decide) (fun _ => ?_) (fun c => absurd c (by rw [fls_3 hb]; decide))
  refine ex_iload_n F dX8_number_61 rfl rfl ?_
  refine ex_istore_n F dX8_number_62 rfl (by decide) ?_
  refine ex_aload_n F dX8_number_63 rfl rfl ?_
  refine ex_callVv F (c_X8_stepB (M := fls M 3) (by rw [fls_3 hb]; decide)) dX8_number_64 cs_X8_number_116 ob_8 rfl rfl rfl rfl (Nat.le_of_ble_eq_true rfl) (fun M64 h64 => ?_)
  rw [h64]
  refine ex_iload_n F dX8_number_67 rfl rfl ?_
  exact ex_iret F R dX8_number_68 rfl (rfl)
set_option maxRecDepth 100000 in
theorem c_X8_numY {l : Launch} {g : XG} {M : Mem} {K : Mem} {n s : Nat} (hT : RT K M n) (hY : BY K) (hb : M 38 3 = 0) (hs : M 38 5 = nI s) (ls : s < 1000000000) {lo hi : Int32} (ht : M 38 7 = 2) (ho : outB (M 38 8) lo hi = false) : Call l g YX8_number [.ref (ad g 38), .int lo, .int hi] M (PI (fun v M' => v = M 38 8 ∧ M' = stp K M n s)) := by
  refine call_of (by decide +kernel) (Nat.le_of_ble_eq_true rfl) (fun x hxl F R => ?_)
  subst hxl
  refine ex_aload_n F dX8_number_0 rfl rfl ?_
  refine gf_8_3 F dX8_number_1 fl_X8_82 ?_
  refine ex_if_ne (t := 20) F dX8_number_4 (by decide) (fun c => absurd c (fun q => q hb)) (fun _ => ?_)
  refine ex_aload_n F dX8_number_7 rfl rfl ?_
  refine gf_8_7 F dX8_number_8 fl_X8_91 ?_
  refine ex_iconst (v := 2) F dX8_number_11 (by decide) ?_
  refine ex_icmp_eq (t := 20) F dX8_number_12 (by decide) (fun _ => ?_) (fun c => absurd ht c)
  refine ex_aload_n F dX8_number_20 rfl rfl ?_
  refine gf_8_3 F dX8_number_21 fl_X8_82 ?_
  refine ex_if_ne (t := 47) F dX8_number_24 (by decide) (fun c => absurd c (fun q => q hb)) (fun _ => ?_)
  refine ex_aload_n F dX8_number_27 rfl rfl ?_
  refine gf_8_8 F dX8_number_28 fl_X8_101 ?_
  refine ex_i2l F dX8_number_31 ?_
  refine ex_iload_n F dX8_number_32 rfl rfl ?_
  refine ex_i2l F dX8_number_33 ?_
  refine ex_iload_n F dX8_number_34 rfl rfl ?_
  refine ex_i2l F dX8_number_35 ?_
  refine ex_callSi F (c_X8_in) dX8_number_36 cs_X8_number_78 rfl rfl (Nat.le_of_ble_eq_true rfl) (fun v36 M36 h36 => ?_)
  obtain ⟨e36, q36⟩ := h36
  rw [q36]
  clear q36
  rw [in_out (lo := lo) (hi := hi) rfl rfl] at e36
  subst e36
  refine ex_if_ne (t := 47) F dX8_number_39 (by decide) (fun _ => ?_) (fun c => absurd c (by rw [ho]; decide))
  refine ex_aload_n F dX8_number_47 rfl rfl ?_
  refine gf_8_3 F dX8_number_48 fl_X8_82 ?_
  refine ex_if_ne (t := 61) F dX8_number_51 (by decide) (fun c => absurd c (fun q => q hb)) (fun _ => ?_)
  refine ex_aload_n F dX8_number_54 rfl rfl ?_
  refine gf_8_8 F dX8_number_55 fl_X8_101 ?_
  refine ex_goto (t := 62) F dX8_number_58 (by decide) ?_
  refine ex_istore_n F dX8_number_62 rfl (by decide) ?_
  refine ex_aload_n F dX8_number_63 rfl rfl ?_
  refine ex_callVv F (c_X8_step hT hY hb hs ls) dX8_number_64 cs_X8_number_116 ob_8 rfl rfl rfl rfl (Nat.le_of_ble_eq_true rfl) (fun M64 h64 => ?_)
  rw [h64]
  refine ex_iload_n F dX8_number_67 rfl rfl ?_
  exact ex_iret F R dX8_number_68 rfl (⟨rfl, rfl⟩)
