theorem tI_1_0 {k : Nat} (h : isO 1 k) : isI (k + 1) 7 := by rcases kk_1 h with rfl | rfl | rfl | rfl <;> decide
theorem tO_2_0 {k : Nat} (h : isO 2 k) : isO 1 (k + 1) := by rcases kk_2 h with rfl | rfl <;> decide
theorem tI_4_0 {k : Nat} (h : isO 4 k) : isI (k + 1) 40 := by rcases kk_4 h with rfl | rfl | rfl | rfl <;> decide
theorem tI_6_0 {k : Nat} (h : isO 6 k) : isI (k + 1) 9 := by rcases kk_6 h with rfl | rfl <;> decide
theorem tI_6_1 {k : Nat} (h : isO 6 k) : isI (k + 2) 4 := by rcases kk_6 h with rfl | rfl <;> decide
theorem tI_6_2 {k : Nat} (h : isO 6 k) : isI (k + 3) 8 := by rcases kk_6 h with rfl | rfl <;> decide
theorem tI_6_3 {k : Nat} (h : isO 6 k) : isI (k + 4) 8 := by rcases kk_6 h with rfl | rfl <;> decide
def b2i (b : Bool) : Int32 := if b then 1 else 0
/-- a contract out of its body, a class of the JDK's -/
theorem call_ofF {l : Launch} {g : XG} {y : XM} {As : List Value} {M : Mem} {P : Option Value → Mem → Prop} (hy : plainFor (xmN y) = true) (hn : (lg_sl As).length ≤ xmL y)
    (h : ∀ x : XC, x_l x = l → XF x g y → XR x g y P → EX x g (xmL y) M 0 (lv_args 0 As) []) : Call l g y As M P := by
  intro sz
  refine va_MetF (cc := xmB y) (maxL := xmL y) (ret := xmR y) (ws' := TB) hy rfl ?_
  intro p e s m args below meth c s₁ B hml hv
  obtain ⟨rfl, hsz, hP, hK, hD0, hC⟩ := hv
  subst hsz
  have hts := atoms_spec (ws := xws y) B.pre
  have hown : s.vm.findClass (xmN y).cls = some m.cls := findClass_of_methodNamed B.named
  have hl := lv_entry As (n := xmL y) hn
  rw [lg_entry_eq]
  refine h (p, l, e, xrm y, s, m, As.toArray, below, meth, c, 0, 0, MQ below (xQc g s.heap.size P) As.toArray s 0 0 (XA g s.heap.size), XA g s.heap.size) rfl
    ⟨B.exec, B.bytes, hml, hown, fun w hw => hts w (List.mem_cons_of_mem _ hw), hK, hC, fun q hq => Or.inr hq, Nat.le_refl _, Nat.le_refl _, Nat.zero_le _, Nat.zero_le _⟩
    ⟨rfl, rfl, rfl, rfl, B.returns, B.notSynchronized⟩ s.heap [] _ hP (xa_D hD0) va_S.rf hl
theorem b2i_0 {b : Bool} : b2i b = 0 ↔ b = false := by cases b <;> decide
theorem b2i_1 {b : Bool} : ¬ b2i b = 0 ↔ b = true := by cases b <;> decide
theorem b2i_z (b : Bool) : b2i b = 0 ∨ b2i b = 1 := by cases b <;> decide
theorem ex_weak2 {x : XC} {g : XG} {nL : Nat} {M : Mem} {pc : Nat} {L L1 : List (Nat × Value)} {S : List Value} (k : EX x g nL M pc L1 S) (h : lall L L1) : EX x g nL M pc L S := fun H locs ls hP hD hS hl => k H locs ls hP hD hS (lall_sub hl L1 h)
theorem lt_nle {a b : Int32} : a < b ↔ ¬ b ≤ a := Int32.not_le.symm
theorem narrow_b2i (b : Bool) : narrow .boolean (.int (b2i b)) = .int (b2i b) := by cases b <;> rfl
theorem vin {v b : Int32} {n : Nat} (hb : b.toInt = n) (h1 : ¬ v < 0) (h2 : ¬ b ≤ v) : vp_in v n := by
  refine vp_in_iff.mpr ⟨?_, ?_⟩
  · have := Int32.le_iff_toInt_le.mp (Int32.not_lt.mp h1)
    simpa using this
  · have := Int32.lt_iff_toInt_lt.mp (Int32.not_le.mp h2)
    omega
theorem nI_ltof {i b : Nat} (hi : i < 2 ^ 31) (h : ¬ nI b ≤ nI i) : i < b := by
  rcases Nat.lt_or_ge i b with q | q
  · exact q
  · exact absurd (nI_le q hi) h
theorem nI_self {v : Int32} (h : ¬ v < 0) : v = nI v.toNatClampNeg := by
  obtain ⟨j, hj, rfl⟩ := nI_of h
  rw [nI_clamp hj]
theorem nI_tcn_lt (v : Int32) : v.toNatClampNeg < 2 ^ 31 := by
  have h : v.toNatClampNeg = v.toInt.toNat := rfl
  have := v.toInt_lt
  omega
theorem s_l31 : ∀ l, l < 32 → ((nI l &&& 31).toBitVec.smod 32).toNat = l := by decide +kernel
theorem tsw_out {v : Int32} (n : Nat) (hn : n < 2 ^ 31) (h : ∀ k, k ≤ n → ¬ v = nI k) : v.toInt < 0 ∨ (n : Int) < v.toInt := by
  by_cases h0 : v.toInt < 0
  · exact Or.inl h0
  · refine Or.inr ?_
    by_cases h1 : (n : Int) < v.toInt
    · exact h1
    · exfalso
      refine h v.toInt.toNat (by omega) (Int32.toInt_inj.mp ?_)
      rw [nI_toInt (by omega)]
      omega
theorem b2i_t : b2i true = 1 := rfl
theorem b2i_f : b2i false = 0 := rfl
theorem mu_same (M : Mem) (k j : Nat) (y : Int32) : mu M k j y k j = y := by simp [mu, upd]
theorem mu_j (M : Mem) (k j i : Nat) (y : Int32) (h : i ≠ j) : mu M k j y k i = M k i := by simp [mu, upd, h]
theorem mu_k (M : Mem) (k j q : Nat) (y : Int32) (h : q ≠ k) : mu M k j y q = M q := by simp [mu, h]
-- a churn as a row: 0 litres, 1 warmth, 2 hard, 3 air, 4 turns, 5 come (-4: not), 6 on: drops
def cX (M : Mem) (k : Nat) : Nat → Int32 := fun j => if j < 6 then M k (j + 1) else M (k + 1) (j - 6)
def putC (M : Mem) (k : Nat) (c : Nat → Int32) : Mem := fun q => if q = k then (fun j => if j = 0 then M k 0 else if j < 7 then c (j - 1) else M k j) else if q = k + 1 then (fun j => c (j + 6)) else M q
theorem cX_putC (M : Mem) (k : Nat) (c : Nat → Int32) : cX (putC M k c) k = c := by
  funext j
  by_cases h : j < 6
  · simp [cX, putC, h, show j + 1 < 7 by omega]
  · simp [cX, putC, h, show j - 6 + 6 = j by omega]
theorem putC_putC (M : Mem) (k : Nat) (a b : Nat → Int32) : putC (putC M k a) k b = putC M k b := by
  funext q j
  by_cases h : q = k
  · subst h
    simp only [putC, if_true]
    by_cases h0 : j = 0
    · simp [h0]
    · by_cases h1 : j < 7 <;> simp [h0, h1]
  · by_cases h1 : q = k + 1 <;> simp [putC, h, h1]
theorem putC_cX (M : Mem) (k : Nat) : putC M k (cX M k) = M := by
  funext q j
  by_cases h : q = k
  · subst h
    simp only [putC, if_true]
    by_cases h0 : j = 0
    · simp [h0]
    · by_cases h1 : j < 7
      · simp [h0, h1, cX, show j - 1 < 6 by omega, show j - 1 + 1 = j by omega]
      · simp [h0, h1]
  · by_cases h1 : q = k + 1
    · subst h1; simp [putC, cX, show ¬ j + 6 < 6 by omega]
    · simp [putC, h, h1]
theorem mu_c {M : Mem} {k j : Nat} (y : Int32) (h0 : 0 < j) (h : j < 7) : mu M k j y = putC M k (upd (cX M k) (j - 1) y) := by
  funext q i
  by_cases hq : q = k
  · subst hq
    simp only [mu, putC, upd, if_true]
    by_cases hi : i = j
    · subst hi; simp [show ¬ i = 0 by omega, h]
    · by_cases h1 : i = 0
      · subst h1; simp [hi]
      · by_cases h2 : i < 7
        · simp [hi, h1, h2, show ¬ i - 1 = j - 1 by omega, cX, show i - 1 < 6 by omega, show i - 1 + 1 = i by omega]
        · simp [hi, h1, h2]
  · by_cases h1 : q = k + 1
    · subst h1; simp [mu, putC, upd, cX, show ¬ i + 6 = j - 1 by omega, show ¬ i + 6 < 6 by omega]
    · simp [mu, putC, hq, h1]
theorem mu_c1 (M : Mem) (k : Nat) (y : Int32) : mu M k 1 y = putC M k (upd (cX M k) 0 y) := mu_c y (by decide) (by decide)
theorem mu_c2 (M : Mem) (k : Nat) (y : Int32) : mu M k 2 y = putC M k (upd (cX M k) 1 y) := mu_c y (by decide) (by decide)
theorem mu_c3 (M : Mem) (k : Nat) (y : Int32) : mu M k 3 y = putC M k (upd (cX M k) 2 y) := mu_c y (by decide) (by decide)
theorem mu_c4 (M : Mem) (k : Nat) (y : Int32) : mu M k 4 y = putC M k (upd (cX M k) 3 y) := mu_c y (by decide) (by decide)
theorem mu_c5 (M : Mem) (k : Nat) (y : Int32) : mu M k 5 y = putC M k (upd (cX M k) 4 y) := mu_c y (by decide) (by decide)
theorem mu_c6 (M : Mem) (k : Nat) (y : Int32) : mu M k 6 y = putC M k (upd (cX M k) 5 y) := mu_c y (by decide) (by decide)
theorem mu_cd (M : Mem) (k j : Nat) (y : Int32) : mu M (k + 1) j y = putC M k (upd (cX M k) (j + 6) y) := by
  funext q i
  by_cases hq : q = k
  · subst hq
    simp only [mu, putC, show ¬ q = q + 1 by omega, if_true, if_false]
    by_cases h1 : i = 0
    · subst h1; simp
    · by_cases h2 : i < 7
      · simp [h1, h2, upd, cX, show ¬ i - 1 = j + 6 by omega, show i - 1 < 6 by omega, show i - 1 + 1 = i by omega]
      · simp [h1, h2]
  · by_cases h1 : q = k + 1
    · subst h1
      by_cases h2 : i = j
      · subst h2; simp [mu, putC, upd]
      · simp [mu, putC, upd, cX, h2, show ¬ i + 6 < 6 by omega]
    · simp [mu, putC, hq, h1]
theorem rd_1 (M : Mem) (k : Nat) (c : Nat → Int32) : putC M k c k 1 = c 0 := by simp [putC]
theorem rd_2 (M : Mem) (k : Nat) (c : Nat → Int32) : putC M k c k 2 = c 1 := by simp [putC]
theorem rd_3 (M : Mem) (k : Nat) (c : Nat → Int32) : putC M k c k 3 = c 2 := by simp [putC]
theorem rd_4 (M : Mem) (k : Nat) (c : Nat → Int32) : putC M k c k 4 = c 3 := by simp [putC]
theorem rd_5 (M : Mem) (k : Nat) (c : Nat → Int32) : putC M k c k 5 = c 4 := by simp [putC]
theorem rd_6 (M : Mem) (k : Nat) (c : Nat → Int32) : putC M k c k 6 = c 5 := by simp [putC]
theorem rd_d (M : Mem) (k j : Nat) (c : Nat → Int32) : putC M k c (k + 1) j = c (j + 6) := by simp [putC]
theorem rd_o {M : Mem} {k q : Nat} {c : Nat → Int32} (h : q ≠ k) (h1 : q ≠ k + 1) : putC M k c q = M q := by simp [putC, h, h1]
theorem rd_lo {M : Mem} {k : Nat} {c : Nat → Int32} (hk : isO 1 k) (q : Nat) (h : q < 14) : putC M k c q = M q := by
  refine rd_o ?_ ?_ <;> rcases kk_1 hk with rfl | rfl | rfl | rfl <;> omega
def okR (r : Nat → Int32) : Prop := ∃ f : Nat → Nat, (∀ j, j < 9 → r j = nI (f j)) ∧ (10 ≤ f 0 ∧ f 0 ≤ 400) ∧ f 1 ≤ 400 ∧ (1 ≤ f 2 ∧ f 2 ≤ 99) ∧ f 3 ≤ 50 ∧ f 4 ≤ 99 ∧ (3 ≤ f 5 ∧ f 5 ≤ 6) ∧ (1 ≤ f 6 ∧ f 6 ≤ 99) ∧ f 7 ≤ 100 ∧ f 8 ≤ 100 ∧ f 7 ≤ f 8
theorem okR_grain {r : Nat → Int32} (h : okR r) : ∃ n, r 5 = nI n ∧ 3 ≤ n ∧ n ≤ 6 := by
  obtain ⟨f, h1, h2⟩ := h
  exact ⟨f 5, h1 5 (by decide), h2.2.2.2.2.2.1.1, h2.2.2.2.2.2.1.2⟩
theorem nI_lit7 : nI 7 = 7 := rfl

