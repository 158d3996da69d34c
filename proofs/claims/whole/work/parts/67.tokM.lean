theorem by_t : ∀ m, m < 256 → (∀ z : Int32, z = (Int8.ofNat m).toInt32 → (z &&& 255) = nI m ∧ (m < 128 → z = nI m) ∧ (128 ≤ m → z < 0)) := by
  intro m hm z hz
  subst hz
  revert m
  decide +kernel
theorem by_m (x : Int32) : ∃ m, m < 256 ∧ x.toInt8 = Int8.ofNat m := by
  refine ⟨x.toInt8.toBitVec.toNat, x.toInt8.toBitVec.isLt, ?_⟩
  apply Int8.toBitVec_inj.mp
  simp
def BY (K : Mem) : Prop := ∀ i, ∃ x : Int32, K 8 i = x.toInt8.toInt32
theorem by_255 {K : Mem} (h : BY K) (i : Nat) : ∃ m, m < 256 ∧ (K 8 i &&& 255) = nI m ∧ (m < 128 → K 8 i = nI m) ∧ (128 ≤ m → K 8 i < 0) := by
  obtain ⟨x, hx⟩ := h i
  obtain ⟨m, hm, e⟩ := by_m x
  rw [hx, e]
  exact ⟨m, hm, by_t m hm _ rfl⟩
def rb (K : Mem) (n p : Nat) : Int32 := if p < n then K 8 p &&& 255 else -4
theorem kdB_neg {b : Int32} (h : b < 0) : kdB b = 5 := by
  have h1 : ¬ b = 32 := fun q => by rw [q] at h; exact absurd h (by decide)
  have h2 : ¬ b = 59 := fun q => by rw [q] at h; exact absurd h (by decide)
  have h3 : b < 97 := Int32.lt_trans h (by decide)
  have h4 : b < 48 := Int32.lt_trans h (by decide)
  rw [kdB, if_neg h1, if_neg h2, if_neg (fun q => q.1 h3), if_neg (fun q => q.1 h4)]
theorem kdB_t : ∀ m, m < 128 → (nI m = 32 ↔ kdB (nI m) = 1) ∧ (nI m = 59 ↔ kdB (nI m) = 4) ∧ (outB (nI m) 97 122 = false ↔ kdB (nI m) = 2) ∧ (outB (nI m) 48 57 = false ↔ kdB (nI m) = 3) ∧ ¬ kdB (nI m) = 0 ∧ ¬ nI m = -4 := by decide +kernel
theorem hi_t : ∀ m, m < 256 → 128 ≤ m → ¬ nI m = 32 ∧ ¬ nI m = 59 ∧ ¬ outB (nI m) 97 122 = false ∧ ¬ outB (nI m) 48 57 = false ∧ ¬ nI m = -4 := by decide +kernel
theorem rb_t {K : Mem} (h : BY K) (n p : Nat) : (rb K n p = 32 ↔ kd K n p = 1) ∧ (rb K n p = 59 ↔ kd K n p = 4) ∧ (outB (rb K n p) 97 122 = false ↔ kd K n p = 2) ∧ (outB (rb K n p) 48 57 = false ↔ kd K n p = 3) ∧ (rb K n p = -4 ↔ kd K n p = 0) := by
  by_cases lp : p < n
  · rw [rb, if_pos lp, kd_lt lp]
    obtain ⟨m, hm, e, hlo, hhi⟩ := by_255 h p
    rw [e]
    by_cases h1 : m < 128
    · rw [hlo h1]
      obtain ⟨a, b, c, d, f, g⟩ := kdB_t m h1
      exact ⟨a, b, c, d, ⟨fun q => absurd q g, fun q => absurd q f⟩⟩
    · obtain ⟨a, b, c, d, f⟩ := hi_t m hm (by omega)
      rw [kdB_neg (hhi (by omega))]
      exact ⟨⟨fun q => absurd q a, fun q => absurd q (by decide)⟩, ⟨fun q => absurd q b, fun q => absurd q (by decide)⟩, ⟨fun q => absurd q c, fun q => absurd q (by decide)⟩, ⟨fun q => absurd q d, fun q => absurd q (by decide)⟩, ⟨fun q => absurd q f, fun q => absurd q (by decide)⟩⟩
  · rw [rb, if_neg lp, kd, if_pos (by omega)]
    decide
theorem rb_eq {K : Mem} (h : BY K) (n p : Nat) {a : Nat} (ha : 1 ≤ a) (hb : a < 128) : rb K n p = nI a ↔ tb K n p = nI a := by
  by_cases lp : p < n
  · rw [rb, if_pos lp, tb_lt lp]
    obtain ⟨m, hm, e, hlo, hhi⟩ := by_255 h p
    rw [e]
    by_cases h1 : m < 128
    · rw [hlo h1]
    · refine ⟨fun q => ?_, fun q => ?_⟩
      · have := nI_inj (i := m) (j := a) (by omega) (by omega) q; omega
      · have h2 := hhi (by omega)
        rw [q] at h2
        exact absurd h2 (nI_pos (by omega))
  · rw [rb, if_neg lp, tb_ge lp]
    refine ⟨fun q => ?_, fun q => ?_⟩
    · exact absurd q.symm (nI_m4 (by omega))
    · have := nI_inj (i := 0) (j := a) (by omega) (by omega) q; omega
theorem rb_d {K : Mem} (h : BY K) {n p : Nat} (h3 : kd K n p = 3) : rb K n p = tb K n p := by
  by_cases lp : p < n
  · rw [kd_lt lp] at h3
    rw [rb, if_pos lp, tb_lt lp]
    obtain ⟨m, hm, e, hlo, hhi⟩ := by_255 h p
    by_cases h1 : m < 128
    · rw [e, hlo h1]
    · rw [kdB_neg (hhi (by omega))] at h3
      exact absurd h3 (by decide)
  · rw [kd, if_pos (by omega)] at h3
    exact absurd h3 (by decide)
theorem nmb_S (f : Nat → Int32) : ∀ k p a, nmb f (k + 1) p a = 10 * nmb f k p a + f (p + k) - 48 := by
  intro k
  induction k with
  | zero => intro p a; rfl
  | succ k ih =>
    intro p a
    rw [nmb, ih, nmb, show p + 1 + k = p + (k + 1) by omega]
theorem kd_0 {K : Mem} {n p : Nat} (h : n ≤ p) : kd K n p = 0 := if_pos h
theorem lt_n {K : Mem} {n p : Nat} (h : ¬ kd K n p = 0) : p < n := by
  refine Nat.not_le.mp (fun q => h (kd_0 q))
theorem outB_ff {x lo hi : Int32} (h : ¬ b2i (!outB x lo hi) = 0) : outB x lo hi = false := by simpa using b2i_1.mp h
theorem outB_tt {x lo hi : Int32} (h : b2i (!outB x lo hi) = 0) : ¬ outB x lo hi = false := by
  have := b2i_0.mp h
  simp at this
  simp [this]
-- the reference's cell 38, places 3 to 8
def rkm (M : Mem) (b a s h t v : Int32) : Mem := fun c => if c = 38 then (fun j => if j = 3 then b else if j = 4 then a else if j = 5 then s else if j = 6 then h else if j = 7 then t else if j = 8 then v else M 38 j) else M c
theorem rkm_id (M : Mem) : M = rkm M (M 38 3) (M 38 4) (M 38 5) (M 38 6) (M 38 7) (M 38 8) := by
  funext c j
  by_cases hc : c = 38
  · subst hc
    simp only [rkm, if_true]
    by_cases h3 : j = 3
    · simp [h3]
    · by_cases h4 : j = 4
      · simp [h4]
      · by_cases h5 : j = 5
        · simp [h5]
        · by_cases h6 : j = 6
          · simp [h6]
          · by_cases h7 : j = 7
            · simp [h7]
            · by_cases h8 : j = 8
              · simp [h8]
              · simp [h3, h4, h5, h6, h7, h8]
  · simp [rkm, hc]
theorem rkm_3 (M : Mem) (b a s h t v y : Int32) : mu (rkm M b a s h t v) 38 3 y = rkm M y a s h t v := by
  funext c i
  by_cases hc : c = 38
  · subst hc
    by_cases hi : i = 3
    · simp [mu, upd, rkm, hi]
    · simp [mu, upd, rkm, hi]
  · simp [mu, rkm, hc]
theorem rkm_r3 (M : Mem) (b a s h t v : Int32) : rkm M b a s h t v 38 3 = b := rfl
theorem rkm_4 (M : Mem) (b a s h t v y : Int32) : mu (rkm M b a s h t v) 38 4 y = rkm M b y s h t v := by
  funext c i
  by_cases hc : c = 38
  · subst hc
    by_cases hi : i = 4
    · simp [mu, upd, rkm, hi]
    · simp [mu, upd, rkm, hi]
  · simp [mu, rkm, hc]
theorem rkm_r4 (M : Mem) (b a s h t v : Int32) : rkm M b a s h t v 38 4 = a := rfl
theorem rkm_5 (M : Mem) (b a s h t v y : Int32) : mu (rkm M b a s h t v) 38 5 y = rkm M b a y h t v := by
  funext c i
  by_cases hc : c = 38
  · subst hc
    by_cases hi : i = 5
    · simp [mu, upd, rkm, hi]
    · simp [mu, upd, rkm, hi]
  · simp [mu, rkm, hc]
theorem rkm_r5 (M : Mem) (b a s h t v : Int32) : rkm M b a s h t v 38 5 = s := rfl
theorem rkm_6 (M : Mem) (b a s h t v y : Int32) : mu (rkm M b a s h t v) 38 6 y = rkm M b a s y t v := by
  funext c i
  by_cases hc : c = 38
  · subst hc
    by_cases hi : i = 6
    · simp [mu, upd, rkm, hi]
    · simp [mu, upd, rkm, hi]
  · simp [mu, rkm, hc]
theorem rkm_r6 (M : Mem) (b a s h t v : Int32) : rkm M b a s h t v 38 6 = h := rfl
theorem rkm_7 (M : Mem) (b a s h t v y : Int32) : mu (rkm M b a s h t v) 38 7 y = rkm M b a s h y v := by
  funext c i
  by_cases hc : c = 38
  · subst hc
    by_cases hi : i = 7
    · simp [mu, upd, rkm, hi]
    · simp [mu, upd, rkm, hi]
  · simp [mu, rkm, hc]
theorem rkm_r7 (M : Mem) (b a s h t v : Int32) : rkm M b a s h t v 38 7 = t := rfl
theorem rkm_8 (M : Mem) (b a s h t v y : Int32) : mu (rkm M b a s h t v) 38 8 y = rkm M b a s h t y := by
  funext c i
  by_cases hc : c = 38
  · subst hc
    by_cases hi : i = 8
    · simp [mu, upd, rkm, hi]
    · simp [mu, upd, rkm, hi]
  · simp [mu, rkm, hc]
theorem rkm_r8 (M : Mem) (b a s h t v : Int32) : rkm M b a s h t v 38 8 = v := rfl
theorem rkm_o (M : Mem) (b a s h t v : Int32) {q : Nat} (e : q ≠ 38) : rkm M b a s h t v q = M q := if_neg e
theorem rkm_j (M : Mem) (b a s h t v : Int32) {j : Nat} (e : j < 3 ∨ 8 < j) : rkm M b a s h t v 38 j = M 38 j := by
  simp [rkm, show ¬ j = 3 by omega, show ¬ j = 4 by omega, show ¬ j = 5 by omega, show ¬ j = 6 by omega, show ¬ j = 7 by omega, show ¬ j = 8 by omega]
theorem RT_rkm {K M : Mem} {n : Nat} (h : RT K M n) (b a s h9 t v : Int32) : RT K (rkm M b a s h9 t v) n := h
set_option maxRecDepth 100000 in
theorem c_X8_byteAt {l : Launch} {g : XG} {M : Mem} {K : Mem} {n p : Nat} (hT : RT K M n) (lp : p < 2000000000) : Call l g YX8_byteAt [.ref (ad g 38), .int (nI p)] M (PI (fun v M' => v = rb K n p ∧ M' = M)) := by
  refine call_of (by decide +kernel) (Nat.le_of_ble_eq_true rfl) (fun x hxl F R => ?_)
  subst hxl
  refine ex_iload_n F dX8_byteAt_0 rfl rfl ?_
  refine ex_aload_n F dX8_byteAt_1 rfl rfl ?_
  refine gf_8_1 F dX8_byteAt_2 fl_X8_74 ?_
  refine ex_icmp_ge (t := 17) F dX8_byteAt_5 (by decide) (fun c5 => ?_) (fun c5 => ?_)
  · refine ex_bipush (v := -4) F dX8_byteAt_17 (by decide) ?_
    exact ex_iret F R dX8_byteAt_19 rfl (⟨by rw [rb, if_neg (Nat.not_lt.mpr (Nat.not_lt.mp (fun q => absurd (nI_lt q (by have := hT.1; omega)) (by rw [← hT.2.2.1]; exact Int32.not_lt.mpr c5))))], rfl⟩)
  · have lpn : p < n := nI_ltof (by omega) (by rw [← hT.2.2.1]; exact c5)
    refine ex_aload_n F dX8_byteAt_8 rfl rfl ?_
    refine gf_8_0 F dX8_byteAt_9 fl_X8_7 ?_
    refine ex_iload_n F dX8_byteAt_12 rfl rfl ?_
    refine ex_iald (n := 320) F dX8_byteAt_13 (by decide) (vp_in_nI (by have := hT.1; omega) (by decide)) (j := p) (nI_clamp (by omega)) ?_
    refine ex_goto (t := 19) F dX8_byteAt_14 (by decide) ?_
    exact ex_iret F R dX8_byteAt_19 rfl (⟨by rw [rb, if_pos lpn]; exact hT.2.2.2 p lpn, rfl⟩)
def fls (M : Mem) (v : Int32) : Mem := if M 38 3 = 0 then mu (mu M 38 3 v) 38 4 (M 38 6) else M
set_option maxRecDepth 100000 in
theorem c_X8_fails {l : Launch} {g : XG} {M : Mem} {v0 : Int32} : Call l g YX8_fails [.ref (ad g 38), .int v0] M (PV (fun M' => M' = fls M v0)) := by
  refine call_of (by decide +kernel) (Nat.le_of_ble_eq_true rfl) (fun x hxl F R => ?_)
  subst hxl
  refine ex_aload_n F dX8_fails_0 rfl rfl ?_
  refine gf_8_3 F dX8_fails_1 fl_X8_82 ?_
  refine ex_if_ne (t := 20) F dX8_fails_4 (by decide) (fun c4 => ?_) (fun c4 => ?_)
  · exact ex_vret F R dX8_fails_20 rfl (by rw [fls, if_neg c4])
  · refine ex_aload_n F dX8_fails_7 rfl rfl ?_
    refine ex_iload_n F dX8_fails_8 rfl rfl ?_
    refine pf_8_3 F dX8_fails_9 fl_X8_82 ?_
    refine ex_aload_n F dX8_fails_12 rfl rfl ?_
    refine ex_aload_n F dX8_fails_13 rfl rfl ?_
    refine gf_8_6 F dX8_fails_14 fl_X8_85 ?_
    refine pf_8_4 F dX8_fails_17 fl_X8_88 ?_
    exact ex_vret F R dX8_fails_20 rfl (by rw [fls, if_pos c4]; rfl)
