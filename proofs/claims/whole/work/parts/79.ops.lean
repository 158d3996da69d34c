theorem op_fault {l : Launch} {g : XG} {M : Mem} {T : Nat} (h : BW M T) : PairI l g YX7_fault YX8_fault [] M T := by
  refine pairI c_X7_fault (fun v1 M1 q => by obtain ⟨rfl, rfl⟩ := q; exact ⟨_, c_X8_fault, fun v2 M2 q2 => by obtain ⟨rfl, rfl⟩ := q2; exact ⟨h.1.2.2.2.2.2.2.2.2.1.symm, BW_same h⟩⟩)
theorem op_torn {l : Launch} {g : XG} {M : Mem} {T : Nat} (h : BW M T) : PairI l g YX7_torn YX8_torn [] M T := by
  refine pairI c_X7_torn (fun v1 M1 q => by obtain ⟨rfl, rfl⟩ := q; exact ⟨_, c_X8_torn, fun v2 M2 q2 => by obtain ⟨rfl, rfl⟩ := q2; exact ⟨h.1.2.2.2.2.2.2.2.2.2.symm, BW_same h⟩⟩)
theorem op_rule {l : Launch} {g : XG} {M : Mem} {T : Nat} {v0 : Int32} (h : BW M T) : PairI l g YX7_rule YX8_rule [.int v0] M T := by
  obtain ⟨n, hB⟩ := h.1.1
  refine pairI c_X7_rule (fun v1 M1 q => by obtain ⟨rfl, rfl⟩ := q; exact ⟨_, c_X8_rule hB, fun v2 M2 q2 => by obtain ⟨rfl, rfl⟩ := q2; exact ⟨rfl, BW_same h⟩⟩)
theorem op_cow {l : Launch} {g : XG} {M : Mem} {T : Nat} {c0 w0 : Int32} (h : BW M T) : PairI l g YX7_cow YX8_cow [.int c0, .int w0] M T := by
  obtain ⟨n, hB⟩ := h.1.1
  refine pairI c_X7_cow (fun v1 M1 q => by obtain ⟨rfl, rfl⟩ := q; exact ⟨_, c_X8_cow hB, fun v2 M2 q2 => by obtain ⟨rfl, rfl⟩ := q2; exact ⟨rfl, BW_same h⟩⟩)
theorem op_count {l : Launch} {g : XG} {M : Mem} {T : Nat} {w0 : Int32} (h : BW M T) : PairI l g YX7_count YX8_count [.int w0] M T := by
  obtain ⟨n, hB⟩ := h.1.1
  obtain ⟨k, hS⟩ := h.1.2.2.2.2.1
  obtain ⟨t, ht⟩ := h.1.2.2.2.2.2.1
  refine pairI c_X7_count (fun v1 M1 q => by obtain ⟨rfl, rfl⟩ := q; exact ⟨_, c_X8_count hB hS h.1.2.2.1 ht h.1.2.2.2.1, fun v2 M2 q2 => by obtain ⟨rfl, rfl⟩ := q2; exact ⟨rfl, BW_same h⟩⟩)
theorem op_wash {l : Launch} {g : XG} {M : Mem} {T : Nat} {m w0 k0 wh : Int32} (h : BW M T) : PairL l g YX7_wash YX8_wash [.int m, .int w0, .int k0, .int wh] M T := by
  refine pairL c_X7_wash (fun v1 M1 q => by obtain ⟨rfl, rfl⟩ := q; exact ⟨_, c_X8_wash, fun v2 M2 q2 => by obtain ⟨rfl, rfl⟩ := q2; exact ⟨rfl, BW_same h⟩⟩)
theorem op_washes {l : Launch} {g : XG} {M : Mem} {T : Nat} {m0 w0 a b : Int32} (h : BW M T) : PairI l g YX7_washes YX8_washes [.int m0, .int w0, .int a, .int b] M T := by
  refine pairI c_X7_washes (fun v1 M1 q => by obtain ⟨rfl, rfl⟩ := q; exact ⟨_, c_X8_washes, fun v2 M2 q2 => by obtain ⟨rfl, rfl⟩ := q2; exact ⟨rfl, BW_same h⟩⟩)
theorem op_split {l : Launch} {g : XG} {M : Mem} {T : Nat} {m w0 : Int32} (h : BW M T) : PairI l g YX7_split YX8_split [.int m, .int w0] M T := by
  refine pairI c_X7_split (fun v1 M1 q => by obtain ⟨rfl, rfl⟩ := q; exact ⟨_, c_X8_split, fun v2 M2 q2 => by obtain ⟨rfl, rfl⟩ := q2; exact ⟨rfl, BW_same h⟩⟩)
theorem op_rod {l : Launch} {g : XG} {M : Mem} {T : Nat} {r a b c wh : Int32} (h : BW M T) : PairI l g YX7_rod YX8_rod [.int r, .int a, .int b, .int c, .int wh] M T := by
  refine pairI c_X7_rod (fun v1 M1 q => by obtain ⟨rfl, rfl⟩ := q; exact ⟨_, c_X8_rod, fun v2 M2 q2 => by obtain ⟨rfl, rfl⟩ := q2; exact ⟨rfl, BW_same h⟩⟩)
theorem op_near {l : Launch} {g : XG} {M : Mem} {T : Nat} {a b c xx y : Int32} (h : BW M T) : PairI l g YX7_near YX8_near [.int a, .int b, .int c, .int xx, .int y] M T := by
  refine pairI c_X7_near (fun v1 M1 q => by obtain ⟨rfl, rfl⟩ := q; exact ⟨_, c_X8_near, fun v2 M2 q2 => by obtain ⟨rfl, rfl⟩ := q2; exact ⟨rfl, BW_same h⟩⟩)
theorem op_witch {l : Launch} {g : XG} {M : Mem} {T : Nat} {n0 k0 a0 b0 wh : Int32} (h : BW M T) : PairL l g YX7_witch YX8_witch [.int n0, .int k0, .int a0, .int b0, .int wh] M T := by
  refine pairL c_X7_witch (fun v1 M1 q => by obtain ⟨rfl, rfl⟩ := q; exact ⟨_, c_X8_witch, fun v2 M2 q2 => by obtain ⟨rfl, rfl⟩ := q2; exact ⟨rfl, BW_same h⟩⟩)
theorem op_run {l : Launch} {g : XG} {M : Mem} {T : Nat} {b w0 p n0 wh : Int32} (h : BW M T) : PairI l g YX7_run YX8_run [.int b, .int w0, .int p, .int n0, .int wh] M T := by
  obtain ⟨n, hB⟩ := h.1.1
  refine pairI (c_X7_run h.R h.O h.2.1) (fun v1 M1 q => by obtain ⟨rfl, hj⟩ := q; have hU := BU_M h.1 (j38 hj); exact ⟨_, c_X8_run (RB_cong hB (fun _ _ _ => rfl) (j38 hj 47 (by decide)) (j38 hj 48 (by decide)) (by rw [j38 hj 38 (by decide)])), fun v2 M2 q2 => by obtain ⟨rfl, hf⟩ := q2; exact ⟨rfl, BW_j16 h hj hf⟩⟩)
theorem op_comes {l : Launch} {g : XG} {M : Mem} {T : Nat} {b w0 p : Int32} (h : BW M T) : PairI l g YX7_comes YX8_comes [.int b, .int w0, .int p] M T := by
  obtain ⟨n, hB⟩ := h.1.1
  refine pairI (c_X7_comes h.R h.O h.2.1) (fun v1 M1 q => by obtain ⟨rfl, hj⟩ := q; have hU := BU_M h.1 (j38 hj); exact ⟨_, c_X8_comes (RB_cong hB (fun _ _ _ => rfl) (j38 hj 47 (by decide)) (j38 hj 48 (by decide)) (by rw [j38 hj 38 (by decide)])), fun v2 M2 q2 => by obtain ⟨rfl, hf⟩ := q2; exact ⟨rfl, BW_j16 h hj hf⟩⟩)
theorem op_plan {l : Launch} {g : XG} {M : Mem} {T : Nat} {b wh : Int32} (h : BW M T) : PairI l g YX7_plan YX8_plan [.int b, .int wh] M T := by
  obtain ⟨n, hB⟩ := h.1.1
  refine pairI (c_X7_plan h.R h.O h.2.1) (fun v1 M1 q => by obtain ⟨rfl, hj⟩ := q; have hU := BU_M h.1 (j38 hj); exact ⟨_, c_X8_plan (RB_cong hB (fun _ _ _ => rfl) (j38 hj 47 (by decide)) (j38 hj 48 (by decide)) (by rw [j38 hj 38 (by decide)])), fun v2 M2 q2 => by obtain ⟨rfl, hf⟩ := q2; exact ⟨rfl, BW_jM h hj hf⟩⟩)
theorem op_why {l : Launch} {g : XG} {M : Mem} {T : Nat} {wh : Int32} (h : BW M T) : PairI l g YX7_why YX8_why [.int wh] M T := by
  obtain ⟨n, hB⟩ := h.1.1
  obtain ⟨k, hS⟩ := h.1.2.2.2.2.1
  refine pairI (c_X7_why h.R h.O h.2.1 hS.1) (fun v1 M1 q => by obtain ⟨rfl, hj⟩ := q; have hU := BU_M h.1 (j38 hj); exact ⟨_, c_X8_why (RB_cong hB (fun _ _ _ => rfl) (j38 hj 47 (by decide)) (j38 hj 48 (by decide)) (by rw [j38 hj 38 (by decide)])) (RS_cong hS rfl rfl rfl rfl (by rw [j38 hj 38 (by decide)]) (j38 hj 54 (by decide))), fun v2 M2 q2 => by obtain ⟨rfl, hf⟩ := q2; exact ⟨rfl, BW_jM h hj hf⟩⟩)
theorem op_worked {l : Launch} {g : XG} {M : Mem} {T : Nat} {v0 p k0 : Int32} (h : BW M T) : PairI l g YX7_worked YX8_worked [.int v0, .int p, .int k0] M T := by
  obtain ⟨n, hB⟩ := h.1.1
  refine pairI (c_X7_worked h.2.1) (fun v1 M1 q => by obtain ⟨rfl, hj⟩ := q; have hU := BU_M h.1 (j38 hj); exact ⟨_, c_X8_worked, fun v2 M2 q2 => by obtain ⟨rfl, hf⟩ := q2; exact ⟨rfl, BW_jM h hj hf⟩⟩)
theorem op_keeps {l : Launch} {g : XG} {M : Mem} {T : Nat} {v0 p : Int32} (h : BW M T) : PairI l g YX7_keeps YX8_keeps [.int v0, .int p] M T := by
  obtain ⟨n, hB⟩ := h.1.1
  refine pairI (c_X7_keeps h.2.1) (fun v1 M1 q => by obtain ⟨rfl, hj⟩ := q; have hU := BU_M h.1 (j38 hj); exact ⟨_, c_X8_keeps, fun v2 M2 q2 => by obtain ⟨rfl, hf⟩ := q2; exact ⟨rfl, BW_jM h hj hf⟩⟩)
theorem op_without {l : Launch} {g : XG} {M : Mem} {T : Nat} {wh : Int32} (h : BW M T) : PairI l g YX7_without YX8_without [.int wh] M T := by
  obtain ⟨n, hB⟩ := h.1.1
  refine pairI (c_X7_without hB.kn hB.n8) (fun v1 M1 q => by obtain ⟨rfl, rfl⟩ := q; exact ⟨_, c_X8_without hB, fun v2 M2 q2 => by obtain ⟨rfl, hf⟩ := q2; exact ⟨rfl, BW_jM h (jX_id h) hf⟩⟩)
theorem op_now {l : Launch} {g : XG} {M : Mem} {T : Nat} {w0 : Int32} (h : BW M T) : PairI l g YX7_now YX8_now [.int w0] M T := by
  obtain ⟨n, hB⟩ := h.1.1
  refine pairI (c_X7_now h.R) (fun v1 M1 q => by obtain ⟨rfl, rfl⟩ := q; exact ⟨_, c_X8_now h.R hB.ru h.1.2.1, fun v2 M2 q2 => by obtain ⟨rfl, hC, hf⟩ := q2; exact ⟨rfl, BW_c h (Or.inr ⟨rfl, rfl⟩) hC (Nat.le_refl T) (by omega) hf⟩⟩)
theorem op_drops {l : Launch} {g : XG} {M : Mem} {T : Nat} {v0 : Int32} (h : BW M T) : PairI l g YX7_drops YX8_drops [.int v0] M T := by
  obtain ⟨n, hB⟩ := h.1.1
  refine pairI (c_X7_drops) (fun v1 M1 q => by obtain ⟨rfl, rfl⟩ := q; exact ⟨_, c_X8_drops h.R hB.ru h.1.2.1, fun v2 M2 q2 => by obtain ⟨rfl, hC, hf⟩ := q2; exact ⟨rfl, BW_c h (Or.inr ⟨rfl, rfl⟩) hC (Nat.le_refl T) (by omega) hf⟩⟩)
theorem op_over {l : Launch} {g : XG} {M : Mem} {T : Nat} {p : Int32} (h : BW M T) (hT : T + 9000 < 2 ^ 31) : PairI l g YX7_over YX8_over [.int p] M T := by
  obtain ⟨n, hB⟩ := h.1.1
  refine pairI (c_X7_over h.R h.z14 h.2.1) (fun v1 M1 q => by obtain ⟨rfl, hj⟩ := q; have hU := BU_M h.1 (j38 hj); exact ⟨_, c_X8_over h.R (fun j hjj => by rw [j38 hj 47 (by decide)]; exact hB.ru j hjj) hU.2.1 (by omega), fun v2 M2 q2 => by obtain ⟨rfl, hC, hf⟩ := q2; exact ⟨rfl, BW_j h hj hC hf (fun q hq => hf.1 q (by omega) (by omega) (by omega) (by omega) (by omega))⟩⟩)
theorem op_next {l : Launch} {g : XG} {M : Mem} {T : Nat} {p wh : Int32} (h : BW M T) (hT : T + 9000 < 2 ^ 31) : PairI l g YX7_next YX8_next [.int p, .int wh] M T := by
  obtain ⟨n, hB⟩ := h.1.1
  refine pairI (c_X7_next h.R h.1.2.1.okc (by omega) h.2.1) (fun v1 M1 q => by obtain ⟨rfl, hj⟩ := q; have hU := BU_M h.1 (j38 hj); exact ⟨_, c_X8_next h.R (fun j hjj => by rw [j38 hj 47 (by decide)]; exact hB.ru j hjj) hU.2.1 (by omega), fun v2 M2 q2 => by obtain ⟨rfl, hC, hf⟩ := q2; exact ⟨rfl, BW_j h hj hC hf (fun q hq => hf.1 q (by omega) (by omega) (by omega) (by omega) (by omega))⟩⟩)
theorem op_half {l : Launch} {g : XG} {M : Mem} {T : Nat} (h : BW M T) : PairI l g YX7_half YX8_half [] M T := by
  obtain ⟨n, hB⟩ := h.1.1
  refine pairI (c_X7_half) (fun v1 M1 q => by obtain ⟨rfl, rfl⟩ := q; exact ⟨_, c_X8_half (c := cX M 14) (r := M 2) (T := T) h.R (fun j hj => by rw [c38 M _ 47 (by decide)]; exact hB.ru j hj) (BU_M h.1 (c38 M _)).2.1, fun v2 M2 q2 => by obtain ⟨rfl, hC, hf⟩ := q2; exact ⟨rfl, BW_c h (Or.inl rfl) hC (Nat.le_refl T) (by omega) hf⟩⟩)
theorem op_turn {l : Launch} {g : XG} {M : Mem} {T : Nat} {n0 p : Int32} (h : BW M T) (hT : T + 9000 < 2 ^ 31) : PairI l g YX7_turn YX8_turn [.int n0, .int p] M T := by
  obtain ⟨n, hB⟩ := h.1.1
  refine pairI (c_X7_turn h.R) (fun v1 M1 q => ?_)
  obtain ⟨rfl, rfl⟩ := q
  by_cases hc : badT n0 p = true
  · rw [if_pos hc, if_pos hc]
    refine ⟨_, c_X8_turn (M := M) (c := cX M 14) (r := M 2) (T := T) h.R hB.ru h.1.2.1 (by omega), fun v2 M2 q2 => ?_⟩
    obtain ⟨z1, z2, z3⟩ := q2
    rw [if_pos hc] at z1 z2
    exact ⟨z1, BW_c h (Or.inr ⟨rfl, rfl⟩) z2 (by omega) (by omega) z3⟩
  · rw [if_neg hc, if_neg hc]
    refine ⟨_, c_X8_turn (M := (putC M 14 (itT (M 2) p n0.toNatClampNeg (cX M 14)))) (c := cX M 14) (r := M 2) (T := T) h.R (fun j hj => by rw [c38 M _ 47 (by decide)]; exact hB.ru j hj) (BU_M h.1 (c38 M _)).2.1 (by omega), fun v2 M2 q2 => ?_⟩
    obtain ⟨z1, z2, z3⟩ := q2
    rw [if_neg hc] at z1 z2
    exact ⟨z1, BW_c h (Or.inl rfl) z2 (by omega) (by omega) z3⟩
