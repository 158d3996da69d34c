theorem RI_mono {K M : Mem} {T T' : Nat} (h : RI K M T) (hT : T ≤ T') : RI K M T' := fun k hk => ⟨(h k hk).1, (h k hk).2.1, fun q => ⟨((h k hk).2.2 q).1, ((h k hk).2.2 q).2.1, okC_mono ((h k hk).2.2 q).2.2.1 hT, ((h k hk).2.2 q).2.2.2⟩⟩
theorem BU_T {K M : Mem} {T T' : Nat} (h : BU K M T) (hT : T ≤ T') : BU K M T' := ⟨h.1, RC_T h.2.1 hT, RI_mono h.2.2.1 hT, h.2.2.2⟩
theorem BU_M {K M M' : Mem} {T : Nat} (h : BU K M T) (hM : ∀ q, 38 ≤ q → M' q = M q) : BU K M' T := by
  have e38 : M' 38 = M 38 := hM 38 (by decide)
  obtain ⟨t, hT⟩ := h.2.2.2.2.2.1
  exact BU_cong h (fun _ _ _ _ _ _ => rfl) (fun q a _ _ _ => hM q (by omega)) (by rw [e38]) (by rw [e38]) (by rw [e38]) (by rw [e38]) ⟨t, RT_of hT (by rw [e38]) (hM 39 (by decide))⟩ h.2.2.2.2.2.2.1 (by rw [e38]; exact h.2.2.2.2.2.2.2.2.1)
theorem RT_K {K K' M : Mem} {n : Nat} (h : RT K M n) (e7 : K' 7 1 = K 7 1) (e8 : K' 8 = K 8) : RT K' M n := by unfold RT; rw [e7, e8]; exact h
theorem BU_B {K M K' M' : Mem} {T T' : Nat} (h : BU K M T) (hC : RC (cX K' 14) (K 2 1) M' T') (hT : T ≤ T') (hf : frB M M') (hK : ∀ q, q < 38 → (q < 14 ∨ 18 < q) → q ≠ 37 → K' q = K q) : BU K' M' T' := by
  obtain ⟨⟨n, hB⟩, -, hI, hSh, ⟨k, hS⟩, ⟨t, hTt⟩, hY, hKM, hfa, hto⟩ := h
  have m : ∀ q, q ≠ 38 → q ≠ 51 → q ≠ 52 → q ≠ 53 → q ≠ 55 → M' q = M q := hf.1
  have hB2 := frB_RB hB hf
  have hI2 := RI_mono (RI_fr hI hf hf.2.2.2) hT
  have hS2 := RS_fr hS hf
  refine ⟨⟨n, RB_cong hB2 (fun q a b => hK q (by omega) (by omega) (by omega)) rfl rfl rfl⟩, by rw [hK 2 (by decide) (by decide) (by decide)]; exact hC, RI_cong hI2 (fun q a b => hK q (by omega) (by omega) (by omega)) rfl rfl rfl, RSh_cong hSh (fun q a b => hK q (by omega) (by omega) (by omega)) (m 57 (by decide) (by decide) (by decide) (by decide) (by decide)) (m 58 (by decide) (by decide) (by decide) (by decide) (by decide)) (m 59 (by decide) (by decide) (by decide) (by decide) (by decide)), ⟨k, RS_cong hS2 (by rw [hK 0 (by decide) (by decide) (by decide)]) (by rw [hK 1 (by decide) (by decide) (by decide)]) (hK 35 (by decide) (by decide) (by decide)) (hK 36 (by decide) (by decide) (by decide)) rfl rfl⟩, ⟨t, ?_⟩, ?_, KM_of hKM (fun q a b => m q (by omega) (by omega) (by omega) (by omega) (by omega)), ?_, ?_⟩
  · exact RT_K (RT_of hTt (hf.2.1 1 (by decide)) (m 39 (by decide) (by decide) (by decide) (by decide) (by decide))) (by rw [hK 7 (by decide) (by decide) (by decide)]) (hK 8 (by decide) (by decide) (by decide))
  · unfold BY; rw [hK 8 (by decide) (by decide) (by decide)]; exact hY
  · rw [hK 6 (by decide) (by decide) (by decide), hf.2.1 2 (by decide)]; exact hfa
  · rw [hK 0 (by decide) (by decide) (by decide), hf.2.1 34 (by decide)]; exact hto
theorem RC_jM {c : Nat → Int32} {w0 : Int32} {M M' : Mem} {T : Nat} (h : RC c w0 M T) (hf : jM M M') : RC c w0 M' T := by
  have e : M' 38 = M 38 := hf.1 38 (by decide) (by decide) (by decide) (by decide)
  have e0 : ∀ i, i < 16 → M' 51 i = M 51 i := fun i hi => hf.2 i (Or.inl hi)
  have ec : cM M' 0 = cM M 0 := cM_eq (fun i hi => by rw [Nat.zero_add]; exact e0 i (by omega))
  refine ⟨h.okc, okM_fr h.okm (e0 _ (by decide)), by rw [e]; exact h.aw, ?_⟩
  rw [e, ec]; exact h.row
def BW (M : Mem) (T : Nat) : Prop := BU M M T ∧ zC (cX M 16) ∧ zC (cX M 21) ∧ zC (cX M 24)
theorem fin_BW {M1 M2 : Mem} {T T' : Nat} (hU : BU M1 M2 T') (hT : T' ≤ T + 8000) (fM : ∀ q, q < 38 → M2 q = M1 q) (z6 : zC (cX M1 16)) (z1 : zC (cX M1 21)) (z4 : zC (cX M1 24)) : BW M2 (T + 8000) := by
  have cc : ∀ k, k < 37 → cX M2 k = cX M1 k := fun k hk => cX_cong (fM k (by omega)) (fM (k + 1) (by omega))
  refine ⟨BU_T ?_ hT, by rw [cc 16 (by decide)]; exact z6, by rw [cc 21 (by decide)]; exact z1, by rw [cc 24 (by decide)]; exact z4⟩
  obtain ⟨⟨n, hB⟩, hC, hI, hSh, ⟨k, hS⟩, ⟨t, hTt⟩, hY, hKM, hfa, hto⟩ := hU
  refine ⟨⟨n, RB_cong hB (fun q _ _ => fM q (by omega)) rfl rfl rfl⟩, by rw [cc 14 (by decide), fM 2 (by decide)]; exact hC, RI_cong hI (fun q _ _ => fM q (by omega)) rfl rfl rfl, RSh_cong hSh (fun q _ _ => fM q (by omega)) rfl rfl rfl, ⟨k, RS_cong hS (by rw [fM 0 (by decide)]) (by rw [fM 1 (by decide)]) (fM 35 (by decide)) (fM 36 (by decide)) rfl rfl⟩, ⟨t, RT_K hTt (by rw [fM 7 (by decide)]) (fM 8 (by decide))⟩, ?_, hKM, by rw [fM 6 (by decide)]; exact hfa, by rw [fM 0 (by decide)]; exact hto⟩
  unfold BY; rw [fM 8 (by decide)]; exact hY
theorem BW.R {M : Mem} {T : Nat} (h : BW M T) : okR (M 2) := by obtain ⟨n, hB⟩ := h.1.1; exact hB.ok
theorem BW.O {M : Mem} {T : Nat} (h : BW M T) : tO M := by obtain ⟨n, hB⟩ := h.1.1; exact okT_tO hB
theorem BW.z14 {M : Mem} {T : Nat} (h : BW M T) : zC (cX M 14) := h.1.2.1.okc.2.2.2.2
theorem BW.z {M : Mem} {T : Nat} (h : BW M T) : ∀ q, isO 1 q → zC (cX M q) := by
  intro q hq
  rcases kk_1 hq with rfl | rfl | rfl | rfl
  · exact h.z14
  · exact h.2.1
  · exact h.2.2.1
  · exact h.2.2.2
theorem BW.im {M : Mem} {T : Nat} (h : BW M T) : ∀ q, isO 2 q → M q 1 = 0 ∨ M q 1 = 1 := by
  intro q hq
  rcases kk_2 hq with rfl | rfl
  · have := h.1.2.2.1 0 (by decide)
    rw [show M 20 1 = M 56 0 from this.2.1]; exact this.1
  · have := h.1.2.2.1 1 (by decide)
    rw [show M 23 1 = M 56 1 from this.2.1]; exact this.1
theorem sh_SM {K M : Mem} {k : Nat} (h : SM K M k) : shO K (27 + 2 * k) := by
  rcases h with ⟨-, h⟩ | ⟨la, z, -, h1, -, -, h2, -⟩
  · exact Or.inl h
  · exact Or.inr ⟨z, h1, h2⟩
theorem BW.sh {M : Mem} {T : Nat} (h : BW M T) : ∀ q, isO 4 q → shO M q := by
  intro q hq
  rcases kk_4 hq with rfl | rfl | rfl | rfl
  · exact sh_SM (h.1.2.2.2.1 0 (by decide))
  · exact sh_SM (h.1.2.2.2.1 1 (by decide))
  · exact sh_SM (h.1.2.2.2.1 2 (by decide))
  · exact sh_SM (h.1.2.2.2.1 3 (by decide))
def PairI (l : Launch) (g : XG) (yX y8 : XM) (As : List Value) (M : Mem) (T : Nat) : Prop := Call l g yX (.ref (ad g 0) :: As) M (PI fun v1 M1 => Call l g y8 (.ref (ad g 38) :: As) M1 (PI fun v2 M2 => v2 = v1 ∧ BW M2 (T + 8000)))
def PairL (l : Launch) (g : XG) (yX y8 : XM) (As : List Value) (M : Mem) (T : Nat) : Prop := Call l g yX (.ref (ad g 0) :: As) M (PL fun v1 M1 => Call l g y8 (.ref (ad g 38) :: As) M1 (PL fun v2 M2 => v2 = v1 ∧ BW M2 (T + 8000)))
theorem pairI {l : Launch} {g : XG} {yX y8 : XM} {As : List Value} {M : Mem} {T : Nat} {P1 : Int32 → Mem → Prop} (hc : Call l g yX (.ref (ad g 0) :: As) M (PI P1)) (hr : ∀ v1 M1, P1 v1 M1 → ∃ P2 : Int32 → Mem → Prop, Call l g y8 (.ref (ad g 38) :: As) M1 (PI P2) ∧ ∀ v2 M2, P2 v2 M2 → v2 = v1 ∧ BW M2 (T + 8000)) : PairI l g yX y8 As M T := by
  refine call_imp hc (fun r M1 q => ?_)
  obtain ⟨v1, rfl, q⟩ := q
  obtain ⟨P2, h1, h2⟩ := hr v1 M1 q
  refine ⟨v1, rfl, call_imp h1 (fun r2 M2 q2 => ?_)⟩
  obtain ⟨v2, rfl, q2⟩ := q2
  exact ⟨v2, rfl, h2 v2 M2 q2⟩
theorem pairL {l : Launch} {g : XG} {yX y8 : XM} {As : List Value} {M : Mem} {T : Nat} {P1 : Int64 → Mem → Prop} (hc : Call l g yX (.ref (ad g 0) :: As) M (PL P1)) (hr : ∀ v1 M1, P1 v1 M1 → ∃ P2 : Int64 → Mem → Prop, Call l g y8 (.ref (ad g 38) :: As) M1 (PL P2) ∧ ∀ v2 M2, P2 v2 M2 → v2 = v1 ∧ BW M2 (T + 8000)) : PairL l g yX y8 As M T := by
  refine call_imp hc (fun r M1 q => ?_)
  obtain ⟨v1, rfl, q⟩ := q
  obtain ⟨P2, h1, h2⟩ := hr v1 M1 q
  refine ⟨v1, rfl, call_imp h1 (fun r2 M2 q2 => ?_)⟩
  obtain ⟨v2, rfl, q2⟩ := q2
  exact ⟨v2, rfl, h2 v2 M2 q2⟩
theorem BW_same {M : Mem} {T : Nat} (h : BW M T) : BW M (T + 8000) := fin_BW h.1 (by omega) (fun _ _ => rfl) h.2.1 h.2.2.1 h.2.2.2
/-- class on its trial only, reference in a frame that keeps the churn -/
theorem BW_j {M M1 M2 : Mem} {T : Nat} (h : BW M T) (hj : jX M M1) (hC : RC (cX M 14) (M 2 1) M2 T) (hf : frB M1 M2) (fM : ∀ q, q < 38 → M2 q = M1 q) : BW M2 (T + 8000) := by
  have hU := BU_M h.1 (fun q hq => hj.1 q (by omega) (by omega) (by omega) (by omega))
  have e14 : cX M1 14 = cX M 14 := cX_cong (hj.1 14 (by decide) (by decide) (by decide) (by decide)) (hj.1 15 (by decide) (by decide) (by decide) (by decide))
  refine fin_BW (M1 := M1) (BU_B hU (by rw [e14]; exact hC) (Nat.le_refl T) hf (fun q a b c => hj.1 q (by omega) (by omega) (by omega) c)) (by omega) fM hj.2 ?_ ?_
  · rw [cX_cong (hj.1 21 (by decide) (by decide) (by decide) (by decide)) (hj.1 22 (by decide) (by decide) (by decide) (by decide))]; exact h.2.2.1
  · rw [cX_cong (hj.1 24 (by decide) (by decide) (by decide) (by decide)) (hj.1 25 (by decide) (by decide) (by decide) (by decide))]; exact h.2.2.2
theorem j38 {M M1 : Mem} (hj : jX M M1) : ∀ q, 38 ≤ q → M1 q = M q := fun q hq => hj.1 q (by omega) (by omega) (by omega) (by omega)
theorem jX_id {M : Mem} {T : Nat} (h : BW M T) : jX M M := jX_rf h.2.1
theorem BW_j16 {M M1 M2 : Mem} {T : Nat} (h : BW M T) (hj : jX M M1) (hf : frT M1 M2 16) : BW M2 (T + 8000) :=
  BW_j h hj (RC_out (BU_M h.1 (j38 hj)).2.1 hf (by decide)) (frB_T hf (by decide)) (fun q hq => hf.1 q (by omega) (by omega))
theorem BW_jM {M M1 M2 : Mem} {T : Nat} (h : BW M T) (hj : jX M M1) (hf : jM M1 M2) : BW M2 (T + 8000) :=
  BW_j h hj (RC_jM (BU_M h.1 (j38 hj)).2.1 hf) (jM_fr hf) (fun q hq => hf.1 q (by omega) (by omega) (by omega) (by omega))
/-- the churn's row anew in both -/
theorem BW_c {M M1 M2 : Mem} {T T' : Nat} {c : Nat → Int32} (h : BW M T) (e1 : M1 = putC M 14 c ∨ (M1 = M ∧ c = cX M 14)) (hC : RC c (M 2 1) M2 T') (hT : T ≤ T') (hT2 : T' ≤ T + 8000) (hf : frB M1 M2) : BW M2 (T + 8000) := by
  have o : ∀ q, q ≠ 14 → q ≠ 15 → M1 q = M q := fun q a b => by
    rcases e1 with e | ⟨e, -⟩
    · rw [e, rd_o a b]
    · rw [e]
  have e14 : cX M1 14 = c := by
    rcases e1 with e | ⟨e, z⟩
    · rw [e, cX_putC]
    · rw [e, z]
  have hU := BU_M h.1 (M' := M1) (fun q hq => o q (by omega) (by omega))
  refine fin_BW (M1 := M1) (BU_B hU (by rw [e14]; exact hC) hT hf (fun q a b c => o q (by omega) (by omega))) hT2 (fun q hq => hf.1 q (by omega) (by omega) (by omega) (by omega) (by omega)) ?_ ?_ ?_
  · rw [cX_cong (o 16 (by decide) (by decide)) (o 17 (by decide) (by decide))]; exact h.2.1
  · rw [cX_cong (o 21 (by decide) (by decide)) (o 22 (by decide) (by decide))]; exact h.2.2.1
  · rw [cX_cong (o 24 (by decide) (by decide)) (o 25 (by decide) (by decide))]; exact h.2.2.2
theorem c38 (M : Mem) (c : Nat → Int32) : ∀ q, 38 ≤ q → putC M 14 c q = M q := fun q hq => rd_o (by omega) (by omega)
