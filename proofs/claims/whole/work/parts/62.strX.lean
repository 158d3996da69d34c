theorem ex_ldcS {x : XC} {g : XG} {y0 : XM} {M : Mem} {pc : Nat} {L : List (Nat × Value)} {S : List Value} {i : Nat} (hi : i < 8) (hc : (xmN y0).cls = "ButterChurn$Reading") (F : XF x g y0) (d : decode (xmB y0) pc = .ok (.ldc (strK i), 2)) (k : EX x g (xmL y0) M (pc + 2) L (.ref (sk g i) :: S)) : EX x g (xmL y0) M pc L S := fun H locs ls hP hD hS hl => va_ldcS F.1 F.2.1 (own := "ButterChurn$Reading") (by rw [← hc]; exact F.2.2.2.1) (F.2.2.2.2.2.2.1.2.2.1 i hi) d (k H locs ls hP hD hS hl)
theorem ex_gfSv {x : XC} {g : XG} {y0 : XM} {M : Mem} {pc : Nat} {L : List (Nat × Value)} {S : List Value} {i idx : Nat} (hi : i < 8) (F : XF x g y0) (d : decode (xmB y0) pc = .ok (.getfield idx, 3)) (hw : Cond.fieldLink (xmN y0).cls idx "java/lang/String" "value" "[B" ∈ TB) (k : EX x g (xmL y0) M (pc + 3) L (.ref (sv g i) :: S)) : EX x g (xmL y0) M pc L (.ref (sk g i) :: S) := fun H locs ls hP hD hS hl => vk_getf F.1 F.2.1 (F.2.2.2.2.2.2.1.2.1.1 i hi).2.2.1 hS F.2.2.2.1 (F.2.2.2.2.1 _ hw) (fun _ h => h) d (k H locs ls hP hD hS hl)
theorem ex_gfSc {x : XC} {g : XG} {y0 : XM} {M : Mem} {pc : Nat} {L : List (Nat × Value)} {S : List Value} {i idx : Nat} (hi : i < 8) (F : XF x g y0) (d : decode (xmB y0) pc = .ok (.getfield idx, 3)) (hw : Cond.fieldLink (xmN y0).cls idx "java/lang/String" "coder" "B" ∈ TB) (k : EX x g (xmL y0) M (pc + 3) L (.int 0 :: S)) : EX x g (xmL y0) M pc L (.ref (sk g i) :: S) := fun H locs ls hP hD hS hl => vk_getf F.1 F.2.1 (F.2.2.2.2.2.2.1.2.1.1 i hi).2.1 hS F.2.2.2.1 (F.2.2.2.2.1 _ hw) (fun _ h => h) d (k H locs ls hP hD hS hl)
theorem ex_alS {x : XC} {g : XG} {y0 : XM} {M : Mem} {pc : Nat} {L : List (Nat × Value)} {S : List Value} {i : Nat} {v : Int32} (hi : i < 8) (F : XF x g y0) (d : decode (xmB y0) pc = .ok (.arraylength, 1)) (hv : Int32.ofNat (strLen.getD i 0) = v) (k : EX x g (xmL y0) M (pc + 1) L (.int v :: S)) : EX x g (xmL y0) M pc L (.ref (sv g i) :: S) := fun H locs ls hP hD hS hl => va_tlen F.1 F.2.1 (F.2.2.2.2.2.2.1.2.1.1 i hi).2.2.2 hS hv d (k H locs ls hP hD hS hl)
theorem ex_aldS {x : XC} {g : XG} {y0 : XM} {M : Mem} {pc : Nat} {L : List (Nat × Value)} {S : List Value} {i j : Nat} {q : Int32} (hi : i < 8) (F : XF x g y0) (d : decode (xmB y0) pc = .ok (.baload, 1)) (hin : vp_in q (strLen.getD i 0)) (hj : q.toNatClampNeg = j) (k : EX x g (xmL y0) M (pc + 1) L (.int ((strByt.getD i []).getD j 0) :: S)) : EX x g (xmL y0) M pc L (.int q :: .ref (sv g i) :: S) := fun H locs ls hP hD hS hl => va_tb F.1 F.2.1 (F.2.2.2.2.2.2.1.2.1.1 i hi).2.2.2 hS hin (v := .int ((strByt.getD i []).getD j 0)) (by rw [hj]) d (k H locs ls hP hD hS hl)
theorem ex_getsC {x : XC} {g : XG} {y0 : XM} {M : Mem} {pc : Nat} {L : List (Nat × Value)} {S : List Value} {idx : Nat} (F : XF x g y0) (d : decode (xmB y0) pc = .ok (.getstatic idx, 3)) (hw : Cond.fieldLink (xmN y0).cls idx "java/lang/String" "COMPACT_STRINGS" "Z" ∈ TB) (k : EX x g (xmL y0) M (pc + 3) L (.int 1 :: S)) : EX x g (xmL y0) M pc L S := fun H locs ls hP hD hS hl => va_gets F.1 F.2.1 F.2.2.2.2.2.2.1.2.2.2.1 hS F.2.2.2.1 (F.2.2.2.2.1 _ hw) (fun _ h => h) d (k H locs ls hP hD hS hl)
theorem ex_getsF {x : XC} {g : XG} {y0 : XM} {M : Mem} {pc : Nat} {L : List (Nat × Value)} {S : List Value} {idx : Nat} (F : XF x g y0) (d : decode (xmB y0) pc = .ok (.getstatic idx, 3)) (hw : Cond.fieldLink (xmN y0).cls idx "jdk/internal/util/Preconditions" "SIOOBE_FORMATTER" "Ljava/util/function/BiFunction;" ∈ TB) (k : ∀ v : Value, (v = .null ∨ ∃ a, v = .ref a) → EX x g (xmL y0) M (pc + 3) L (v :: S)) : EX x g (xmL y0) M pc L S := fun H locs ls hP hD hS hl => by
  obtain ⟨v, hv, hz⟩ := F.2.2.2.2.2.2.1.2.2.2.2.2
  exact va_gets F.1 F.2.1 hz hS F.2.2.2.1 (F.2.2.2.2.1 _ hw) (fun _ h => h) d (k v hv H locs ls hP hD hS hl)
theorem ex_callVS {x : XC} {g : XG} {y0 : XM} {M : Mem} {pc : Nat} {L : List (Nat × Value)} {S : List Value} {z : XM} {idx n i : Nat} {As St : List Value} {P0 : Option Value → Mem → Prop} (hi : i < 8) (F : XF x g y0) (hC : Call (x_l x) g z (.ref (sk g i) :: As) M P0) (d : decode (xmB y0) pc = .ok (.invokevirtual idx, 3)) (cs : CSV (xmN y0).cls (xmF y0) (xmW y0) idx n z) (hcl : (xmN z).cls = "java/lang/String") (hn : As.length = n) (hst : St = As.reverse ++ .ref (sk g i) :: S) (hW : (S.map fun v => v.category).sum ≤ 8)
    (kk : ∀ (r : Option Value) (M1 : Mem), P0 r M1 → EX x g (xmL y0) M1 (pc + 3) L (r.toList ++ S)) : EX x g (xmL y0) M pc L St := fun H locs ls hP hD hS hl => by
  exact ex_back F hD hS hl (va_runV (C := "java/lang/String") (As := As) (rest := S) ⟨F.1, F.2.1, F.2.2.1, F.2.2.2.1, F.2.2.2.2.1⟩ (hC H.size) ⟨cs_b F cs.1, F.2.2.2.2.1 _ cs.2.1, by rw [← hcl]; exact F.2.2.2.2.1 _ cs.2.2⟩ ⟨xPc_blind _ _ _ _, vk_recv F.2.2.2.2.2.2.1.2.1 hi hS, xpc_at F hP hD hS⟩ rfl hn hl.1 hst (lv_room hW) d ⟨F.2.2.2.2.2.2.2.2.2.2.1, F.2.2.2.2.2.2.2.2.2.2.2⟩) kk
theorem ex_callVSi {x : XC} {g : XG} {y0 : XM} {M : Mem} {pc : Nat} {L : List (Nat × Value)} {S : List Value} {z : XM} {idx n i : Nat} {As St : List Value} {P0 : Int32 → Mem → Prop} (hi : i < 8) (F : XF x g y0) (hC : Call (x_l x) g z (.ref (sk g i) :: As) M (PI P0)) (d : decode (xmB y0) pc = .ok (.invokevirtual idx, 3)) (cs : CSV (xmN y0).cls (xmF y0) (xmW y0) idx n z) (hcl : (xmN z).cls = "java/lang/String") (hn : As.length = n) (hst : St = As.reverse ++ .ref (sk g i) :: S) (hW : (S.map fun v => v.category).sum ≤ 8)
    (kk : ∀ (v : Int32) (M1 : Mem), P0 v M1 → EX x g (xmL y0) M1 (pc + 3) L (.int v :: S)) : EX x g (xmL y0) M pc L St := ex_callVS hi F hC d cs hcl hn hst hW (fun r M1 h => by obtain ⟨v, rfl, h⟩ := h; exact kk v M1 h)
def CSN (own : String) (yF yW n : Nat) (z : XM) : Prop := (Cond.initialized (xmN z).cls ∈ TB ∧ xcode z ∈ TB ∧ ((xmN z).cls ≠ "java/lang/invoke/MethodHandle" ∧ (xmN z).cls ≠ "java/lang/invoke/VarHandle" ∧ (parseMethodDescriptor (xmN z).desc).map (fun d => d.parameters.length) = some n) ∧ (xmF z + 1 ≤ yF ∧ 8 + (xmL z + 11) + xmW z ≤ yW)) ∧ Cond.static (xmN z) ∈ TB
theorem ex_callSN {x : XC} {g : XG} {y0 : XM} {M : Mem} {pc : Nat} {L : List (Nat × Value)} {S : List Value} {z : XM} {n : Nat} {As St : List Value} {P0 : Int32 → Mem → Prop} (F : XF x g y0) (hC : Call (x_l x) g z As M (PI P0)) (hz : xmN z = yX7_outside) (hc : (xmN y0).cls = "ButterChurn$Reading") (d : decode (xmB y0) pc = .ok (.invokestatic 114, 3)) (cs : CSN (xmN y0).cls (xmF y0) (xmW y0) n z) (hn : As.length = n) (hst : St = As.reverse ++ S) (hW : (S.map fun v => v.category).sum ≤ 8)
    (kk : ∀ (v : Int32) (M1 : Mem), P0 v M1 → EX x g (xmL y0) M1 (pc + 3) L (.int v :: S)) : EX x g (xmL y0) M pc L St := fun H locs ls hP hD hS hl => by
  have hnest : va_Nw (.methodLinkNest (xmN y0).cls 114 (xmN z) RX7) (x_s x) := by rw [hz, hc]; exact F.2.2.2.2.2.2.1.2.2.2.2.1
  exact ex_back F hD hS hl (va_runSN (As := As) (rest := S) ⟨F.1, F.2.1, F.2.2.1, F.2.2.2.1, F.2.2.2.2.1⟩ (hC H.size)
    ⟨va_cnB (Ts := TB) n F.2.2.2.2.1 (tb_in cs.1.2.1) rfl rfl rfl hnest (F.2.2.2.2.1 _ cs.1.1) cs.1.2.2.1 ⟨Nat.le_trans cs.1.2.2.2.1 F.2.2.2.2.2.2.2.2.1, Nat.le_trans cs.1.2.2.2.2 F.2.2.2.2.2.2.2.2.2.1⟩, F.2.2.2.2.1 _ cs.2, trivial⟩
    ⟨xPc_blind _ _ _ _, xpc_at F hP hD hS⟩ rfl hn hl.1 hst (lv_room hW) d ⟨F.2.2.2.2.2.2.2.2.2.2.1, F.2.2.2.2.2.2.2.2.2.2.2⟩) (fun r M1 h => by obtain ⟨v, rfl, h⟩ := h; exact kk v M1 h)
set_option maxRecDepth 100000 in
theorem c_J0_coder_7d493 {l : Launch} {g : XG} {M : Mem} {i : Nat} (hi : i < 8) : Call l g YJ0_coder_7d493 [.ref (sk g i)] M (PI (fun v M' => v = 0 ∧ M' = M)) := by
  refine call_ofF (by decide +kernel) (Nat.le_of_ble_eq_true rfl) (fun x hxl F R => ?_)
  subst hxl
  refine ex_getsC F dJ0_coder_7d493_0 fl_J0_38 ?_
  refine ex_if_eq (t := 13) F dJ0_coder_7d493_3 (by decide) (fun c => absurd c (by decide)) (fun _ => ?_)
  refine ex_aload_n F dJ0_coder_7d493_6 rfl rfl ?_
  refine ex_gfSc hi F dJ0_coder_7d493_7 fl_J0_15 ?_
  refine ex_goto (t := 14) F dJ0_coder_7d493_10 (by decide) ?_
  exact ex_zret (ty := .byte) F R dJ0_coder_7d493_14 rfl rfl ⟨rfl, rfl⟩
theorem cs_J0_length_8abf5_335 : CSV (xmN YJ0_length_8abf5).cls (xmF YJ0_length_8abf5) (xmW YJ0_length_8abf5) 335 0 YJ0_coder_7d493 := ⟨⟨ml_J0_335, ini_J0, cd_J0_coder_7d493, by decide +kernel, by decide⟩, im_J0_coder_7d493, se_J0_coder_7d493⟩
set_option maxRecDepth 100000 in
theorem c_J0_length_8abf5 {l : Launch} {g : XG} {M : Mem} {i : Nat} (hi : i < 8) : Call l g YJ0_length_8abf5 [.ref (sk g i)] M (PI (fun v M' => v = nI (strLen.getD i 0) ∧ M' = M)) := by
  refine call_ofF (by decide +kernel) (Nat.le_of_ble_eq_true rfl) (fun x hxl F R => ?_)
  subst hxl
  refine ex_aload_n F dJ0_length_8abf5_0 rfl rfl ?_
  refine ex_gfSv hi F dJ0_length_8abf5_1 fl_J0_9 ?_
  refine ex_alS hi F dJ0_length_8abf5_4 rfl ?_
  refine ex_aload_n F dJ0_length_8abf5_5 rfl rfl ?_
  refine ex_callVSi hi F (c_J0_coder_7d493 hi) dJ0_length_8abf5_6 cs_J0_length_8abf5_335 rfl rfl rfl (Nat.le_of_ble_eq_true rfl) (fun v6 M6 h6 => ?_)
  obtain ⟨rfl, q6⟩ := h6
  rw [q6]
  refine ex_ishr F dJ0_length_8abf5_9 ?_
  exact ex_iret F R dJ0_length_8abf5_10 rfl ⟨(show ∀ i, i < 8 → (Int32.ofNat (strLen.getD i 0)) >>> ((0 : Int32) &&& 31) = nI (strLen.getD i 0) by decide +kernel) i hi, rfl⟩
set_option maxRecDepth 100000 in
theorem c_J0_isLatin1_aae02 {l : Launch} {g : XG} {M : Mem} {i : Nat} (hi : i < 8) : Call l g YJ0_isLatin1_aae02 [.ref (sk g i)] M (PI (fun v M' => v = 1 ∧ M' = M)) := by
  refine call_ofF (by decide +kernel) (Nat.le_of_ble_eq_true rfl) (fun x hxl F R => ?_)
  subst hxl
  refine ex_getsC F dJ0_isLatin1_aae02_0 fl_J0_38 ?_
  refine ex_if_eq (t := 17) F dJ0_isLatin1_aae02_3 (by decide) (fun c => absurd c (by decide)) (fun _ => ?_)
  refine ex_aload_n F dJ0_isLatin1_aae02_6 rfl rfl ?_
  refine ex_gfSc hi F dJ0_isLatin1_aae02_7 fl_J0_15 ?_
  refine ex_if_ne (t := 17) F dJ0_isLatin1_aae02_10 (by decide) (fun c => absurd rfl c) (fun _ => ?_)
  refine ex_iconst (v := 1) F dJ0_isLatin1_aae02_13 (by decide) ?_
  refine ex_goto (t := 18) F dJ0_isLatin1_aae02_14 (by decide) ?_
  exact ex_zret (ty := .boolean) F R dJ0_isLatin1_aae02_18 rfl rfl ⟨rfl, rfl⟩
set_option maxRecDepth 100000 in
theorem c_J3_checkIndex_8e157 {l : Launch} {g : XG} {M : Mem} {b c : Nat} (h : b < c) (hc : c < 2 ^ 31) : Call l g YJ3_checkIndex_8e157 [.int (nI b), .int (nI c), .null] M (PI fun _ M' => M' = M) := by
  refine call_ofF (by decide +kernel) (Nat.le_of_ble_eq_true rfl) (fun x hxl F R => ?_)
  subst hxl
  refine ex_iload_n F dJ3_checkIndex_8e157_0 rfl rfl ?_
  refine ex_if_lt (t := 9) F dJ3_checkIndex_8e157_1 (by decide) (fun c => absurd c (nI_pos (by omega))) (fun _ => ?_)
  refine ex_iload_n F dJ3_checkIndex_8e157_4 rfl rfl ?_
  refine ex_iload_n F dJ3_checkIndex_8e157_5 rfl rfl ?_
  refine ex_icmp_lt (t := 16) F dJ3_checkIndex_8e157_6 (by decide) (fun _ => ?_) (fun q => absurd (nI_lt h hc) q)
  refine ex_iload_n F dJ3_checkIndex_8e157_16 rfl rfl ?_
  exact ex_iret F R dJ3_checkIndex_8e157_17 rfl rfl
set_option maxRecDepth 100000 in
theorem c_J3_checkIndexR {l : Launch} {g : XG} {M : Mem} {a b c : Nat} (h : b < c) (hc : c < 2 ^ 31) : Call l g YJ3_checkIndex_8e157 [.int (nI b), .int (nI c), .ref a] M (PI fun _ M' => M' = M) := by
  refine call_ofF (by decide +kernel) (Nat.le_of_ble_eq_true rfl) (fun x hxl F R => ?_)
  subst hxl
  refine ex_iload_n F dJ3_checkIndex_8e157_0 rfl rfl ?_
  refine ex_if_lt (t := 9) F dJ3_checkIndex_8e157_1 (by decide) (fun c => absurd c (nI_pos (by omega))) (fun _ => ?_)
  refine ex_iload_n F dJ3_checkIndex_8e157_4 rfl rfl ?_
  refine ex_iload_n F dJ3_checkIndex_8e157_5 rfl rfl ?_
  refine ex_icmp_lt (t := 16) F dJ3_checkIndex_8e157_6 (by decide) (fun _ => ?_) (fun q => absurd (nI_lt h hc) q)
  refine ex_iload_n F dJ3_checkIndex_8e157_16 rfl rfl ?_
  exact ex_iret F R dJ3_checkIndex_8e157_17 rfl rfl
theorem c_J3_ck {l : Launch} {g : XG} {M : Mem} {b c : Nat} {v : Value} (h : b < c) (hc : c < 2 ^ 31) (hv : v = .null ∨ ∃ a, v = .ref a) : Call l g YJ3_checkIndex_8e157 [.int (nI b), .int (nI c), v] M (PI fun _ M' => M' = M) := by
  rcases hv with rfl | ⟨a, rfl⟩
  · exact c_J3_checkIndex_8e157 h hc
  · exact c_J3_checkIndexR h hc
theorem cs_J0_checkIndex_df160_1059 : CSS (xmN YJ0_checkIndex_df160).cls (xmF YJ0_checkIndex_df160) (xmW YJ0_checkIndex_df160) 1059 3 YJ3_checkIndex_8e157 := ⟨⟨ml_J0_1059, ini_J3, cd_J3_checkIndex_8e157, by decide +kernel, by decide⟩, st_J3_checkIndex_8e157⟩
set_option maxRecDepth 100000 in
theorem c_J0_checkIndex_df160 {l : Launch} {g : XG} {M : Mem} {b c : Nat} (h : b < c) (hc : c < 2 ^ 31) : Call l g YJ0_checkIndex_df160 [.int (nI b), .int (nI c)] M (PV fun M' => M' = M) := by
  refine call_ofF (by decide +kernel) (Nat.le_of_ble_eq_true rfl) (fun x hxl F R => ?_)
  subst hxl
  refine ex_iload_n F dJ0_checkIndex_df160_0 rfl rfl ?_
  refine ex_iload_n F dJ0_checkIndex_df160_1 rfl rfl ?_
  refine ex_getsF F dJ0_checkIndex_df160_2 fl_J0_1053 (fun v hv => ?_)
  refine ex_callSi F (c_J3_ck h hc hv) dJ0_checkIndex_df160_5 cs_J0_checkIndex_df160_1059 rfl rfl (Nat.le_of_ble_eq_true rfl) (fun v5 M5 h5 => ?_)
  rw [h5]
  refine ex_pop F dJ0_checkIndex_df160_8 rfl ?_
  exact ex_vret F R dJ0_checkIndex_df160_9 rfl rfl
def sCh (i k : Nat) : Int32 := ((((strByt.getD i []).getD k 0) &&& 255).toUInt32 % 65536).toInt32
theorem sLen_le : ∀ i, i < 8 → strLen.getD i 0 ≤ 5 := by decide +kernel
theorem sCh_eq : ∀ i, i < 8 → ∀ k, k < 5 → k < strLen.getD i 0 → sCh i k = (strT i).getD k 0 := by decide +kernel
theorem cs_J1_charAt_3b067_9 : CSS (xmN YJ1_charAt_3b067).cls (xmF YJ1_charAt_3b067) (xmW YJ1_charAt_3b067) 9 2 YJ0_checkIndex_df160 := ⟨⟨ml_J1_9, ini_J0, cd_J0_checkIndex_df160, by decide +kernel, by decide⟩, st_J0_checkIndex_df160⟩
set_option maxRecDepth 100000 in
theorem c_J1_charAt_3b067 {l : Launch} {g : XG} {M : Mem} {i k : Nat} (hi : i < 8) (hk : k < strLen.getD i 0) : Call l g YJ1_charAt_3b067 [.ref (sv g i), .int (nI k)] M (PI fun v M' => v = sCh i k ∧ M' = M) := by
  refine call_ofF (by decide +kernel) (Nat.le_of_ble_eq_true rfl) (fun x hxl F R => ?_)
  subst hxl
  have l5 := sLen_le i hi
  refine ex_iload_n F dJ1_charAt_3b067_0 rfl rfl ?_
  refine ex_aload_n F dJ1_charAt_3b067_1 rfl rfl ?_
  refine ex_alS hi F dJ1_charAt_3b067_2 (v := nI (strLen.getD i 0)) rfl ?_
  refine ex_callS F (c_J0_checkIndex_df160 hk (by omega)) dJ1_charAt_3b067_3 cs_J1_charAt_3b067_9 rfl rfl (Nat.le_of_ble_eq_true rfl) (fun r M3 h3 => ?_)
  obtain ⟨rfl, q3⟩ := h3
  rw [q3]
  refine ex_aload_n F dJ1_charAt_3b067_6 rfl rfl ?_
  refine ex_iload_n F dJ1_charAt_3b067_7 rfl rfl ?_
  refine ex_aldS hi F dJ1_charAt_3b067_8 (vp_in_nI hk (by omega)) (j := k) (nI_clamp (by omega)) ?_
  refine ex_sipush (v := 255) F dJ1_charAt_3b067_9 (by decide) ?_
  refine ex_iand F dJ1_charAt_3b067_12 ?_
  refine ex_i2c F dJ1_charAt_3b067_13 ?_
  exact ex_zret (ty := .char) F R dJ1_charAt_3b067_14 rfl (pk_nc _) ⟨rfl, rfl⟩
theorem cs_J0_charAt_5068e_492 : CSV (xmN YJ0_charAt_5068e).cls (xmF YJ0_charAt_5068e) (xmW YJ0_charAt_5068e) 492 0 YJ0_isLatin1_aae02 := ⟨⟨ml_J0_492, ini_J0, cd_J0_isLatin1_aae02, by decide +kernel, by decide⟩, im_J0_isLatin1_aae02, se_J0_isLatin1_aae02⟩
theorem cs_J0_charAt_5068e_495 : CSS (xmN YJ0_charAt_5068e).cls (xmF YJ0_charAt_5068e) (xmW YJ0_charAt_5068e) 495 2 YJ1_charAt_3b067 := ⟨⟨ml_J0_495, ini_J1, cd_J1_charAt_3b067, by decide +kernel, by decide⟩, st_J1_charAt_3b067⟩
set_option maxRecDepth 100000 in
theorem c_J0_charAt_5068e {l : Launch} {g : XG} {M : Mem} {i k : Nat} (hi : i < 8) (hk : k < strLen.getD i 0) : Call l g YJ0_charAt_5068e [.ref (sk g i), .int (nI k)] M (PI fun v M' => v = (strT i).getD k 0 ∧ M' = M) := by
  refine call_ofF (by decide +kernel) (Nat.le_of_ble_eq_true rfl) (fun x hxl F R => ?_)
  subst hxl
  have l5 := sLen_le i hi
  refine ex_aload_n F dJ0_charAt_5068e_0 rfl rfl ?_
  refine ex_callVSi hi F (c_J0_isLatin1_aae02 hi) dJ0_charAt_5068e_1 cs_J0_charAt_5068e_492 rfl rfl rfl (Nat.le_of_ble_eq_true rfl) (fun v1 M1 h1 => ?_)
  obtain ⟨rfl, q1⟩ := h1
  rw [q1]
  refine ex_if_eq (t := 16) F dJ0_charAt_5068e_4 (by decide) (fun c => absurd c (by decide)) (fun _ => ?_)
  refine ex_aload_n F dJ0_charAt_5068e_7 rfl rfl ?_
  refine ex_gfSv hi F dJ0_charAt_5068e_8 fl_J0_9 ?_
  refine ex_iload_n F dJ0_charAt_5068e_11 rfl rfl ?_
  refine ex_callSi F (c_J1_charAt_3b067 hi hk) dJ0_charAt_5068e_12 cs_J0_charAt_5068e_495 rfl rfl (Nat.le_of_ble_eq_true rfl) (fun v2 M2 h2 => ?_)
  obtain ⟨rfl, q2⟩ := h2
  rw [q2]
  exact ex_zret (ty := .char) F R dJ0_charAt_5068e_15 rfl (pk_nc _) ⟨sCh_eq i hi k (by omega) hk, rfl⟩
