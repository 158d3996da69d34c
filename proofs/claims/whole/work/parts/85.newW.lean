theorem kw_link : Cond.methodLink "ButterChurn$Told" 13 ⟨"[I", "clone", "()Ljava/lang/Object;"⟩ ∈ TB := tb_1 33 (by decide +kernel) (by decide +kernel)
theorem kw_same : Cond.sameMethod "[I" "java/lang/Object" "clone" "()Ljava/lang/Object;" ∈ TB := tb_1 34 (by decide +kernel) (by decide +kernel)
theorem kw_nat : Cond.native ⟨"java/lang/Object", "clone", "()Ljava/lang/Object;"⟩ ∈ TB := tb_1 35 (by decide +kernel) (by decide +kernel)
theorem kw_inst : Cond.instanceMethod ⟨"java/lang/Object", "clone", "()Ljava/lang/Object;"⟩ ∈ TB := tb_1 36 (by decide +kernel) (by decide +kernel)
theorem kw_sel : Cond.selects "[I" ⟨"[I", "clone", "()Ljava/lang/Object;"⟩ ⟨"java/lang/Object", "clone", "()Ljava/lang/Object;"⟩ ∈ TB := tb_1 37 (by decide +kernel) (by decide +kernel)
theorem kw_cast : Cond.classLink "ButterChurn$Told" 14 "[I" ∈ TB := tb_1 39 (by decide +kernel) (by decide +kernel)
theorem ow_inst : Cond.instanceMethod objectInit ∈ TB := tb_1 23 (by decide +kernel) (by decide +kernel)
theorem ow_code : Cond.code objectInit ⟨#[0xb1]⟩ 1 none ∈ TB := tb_1 24 rfl (by decide +kernel)
theorem aw_int : Cond.arrayClass .int ∈ TB := tb_1 67 (by decide +kernel) (by decide +kernel)
theorem aw_byte : Cond.arrayClass .byte ∈ TB := tb_1 103 (by decide +kernel) (by decide +kernel)
theorem aw_boolean : Cond.arrayClass .boolean ∈ TB := tb_4 169 (by decide +kernel) (by decide +kernel)
theorem cw_L_7 : Cond.classLink RL 7 RX7 ∈ TB := tb_1 17 (by decide +kernel) (by decide +kernel)
theorem iw_X7 : Cond.instantiable RX7 12 ∈ TB := tb_1 18 (by decide +kernel) (by decide +kernel)
theorem cw_X7_7 : Cond.classLink RX7 7 RX6 ∈ TB := tb_1 25 (by decide +kernel) (by decide +kernel)
theorem iw_X6 : Cond.instantiable RX6 5 ∈ TB := tb_1 26 (by decide +kernel) (by decide +kernel)
theorem cw_X7_16 : Cond.classLink RX7 16 RX3 ∈ TB := tb_1 68 (by decide +kernel) (by decide +kernel)
theorem iw_X3 : Cond.instantiable RX3 8 ∈ TB := tb_1 69 (by decide +kernel) (by decide +kernel)
theorem cw_X3_7 : Cond.classLink RX3 7 RX5 ∈ TB := tb_1 74 (by decide +kernel) (by decide +kernel)
theorem iw_X5 : Cond.instantiable RX5 6 ∈ TB := tb_1 75 (by decide +kernel) (by decide +kernel)
theorem cw_X3_16 : Cond.classLink RX3 16 RX6 ∈ TB := tb_1 104 (by decide +kernel) (by decide +kernel)
theorem cw_X7_23 : Cond.classLink RX7 23 RX1 ∈ TB := tb_1 135 (by decide +kernel) (by decide +kernel)
theorem iw_X1 : Cond.instantiable RX1 7 ∈ TB := tb_1 136 (by decide +kernel) (by decide +kernel)
theorem cw_X7_33 : Cond.classLink RX7 33 RX0 ∈ TB := tb_1 166 (by decide +kernel) (by decide +kernel)
theorem iw_X0 : Cond.instantiable RX0 5 ∈ TB := tb_1 167 (by decide +kernel) (by decide +kernel)
theorem cw_X7_40 : Cond.classLink RX7 40 RX2 ∈ TB := tb_1 189 (by decide +kernel) (by decide +kernel)
theorem iw_X2 : Cond.instantiable RX2 2 ∈ TB := tb_1 191 (by decide +kernel) (by decide +kernel)
theorem cw_X2_7 : Cond.classLink RX2 7 RX1 ∈ TB := tb_1 196 (by decide +kernel) (by decide +kernel)
theorem cw_X7_47 : Cond.classLink RX7 47 RX4 ∈ TB := tb_1 206 (by decide +kernel) (by decide +kernel)
theorem iw_X4 : Cond.instantiable RX4 3 ∈ TB := tb_1 208 (by decide +kernel) (by decide +kernel)
theorem cw_L_10 : Cond.classLink RL 10 RX8 ∈ TB := tb_4 57 (by decide +kernel) (by decide +kernel)
theorem iw_X8 : Cond.instantiable RX8 35 ∈ TB := tb_4 58 (by decide +kernel) (by decide +kernel)
theorem fc_I {x : XC} {g : XG} {y0 : XM} (F : XN x g y0) : (x_s x).vm.findClass "[I" = some (cA g 0) := by
  have h : (x_s x).vm.findClass ("[" ++ (FieldType.int).toString) = some (cA g 0) := (F.1.2.2.2.2.2.1.2 0 _ (show (xty g)[0]? = some (cA g 0, FieldType.int) from rfl)).2
  exact h
theorem nw_gets {x : XC} {g : XG} {y0 : XM} {ws : va_W} {ce sl pc : Nat} {L : List (Nat × Value)} {S : List Value} {idx i : Nat} (F : XN x g y0) (d : decode (xmB y0) pc = .ok (.getstatic idx, 3)) (hi : i < 6) (hw : Cond.fieldLink (xmN y0).cls idx (stC i) (stN i) "[I" ∈ TB) (k : EW x g (xmL y0) ws ce sl (pc + 3) L (.ref (sa g i) :: S)) : EW x g (xmL y0) ws ce sl pc L S := fun H locs ls hP hD hS hl => va_gets F.1.1 F.1.2.1 (F.1.2.2.2.2.2.2.1.1 i hi).1 hS F.1.2.2.2.1 (F.1.2.2.2.2.1 _ hw) (fun _ h => h) d (k H locs ls hP hD hS hl)
theorem nw_clone {x : XC} {g : XG} {y0 : XM} {ws : va_W} {ce sl pc : Nat} {L : List (Nat × Value)} {S : List Value} {i : Nat} (hi : i < 2) (F : XN x g y0) (hc : (xmN y0).cls = "ButterChurn$Told") (d : decode (xmB y0) pc = .ok (.invokevirtual 13, 3)) (hf : 1 ≤ xmF y0) (hr : (S.map fun v => v.category).sum + 14 ≤ xmW y0) (hce : ce + 1 ≤ (x_R x).cells) (hsl : sl + stL i ≤ (x_R x).slots)
    (k : ∀ q : Nat, EW x g (xmL y0) (ws ++ [(q, .inl (cA g 0, stL i, .inl (fun j => (stV i).getD j 0)))]) (ce + 1) (sl + stL i) (pc + 3) L (.ref q :: S)) : EW x g (xmL y0) ws ce sl pc L (.ref (sa g i) :: S) := fun H locs ls hP hD hS hl => by
  obtain ⟨scr, s1, s2, s3, s4, s5, s6, s7⟩ := F.2.1.2.2.2.2 i hi
  have hcH : H[sa g i]? = some scr := by rw [hS.2.1 _ (Array.getElem?_eq_some_iff.mp s1).1 s7]; exact s1
  have hnm := fc_I F
  obtain ⟨c0, t0, f1, f2, f3⟩ := Cond.castable_spec (va_Nw.use (A := x_a x) rfl F.2.1.2.1)
  obtain rfl : cA g 0 = c0 := Option.some.inj (hnm.symm.trans f1)
  intro T hT X
  obtain ⟨-, kA, hkA, comp, hkind⟩ := State.isArrayOf_alike X.warmed.alike ((F.1.2.2.2.2.2.1.2 0 _ (show (xty g)[0]? = some (cA g 0, FieldType.int) from rfl)).1 0 (fun _ => .null))
  obtain ⟨-, kS, hkS, compS, hkindS⟩ := (F.1.2.2.2.2.2.1.2 0 _ (show (xty g)[0]? = some (cA g 0, FieldType.int) from rfl)).1 0 (fun _ => .null)
  have w : ∀ w ∈ TB, w.before (x_a x) (x_s x) = true := F.1.2.2.2.2.1
  obtain ⟨vm1, X1, st⟩ := X.cloneArray F.1.1 (own := "ButterChurn$Told") (by rw [← hc]; exact F.1.2.2.2.1) (w _ kw_link) (w _ kw_same) (w _ kw_nat) (w _ kw_inst) (w _ kw_sel) (a := sa g i) (cell := scr) (by rw [hT]; exact hcH) s2 s3 (by rw [s4]; exact hnm) f2 (by rw [s4]; exact f3)
    (fun j v hv => by
      rw [s4]
      have hk' : T.vm.classes[cA g 0]? = some kA := hkA
      have hj : j < stL i := by rw [← s5]; exact (Array.getElem?_eq_some_iff.mp hv).1
      rw [s6 j hj] at hv
      cases hv
      simp [State.fitsSlot, State.slotType?, hk', hkind, fits])
    (g := F0 (x_m x) pc ls (.ref (sa g i) :: S)) rfl (by show ls.size = _; rw [F.1.2.2.1]; exact hl.1) rfl (by show decode (x_c x).code pc = _; rw [F.1.2.1]; exact d) (Nat.le_trans hf F.1.2.2.2.2.2.2.2.2.1) (by show 2 * 0 + _ + 14 ≤ _; have := Nat.le_trans hr F.1.2.2.2.2.2.2.2.2.2.1; omega) hce (by rw [s5]; exact hsl) (hloader := by rw [s4]; exact Vm.clonesLoader_of_array hkS hkindS)
  have hcell : ({ cls := scr.cls, slots := scr.slots } : Cell) = vp_cell (cA g 0) (stL i, .inl (fun j => (stV i).getD j 0)) := by
    have hsl9 : scr.slots = (arrV (cA g 0) (stL i) (fun j => .int ((stV i).getD j 0))).slots := by
      apply Array.ext_getElem?
      intro j
      by_cases hj : j < stL i
      · rw [s6 j hj, arrV_read _ _ hj]
      · rw [Array.getElem?_eq_none (by rw [s5]; omega), Array.getElem?_eq_none (by rw [arrV_size]; omega)]
    rw [s4, hsl9]; rfl
  rw [hcell, s5] at X1
  generalize hH1 : H.push (vp_cell (cA g 0) (stL i, .inl (fun j => (stV i).getD j 0))) = H1
  have z1 : H1.size = H.size + 1 := by rw [← hH1, Array.size_push]
  have e1 : H1[H.size]? = some (vp_cell (cA g 0) (stL i, .inl (fun j => (stV i).getD j 0))) := by rw [← hH1, Array.getElem?_push_size]
  have o1 : ∀ q : Nat, q < H.size → H1[q]? = H[q]? := fun q hq => by rw [← hH1, Array.getElem?_push, if_neg (Nat.ne_of_lt hq)]
  have hk : ∀ (k : Nat) (y : Nat × va_E), ws[k]? = some y → H1[y.1]? = H[y.1]? := fun k y hy => o1 y.1 ((hP k y hy).lt)
  obtain ⟨t, b1, b2⟩ := k H.size H1 locs ls ((hP.kept hk).app (fun k y hy => by
      have hz : k < 1 := (List.getElem?_eq_some_iff.mp hy).1
      rw [show k = 0 by omega] at hy
      cases hy
      exact e1)) (hD.push hP rfl (F.1.2.2.2.2.2.2.2.1 _ hS.1)) ⟨Nat.le_trans hS.1 (by omega), fun y h1 h2 => (o1 y (Nat.lt_of_lt_of_le h1 hS.1)).trans (hS.2.1 y h1 h2), hS.2.2⟩ hl
    ((T.setVm vm1).pushCell (vp_cell (cA g 0) (stL i, .inl (fun j => (stV i).getD j 0)))) (by rw [← hH1, ← hT]; rfl) X1
  refine ⟨t, st t ?_, b2⟩
  rw [hcell, hT]
  exact b1
theorem nw_cast {x : XC} {g : XG} {y0 : XM} {ws : va_W} {ce sl pc : Nat} {L : List (Nat × Value)} {S : List Value} {q0 a : Nat} {z : vp_A} (F : XN x g y0) (hc : (xmN y0).cls = "ButterChurn$Told") (d : decode (xmB y0) pc = .ok (.checkcast 14, 3)) (ha : ws[q0]? = some (a, .inl (cA g 0, z))) (k : EW x g (xmL y0) ws ce sl (pc + 3) L (.ref a :: S)) : EW x g (xmL y0) ws ce sl pc L (.ref a :: S) := fun H locs ls hP hD hS hl => va_castA F.1.1 F.1.2.1 (own := "ButterChurn$Told") (by rw [← hc]; exact F.1.2.2.2.1) (F.1.2.2.2.2.1 _ kw_cast) hP q0 ha (fc_I F) d (k H locs ls hP hD hS hl)
theorem nw_vret {x : XC} {g : XG} {y0 : XM} {ws ws0 : va_W} {mc ms pc : Nat} {L : List (Nat × Value)} {P : Option Value → va_W → Prop} (F : XN x g y0) (R : XRn x g y0 ws0 mc ms P) (d : decode (xmB y0) pc = .ok (.return_, 1)) (hr : xmR y0 = none) (h : P none ws) : EW x g (xmL y0) ws mc ms pc L [] := fun H locs ls hP hD hS hl => by
  obtain ⟨r3, r4, r5, r6, -, -⟩ := R
  show W _ _ _ _ _ _ _ _ _ _ _ _ mc ms (x_Q x) _
  rw [r4]
  rw [r3] at hD hS
  exact W.vret F.1.1 F.1.2.1 (r5.trans hr) (fun t ht hW => ⟨⟨_, ws, rfl, h, by rw [ht]; exact hP, hD⟩, hS.F ht⟩) hS.2.2 d r6
theorem nw_iret {x : XC} {g : XG} {y0 : XM} {ws ws0 : va_W} {mc ms pc : Nat} {v : Int32} {L : List (Nat × Value)} {P : Option Value → va_W → Prop} (F : XN x g y0) (R : XRn x g y0 ws0 mc ms P) (d : decode (xmB y0) pc = .ok (.ireturn, 1)) (hr : xmR y0 = some .int) (h : P (some (.int v)) ws) : EW x g (xmL y0) ws mc ms pc L [.int v] := fun H locs ls hP hD hS hl => by
  obtain ⟨r3, r4, r5, r6, -, -⟩ := R
  show W _ _ _ _ _ _ _ _ _ _ _ _ mc ms (x_Q x) _
  rw [r4]
  rw [r3] at hD hS
  exact W.iret F.1.1 F.1.2.1 (r5.trans hr) (fun t ht hW => ⟨⟨_, ws, rfl, h, by rw [ht]; exact hP, hD⟩, hS.F ht⟩) hS.2.2 d r6
