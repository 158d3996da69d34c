-- the start: what the given conditions say of the machine at the law's entry
theorem tl_1 {w : Cond} (i : Nat) (h : tables_1_1[i]? = some w) : w ∈ lw_tbl := List.mem_append_right _ (List.mem_append_left _ (List.mem_of_getElem? h))
theorem tl_2 {w : Cond} (i : Nat) (h : tables_1_2[i]? = some w) : w ∈ lw_tbl := List.mem_append_right _ (List.mem_append_right _ (List.mem_append_left _ (List.mem_of_getElem? h)))
def FLw : List Cond := flatC (Jvm.Cond.and given_1 narrow_1)
def nrR (i : Nat) : Nat := ([3, 15, 22, 38, 49, 67] : List Nat).getD i 0
def nrS (i : Nat) : Nat := ([103, 110, 120, 131, 142, 154, 168, 182] : List Nat).getD i 0
abbrev tmR (i : Nat) : Term := .static (stC i) (stN i) "[I"
abbrev tmS (i : Nat) : Term := .string "ButterChurn$Reading" (strK i)
theorem nr_ar : ∀ i, i < 6 → FLw[nrR i + 2]? = some (.arrayOf (tmR i) .int) := by decide +kernel
theorem nr_le : ∀ i, i < 6 → FLw[nrR i + 3]? = some (.eq (.length (tmR i)) (.int (Int32.ofNat (stL i)))) := by decide +kernel
theorem nr_el : ∀ i, i < 6 → ∀ j, j < stL i → FLw[nrR i + 4 + j]? = some (.eq (.elem (tmR i) (.int (Int32.ofNat j))) (.int ((stV i).getD j 0))) := by decide +kernel
theorem nr_ex : ∀ i, i < 2 → FLw[204 + i]? = some (.exactly (tmR i) "[I") := by decide +kernel
theorem ns_ex : ∀ i, i < 8 → FLw[nrS i + 1]? = some (.exactly (tmS i) "java/lang/String") := by decide +kernel
theorem ns_co : ∀ i, i < 8 → FLw[nrS i + 2]? = some (.eq (.field (tmS i) "java/lang/String" "coder" "B") (.int 0)) := by decide +kernel
theorem ns_ar : ∀ i, i < 8 → FLw[nrS i + 3]? = some (.arrayOf (.field (tmS i) "java/lang/String" "value" "[B") .byte) := by decide +kernel
theorem ns_le : ∀ i, i < 8 → FLw[nrS i + 4]? = some (.eq (.length (.field (tmS i) "java/lang/String" "value" "[B")) (.int (Int32.ofNat (strLen.getD i 0)))) := by decide +kernel
theorem ns_el : ∀ i, i < 8 → ∀ j, j < strLen.getD i 0 → FLw[nrS i + 5 + j]? = some (.eq (.elem (.field (tmS i) "java/lang/String" "value" "[B") (.int (Int32.ofNat j))) (.int ((strByt.getD i []).getD j 0))) := by decide +kernel
theorem ns_ne : ∀ j, j < 8 → ∀ i, i < j → FLw[nrS j + 5 + strLen.getD j 0 + i]? = some (.not (.eq (tmS i) (tmS j))) := by decide +kernel
theorem nr_cs : FLw[34]? = some (.eq (.static "java/lang/String" "COMPACT_STRINGS" "Z") (.int 1)) := by decide +kernel
theorem nr_si : FLw[35]? = some (.isRef (.static "jdk/internal/util/Preconditions" "SIOOBE_FORMATTER" "Ljava/util/function/BiFunction;")) := by decide +kernel
theorem st_2 : ∀ i, i < 6 → stL i < 2 ^ 31 := by decide +kernel
theorem str_2 : ∀ i, i < 8 → strLen.getD i 0 < 2 ^ 31 := by decide +kernel
theorem tw_ls : ∀ i, i < 6 → Cond.laysStatic (stC i) (stN i) "[I" ∈ lw_tbl := fun i hi => match i, hi with
  | 0, _ => tl_1 32 (by decide +kernel)
  | 1, _ => tl_1 41 (by decide +kernel)
  | 2, _ => tl_2 84 (by decide +kernel)
  | 3, _ => tl_2 162 (by decide +kernel)
  | 4, _ => tl_2 164 (by decide +kernel)
  | 5, _ => tl_2 166 (by decide +kernel)
  | n + 6, h => absurd h (by omega)
theorem tw_in : ∀ i, i < 6 → Cond.initialized (stC i) ∈ lw_tbl := fun i hi => match i, hi with
  | 0, _ => tl_1 2 (by decide +kernel)
  | 1, _ => tl_1 2 (by decide +kernel)
  | 2, _ => tl_1 3 (by decide +kernel)
  | 3, _ => tl_1 3 (by decide +kernel)
  | 4, _ => tl_1 3 (by decide +kernel)
  | 5, _ => tl_1 3 (by decide +kernel)
  | n + 6, h => absurd h (by omega)
theorem tw_sr : ∀ i, i < 8 → Cond.stringRef "ButterChurn$Reading" (strK i) (strX i) ∈ lw_tbl := fun i hi => match i, hi with
  | 0, _ => tl_2 93 (by decide +kernel)
  | 1, _ => tl_2 146 (by decide +kernel)
  | 2, _ => tl_2 147 (by decide +kernel)
  | 3, _ => tl_2 148 (by decide +kernel)
  | 4, _ => tl_2 149 (by decide +kernel)
  | 5, _ => tl_2 150 (by decide +kernel)
  | 6, _ => tl_2 151 (by decide +kernel)
  | 7, _ => tl_2 152 (by decide +kernel)
  | n + 8, h => absurd h (by omega)
theorem tw_nw : ∀ q ∈ nwS, Cond.methodLinkNest q.1 q.2.1 q.2.2.1 q.2.2.2 ∈ tables_1_1 := by decide +kernel
theorem len_small {args : Array Value} {s : State} {t : Term} {v : Value} (h : (Term.length t).eval args s none [] s = some v) : ∃ a cell, t.eval args s none [] s = some (.ref a) ∧ s.arrayAt? a = some cell ∧ cell.slots.size < 2147483648 := by
  simp only [Term.eval, Option.bind_eq_bind] at h
  cases ht : t.eval args s none [] s with
  | none => simp [ht] at h
  | some x =>
    cases x <;> simp [ht] at h
    case ref a =>
      obtain ⟨cell, hcell, h⟩ := Option.bind_eq_some_iff.mp h
      by_cases hn : cell.slots.size < 2147483648
      · exact ⟨a, cell, rfl, hcell, hn⟩
      · rw [if_neg hn] at h; cases h
theorem arr_of {s : State} {c : ClassId} {k : Class} {comp : ClassId} {ty : FieldType} (hk : s.vm.classes[c]? = some k) (hkind : k.kind = .array comp ty) : ArrOfT s c ty := fun n z => ⟨(fun q h => by cases h), k, hk, comp, hkind⟩
theorem st_CO {s : State} {args : Array Value} (hts : ∀ w ∈ lw_tbl, w.before args s = true) (hgv : (Jvm.Cond.and given_1 narrow_1).before args s = true) : ∃ sA sK sV : Nat → Nat, (∀ i, i < 6 → (tmR i).eval args s none [] s = some (.ref (sA i))) ∧ ∀ (D : va_G) (cF : Nat → ClassId) (aF : Nat → Nat), CO (D, cF, aF, sA, sK, sV) (fun q => s.heap.size ≤ q) s s.heap := by
  have fl : ∀ {w : Cond} (i : Nat), FLw[i]? = some w → w.before args s = true := fun i h => flat_of_before _ hgv _ (List.mem_of_getElem? h)
  have hA : ∀ a : Nat, a < s.heap.size → ¬ (fun q : Nat => s.heap.size ≤ q) a := fun a h => Nat.not_le.mpr h
  have h0 : ∀ i : Nat, ∃ t : Nat, i < 6 → (tmR i).eval args s none [] s = some (.ref t) ∧ va_T .int t (stL i) (fun j => .int ((stV i).getD j 0)) (fun q : Nat => s.heap.size ≤ q) s s.heap := by
    intro i
    by_cases hi : i < 6
    · obtain ⟨t, a, b⟩ := va_Tof (f := fun j => .int ((stV i).getD j 0)) (A := fun q : Nat => s.heap.size ≤ q) (st_2 i hi) (fl _ (nr_ar i hi)) (va_eqt (fl _ (nr_le i hi))) (fun j hj => va_eqt (fl _ (nr_el i hi j hj))) hA
      exact ⟨t, fun _ => ⟨a, b⟩⟩
    · exact ⟨0, fun h => absurd h hi⟩
  obtain ⟨sA, hsA⟩ := Classical.axiomOfChoice h0
  obtain ⟨sK, sV, hS, hE⟩ := vk_Sof (N := 8) (tm := tmS) (len := strLen) (byt := strByt) (A := fun q : Nat => s.heap.size ≤ q) str_2 (fun i hi => fl _ (ns_ex i hi)) (fun i hi => fl _ (ns_co i hi)) (fun i hi => fl _ (ns_ar i hi)) (fun i hi => fl _ (ns_le i hi)) (fun i hi j hj => fl _ (ns_el i hi j hj))
    (fun i j hi hj hne => by
      rcases Nat.lt_or_gt_of_ne hne with h | h
      · exact Or.inl (fl _ (ns_ne j hj i h))
      · exact Or.inr (fl _ (ns_ne i hi j h))) hA
  refine ⟨sA, sK, sV, fun i hi => (hsA i hi).1, fun D cF aF => ⟨fun i hi => ⟨va_Zof (hts _ (tw_ls i hi)) (hts _ (tw_in i hi)) (hsA i hi).1 hA, (hsA i hi).2⟩, hS, fun i hi => vk_R.of (hts _ (tw_sr i hi)) (hE i hi), va_Zof (hts _ (tl_2 107 (by decide +kernel))) (hts _ (tl_1 11 (by decide +kernel))) (va_eqt (fl _ nr_cs)) hA, va_Nw.of rfl (hts _ (tl_2 167 (by decide +kernel))), ?_⟩⟩
  rcases va_Zqof (hts _ (tl_2 123 (by decide +kernel))) (hts _ (tl_1 13 (by decide +kernel))) (fl _ nr_si) hA with h | ⟨t, h⟩
  · exact ⟨_, Or.inl rfl, h⟩
  · exact ⟨_, Or.inr ⟨t, rfl⟩, h⟩
theorem st_K {s : State} {args : Array Value} (hts : ∀ w ∈ lw_tbl, w.before args s = true) : ∃ (D : va_G) (cF : Nat → ClassId), ∀ (aF sA sK sV : Nat → Nat), va_K D vwCl (xty (D, cF, aF, sA, sK, sV)) s := by
  have ht : ∀ w ∈ TB, w.before args s = true := fun w h => hts w (tb_tbl h)
  have h0 : ∀ k : Nat, ∃ p : ClassId × (Nat → Nat), ∀ q : vw_C, vwCl[k]? = some q → u_Kn s q.1 q.2.1 q.2.2 p.1 p.2 := fun k => by
    have go : ∀ {C : String} {T : u_T} {N : Nat}, (∀ w ∈ u_ws C T N, w ∈ TB) → Cond.instantiable C N ∈ TB → ∃ p : ClassId × (Nat → Nat), ∀ q : vw_C, some (C, T, N) = some q → u_Kn s q.1 q.2.1 q.2.2 p.1 p.2 := fun h1 h2 => by
      obtain ⟨a, b, h⟩ := u_known ht h1 (ht _ h2)
      exact ⟨(a, b), fun q hq => by cases hq; exact h⟩
    match k with
    | 0 => exact go inX0 iw_X0
    | 1 => exact go inX1 iw_X1
    | 2 => exact go inX2 iw_X2
    | 3 => exact go inX3 iw_X3
    | 4 => exact go inX4 iw_X4
    | 5 => exact go inX5 iw_X5
    | 6 => exact go inX6 iw_X6
    | 7 => exact go inX7 iw_X7
    | 8 => exact go inX8 iw_X8
    | n + 9 =>
      obtain ⟨p, -⟩ := go inX0 iw_X0
      exact ⟨p, fun q hq => by cases hq⟩
  obtain ⟨d, hd⟩ := Classical.axiomOfChoice h0
  obtain ⟨c0, k0, p0, a1, a2, a3⟩ := Cond.arrayClass_spec (ht _ aw_int)
  obtain ⟨c1, k1, p1, b1, b2, b3⟩ := Cond.arrayClass_spec (ht _ aw_byte)
  obtain ⟨c2, k2, p2, d1, d2, d3⟩ := Cond.arrayClass_spec (ht _ aw_boolean)
  obtain ⟨p3, c3, k3, e1, -, e2, e3, e4⟩ := Cond.arrayOver_spec (n := "ButterChurn$Image") (hts _ (tl_1 190 (by decide +kernel)))
  obtain ⟨p4, c4, k4, f1, -, f2, f3, f4⟩ := Cond.arrayOver_spec (n := "ButterChurn$Sheet") (hts _ (tl_1 207 (by decide +kernel)))
  refine ⟨(fun k => (d k).1, fun k => (d k).2), fun k => match k with | 0 => c0 | 1 => c1 | 2 => c2 | 3 => c3 | _ => c4, fun aF sA sK sV => ⟨fun c q hq => hd c q hq, fun k q hq => ?_⟩⟩
  match k, hq with
  | 0, hq => cases hq; exact ⟨arr_of a2 a3, a1⟩
  | 1, hq => cases hq; exact ⟨arr_of b2 b3, b1⟩
  | 2, hq => cases hq; exact ⟨arr_of d2 d3, d1⟩
  | 3, hq => cases hq; exact ⟨arr_of e2 e3, k3, p3, e2, e3, e1, e4⟩
  | 4, hq => cases hq; exact ⟨arr_of f2 f3, k4, p4, f2, f3, f1, f4⟩
  | n + 5, hq => cases hq
theorem st_CN {s : State} {args : Array Value} {g : XG} (hts : ∀ w ∈ lw_tbl, w.before args s = true) (hgv : (Jvm.Cond.and given_1 narrow_1).before args s = true) (hE : ∀ i, i < 6 → (tmR i).eval args s none [] s = some (.ref (sa g i))) (hK : va_K g.1 vwCl (xty g) s) (hC : CO g (fun q => s.heap.size ≤ q) s s.heap) : CN g (fun q => s.heap.size ≤ q) s s.heap := by
  have fl : ∀ {w : Cond} (i : Nat), FLw[i]? = some w → w.before args s = true := fun i h => flat_of_before _ hgv _ (List.mem_of_getElem? h)
  refine ⟨fun q hq => va_Nw.of rfl (hts _ (List.mem_append_right _ (List.mem_append_left _ (tw_nw q hq)))), va_Nw.of rfl (hts _ (tl_1 38 (by decide +kernel))), va_AO.of (hts _ (tl_1 190 (by decide +kernel))), va_AO.of (hts _ (tl_1 207 (by decide +kernel))), fun i hi => ?_⟩
  have hi6 : i < 6 := by omega
  obtain ⟨cell, t1, t2, t3, t4, t5, t6, t7⟩ := (hC.1 i hi6).2
  obtain ⟨a, c, cell2, k, x1, x2, x3, x4, x5, x6, -⟩ := Cond.exactly_spec (args := args) (first := s) (o := none) (s := s) (idx := []) (fl _ (nr_ex i hi))
  have ea : a = sa g i := by cases x1.symm.trans (hE i hi6); rfl
  subst ea
  have ec : cell2 = cell := Option.some.inj (x3.symm.trans t1)
  subst ec
  obtain ⟨a3, cell3, y1, y2, y3⟩ := len_small (va_eqt (fl _ (nr_le i hi6)))
  have ea3 : a3 = sa g i := by cases y1.symm.trans (hE i hi6); rfl
  subst ea3
  have ec3 : cell3 = cell2 := Option.some.inj ((State.arrayAt?_spec y2).1.symm.trans t1)
  subst ec3
  have hnm : s.vm.findClass "[I" = some (cA g 0) := by
    have h : s.vm.findClass ("[" ++ (FieldType.int).toString) = some (cA g 0) := (hK.2 0 _ (show (xty g)[0]? = some (cA g 0, FieldType.int) from rfl)).2
    exact h
  have hz : cell3.slots.size = stL i := by
    have e : Int32.ofNat cell3.slots.size = Int32.ofNat (stL i) := t5
    have e2 := congrArg Int32.toNatClampNeg e
    rw [Int32.toNatClampNeg_ofNat_of_lt y3, Int32.toNatClampNeg_ofNat_of_lt (st_2 i hi6)] at e2
    exact e2
  exact ⟨cell3, t1, t2.1, t3, by rw [x6]; exact Option.some.inj (x2.symm.trans hnm), hz, t6, t7⟩
