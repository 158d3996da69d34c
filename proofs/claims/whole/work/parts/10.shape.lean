-- the world's shape: 60 cells; M k j is what stands at place j of cell k
abbrev XG : Type := va_G × (Nat → ClassId) × (Nat → Nat) × (Nat → Nat) × (Nat → Nat) × (Nat → Nat)
abbrev Mem : Type := Nat → Nat → Int32
abbrev cA (g : XG) : Nat → ClassId := g.2.1
abbrev ad (g : XG) : Nat → Nat := g.2.2.1
abbrev sa (g : XG) : Nat → Nat := g.2.2.2.1
abbrev sk (g : XG) : Nat → Nat := g.2.2.2.2.1
abbrev sv (g : XG) : Nat → Nat := g.2.2.2.2.2
def mu (M : Mem) (k j : Nat) (x : Int32) : Mem := fun c => if c = k then upd (M c) j x else M c
def xty (g : XG) : List (ClassId × FieldType) := [(cA g 0, .int), (cA g 1, .byte), (cA g 2, .boolean), (cA g 3, .object "ButterChurn$Image"), (cA g 4, .object "ButterChurn$Sheet")]
def WL (g : XG) (M : Mem) : va_W := [(ad g 0, .inr (7, [.ref (ad g 1), .ref (ad g 6), .ref (ad g 14), .ref (ad g 16), .ref (ad g 18), .ref (ad g 19), .ref (ad g 26), .ref (ad g 35), .ref (ad g 36), .ref (ad g 37), .int (M 0 10), .int (M 0 11)])),
  (ad g 1, .inr (6, [.ref (ad g 2), .ref (ad g 3), .ref (ad g 4), .ref (ad g 5), .int (M 1 4)])),
  (ad g 2, .inl (cA g 0, 9, .inl (M 2))),
  (ad g 3, .inl (cA g 0, 4, .inl (M 3))),
  (ad g 4, .inl (cA g 0, 8, .inl (M 4))),
  (ad g 5, .inl (cA g 0, 8, .inl (M 5))),
  (ad g 6, .inr (3, [.ref (ad g 7), .ref (ad g 9), .int (M 6 2), .int (M 6 3), .int (M 6 4), .int (M 6 5), .int (M 6 6), .int (M 6 7)])),
  (ad g 7, .inr (5, [.ref (ad g 8), .int (M 7 1), .int (M 7 2), .int (M 7 3), .int (M 7 4), .int (M 7 5)])),
  (ad g 8, .inl (cA g 1, 320, .inl (M 8))),
  (ad g 9, .inr (6, [.ref (ad g 10), .ref (ad g 11), .ref (ad g 12), .ref (ad g 13), .int (M 9 4)])),
  (ad g 10, .inl (cA g 0, 9, .inl (M 10))),
  (ad g 11, .inl (cA g 0, 4, .inl (M 11))),
  (ad g 12, .inl (cA g 0, 8, .inl (M 12))),
  (ad g 13, .inl (cA g 0, 8, .inl (M 13))),
  (ad g 14, .inr (1, [.ref (ad g 15), .int (M 14 1), .int (M 14 2), .int (M 14 3), .int (M 14 4), .int (M 14 5), .int (M 14 6)])),
  (ad g 15, .inl (cA g 0, 7, .inl (M 15))),
  (ad g 16, .inr (1, [.ref (ad g 17), .int (M 16 1), .int (M 16 2), .int (M 16 3), .int (M 16 4), .int (M 16 5), .int (M 16 6)])),
  (ad g 17, .inl (cA g 0, 7, .inl (M 17))),
  (ad g 18, .inr (0, [.int (M 18 0), .int (M 18 1), .int (M 18 2), .int (M 18 3), .int (M 18 4)])),
  (ad g 19, .inl (cA g 3, 2, .inr (.inr (.inr (.inr (fun i => if i = 0 then some (ad g 20) else some (ad g 23))))))),
  (ad g 20, .inr (2, [.ref (ad g 21), .int (M 20 1)])),
  (ad g 21, .inr (1, [.ref (ad g 22), .int (M 21 1), .int (M 21 2), .int (M 21 3), .int (M 21 4), .int (M 21 5), .int (M 21 6)])),
  (ad g 22, .inl (cA g 0, 7, .inl (M 22))),
  (ad g 23, .inr (2, [.ref (ad g 24), .int (M 23 1)])),
  (ad g 24, .inr (1, [.ref (ad g 25), .int (M 24 1), .int (M 24 2), .int (M 24 3), .int (M 24 4), .int (M 24 5), .int (M 24 6)])),
  (ad g 25, .inl (cA g 0, 7, .inl (M 25))),
  (ad g 26, .inl (cA g 4, 4, .inr (.inr (.inr (.inr (fun i => if i = 0 then some (ad g 27) else if i = 1 then some (ad g 29) else if i = 2 then some (ad g 31) else some (ad g 33))))))),
  (ad g 27, .inr (4, [.ref (ad g 28), .int (M 27 1), .int (M 27 2)])),
  (ad g 28, .inl (cA g 0, 40, .inl (M 28))),
  (ad g 29, .inr (4, [.ref (ad g 30), .int (M 29 1), .int (M 29 2)])),
  (ad g 30, .inl (cA g 0, 40, .inl (M 30))),
  (ad g 31, .inr (4, [.ref (ad g 32), .int (M 31 1), .int (M 31 2)])),
  (ad g 32, .inl (cA g 0, 40, .inl (M 32))),
  (ad g 33, .inr (4, [.ref (ad g 34), .int (M 33 1), .int (M 33 2)])),
  (ad g 34, .inl (cA g 0, 40, .inl (M 34))),
  (ad g 35, .inl (cA g 0, 8, .inl (M 35))),
  (ad g 36, .inl (cA g 0, 8, .inl (M 36))),
  (ad g 37, .inl (cA g 0, 7, .inl (M 37))),
  (ad g 38, .inr (8, [.ref (ad g 39), .int (M 38 1), .int (M 38 2), .int (M 38 3), .int (M 38 4), .int (M 38 5), .int (M 38 6), .int (M 38 7), .int (M 38 8), .ref (ad g 40), .ref (ad g 41), .ref (ad g 42), .ref (ad g 43), .ref (ad g 44), .ref (ad g 45), .ref (ad g 46), .ref (ad g 47), .ref (ad g 48), .int (M 38 18), .ref (ad g 49), .ref (ad g 50), .int (M 38 21), .int (M 38 22), .ref (ad g 51), .int (M 38 24), .ref (ad g 52), .ref (ad g 53), .ref (ad g 54), .int (M 38 28), .ref (ad g 55), .ref (ad g 56), .ref (ad g 57), .ref (ad g 58), .ref (ad g 59), .int (M 38 34)])),
  (ad g 39, .inl (cA g 0, 320, .inl (M 39))),
  (ad g 40, .inl (cA g 0, 9, .inl (M 40))),
  (ad g 41, .inl (cA g 0, 34, .inl (M 41))),
  (ad g 42, .inl (cA g 0, 7, .inl (M 42))),
  (ad g 43, .inl (cA g 0, 7, .inl (M 43))),
  (ad g 44, .inl (cA g 0, 13, .inl (M 44))),
  (ad g 45, .inl (cA g 0, 13, .inl (M 45))),
  (ad g 46, .inl (cA g 0, 13, .inl (M 46))),
  (ad g 47, .inl (cA g 0, 13, .inl (M 47))),
  (ad g 48, .inl (cA g 0, 16, .inl (M 48))),
  (ad g 49, .inl (cA g 0, 13, .inl (M 49))),
  (ad g 50, .inl (cA g 0, 16, .inl (M 50))),
  (ad g 51, .inl (cA g 0, 80, .inl (M 51))),
  (ad g 52, .inl (cA g 0, 7, .inl (M 52))),
  (ad g 53, .inl (cA g 0, 4, .inl (M 53))),
  (ad g 54, .inl (cA g 0, 16, .inl (M 54))),
  (ad g 55, .inl (cA g 0, 8, .inl (M 55))),
  (ad g 56, .inl (cA g 2, 2, .inl (M 56))),
  (ad g 57, .inl (cA g 0, 4, .inl (M 57))),
  (ad g 58, .inl (cA g 0, 4, .inl (M 58))),
  (ad g 59, .inl (cA g 0, 160, .inl (M 59)))]
abbrev isO (ci k : Nat) : Prop := (ci, k) ∈ ([(7, 0), (6, 1), (3, 6), (5, 7), (6, 9), (1, 14), (1, 16), (0, 18), (2, 20), (1, 21), (2, 23), (1, 24), (4, 27), (4, 29), (4, 31), (4, 33), (8, 38)] : List (Nat × Nat))
abbrev isI (k n : Nat) : Prop := (k, n) ∈ ([(2, 9), (3, 4), (4, 8), (5, 8), (10, 9), (11, 4), (12, 8), (13, 8), (15, 7), (17, 7), (22, 7), (25, 7), (28, 40), (30, 40), (32, 40), (34, 40), (35, 8), (36, 8), (37, 7), (39, 320), (40, 9), (41, 34), (42, 7), (43, 7), (44, 13), (45, 13), (46, 13), (47, 13), (48, 16), (49, 13), (50, 16), (51, 80), (52, 7), (53, 4), (54, 16), (55, 8), (57, 4), (58, 4), (59, 160)] : List (Nat × Nat))
abbrev isB (k n : Nat) : Prop := (k, n) ∈ ([(8, 320)] : List (Nat × Nat))
abbrev isZ (k n : Nat) : Prop := (k, n) ∈ ([(56, 2)] : List (Nat × Nat))
theorem wl_ad (g : XG) (M : Mem) : ∀ (k : Nat) (q : Nat × va_E), (WL g M)[k]? = some q → q.1 = ad g k ∧ k < 60 := by
  intro k q h
  have hk : k < 60 := (List.getElem?_eq_some_iff.mp h).1
  refine ⟨?_, hk⟩
  match k, hk, h with
  | 0, _, h => cases h; rfl
  | 1, _, h => cases h; rfl
  | 2, _, h => cases h; rfl
  | 3, _, h => cases h; rfl
  | 4, _, h => cases h; rfl
  | 5, _, h => cases h; rfl
  | 6, _, h => cases h; rfl
  | 7, _, h => cases h; rfl
  | 8, _, h => cases h; rfl
  | 9, _, h => cases h; rfl
  | 10, _, h => cases h; rfl
  | 11, _, h => cases h; rfl
  | 12, _, h => cases h; rfl
  | 13, _, h => cases h; rfl
  | 14, _, h => cases h; rfl
  | 15, _, h => cases h; rfl
  | 16, _, h => cases h; rfl
  | 17, _, h => cases h; rfl
  | 18, _, h => cases h; rfl
  | 19, _, h => cases h; rfl
  | 20, _, h => cases h; rfl
  | 21, _, h => cases h; rfl
  | 22, _, h => cases h; rfl
  | 23, _, h => cases h; rfl
  | 24, _, h => cases h; rfl
  | 25, _, h => cases h; rfl
  | 26, _, h => cases h; rfl
  | 27, _, h => cases h; rfl
  | 28, _, h => cases h; rfl
  | 29, _, h => cases h; rfl
  | 30, _, h => cases h; rfl
  | 31, _, h => cases h; rfl
  | 32, _, h => cases h; rfl
  | 33, _, h => cases h; rfl
  | 34, _, h => cases h; rfl
  | 35, _, h => cases h; rfl
  | 36, _, h => cases h; rfl
  | 37, _, h => cases h; rfl
  | 38, _, h => cases h; rfl
  | 39, _, h => cases h; rfl
  | 40, _, h => cases h; rfl
  | 41, _, h => cases h; rfl
  | 42, _, h => cases h; rfl
  | 43, _, h => cases h; rfl
  | 44, _, h => cases h; rfl
  | 45, _, h => cases h; rfl
  | 46, _, h => cases h; rfl
  | 47, _, h => cases h; rfl
  | 48, _, h => cases h; rfl
  | 49, _, h => cases h; rfl
  | 50, _, h => cases h; rfl
  | 51, _, h => cases h; rfl
  | 52, _, h => cases h; rfl
  | 53, _, h => cases h; rfl
  | 54, _, h => cases h; rfl
  | 55, _, h => cases h; rfl
  | 56, _, h => cases h; rfl
  | 57, _, h => cases h; rfl
  | 58, _, h => cases h; rfl
  | 59, _, h => cases h; rfl
  | n + 60, hk, _ => omega
theorem wl_len (g : XG) (M : Mem) : (WL g M).length = 60 := rfl
theorem kk_0 {k : Nat} (h : isO 0 k) : k = 18 := by simpa [isO] using h
theorem ob_0 {g : XG} {M : Mem} : (WL g M)[18]? = some (ad g 18, .inr (0, [.int (M 18 0), .int (M 18 1), .int (M 18 2), .int (M 18 3), .int (M 18 4)])) := rfl
theorem os_0_0 {g : XG} {M : Mem} {y : Int32} : (WL g M).set 18 (ad g 18, .inr (0, [.int y, .int (M 18 1), .int (M 18 2), .int (M 18 3), .int (M 18 4)])) = WL g (mu M 18 0 y) := rfl
theorem os_0_1 {g : XG} {M : Mem} {y : Int32} : (WL g M).set 18 (ad g 18, .inr (0, [.int (M 18 0), .int y, .int (M 18 2), .int (M 18 3), .int (M 18 4)])) = WL g (mu M 18 1 y) := rfl
theorem os_0_2 {g : XG} {M : Mem} {y : Int32} : (WL g M).set 18 (ad g 18, .inr (0, [.int (M 18 0), .int (M 18 1), .int y, .int (M 18 3), .int (M 18 4)])) = WL g (mu M 18 2 y) := rfl
theorem os_0_3 {g : XG} {M : Mem} {y : Int32} : (WL g M).set 18 (ad g 18, .inr (0, [.int (M 18 0), .int (M 18 1), .int (M 18 2), .int y, .int (M 18 4)])) = WL g (mu M 18 3 y) := rfl
theorem os_0_4 {g : XG} {M : Mem} {y : Int32} : (WL g M).set 18 (ad g 18, .inr (0, [.int (M 18 0), .int (M 18 1), .int (M 18 2), .int (M 18 3), .int y])) = WL g (mu M 18 4 y) := rfl
theorem kk_1 {k : Nat} (h : isO 1 k) : k = 14 ∨ k = 16 ∨ k = 21 ∨ k = 24 := by simpa [isO] using h
theorem ob_1 {g : XG} {M : Mem} {k : Nat} (h : isO 1 k) : (WL g M)[k]? = some (ad g k, .inr (1, [.ref (ad g (k + 1)), .int (M k 1), .int (M k 2), .int (M k 3), .int (M k 4), .int (M k 5), .int (M k 6)])) := by rcases kk_1 h with rfl | rfl | rfl | rfl <;> rfl
theorem os_1_1 {g : XG} {M : Mem} {y : Int32} {k : Nat} (h : isO 1 k) : (WL g M).set k (ad g k, .inr (1, [.ref (ad g (k + 1)), .int y, .int (M k 2), .int (M k 3), .int (M k 4), .int (M k 5), .int (M k 6)])) = WL g (mu M k 1 y) := by rcases kk_1 h with rfl | rfl | rfl | rfl <;> rfl
theorem os_1_2 {g : XG} {M : Mem} {y : Int32} {k : Nat} (h : isO 1 k) : (WL g M).set k (ad g k, .inr (1, [.ref (ad g (k + 1)), .int (M k 1), .int y, .int (M k 3), .int (M k 4), .int (M k 5), .int (M k 6)])) = WL g (mu M k 2 y) := by rcases kk_1 h with rfl | rfl | rfl | rfl <;> rfl
theorem os_1_3 {g : XG} {M : Mem} {y : Int32} {k : Nat} (h : isO 1 k) : (WL g M).set k (ad g k, .inr (1, [.ref (ad g (k + 1)), .int (M k 1), .int (M k 2), .int y, .int (M k 4), .int (M k 5), .int (M k 6)])) = WL g (mu M k 3 y) := by rcases kk_1 h with rfl | rfl | rfl | rfl <;> rfl
theorem os_1_4 {g : XG} {M : Mem} {y : Int32} {k : Nat} (h : isO 1 k) : (WL g M).set k (ad g k, .inr (1, [.ref (ad g (k + 1)), .int (M k 1), .int (M k 2), .int (M k 3), .int y, .int (M k 5), .int (M k 6)])) = WL g (mu M k 4 y) := by rcases kk_1 h with rfl | rfl | rfl | rfl <;> rfl
theorem os_1_5 {g : XG} {M : Mem} {y : Int32} {k : Nat} (h : isO 1 k) : (WL g M).set k (ad g k, .inr (1, [.ref (ad g (k + 1)), .int (M k 1), .int (M k 2), .int (M k 3), .int (M k 4), .int y, .int (M k 6)])) = WL g (mu M k 5 y) := by rcases kk_1 h with rfl | rfl | rfl | rfl <;> rfl
theorem os_1_6 {g : XG} {M : Mem} {y : Int32} {k : Nat} (h : isO 1 k) : (WL g M).set k (ad g k, .inr (1, [.ref (ad g (k + 1)), .int (M k 1), .int (M k 2), .int (M k 3), .int (M k 4), .int (M k 5), .int y])) = WL g (mu M k 6 y) := by rcases kk_1 h with rfl | rfl | rfl | rfl <;> rfl
theorem kk_2 {k : Nat} (h : isO 2 k) : k = 20 ∨ k = 23 := by simpa [isO] using h
theorem ob_2 {g : XG} {M : Mem} {k : Nat} (h : isO 2 k) : (WL g M)[k]? = some (ad g k, .inr (2, [.ref (ad g (k + 1)), .int (M k 1)])) := by rcases kk_2 h with rfl | rfl <;> rfl
theorem os_2_1 {g : XG} {M : Mem} {y : Int32} {k : Nat} (h : isO 2 k) : (WL g M).set k (ad g k, .inr (2, [.ref (ad g (k + 1)), .int y])) = WL g (mu M k 1 y) := by rcases kk_2 h with rfl | rfl <;> rfl
theorem kk_3 {k : Nat} (h : isO 3 k) : k = 6 := by simpa [isO] using h
theorem ob_3 {g : XG} {M : Mem} : (WL g M)[6]? = some (ad g 6, .inr (3, [.ref (ad g 7), .ref (ad g 9), .int (M 6 2), .int (M 6 3), .int (M 6 4), .int (M 6 5), .int (M 6 6), .int (M 6 7)])) := rfl
theorem os_3_2 {g : XG} {M : Mem} {y : Int32} : (WL g M).set 6 (ad g 6, .inr (3, [.ref (ad g 7), .ref (ad g 9), .int y, .int (M 6 3), .int (M 6 4), .int (M 6 5), .int (M 6 6), .int (M 6 7)])) = WL g (mu M 6 2 y) := rfl
theorem os_3_3 {g : XG} {M : Mem} {y : Int32} : (WL g M).set 6 (ad g 6, .inr (3, [.ref (ad g 7), .ref (ad g 9), .int (M 6 2), .int y, .int (M 6 4), .int (M 6 5), .int (M 6 6), .int (M 6 7)])) = WL g (mu M 6 3 y) := rfl
theorem os_3_4 {g : XG} {M : Mem} {y : Int32} : (WL g M).set 6 (ad g 6, .inr (3, [.ref (ad g 7), .ref (ad g 9), .int (M 6 2), .int (M 6 3), .int y, .int (M 6 5), .int (M 6 6), .int (M 6 7)])) = WL g (mu M 6 4 y) := rfl
theorem os_3_5 {g : XG} {M : Mem} {y : Int32} : (WL g M).set 6 (ad g 6, .inr (3, [.ref (ad g 7), .ref (ad g 9), .int (M 6 2), .int (M 6 3), .int (M 6 4), .int y, .int (M 6 6), .int (M 6 7)])) = WL g (mu M 6 5 y) := rfl
theorem os_3_6 {g : XG} {M : Mem} {y : Int32} : (WL g M).set 6 (ad g 6, .inr (3, [.ref (ad g 7), .ref (ad g 9), .int (M 6 2), .int (M 6 3), .int (M 6 4), .int (M 6 5), .int y, .int (M 6 7)])) = WL g (mu M 6 6 y) := rfl
theorem os_3_7 {g : XG} {M : Mem} {y : Int32} : (WL g M).set 6 (ad g 6, .inr (3, [.ref (ad g 7), .ref (ad g 9), .int (M 6 2), .int (M 6 3), .int (M 6 4), .int (M 6 5), .int (M 6 6), .int y])) = WL g (mu M 6 7 y) := rfl
theorem kk_4 {k : Nat} (h : isO 4 k) : k = 27 ∨ k = 29 ∨ k = 31 ∨ k = 33 := by simpa [isO] using h
theorem ob_4 {g : XG} {M : Mem} {k : Nat} (h : isO 4 k) : (WL g M)[k]? = some (ad g k, .inr (4, [.ref (ad g (k + 1)), .int (M k 1), .int (M k 2)])) := by rcases kk_4 h with rfl | rfl | rfl | rfl <;> rfl
theorem os_4_1 {g : XG} {M : Mem} {y : Int32} {k : Nat} (h : isO 4 k) : (WL g M).set k (ad g k, .inr (4, [.ref (ad g (k + 1)), .int y, .int (M k 2)])) = WL g (mu M k 1 y) := by rcases kk_4 h with rfl | rfl | rfl | rfl <;> rfl
theorem os_4_2 {g : XG} {M : Mem} {y : Int32} {k : Nat} (h : isO 4 k) : (WL g M).set k (ad g k, .inr (4, [.ref (ad g (k + 1)), .int (M k 1), .int y])) = WL g (mu M k 2 y) := by rcases kk_4 h with rfl | rfl | rfl | rfl <;> rfl
theorem kk_5 {k : Nat} (h : isO 5 k) : k = 7 := by simpa [isO] using h
theorem ob_5 {g : XG} {M : Mem} : (WL g M)[7]? = some (ad g 7, .inr (5, [.ref (ad g 8), .int (M 7 1), .int (M 7 2), .int (M 7 3), .int (M 7 4), .int (M 7 5)])) := rfl
theorem os_5_1 {g : XG} {M : Mem} {y : Int32} : (WL g M).set 7 (ad g 7, .inr (5, [.ref (ad g 8), .int y, .int (M 7 2), .int (M 7 3), .int (M 7 4), .int (M 7 5)])) = WL g (mu M 7 1 y) := rfl
theorem os_5_2 {g : XG} {M : Mem} {y : Int32} : (WL g M).set 7 (ad g 7, .inr (5, [.ref (ad g 8), .int (M 7 1), .int y, .int (M 7 3), .int (M 7 4), .int (M 7 5)])) = WL g (mu M 7 2 y) := rfl
theorem os_5_3 {g : XG} {M : Mem} {y : Int32} : (WL g M).set 7 (ad g 7, .inr (5, [.ref (ad g 8), .int (M 7 1), .int (M 7 2), .int y, .int (M 7 4), .int (M 7 5)])) = WL g (mu M 7 3 y) := rfl
theorem os_5_4 {g : XG} {M : Mem} {y : Int32} : (WL g M).set 7 (ad g 7, .inr (5, [.ref (ad g 8), .int (M 7 1), .int (M 7 2), .int (M 7 3), .int y, .int (M 7 5)])) = WL g (mu M 7 4 y) := rfl
theorem os_5_5 {g : XG} {M : Mem} {y : Int32} : (WL g M).set 7 (ad g 7, .inr (5, [.ref (ad g 8), .int (M 7 1), .int (M 7 2), .int (M 7 3), .int (M 7 4), .int y])) = WL g (mu M 7 5 y) := rfl
theorem kk_6 {k : Nat} (h : isO 6 k) : k = 1 ∨ k = 9 := by simpa [isO] using h
theorem ob_6 {g : XG} {M : Mem} {k : Nat} (h : isO 6 k) : (WL g M)[k]? = some (ad g k, .inr (6, [.ref (ad g (k + 1)), .ref (ad g (k + 2)), .ref (ad g (k + 3)), .ref (ad g (k + 4)), .int (M k 4)])) := by rcases kk_6 h with rfl | rfl <;> rfl
theorem os_6_4 {g : XG} {M : Mem} {y : Int32} {k : Nat} (h : isO 6 k) : (WL g M).set k (ad g k, .inr (6, [.ref (ad g (k + 1)), .ref (ad g (k + 2)), .ref (ad g (k + 3)), .ref (ad g (k + 4)), .int y])) = WL g (mu M k 4 y) := by rcases kk_6 h with rfl | rfl <;> rfl
theorem kk_7 {k : Nat} (h : isO 7 k) : k = 0 := by simpa [isO] using h
theorem ob_7 {g : XG} {M : Mem} : (WL g M)[0]? = some (ad g 0, .inr (7, [.ref (ad g 1), .ref (ad g 6), .ref (ad g 14), .ref (ad g 16), .ref (ad g 18), .ref (ad g 19), .ref (ad g 26), .ref (ad g 35), .ref (ad g 36), .ref (ad g 37), .int (M 0 10), .int (M 0 11)])) := rfl
theorem os_7_10 {g : XG} {M : Mem} {y : Int32} : (WL g M).set 0 (ad g 0, .inr (7, [.ref (ad g 1), .ref (ad g 6), .ref (ad g 14), .ref (ad g 16), .ref (ad g 18), .ref (ad g 19), .ref (ad g 26), .ref (ad g 35), .ref (ad g 36), .ref (ad g 37), .int y, .int (M 0 11)])) = WL g (mu M 0 10 y) := rfl
theorem os_7_11 {g : XG} {M : Mem} {y : Int32} : (WL g M).set 0 (ad g 0, .inr (7, [.ref (ad g 1), .ref (ad g 6), .ref (ad g 14), .ref (ad g 16), .ref (ad g 18), .ref (ad g 19), .ref (ad g 26), .ref (ad g 35), .ref (ad g 36), .ref (ad g 37), .int (M 0 10), .int y])) = WL g (mu M 0 11 y) := rfl
theorem kk_8 {k : Nat} (h : isO 8 k) : k = 38 := by simpa [isO] using h
theorem ob_8 {g : XG} {M : Mem} : (WL g M)[38]? = some (ad g 38, .inr (8, [.ref (ad g 39), .int (M 38 1), .int (M 38 2), .int (M 38 3), .int (M 38 4), .int (M 38 5), .int (M 38 6), .int (M 38 7), .int (M 38 8), .ref (ad g 40), .ref (ad g 41), .ref (ad g 42), .ref (ad g 43), .ref (ad g 44), .ref (ad g 45), .ref (ad g 46), .ref (ad g 47), .ref (ad g 48), .int (M 38 18), .ref (ad g 49), .ref (ad g 50), .int (M 38 21), .int (M 38 22), .ref (ad g 51), .int (M 38 24), .ref (ad g 52), .ref (ad g 53), .ref (ad g 54), .int (M 38 28), .ref (ad g 55), .ref (ad g 56), .ref (ad g 57), .ref (ad g 58), .ref (ad g 59), .int (M 38 34)])) := rfl
theorem os_8_1 {g : XG} {M : Mem} {y : Int32} : (WL g M).set 38 (ad g 38, .inr (8, [.ref (ad g 39), .int y, .int (M 38 2), .int (M 38 3), .int (M 38 4), .int (M 38 5), .int (M 38 6), .int (M 38 7), .int (M 38 8), .ref (ad g 40), .ref (ad g 41), .ref (ad g 42), .ref (ad g 43), .ref (ad g 44), .ref (ad g 45), .ref (ad g 46), .ref (ad g 47), .ref (ad g 48), .int (M 38 18), .ref (ad g 49), .ref (ad g 50), .int (M 38 21), .int (M 38 22), .ref (ad g 51), .int (M 38 24), .ref (ad g 52), .ref (ad g 53), .ref (ad g 54), .int (M 38 28), .ref (ad g 55), .ref (ad g 56), .ref (ad g 57), .ref (ad g 58), .ref (ad g 59), .int (M 38 34)])) = WL g (mu M 38 1 y) := rfl
theorem os_8_2 {g : XG} {M : Mem} {y : Int32} : (WL g M).set 38 (ad g 38, .inr (8, [.ref (ad g 39), .int (M 38 1), .int y, .int (M 38 3), .int (M 38 4), .int (M 38 5), .int (M 38 6), .int (M 38 7), .int (M 38 8), .ref (ad g 40), .ref (ad g 41), .ref (ad g 42), .ref (ad g 43), .ref (ad g 44), .ref (ad g 45), .ref (ad g 46), .ref (ad g 47), .ref (ad g 48), .int (M 38 18), .ref (ad g 49), .ref (ad g 50), .int (M 38 21), .int (M 38 22), .ref (ad g 51), .int (M 38 24), .ref (ad g 52), .ref (ad g 53), .ref (ad g 54), .int (M 38 28), .ref (ad g 55), .ref (ad g 56), .ref (ad g 57), .ref (ad g 58), .ref (ad g 59), .int (M 38 34)])) = WL g (mu M 38 2 y) := rfl
theorem os_8_3 {g : XG} {M : Mem} {y : Int32} : (WL g M).set 38 (ad g 38, .inr (8, [.ref (ad g 39), .int (M 38 1), .int (M 38 2), .int y, .int (M 38 4), .int (M 38 5), .int (M 38 6), .int (M 38 7), .int (M 38 8), .ref (ad g 40), .ref (ad g 41), .ref (ad g 42), .ref (ad g 43), .ref (ad g 44), .ref (ad g 45), .ref (ad g 46), .ref (ad g 47), .ref (ad g 48), .int (M 38 18), .ref (ad g 49), .ref (ad g 50), .int (M 38 21), .int (M 38 22), .ref (ad g 51), .int (M 38 24), .ref (ad g 52), .ref (ad g 53), .ref (ad g 54), .int (M 38 28), .ref (ad g 55), .ref (ad g 56), .ref (ad g 57), .ref (ad g 58), .ref (ad g 59), .int (M 38 34)])) = WL g (mu M 38 3 y) := rfl
theorem os_8_4 {g : XG} {M : Mem} {y : Int32} : (WL g M).set 38 (ad g 38, .inr (8, [.ref (ad g 39), .int (M 38 1), .int (M 38 2), .int (M 38 3), .int y, .int (M 38 5), .int (M 38 6), .int (M 38 7), .int (M 38 8), .ref (ad g 40), .ref (ad g 41), .ref (ad g 42), .ref (ad g 43), .ref (ad g 44), .ref (ad g 45), .ref (ad g 46), .ref (ad g 47), .ref (ad g 48), .int (M 38 18), .ref (ad g 49), .ref (ad g 50), .int (M 38 21), .int (M 38 22), .ref (ad g 51), .int (M 38 24), .ref (ad g 52), .ref (ad g 53), .ref (ad g 54), .int (M 38 28), .ref (ad g 55), .ref (ad g 56), .ref (ad g 57), .ref (ad g 58), .ref (ad g 59), .int (M 38 34)])) = WL g (mu M 38 4 y) := rfl
theorem os_8_5 {g : XG} {M : Mem} {y : Int32} : (WL g M).set 38 (ad g 38, .inr (8, [.ref (ad g 39), .int (M 38 1), .int (M 38 2), .int (M 38 3), .int (M 38 4), .int y, .int (M 38 6), .int (M 38 7), .int (M 38 8), .ref (ad g 40), .ref (ad g 41), .ref (ad g 42), .ref (ad g 43), .ref (ad g 44), .ref (ad g 45), .ref (ad g 46), .ref (ad g 47), .ref (ad g 48), .int (M 38 18), .ref (ad g 49), .ref (ad g 50), .int (M 38 21), .int (M 38 22), .ref (ad g 51), .int (M 38 24), .ref (ad g 52), .ref (ad g 53), .ref (ad g 54), .int (M 38 28), .ref (ad g 55), .ref (ad g 56), .ref (ad g 57), .ref (ad g 58), .ref (ad g 59), .int (M 38 34)])) = WL g (mu M 38 5 y) := rfl
theorem os_8_6 {g : XG} {M : Mem} {y : Int32} : (WL g M).set 38 (ad g 38, .inr (8, [.ref (ad g 39), .int (M 38 1), .int (M 38 2), .int (M 38 3), .int (M 38 4), .int (M 38 5), .int y, .int (M 38 7), .int (M 38 8), .ref (ad g 40), .ref (ad g 41), .ref (ad g 42), .ref (ad g 43), .ref (ad g 44), .ref (ad g 45), .ref (ad g 46), .ref (ad g 47), .ref (ad g 48), .int (M 38 18), .ref (ad g 49), .ref (ad g 50), .int (M 38 21), .int (M 38 22), .ref (ad g 51), .int (M 38 24), .ref (ad g 52), .ref (ad g 53), .ref (ad g 54), .int (M 38 28), .ref (ad g 55), .ref (ad g 56), .ref (ad g 57), .ref (ad g 58), .ref (ad g 59), .int (M 38 34)])) = WL g (mu M 38 6 y) := rfl
theorem os_8_7 {g : XG} {M : Mem} {y : Int32} : (WL g M).set 38 (ad g 38, .inr (8, [.ref (ad g 39), .int (M 38 1), .int (M 38 2), .int (M 38 3), .int (M 38 4), .int (M 38 5), .int (M 38 6), .int y, .int (M 38 8), .ref (ad g 40), .ref (ad g 41), .ref (ad g 42), .ref (ad g 43), .ref (ad g 44), .ref (ad g 45), .ref (ad g 46), .ref (ad g 47), .ref (ad g 48), .int (M 38 18), .ref (ad g 49), .ref (ad g 50), .int (M 38 21), .int (M 38 22), .ref (ad g 51), .int (M 38 24), .ref (ad g 52), .ref (ad g 53), .ref (ad g 54), .int (M 38 28), .ref (ad g 55), .ref (ad g 56), .ref (ad g 57), .ref (ad g 58), .ref (ad g 59), .int (M 38 34)])) = WL g (mu M 38 7 y) := rfl
theorem os_8_8 {g : XG} {M : Mem} {y : Int32} : (WL g M).set 38 (ad g 38, .inr (8, [.ref (ad g 39), .int (M 38 1), .int (M 38 2), .int (M 38 3), .int (M 38 4), .int (M 38 5), .int (M 38 6), .int (M 38 7), .int y, .ref (ad g 40), .ref (ad g 41), .ref (ad g 42), .ref (ad g 43), .ref (ad g 44), .ref (ad g 45), .ref (ad g 46), .ref (ad g 47), .ref (ad g 48), .int (M 38 18), .ref (ad g 49), .ref (ad g 50), .int (M 38 21), .int (M 38 22), .ref (ad g 51), .int (M 38 24), .ref (ad g 52), .ref (ad g 53), .ref (ad g 54), .int (M 38 28), .ref (ad g 55), .ref (ad g 56), .ref (ad g 57), .ref (ad g 58), .ref (ad g 59), .int (M 38 34)])) = WL g (mu M 38 8 y) := rfl
theorem os_8_18 {g : XG} {M : Mem} {y : Int32} : (WL g M).set 38 (ad g 38, .inr (8, [.ref (ad g 39), .int (M 38 1), .int (M 38 2), .int (M 38 3), .int (M 38 4), .int (M 38 5), .int (M 38 6), .int (M 38 7), .int (M 38 8), .ref (ad g 40), .ref (ad g 41), .ref (ad g 42), .ref (ad g 43), .ref (ad g 44), .ref (ad g 45), .ref (ad g 46), .ref (ad g 47), .ref (ad g 48), .int y, .ref (ad g 49), .ref (ad g 50), .int (M 38 21), .int (M 38 22), .ref (ad g 51), .int (M 38 24), .ref (ad g 52), .ref (ad g 53), .ref (ad g 54), .int (M 38 28), .ref (ad g 55), .ref (ad g 56), .ref (ad g 57), .ref (ad g 58), .ref (ad g 59), .int (M 38 34)])) = WL g (mu M 38 18 y) := rfl
theorem os_8_21 {g : XG} {M : Mem} {y : Int32} : (WL g M).set 38 (ad g 38, .inr (8, [.ref (ad g 39), .int (M 38 1), .int (M 38 2), .int (M 38 3), .int (M 38 4), .int (M 38 5), .int (M 38 6), .int (M 38 7), .int (M 38 8), .ref (ad g 40), .ref (ad g 41), .ref (ad g 42), .ref (ad g 43), .ref (ad g 44), .ref (ad g 45), .ref (ad g 46), .ref (ad g 47), .ref (ad g 48), .int (M 38 18), .ref (ad g 49), .ref (ad g 50), .int y, .int (M 38 22), .ref (ad g 51), .int (M 38 24), .ref (ad g 52), .ref (ad g 53), .ref (ad g 54), .int (M 38 28), .ref (ad g 55), .ref (ad g 56), .ref (ad g 57), .ref (ad g 58), .ref (ad g 59), .int (M 38 34)])) = WL g (mu M 38 21 y) := rfl
theorem os_8_22 {g : XG} {M : Mem} {y : Int32} : (WL g M).set 38 (ad g 38, .inr (8, [.ref (ad g 39), .int (M 38 1), .int (M 38 2), .int (M 38 3), .int (M 38 4), .int (M 38 5), .int (M 38 6), .int (M 38 7), .int (M 38 8), .ref (ad g 40), .ref (ad g 41), .ref (ad g 42), .ref (ad g 43), .ref (ad g 44), .ref (ad g 45), .ref (ad g 46), .ref (ad g 47), .ref (ad g 48), .int (M 38 18), .ref (ad g 49), .ref (ad g 50), .int (M 38 21), .int y, .ref (ad g 51), .int (M 38 24), .ref (ad g 52), .ref (ad g 53), .ref (ad g 54), .int (M 38 28), .ref (ad g 55), .ref (ad g 56), .ref (ad g 57), .ref (ad g 58), .ref (ad g 59), .int (M 38 34)])) = WL g (mu M 38 22 y) := rfl
theorem os_8_24 {g : XG} {M : Mem} {y : Int32} : (WL g M).set 38 (ad g 38, .inr (8, [.ref (ad g 39), .int (M 38 1), .int (M 38 2), .int (M 38 3), .int (M 38 4), .int (M 38 5), .int (M 38 6), .int (M 38 7), .int (M 38 8), .ref (ad g 40), .ref (ad g 41), .ref (ad g 42), .ref (ad g 43), .ref (ad g 44), .ref (ad g 45), .ref (ad g 46), .ref (ad g 47), .ref (ad g 48), .int (M 38 18), .ref (ad g 49), .ref (ad g 50), .int (M 38 21), .int (M 38 22), .ref (ad g 51), .int y, .ref (ad g 52), .ref (ad g 53), .ref (ad g 54), .int (M 38 28), .ref (ad g 55), .ref (ad g 56), .ref (ad g 57), .ref (ad g 58), .ref (ad g 59), .int (M 38 34)])) = WL g (mu M 38 24 y) := rfl
theorem os_8_28 {g : XG} {M : Mem} {y : Int32} : (WL g M).set 38 (ad g 38, .inr (8, [.ref (ad g 39), .int (M 38 1), .int (M 38 2), .int (M 38 3), .int (M 38 4), .int (M 38 5), .int (M 38 6), .int (M 38 7), .int (M 38 8), .ref (ad g 40), .ref (ad g 41), .ref (ad g 42), .ref (ad g 43), .ref (ad g 44), .ref (ad g 45), .ref (ad g 46), .ref (ad g 47), .ref (ad g 48), .int (M 38 18), .ref (ad g 49), .ref (ad g 50), .int (M 38 21), .int (M 38 22), .ref (ad g 51), .int (M 38 24), .ref (ad g 52), .ref (ad g 53), .ref (ad g 54), .int y, .ref (ad g 55), .ref (ad g 56), .ref (ad g 57), .ref (ad g 58), .ref (ad g 59), .int (M 38 34)])) = WL g (mu M 38 28 y) := rfl
theorem os_8_34 {g : XG} {M : Mem} {y : Int32} : (WL g M).set 38 (ad g 38, .inr (8, [.ref (ad g 39), .int (M 38 1), .int (M 38 2), .int (M 38 3), .int (M 38 4), .int (M 38 5), .int (M 38 6), .int (M 38 7), .int (M 38 8), .ref (ad g 40), .ref (ad g 41), .ref (ad g 42), .ref (ad g 43), .ref (ad g 44), .ref (ad g 45), .ref (ad g 46), .ref (ad g 47), .ref (ad g 48), .int (M 38 18), .ref (ad g 49), .ref (ad g 50), .int (M 38 21), .int (M 38 22), .ref (ad g 51), .int (M 38 24), .ref (ad g 52), .ref (ad g 53), .ref (ad g 54), .int (M 38 28), .ref (ad g 55), .ref (ad g 56), .ref (ad g 57), .ref (ad g 58), .ref (ad g 59), .int y])) = WL g (mu M 38 34 y) := rfl
theorem kk_I {k n : Nat} (h : isI k n) : (k = 2 ∧ n = 9) ∨ (k = 3 ∧ n = 4) ∨ (k = 4 ∧ n = 8) ∨ (k = 5 ∧ n = 8) ∨ (k = 10 ∧ n = 9) ∨ (k = 11 ∧ n = 4) ∨ (k = 12 ∧ n = 8) ∨ (k = 13 ∧ n = 8) ∨ (k = 15 ∧ n = 7) ∨ (k = 17 ∧ n = 7) ∨ (k = 22 ∧ n = 7) ∨ (k = 25 ∧ n = 7) ∨ (k = 28 ∧ n = 40) ∨ (k = 30 ∧ n = 40) ∨ (k = 32 ∧ n = 40) ∨ (k = 34 ∧ n = 40) ∨ (k = 35 ∧ n = 8) ∨ (k = 36 ∧ n = 8) ∨ (k = 37 ∧ n = 7) ∨ (k = 39 ∧ n = 320) ∨ (k = 40 ∧ n = 9) ∨ (k = 41 ∧ n = 34) ∨ (k = 42 ∧ n = 7) ∨ (k = 43 ∧ n = 7) ∨ (k = 44 ∧ n = 13) ∨ (k = 45 ∧ n = 13) ∨ (k = 46 ∧ n = 13) ∨ (k = 47 ∧ n = 13) ∨ (k = 48 ∧ n = 16) ∨ (k = 49 ∧ n = 13) ∨ (k = 50 ∧ n = 16) ∨ (k = 51 ∧ n = 80) ∨ (k = 52 ∧ n = 7) ∨ (k = 53 ∧ n = 4) ∨ (k = 54 ∧ n = 16) ∨ (k = 55 ∧ n = 8) ∨ (k = 57 ∧ n = 4) ∨ (k = 58 ∧ n = 4) ∨ (k = 59 ∧ n = 160) := by simpa [isI] using h
theorem al_I {g : XG} {M : Mem} {k n : Nat} (h : isI k n) : (WL g M)[k]? = some (ad g k, .inl (cA g 0, n, .inl (M k))) := by rcases kk_I h with ⟨rfl, rfl⟩ | ⟨rfl, rfl⟩ | ⟨rfl, rfl⟩ | ⟨rfl, rfl⟩ | ⟨rfl, rfl⟩ | ⟨rfl, rfl⟩ | ⟨rfl, rfl⟩ | ⟨rfl, rfl⟩ | ⟨rfl, rfl⟩ | ⟨rfl, rfl⟩ | ⟨rfl, rfl⟩ | ⟨rfl, rfl⟩ | ⟨rfl, rfl⟩ | ⟨rfl, rfl⟩ | ⟨rfl, rfl⟩ | ⟨rfl, rfl⟩ | ⟨rfl, rfl⟩ | ⟨rfl, rfl⟩ | ⟨rfl, rfl⟩ | ⟨rfl, rfl⟩ | ⟨rfl, rfl⟩ | ⟨rfl, rfl⟩ | ⟨rfl, rfl⟩ | ⟨rfl, rfl⟩ | ⟨rfl, rfl⟩ | ⟨rfl, rfl⟩ | ⟨rfl, rfl⟩ | ⟨rfl, rfl⟩ | ⟨rfl, rfl⟩ | ⟨rfl, rfl⟩ | ⟨rfl, rfl⟩ | ⟨rfl, rfl⟩ | ⟨rfl, rfl⟩ | ⟨rfl, rfl⟩ | ⟨rfl, rfl⟩ | ⟨rfl, rfl⟩ | ⟨rfl, rfl⟩ | ⟨rfl, rfl⟩ | ⟨rfl, rfl⟩ <;> rfl
theorem as_I {g : XG} {M : Mem} {k n : Nat} (h : isI k n) (f : Nat → Int32) : (WL g M).set k (ad g k, .inl (cA g 0, n, .inl f)) = WL g (fun c => if c = k then f else M c) := by rcases kk_I h with ⟨rfl, rfl⟩ | ⟨rfl, rfl⟩ | ⟨rfl, rfl⟩ | ⟨rfl, rfl⟩ | ⟨rfl, rfl⟩ | ⟨rfl, rfl⟩ | ⟨rfl, rfl⟩ | ⟨rfl, rfl⟩ | ⟨rfl, rfl⟩ | ⟨rfl, rfl⟩ | ⟨rfl, rfl⟩ | ⟨rfl, rfl⟩ | ⟨rfl, rfl⟩ | ⟨rfl, rfl⟩ | ⟨rfl, rfl⟩ | ⟨rfl, rfl⟩ | ⟨rfl, rfl⟩ | ⟨rfl, rfl⟩ | ⟨rfl, rfl⟩ | ⟨rfl, rfl⟩ | ⟨rfl, rfl⟩ | ⟨rfl, rfl⟩ | ⟨rfl, rfl⟩ | ⟨rfl, rfl⟩ | ⟨rfl, rfl⟩ | ⟨rfl, rfl⟩ | ⟨rfl, rfl⟩ | ⟨rfl, rfl⟩ | ⟨rfl, rfl⟩ | ⟨rfl, rfl⟩ | ⟨rfl, rfl⟩ | ⟨rfl, rfl⟩ | ⟨rfl, rfl⟩ | ⟨rfl, rfl⟩ | ⟨rfl, rfl⟩ | ⟨rfl, rfl⟩ | ⟨rfl, rfl⟩ | ⟨rfl, rfl⟩ | ⟨rfl, rfl⟩ <;> rfl
theorem kk_B {k n : Nat} (h : isB k n) : (k = 8 ∧ n = 320) := by simpa [isB] using h
theorem al_B {g : XG} {M : Mem} {k n : Nat} (h : isB k n) : (WL g M)[k]? = some (ad g k, .inl (cA g 1, n, .inl (M k))) := by rcases kk_B h with ⟨rfl, rfl⟩ <;> rfl
theorem as_B {g : XG} {M : Mem} {k n : Nat} (h : isB k n) (f : Nat → Int32) : (WL g M).set k (ad g k, .inl (cA g 1, n, .inl f)) = WL g (fun c => if c = k then f else M c) := by rcases kk_B h with ⟨rfl, rfl⟩ <;> rfl
theorem kk_Z {k n : Nat} (h : isZ k n) : (k = 56 ∧ n = 2) := by simpa [isZ] using h
theorem al_Z {g : XG} {M : Mem} {k n : Nat} (h : isZ k n) : (WL g M)[k]? = some (ad g k, .inl (cA g 2, n, .inl (M k))) := by rcases kk_Z h with ⟨rfl, rfl⟩ <;> rfl
theorem as_Z {g : XG} {M : Mem} {k n : Nat} (h : isZ k n) (f : Nat → Int32) : (WL g M).set k (ad g k, .inl (cA g 2, n, .inl f)) = WL g (fun c => if c = k then f else M c) := by rcases kk_Z h with ⟨rfl, rfl⟩ <;> rfl
