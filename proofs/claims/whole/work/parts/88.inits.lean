theorem nw_callb {x : XC} {g : XG} {y0 : XM} {ws : va_W} {ce sl pc : Nat} {L : List (Nat × Value)} {S : List Value} {z : XM} {idx k ci a N : Nat} {T : u_T} {C : String} {fs : List Value} {P0 : Option Value → va_W → Prop} (F : XN x g y0) (hN : New (x_l x) g z [.ref a] ws 0 0 P0) (d : decode (xmB y0) pc = .ok (.invokevirtual idx, 3)) (cs : CSV (xmN y0).cls (xmF y0) (xmW y0) idx 0 z) (he : ws[k]? = some (a, .inr (ci, fs))) (hc : vwCl[ci]? = some (C, T, N)) (hcl : (xmN z).cls = C) (hW : (S.map fun v => v.category).sum ≤ 8) (hce : ce + 0 ≤ (x_R x).cells) (hsl : sl + 0 ≤ (x_R x).slots)
    (kk : ∀ (r : Option Value) (w1 : va_W), P0 r w1 → EW x g (xmL y0) w1 ce sl (pc + 3) L (r.toList ++ S)) : EW x g (xmL y0) ws ce sl pc L (.ref a :: S) := fun H locs ls hP hD hS hl => by
  subst hcl
  refine nw_back (ws := []) (wc := ws) (P0 := P0) F hP hD hS hl (va_runV (C := (xmN z).cls) (As := []) (rest := S) ⟨F.1.1, F.1.2.1, F.1.2.2.1, F.1.2.2.2.1, F.1.2.2.2.2.1⟩ (hN H.size) ⟨callB_of (Ts := TB) 0 F.1.2.2.2.2.1 (tb_in cs.1.2.2.1) rfl rfl rfl (F.1.2.2.2.2.1 _ cs.1.2.1) (F.1.2.2.2.2.1 _ cs.1.1) cs.1.2.2.2.1 ⟨Nat.le_trans cs.1.2.2.2.2.1 F.1.2.2.2.2.2.2.2.2.1, Nat.le_trans cs.1.2.2.2.2.2 F.1.2.2.2.2.2.2.2.2.2.1⟩, F.1.2.2.2.2.1 _ cs.2.1, F.1.2.2.2.2.1 _ cs.2.2⟩ ⟨xPn_blind _ _ _ _, va_recv F.1.2.2.2.2.2.1 hP hc he, xpn_at (ws := []) F hP hD hS⟩ rfl rfl hl.1 rfl (lv_room hW) d ⟨hce, hsl⟩) (fun r w1 h => kk r w1 h)
theorem n_base {l : Launch} {g : XG} {ws : va_W} {t a b c d k1 k2 : Nat} {v : Value} (h1 : ws[k1]? = some (t, .inr (6, [.ref a, .ref b, .ref c, .ref d, v]))) (h2 : ws[k2]? = some (a, .inl (cA g 0, stL 0, .inl (fun j => (stV 0).getD j 0)))) : New l g YX6_base [.ref t] ws 0 0 (fun r w => r = some (.int 130) ∧ w = ws) := by
  refine new_of (by decide +kernel) (Nat.le_of_ble_eq_true rfl) (fun x hxl F R => ?_)
  subst hxl
  refine nw_aload_n F dX6_base_0 rfl rfl ?_
  refine nw_getf (q0 := k1) (j := 0) F dX6_base_1 inX6 h1 rfl (by decide) fl_X6_18 rfl ?_
  refine nw_iconst (v := 1) F dX6_base_4 (by decide) ?_
  refine nw_iald (q0 := k2) F dX6_base_5 h2 (vpd (by decide)) ?_
  exact nw_iret F R dX6_base_6 rfl ⟨rfl, rfl⟩
theorem nw_iastL {x : XC} {g : XG} {y0 : XM} {ws : va_W} {ce sl pc : Nat} {L : List (Nat × Value)} {S : List Value} {a n : Nat} {f : Nat → Int32} {i v : Int32} (F : XN x g y0) (d : decode (xmB y0) pc = .ok (.iastore, 1)) (hin : vp_in i n) (k : EW x g (xmL y0) (ws ++ [(a, .inl (cA g 0, n, .inl (upd f i.toNatClampNeg v)))]) ce sl (pc + 1) L S) : EW x g (xmL y0) (ws ++ [(a, .inl (cA g 0, n, .inl f))]) ce sl pc L (.int v :: .int i :: .ref a :: S) :=
  nw_iast (q0 := ws.length) F d (by rw [List.getElem?_append_right (Nat.le_refl _), Nat.sub_self]; rfl) hin (by rw [List.set_append_right _ _ (Nat.le_refl _), Nat.sub_self]; rfl) k
theorem nw_c0 {x : XC} {g : XG} {nL ce sl pc : Nat} {c0 : Nat × va_E} {R w : va_W} {L : List (Nat × Value)} {S : List Value} (k : EW x g nL (c0 :: (R ++ w)) ce sl pc L S) : EW x g nL ((c0 :: R) ++ w) ce sl pc L S := k
theorem nw_p0F {x : XC} {g : XG} {y0 : XM} {ce sl pc : Nat} {L : List (Nat × Value)} {S : List Value} {R : va_W} {ci N idx a : Nat} {C : String} {T : u_T} {fs : List Value} (j : Nat) {fs1 : List Value} {ty : FieldType} {v : Value} (F : XN x g y0) (d : decode (xmB y0) pc = .ok (.putfield idx, 3)) (hin : ∀ w ∈ u_ws C T N, w ∈ TB) (ty0 : Nat → FieldType) (hty : ∀ k, k < N → parseFieldDescriptor (T k).2.2.1 = some (ty0 k)) (hnm : ∀ a, a < N → ∀ b, b < N → a ≠ b → (T a).2.1 ≠ (T b).2.1) (hc : vwCl[ci]? = some (C, T, N)) (hj : j < N) (hw : Cond.fieldLink (xmN y0).cls idx (T j).1 (T j).2.1 (T j).2.2.1 ∈ TB) (hfin : (T j).2.2.2 = true) (hnn : (xmN y0).name = "<init>") (hdc : (T j).1 = (xmN y0).cls) (hd : parseFieldDescriptor (T j).2.2.1 = some ty) (hn : narrow ty v = v) (hfit : fits ty v = true) (hlen : j < fs.length) (hset : fs.set j v = fs1)
    (k : EW x g (xmL y0) ((a, .inr (ci, fs1)) :: R) ce sl (pc + 3) L S) : EW x g (xmL y0) ((a, .inr (ci, fs)) :: R) ce sl pc L (v :: .ref a :: S) :=
  nw_putF (q0 := 0) F d hin ty0 hty hnm rfl hc hj hw hfin hnn hdc hd hn hfit hlen (by rw [hset]; rfl) k
theorem nw_p0 {x : XC} {g : XG} {y0 : XM} {ce sl pc : Nat} {L : List (Nat × Value)} {S : List Value} {R : va_W} {ci N idx a : Nat} {C : String} {T : u_T} {fs : List Value} (j : Nat) {fs1 : List Value} {ty : FieldType} {v : Value} (F : XN x g y0) (d : decode (xmB y0) pc = .ok (.putfield idx, 3)) (hin : ∀ w ∈ u_ws C T N, w ∈ TB) (ty0 : Nat → FieldType) (hty : ∀ k, k < N → parseFieldDescriptor (T k).2.2.1 = some (ty0 k)) (hnm : ∀ a, a < N → ∀ b, b < N → a ≠ b → (T a).2.1 ≠ (T b).2.1) (hc : vwCl[ci]? = some (C, T, N)) (hj : j < N) (hw : Cond.fieldLink (xmN y0).cls idx (T j).1 (T j).2.1 (T j).2.2.1 ∈ TB) (hfin : (T j).2.2.2 = false) (hd : parseFieldDescriptor (T j).2.2.1 = some ty) (hn : narrow ty v = v) (hfit : fits ty v = true) (hlen : j < fs.length) (hset : fs.set j v = fs1)
    (k : EW x g (xmL y0) ((a, .inr (ci, fs1)) :: R) ce sl (pc + 3) L S) : EW x g (xmL y0) ((a, .inr (ci, fs)) :: R) ce sl pc L (v :: .ref a :: S) :=
  nw_put (q0 := 0) F d hin ty0 hty hnm rfl hc hj hw hfin hd hn hfit hlen (by rw [hset]; rfl) k
theorem vaG_a {α : Type} {c0 x : α} {R Y : List α} : (c0 :: (R ++ x :: Y))[R.length + 1]? = some x := by
  rw [List.getElem?_cons_succ, List.getElem?_append_right (Nat.le_refl _), Nat.sub_self]; rfl
theorem vaG_v {α : Type} {c0 x y : α} {R B Y : List α} : (c0 :: (R ++ x :: (B ++ y :: Y)))[R.length + 1 + B.length + 1]? = some y := by
  rw [List.getElem?_cons_succ, List.getElem?_append_right (by omega), show R.length + 1 + B.length - R.length = B.length + 1 by omega, List.getElem?_cons_succ, List.getElem?_append_right (Nat.le_refl _), Nat.sub_self]; rfl
theorem vaG_s {α : Type} {c0 x z : α} {R Y : List α} : (c0 :: (R ++ x :: Y)).set (R.length + 1) z = c0 :: (R ++ z :: Y) := by
  rw [List.set_cons_succ, List.set_append_right _ _ (Nat.le_refl _), Nat.sub_self]; rfl
theorem nw_cg {x : XC} {g : XG} {nL ce sl pc : Nat} {c0 : Nat × va_E} {R Y : va_W} {L : List (Nat × Value)} {S : List Value} {a c n : Nat} {f f1 : Nat → Option Nat} (hf : ∀ i : Nat, i < n → f i = f1 i) (k : EW x g nL (c0 :: (R ++ (a, .inl (c, n, .inr (.inr (.inr (.inr f1))))) :: Y)) ce sl pc L S) : EW x g nL (c0 :: (R ++ (a, .inl (c, n, .inr (.inr (.inr (.inr f))))) :: Y)) ce sl pc L S := fun H locs ls hP hD hS hl => by
  have e : vp_cell c (n, .inr (.inr (.inr (.inr f)))) = vp_cell c (n, .inr (.inr (.inr (.inr f1)))) := by
    have e1 : (fun j : Fin n => va_rf (f j.val)) = fun j : Fin n => va_rf (f1 j.val) := funext fun j => by rw [hf j.val j.isLt]
    exact congrArg (fun h : Fin n → Value => ({ cls := c, slots := Array.ofFn h, vm := .none } : Cell)) e1
  have h0 : H[a]? = some (vp_cell c (n, .inr (.inr (.inr (.inr f))))) := hP _ _ vaG_a
  refine k H locs ls ?_ ?_ hS hl
  · rw [← vaG_s (x := (a, .inl (c, n, .inr (.inr (.inr (.inr f))))))]
    exact hP.set hD vaG_a (show H[a]? = _ by rw [← e]; exact h0) (fun q _ => rfl)
  · rw [← vaG_s (x := (a, .inl (c, n, .inr (.inr (.inr (.inr f))))))]
    exact hD.set vaG_a

theorem nw_aastG_im {x : XC} {g : XG} {y0 : XM} {ce sl pc : Nat} {c0 : Nat × va_E} {R B Y : va_W} {L : List (Nat × Value)} {S : List Value} {a v n : Nat} {vs : List Value} {f : Nat → Option Nat} {i : Int32} (m : Nat) (F : XN x g y0) (d : decode (xmB y0) pc = .ok (.aastore, 1)) (hin : vp_in i n) (hm : i.toNatClampNeg = m)
    (k : EW x g (xmL y0) (c0 :: (R ++ (a, .inl (cA g 3, n, .inr (.inr (.inr (.inr (va_up f m (some v))))))) :: (B ++ (v, .inr (2, vs)) :: Y))) ce sl (pc + 1) L S) : EW x g (xmL y0) (c0 :: (R ++ (a, .inl (cA g 3, n, .inr (.inr (.inr (.inr f))))) :: (B ++ (v, .inr (2, vs)) :: Y))) ce sl pc L (.ref v :: .int i :: .ref a :: S) :=
  nw_aast_im F d vaG_a vaG_v hin (by rw [vaG_s, hm]) k
theorem nw_aastG_sh {x : XC} {g : XG} {y0 : XM} {ce sl pc : Nat} {c0 : Nat × va_E} {R B Y : va_W} {L : List (Nat × Value)} {S : List Value} {a v n : Nat} {vs : List Value} {f : Nat → Option Nat} {i : Int32} (m : Nat) (F : XN x g y0) (d : decode (xmB y0) pc = .ok (.aastore, 1)) (hin : vp_in i n) (hm : i.toNatClampNeg = m)
    (k : EW x g (xmL y0) (c0 :: (R ++ (a, .inl (cA g 4, n, .inr (.inr (.inr (.inr (va_up f m (some v))))))) :: (B ++ (v, .inr (4, vs)) :: Y))) ce sl (pc + 1) L S) : EW x g (xmL y0) (c0 :: (R ++ (a, .inl (cA g 4, n, .inr (.inr (.inr (.inr f))))) :: (B ++ (v, .inr (4, vs)) :: Y))) ce sl pc L (.ref v :: .int i :: .ref a :: S) :=
  nw_aast_sh F d vaG_a vaG_v hin (by rw [vaG_s, hm]) k
