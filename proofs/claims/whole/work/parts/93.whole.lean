-- the law from its entry: both made new, then the loop, then the end
theorem nw_astore_n {x : XC} {g : XG} {y0 : XM} {ws : va_W} {ce sl pc : Nat} {L : List (Nat × Value)} {S : List Value} {n : Fin 4} {i : Nat} {v : Nat} (F : XN x g y0) (d : decode (xmB y0) pc = .ok (.astore_n n, 1)) (hi : (n : Nat) = i) (hn : i < xmL y0) (k : EW x g (xmL y0) ws ce sl (pc + 1) (lput L i (.ref v)) S) : EW x g (xmL y0) ws ce sl pc L (.ref v :: S) :=
  fun H locs ls hP hD hS hl => lv_astore_n F.1.1 F.1.2.1 d hi hl hn rfl (fun ls hl => k H locs ls hP hD hS hl)
theorem nw_istore_n {x : XC} {g : XG} {y0 : XM} {ws : va_W} {ce sl pc : Nat} {L : List (Nat × Value)} {S : List Value} {n : Fin 4} {i : Nat} {v : Int32} (F : XN x g y0) (d : decode (xmB y0) pc = .ok (.istore_n n, 1)) (hi : (n : Nat) = i) (hn : i < xmL y0) (k : EW x g (xmL y0) ws ce sl (pc + 1) (lput L i (.int v)) S) : EW x g (xmL y0) ws ce sl pc L (.int v :: S) :=
  fun H locs ls hP hD hS hl => lv_istore_n F.1.1 F.1.2.1 d hi hl hn rfl (fun ls hl => k H locs ls hP hD hS hl)
def mixA (a1 a2 : Nat → Nat) : Nat → Nat := fun k => if k < 38 then a1 k else a2 k
theorem wl_mix (g : XG) (a1 a2 : Nat → Nat) (M : Mem) : ([] ++ (WL (gA g a1) MC).take 38) ++ (WL (gA g a2) M).drop 38 = WL (gA g (mixA a1 a2)) (MB M) := rfl
def R_law : String := "ButterChurnLaw"
def lw_P (b : Addr) (xs : List Int32) (args : Array Value) (s : State) : Prop := args = #[.ref b] ∧ s.IntsAt b xs ∧ xs.length ≤ 3072 ∧ (Jvm.Cond.and given_1 narrow_1).before args s = true
def lw_Q (_ : Array Value) (s : State) (o : Outcome) (t : State) : Prop := o = .returned (some (.int 1)) ∧ Framed s o t [] 600000 7302250
def lw_Z (below : List Frame) (a : Array Value) (s : State) : State → Prop := fun t => ∃ o, t.status = .running ∧ Ended t below o ∧ lw_Q a s o t
theorem lw_ret {p : Program} {l : Launch} {e : Env} {s : State} {m : MethodId} {below : List Frame} {meth : Method} {c : Code} {b : Nat} (hx : p.tables.exec = Jvm.exec) (hb : c.code = code) (hr : meth.sig.returnType = ret) (hlocks : meth.locks = false) {pc : Nat} {H : Heap} {ls : Array Slot} (hdg : decode code pc = .ok (.ireturn, 1)) : W p l e room_1 s m #[Value.ref b] below meth c H [] 600000 7302250 (lw_Z below #[Value.ref b] s) (F0 m pc ls [.int 1]) := by
  intro T hT X
  obtain ⟨fs, hret, hrun, hended, hW, hframe⟩ := X.leave (v := some (.int 1)) (hlocks := hlocks) (fun h => by rw [hr] at h; cases h)
  have hmeth' : T.vm.method? m = some meth := X.method'
  refine ⟨T.setFrames fs, ?_, .returned (some (.int 1)), hrun, hended, rfl, ⟨_, rfl⟩, hW, hframe⟩
  jvm_step X.here [X.here.top, hx, hb, hdg, hmeth', hr, ret, narrow_b1]
  (try refine ⟨rfl, ?_⟩); (try refine ⟨rfl, ?_⟩)
  first | (intro acts; rw [hret _ acts rfl rfl rfl]) | rw [hret _ _ rfl rfl rfl]
  exact Steps.refl _
def lw_At (p : Program) (s : State) (m : MethodId) (meth : Method) (c : Code) (b L : Nat) (xs : Nat → Int32) : Prop :=
  p.tables.exec = Jvm.exec ∧ c.code = code ∧ meth.sig.returnType = ret ∧ c.maxLocals = 4 ∧ s.vm.findClass R_law = some m.cls ∧ (∀ w ∈ lw_tbl, w.before #[Value.ref b] s = true) ∧ va_X b L xs s s.heap ∧ b < s.heap.size ∧ meth.locks = false ∧ (Jvm.Cond.and given_1 narrow_1).before #[Value.ref b] s = true
set_option maxRecDepth 100000 in
set_option maxHeartbeats 1000000 in
theorem whole_start {p : Program} {e : Env} {s : State} {m : MethodId} {below : List Frame} {meth : Method} {c : Code} (l : Launch) (hflags : l.flags = flags0) {b L : Nat} {xs : Nat → Int32} (hL : L ≤ 3072) (C0 : lw_At p s m meth c b L xs) : W p l e room_1 s m #[Value.ref b] below meth c s.heap [] 0 0 (lw_Z below #[Value.ref b] s) (entryFrame m ([Value.ref b] : List Value).toArray 4) := by
  obtain ⟨hx, hb, hr, hml, hown, hts, hX, hbl, hlocks, hgv⟩ := C0
  obtain ⟨D, cF, hK0⟩ := st_K hts
  obtain ⟨sA, sK, sV, hE, hC0⟩ := st_CO hts hgv
  obtain ⟨g, hg⟩ : ∃ g : XG, g = (D, cF, fun _ => 0, sA, sK, sV) := ⟨_, rfl⟩
  have hK : va_K g.1 vwCl (xty g) s := by rw [hg]; exact hK0 (fun _ => 0) sA sK sV
  have hC : CO g (fun q => s.heap.size ≤ q) s s.heap := by rw [hg]; exact hC0 D cF (fun _ => 0)
  have hE : ∀ i, i < 6 → (tmR i).eval #[Value.ref b] s none [] s = some (.ref (sa g i)) := by rw [hg]; exact hE
  have hN : CN g (fun q => s.heap.size ≤ q) s s.heap := st_CN hts hgv hE hK hC
  have key : ∀ x : XC, x = (p, l, e, room_1, s, m, #[Value.ref b], below, meth, c, 60, 1474, lw_Z below #[Value.ref b] s, fun q => s.heap.size ≤ q) → EW x g 4 [] 0 0 0 [(0, .ref b)] [] := by
    intro x hxe
    have F : XN x g YL_law := by
      rw [hxe]
      exact ⟨⟨hx, hb, hml, hown, fun w h => hts w (tb_tbl h), hK, hC, fun q h => h, Nat.le_of_ble_eq_true rfl, Nat.le_of_ble_eq_true rfl, Nat.le_of_ble_eq_true rfl, Nat.le_of_ble_eq_true rfl⟩, hN, fun h => absurd h (by decide +kernel)⟩
    have hS9 : SC x b L xs := by
      rw [hxe]
      exact ⟨hX, hbl, Nat.not_le.mpr hbl, by omega⟩
    have hce : (x_R x).cells = 600000 := by rw [hxe]; rfl
    have hsl : (x_R x).slots = 7302250 := by rw [hxe]; rfl
    refine nw_mk0 (z := NX7) (Pz := PN7 g) (mc := 37) (ms := 668) F dL_law_0 dL_law_3 dL_law_4 inX7 tyX7 tyX7_ok cw_L_7 iw_X7 ini_X7 rfl dfl7 rfl rfl cd_X7_init im_X7_init rfl (by decide +kernel) ml_L_9 ⟨by decide, by decide⟩ (Nat.le_of_ble_eq_true rfl) (fun q => n_X7 q) (by rw [hce]; exact Nat.le_of_ble_eq_true rfl) (by rw [hsl]; exact Nat.le_of_ble_eq_true rfl) (fun q1 w1 h1 => ?_) (fun _ _ _ h => by cases h.1)
    obtain ⟨-, a1, ha1, rfl⟩ := h1
    refine nw_astore_n (i := 1) F dL_law_7 rfl (by decide) ?_
    refine nw_mk0 (z := NX8) (Pz := PN8 g) (mc := 21) (ms := 759) F dL_law_8 dL_law_11 dL_law_12 inX8 tyX8 tyX8_ok cw_L_10 iw_X8 ini_X8 rfl dfl8 rfl rfl cd_X8_init im_X8_init rfl (by decide +kernel) ml_L_12 ⟨by decide, by decide⟩ (Nat.le_of_ble_eq_true rfl) (fun q => n_X8 q) (by rw [hce]; exact Nat.le_of_ble_eq_true rfl) (by rw [hsl]; exact Nat.le_of_ble_eq_true rfl) (fun q2 w2 h2 => ?_) (fun _ _ _ h => by cases h.1)
    obtain ⟨-, a2, M, ha2, hM, rfl⟩ := h2
    refine nw_astore_n (i := 2) F dL_law_15 rfl (by decide) ?_
    refine nw_iconst (v := 0) F dL_law_16 (by decide) ?_
    refine nw_istore_n (i := 3) F dL_law_17 rfl (by decide) ?_
    refine ew_w (wl_mix g a1 a2 M) ?_
    have F2 : XF x (gA g (mixA a1 a2)) YL_law := F.1
    have e1 : ad (gA g (mixA a1 a2)) 0 = q1 := ha1
    have e2 : ad (gA g (mixA a1 a2)) 38 = q2 := ha2
    have fin9 : ∀ M T, BW M T → EX x (gA g (mixA a1 a2)) (xmL YL_law) M 1455 [] [] := by
      intro M T _
      refine ex_iconst (v := 1) F2 dL_law_1455 (by decide) ?_
      intro H locs ls hP hD hS hl
      subst hxe
      refine va_forget (fun q hq => hS.2.2 q hq) ?_
      refine W.widen (k := 600000) (n := 7302250) (Nat.le_of_ble_eq_true rfl) (Nat.le_of_ble_eq_true rfl) ?_
      exact lw_ret hx hb hr hlocks dL_law_1456
    have lo := law_loop F2 hS9 hL fin9 (BW_0 hM)
    rw [e1, e2] at lo
    have lo2 := ex_weak2 (L := lput (lput (lput [(0, .ref b)] 1 (.ref q1)) 2 (.ref q2)) 3 (.int 0)) lo ⟨rfl, rfl, rfl, rfl, trivial⟩
    intro H locs ls hP hD hS hl
    have h9 := lo2 H locs ls hP hD hS hl
    subst hxe
    exact h9
  have hl := lv_entry ([.ref b]) (n := 4) (Nat.le_of_ble_eq_true rfl)
  rw [lg_entry_eq]
  exact key _ rfl s.heap [] _ (fun k q h => by simp at h) ⟨fun i j p q h => by simp at h, fun k q h => by simp at h⟩ va_S.rf hl
