theorem ex_iconst {x : XC} {g : XG} {y0 : XM} {M : Mem} {pc : Nat} {L : List (Nat × Value)} {S : List Value} {n : Int} {v : Int32} (F : XF x g y0) (d : decode (xmB y0) pc = .ok (.iconst n, 1)) (hv : Int32.ofInt n = v)
    (k : EX x g (xmL y0) M (pc + 1) L (.int v :: S)) : EX x g (xmL y0) M pc L S :=
  fun H locs ls hP hD hS hl => lv_iconst F.1 F.2.1 d hv (k H locs ls hP hD hS hl)
theorem ex_bipush {x : XC} {g : XG} {y0 : XM} {M : Mem} {pc : Nat} {L : List (Nat × Value)} {S : List Value} {n : Int} {v : Int32} (F : XF x g y0) (d : decode (xmB y0) pc = .ok (.bipush n, 2)) (hv : (Int8.ofInt n).toInt32 = v)
    (k : EX x g (xmL y0) M (pc + 2) L (.int v :: S)) : EX x g (xmL y0) M pc L S :=
  fun H locs ls hP hD hS hl => lv_bipush F.1 F.2.1 d hv (k H locs ls hP hD hS hl)
theorem ex_sipush {x : XC} {g : XG} {y0 : XM} {M : Mem} {pc : Nat} {L : List (Nat × Value)} {S : List Value} {n : Int} {v : Int32} (F : XF x g y0) (d : decode (xmB y0) pc = .ok (.sipush n, 3)) (hv : (Int16.ofInt n).toInt32 = v)
    (k : EX x g (xmL y0) M (pc + 3) L (.int v :: S)) : EX x g (xmL y0) M pc L S :=
  fun H locs ls hP hD hS hl => lv_sipush F.1 F.2.1 d hv (k H locs ls hP hD hS hl)
theorem ex_lconst {x : XC} {g : XG} {y0 : XM} {M : Mem} {pc : Nat} {L : List (Nat × Value)} {S : List Value} {n : Fin 2} {v : Int64} (F : XF x g y0) (d : decode (xmB y0) pc = .ok (.lconst n, 1)) (hv : Int64.ofNat (n : Nat) = v)
    (k : EX x g (xmL y0) M (pc + 1) L (.long v :: S)) : EX x g (xmL y0) M pc L S :=
  fun H locs ls hP hD hS hl => lv_lconst F.1 F.2.1 d hv (k H locs ls hP hD hS hl)
theorem ex_iload_n {x : XC} {g : XG} {y0 : XM} {M : Mem} {pc : Nat} {L : List (Nat × Value)} {S : List Value} {n : Fin 4} {i : Nat} {v : Int32} (F : XF x g y0) (d : decode (xmB y0) pc = .ok (.iload_n n, 1)) (hi : (n : Nat) = i) (hk : L.lookup i = some (.int v))
    (k : EX x g (xmL y0) M (pc + 1) L (.int v :: S)) : EX x g (xmL y0) M pc L S :=
  fun H locs ls hP hD hS hl => lv_iload_n F.1 F.2.1 d hi (lk_at hl hk) (k H locs ls hP hD hS hl)
theorem ex_iload {x : XC} {g : XG} {y0 : XM} {M : Mem} {pc : Nat} {L : List (Nat × Value)} {S : List Value} {i : Nat} {v : Int32} (F : XF x g y0) (d : decode (xmB y0) pc = .ok (.iload i, 2)) (hk : L.lookup i = some (.int v))
    (k : EX x g (xmL y0) M (pc + 2) L (.int v :: S)) : EX x g (xmL y0) M pc L S :=
  fun H locs ls hP hD hS hl => lv_iload F.1 F.2.1 d (lk_at hl hk) (k H locs ls hP hD hS hl)
theorem ex_istore_n {x : XC} {g : XG} {y0 : XM} {M : Mem} {pc : Nat} {L : List (Nat × Value)} {S : List Value} {n : Fin 4} {i : Nat} {v : Int32} (F : XF x g y0) (d : decode (xmB y0) pc = .ok (.istore_n n, 1)) (hi : (n : Nat) = i) (hn : i < xmL y0)
    (k : EX x g (xmL y0) M (pc + 1) (lput L i (.int v)) S) : EX x g (xmL y0) M pc L (.int v :: S) :=
  fun H locs ls hP hD hS hl => lv_istore_n F.1 F.2.1 d hi hl hn rfl (fun ls hl => k H locs ls hP hD hS hl)
theorem ex_istore {x : XC} {g : XG} {y0 : XM} {M : Mem} {pc : Nat} {L : List (Nat × Value)} {S : List Value} {i : Nat} {v : Int32} (F : XF x g y0) (d : decode (xmB y0) pc = .ok (.istore i, 2)) (hn : i < xmL y0)
    (k : EX x g (xmL y0) M (pc + 2) (lput L i (.int v)) S) : EX x g (xmL y0) M pc L (.int v :: S) :=
  fun H locs ls hP hD hS hl => lv_istore F.1 F.2.1 d hl hn rfl (fun ls hl => k H locs ls hP hD hS hl)
theorem ex_lload_n {x : XC} {g : XG} {y0 : XM} {M : Mem} {pc : Nat} {L : List (Nat × Value)} {S : List Value} {n : Fin 4} {i : Nat} {v : Int64} (F : XF x g y0) (d : decode (xmB y0) pc = .ok (.lload_n n, 1)) (hi : (n : Nat) = i) (hk : L.lookup i = some (.long v))
    (k : EX x g (xmL y0) M (pc + 1) L (.long v :: S)) : EX x g (xmL y0) M pc L S :=
  fun H locs ls hP hD hS hl => lv_lload_n F.1 F.2.1 d hi (lk_at hl hk) (k H locs ls hP hD hS hl)
theorem ex_lload {x : XC} {g : XG} {y0 : XM} {M : Mem} {pc : Nat} {L : List (Nat × Value)} {S : List Value} {i : Nat} {v : Int64} (F : XF x g y0) (d : decode (xmB y0) pc = .ok (.lload i, 2)) (hk : L.lookup i = some (.long v))
    (k : EX x g (xmL y0) M (pc + 2) L (.long v :: S)) : EX x g (xmL y0) M pc L S :=
  fun H locs ls hP hD hS hl => lv_lload F.1 F.2.1 d (lk_at hl hk) (k H locs ls hP hD hS hl)
theorem ex_lstore_n {x : XC} {g : XG} {y0 : XM} {M : Mem} {pc : Nat} {L : List (Nat × Value)} {S : List Value} {n : Fin 4} {i : Nat} {v : Int64} (F : XF x g y0) (d : decode (xmB y0) pc = .ok (.lstore_n n, 1)) (hi : (n : Nat) = i) (hn : i + 1 < xmL y0)
    (k : EX x g (xmL y0) M (pc + 1) (lput2 L i (.long v)) S) : EX x g (xmL y0) M pc L (.long v :: S) :=
  fun H locs ls hP hD hS hl => lv_lstore_n F.1 F.2.1 d hi hl hn rfl (fun ls hl => k H locs ls hP hD hS hl)
theorem ex_lstore {x : XC} {g : XG} {y0 : XM} {M : Mem} {pc : Nat} {L : List (Nat × Value)} {S : List Value} {i : Nat} {v : Int64} (F : XF x g y0) (d : decode (xmB y0) pc = .ok (.lstore i, 2)) (hn : i + 1 < xmL y0)
    (k : EX x g (xmL y0) M (pc + 2) (lput2 L i (.long v)) S) : EX x g (xmL y0) M pc L (.long v :: S) :=
  fun H locs ls hP hD hS hl => lv_lstore F.1 F.2.1 d hl hn rfl (fun ls hl => k H locs ls hP hD hS hl)
theorem ex_aload_n {x : XC} {g : XG} {y0 : XM} {M : Mem} {pc : Nat} {L : List (Nat × Value)} {S : List Value} {n : Fin 4} {i : Nat} {v : Nat} (F : XF x g y0) (d : decode (xmB y0) pc = .ok (.aload_n n, 1)) (hi : (n : Nat) = i) (hk : L.lookup i = some (.ref v))
    (k : EX x g (xmL y0) M (pc + 1) L (.ref v :: S)) : EX x g (xmL y0) M pc L S :=
  fun H locs ls hP hD hS hl => lv_aload_n F.1 F.2.1 d hi (lk_at hl hk) (k H locs ls hP hD hS hl)
theorem ex_aload {x : XC} {g : XG} {y0 : XM} {M : Mem} {pc : Nat} {L : List (Nat × Value)} {S : List Value} {i : Nat} {v : Nat} (F : XF x g y0) (d : decode (xmB y0) pc = .ok (.aload i, 2)) (hk : L.lookup i = some (.ref v))
    (k : EX x g (xmL y0) M (pc + 2) L (.ref v :: S)) : EX x g (xmL y0) M pc L S :=
  fun H locs ls hP hD hS hl => lv_aload F.1 F.2.1 d (lk_at hl hk) (k H locs ls hP hD hS hl)
theorem ex_astore_n {x : XC} {g : XG} {y0 : XM} {M : Mem} {pc : Nat} {L : List (Nat × Value)} {S : List Value} {n : Fin 4} {i : Nat} {v : Nat} (F : XF x g y0) (d : decode (xmB y0) pc = .ok (.astore_n n, 1)) (hi : (n : Nat) = i) (hn : i < xmL y0)
    (k : EX x g (xmL y0) M (pc + 1) (lput L i (.ref v)) S) : EX x g (xmL y0) M pc L (.ref v :: S) :=
  fun H locs ls hP hD hS hl => lv_astore_n F.1 F.2.1 d hi hl hn rfl (fun ls hl => k H locs ls hP hD hS hl)
theorem ex_astore {x : XC} {g : XG} {y0 : XM} {M : Mem} {pc : Nat} {L : List (Nat × Value)} {S : List Value} {i : Nat} {v : Nat} (F : XF x g y0) (d : decode (xmB y0) pc = .ok (.astore i, 2)) (hn : i < xmL y0)
    (k : EX x g (xmL y0) M (pc + 2) (lput L i (.ref v)) S) : EX x g (xmL y0) M pc L (.ref v :: S) :=
  fun H locs ls hP hD hS hl => lv_astore F.1 F.2.1 d hl hn rfl (fun ls hl => k H locs ls hP hD hS hl)
theorem lk_pos {L : List (Nat × Value)} {i : Nat} {v : Value} (h : L.lookup i = some v) : ∃ k : Nat, L[k]? = some (i, v) := List.getElem?_of_mem (lk_mem h)
theorem ex_iinc {x : XC} {g : XG} {y0 : XM} {M : Mem} {pc : Nat} {L : List (Nat × Value)} {S : List Value} {i : Nat} {n : Int} {v w : Int32} (F : XF x g y0) (d : decode (xmB y0) pc = .ok (.iinc i n, 3)) (hk : L.lookup i = some (.int v)) (hv : v + Int32.ofInt n = w) (hn : i < xmL y0)
    (k : EX x g (xmL y0) M (pc + 3) (lput L i (.int w)) S) : EX x g (xmL y0) M pc L S := fun H locs ls hP hD hS hl => by
  obtain ⟨q, hq⟩ := lk_pos hk
  exact lv_iinc F.1 F.2.1 d hl hq hv hn rfl (fun ls hl => k H locs ls hP hD hS hl)
theorem ex_iadd {x : XC} {g : XG} {y0 : XM} {M : Mem} {pc : Nat} {L : List (Nat × Value)} {S : List Value} {a b : Int32} (F : XF x g y0) (d : decode (xmB y0) pc = .ok (.iadd, 1)) 
    (k : EX x g (xmL y0) M (pc + 1) L (.int (a + b) :: S)) : EX x g (xmL y0) M pc L (.int b :: .int a :: S) :=
  fun H locs ls hP hD hS hl => lv_iadd F.1 F.2.1 d  (k H locs ls hP hD hS hl)
theorem ex_isub {x : XC} {g : XG} {y0 : XM} {M : Mem} {pc : Nat} {L : List (Nat × Value)} {S : List Value} {a b : Int32} (F : XF x g y0) (d : decode (xmB y0) pc = .ok (.isub, 1)) 
    (k : EX x g (xmL y0) M (pc + 1) L (.int (a - b) :: S)) : EX x g (xmL y0) M pc L (.int b :: .int a :: S) :=
  fun H locs ls hP hD hS hl => lv_isub F.1 F.2.1 d  (k H locs ls hP hD hS hl)
theorem ex_imul {x : XC} {g : XG} {y0 : XM} {M : Mem} {pc : Nat} {L : List (Nat × Value)} {S : List Value} {a b : Int32} (F : XF x g y0) (d : decode (xmB y0) pc = .ok (.imul, 1)) 
    (k : EX x g (xmL y0) M (pc + 1) L (.int (a * b) :: S)) : EX x g (xmL y0) M pc L (.int b :: .int a :: S) :=
  fun H locs ls hP hD hS hl => lv_imul F.1 F.2.1 d  (k H locs ls hP hD hS hl)
theorem ex_iand {x : XC} {g : XG} {y0 : XM} {M : Mem} {pc : Nat} {L : List (Nat × Value)} {S : List Value} {a b : Int32} (F : XF x g y0) (d : decode (xmB y0) pc = .ok (.iand, 1)) 
    (k : EX x g (xmL y0) M (pc + 1) L (.int (a &&& b) :: S)) : EX x g (xmL y0) M pc L (.int b :: .int a :: S) :=
  fun H locs ls hP hD hS hl => lv_iand F.1 F.2.1 d  (k H locs ls hP hD hS hl)
theorem ex_ior {x : XC} {g : XG} {y0 : XM} {M : Mem} {pc : Nat} {L : List (Nat × Value)} {S : List Value} {a b : Int32} (F : XF x g y0) (d : decode (xmB y0) pc = .ok (.ior, 1)) 
    (k : EX x g (xmL y0) M (pc + 1) L (.int (a ||| b) :: S)) : EX x g (xmL y0) M pc L (.int b :: .int a :: S) :=
  fun H locs ls hP hD hS hl => lv_ior F.1 F.2.1 d  (k H locs ls hP hD hS hl)
theorem ex_ixor {x : XC} {g : XG} {y0 : XM} {M : Mem} {pc : Nat} {L : List (Nat × Value)} {S : List Value} {a b : Int32} (F : XF x g y0) (d : decode (xmB y0) pc = .ok (.ixor, 1)) 
    (k : EX x g (xmL y0) M (pc + 1) L (.int (a ^^^ b) :: S)) : EX x g (xmL y0) M pc L (.int b :: .int a :: S) :=
  fun H locs ls hP hD hS hl => lv_ixor F.1 F.2.1 d  (k H locs ls hP hD hS hl)
theorem ex_idiv {x : XC} {g : XG} {y0 : XM} {M : Mem} {pc : Nat} {L : List (Nat × Value)} {S : List Value} {a b : Int32} (F : XF x g y0) (d : decode (xmB y0) pc = .ok (.idiv, 1)) (hb : ¬ b = 0)
    (k : EX x g (xmL y0) M (pc + 1) L (.int (a / b) :: S)) : EX x g (xmL y0) M pc L (.int b :: .int a :: S) :=
  fun H locs ls hP hD hS hl => lv_idiv F.1 F.2.1 d hb (k H locs ls hP hD hS hl)
theorem ex_irem {x : XC} {g : XG} {y0 : XM} {M : Mem} {pc : Nat} {L : List (Nat × Value)} {S : List Value} {a b : Int32} (F : XF x g y0) (d : decode (xmB y0) pc = .ok (.irem, 1)) (hb : ¬ b = 0)
    (k : EX x g (xmL y0) M (pc + 1) L (.int (a - a / b * b) :: S)) : EX x g (xmL y0) M pc L (.int b :: .int a :: S) :=
  fun H locs ls hP hD hS hl => lv_irem F.1 F.2.1 d hb (k H locs ls hP hD hS hl)
theorem ex_ineg {x : XC} {g : XG} {y0 : XM} {M : Mem} {pc : Nat} {L : List (Nat × Value)} {S : List Value} {a : Int32} (F : XF x g y0) (d : decode (xmB y0) pc = .ok (.ineg, 1)) 
    (k : EX x g (xmL y0) M (pc + 1) L (.int (-a) :: S)) : EX x g (xmL y0) M pc L (.int a :: S) :=
  fun H locs ls hP hD hS hl => lv_ineg F.1 F.2.1 d  (k H locs ls hP hD hS hl)
theorem ex_ladd {x : XC} {g : XG} {y0 : XM} {M : Mem} {pc : Nat} {L : List (Nat × Value)} {S : List Value} {a b : Int64} (F : XF x g y0) (d : decode (xmB y0) pc = .ok (.ladd, 1)) 
    (k : EX x g (xmL y0) M (pc + 1) L (.long (a + b) :: S)) : EX x g (xmL y0) M pc L (.long b :: .long a :: S) :=
  fun H locs ls hP hD hS hl => lv_ladd F.1 F.2.1 d  (k H locs ls hP hD hS hl)
theorem ex_lsub {x : XC} {g : XG} {y0 : XM} {M : Mem} {pc : Nat} {L : List (Nat × Value)} {S : List Value} {a b : Int64} (F : XF x g y0) (d : decode (xmB y0) pc = .ok (.lsub, 1)) 
    (k : EX x g (xmL y0) M (pc + 1) L (.long (a - b) :: S)) : EX x g (xmL y0) M pc L (.long b :: .long a :: S) :=
  fun H locs ls hP hD hS hl => lv_lsub F.1 F.2.1 d  (k H locs ls hP hD hS hl)
theorem ex_lmul {x : XC} {g : XG} {y0 : XM} {M : Mem} {pc : Nat} {L : List (Nat × Value)} {S : List Value} {a b : Int64} (F : XF x g y0) (d : decode (xmB y0) pc = .ok (.lmul, 1)) 
    (k : EX x g (xmL y0) M (pc + 1) L (.long (a * b) :: S)) : EX x g (xmL y0) M pc L (.long b :: .long a :: S) :=
  fun H locs ls hP hD hS hl => lv_lmul F.1 F.2.1 d  (k H locs ls hP hD hS hl)
theorem ex_land {x : XC} {g : XG} {y0 : XM} {M : Mem} {pc : Nat} {L : List (Nat × Value)} {S : List Value} {a b : Int64} (F : XF x g y0) (d : decode (xmB y0) pc = .ok (.land, 1)) 
    (k : EX x g (xmL y0) M (pc + 1) L (.long (a &&& b) :: S)) : EX x g (xmL y0) M pc L (.long b :: .long a :: S) :=
  fun H locs ls hP hD hS hl => lv_land F.1 F.2.1 d  (k H locs ls hP hD hS hl)
theorem ex_lor {x : XC} {g : XG} {y0 : XM} {M : Mem} {pc : Nat} {L : List (Nat × Value)} {S : List Value} {a b : Int64} (F : XF x g y0) (d : decode (xmB y0) pc = .ok (.lor, 1)) 
    (k : EX x g (xmL y0) M (pc + 1) L (.long (a ||| b) :: S)) : EX x g (xmL y0) M pc L (.long b :: .long a :: S) :=
  fun H locs ls hP hD hS hl => lv_lor F.1 F.2.1 d  (k H locs ls hP hD hS hl)
theorem ex_ldiv {x : XC} {g : XG} {y0 : XM} {M : Mem} {pc : Nat} {L : List (Nat × Value)} {S : List Value} {a b : Int64} (F : XF x g y0) (d : decode (xmB y0) pc = .ok (.ldiv, 1)) (hb : ¬ b = 0)
    (k : EX x g (xmL y0) M (pc + 1) L (.long (a / b) :: S)) : EX x g (xmL y0) M pc L (.long b :: .long a :: S) :=
  fun H locs ls hP hD hS hl => lv_ldiv F.1 F.2.1 d hb (k H locs ls hP hD hS hl)
theorem ex_lrem {x : XC} {g : XG} {y0 : XM} {M : Mem} {pc : Nat} {L : List (Nat × Value)} {S : List Value} {a b : Int64} (F : XF x g y0) (d : decode (xmB y0) pc = .ok (.lrem, 1)) (hb : ¬ b = 0)
    (k : EX x g (xmL y0) M (pc + 1) L (.long (a - a / b * b) :: S)) : EX x g (xmL y0) M pc L (.long b :: .long a :: S) :=
  fun H locs ls hP hD hS hl => lv_lrem F.1 F.2.1 d hb (k H locs ls hP hD hS hl)
theorem ex_ishl {x : XC} {g : XG} {y0 : XM} {M : Mem} {pc : Nat} {L : List (Nat × Value)} {S : List Value} {a b : Int32} (F : XF x g y0) (d : decode (xmB y0) pc = .ok (.ishl, 1)) 
    (k : EX x g (xmL y0) M (pc + 1) L (.int (a <<< (b &&& 31)) :: S)) : EX x g (xmL y0) M pc L (.int b :: .int a :: S) :=
  fun H locs ls hP hD hS hl => lv_ishl F.1 F.2.1 d  (k H locs ls hP hD hS hl)
theorem ex_ishr {x : XC} {g : XG} {y0 : XM} {M : Mem} {pc : Nat} {L : List (Nat × Value)} {S : List Value} {a b : Int32} (F : XF x g y0) (d : decode (xmB y0) pc = .ok (.ishr, 1)) 
    (k : EX x g (xmL y0) M (pc + 1) L (.int (a >>> (b &&& 31)) :: S)) : EX x g (xmL y0) M pc L (.int b :: .int a :: S) :=
  fun H locs ls hP hD hS hl => lv_ishr F.1 F.2.1 d  (k H locs ls hP hD hS hl)
theorem ex_iushr {x : XC} {g : XG} {y0 : XM} {M : Mem} {pc : Nat} {L : List (Nat × Value)} {S : List Value} {a b : Int32} (F : XF x g y0) (d : decode (xmB y0) pc = .ok (.iushr, 1)) 
    (k : EX x g (xmL y0) M (pc + 1) L (.int ((a.toUInt32 >>> (b.toUInt32 &&& Int32.toUInt32 31)).toInt32) :: S)) : EX x g (xmL y0) M pc L (.int b :: .int a :: S) :=
  fun H locs ls hP hD hS hl => lv_iushr F.1 F.2.1 d rfl (k H locs ls hP hD hS hl)
theorem ex_lshl {x : XC} {g : XG} {y0 : XM} {M : Mem} {pc : Nat} {L : List (Nat × Value)} {S : List Value} {a : Int64} {b : Int32} (F : XF x g y0) (d : decode (xmB y0) pc = .ok (.lshl, 1)) 
    (k : EX x g (xmL y0) M (pc + 1) L (.long (a <<< (b.toInt64 &&& 63)) :: S)) : EX x g (xmL y0) M pc L (.int b :: .long a :: S) :=
  fun H locs ls hP hD hS hl => lv_lshl F.1 F.2.1 d rfl (k H locs ls hP hD hS hl)
theorem ex_lshr {x : XC} {g : XG} {y0 : XM} {M : Mem} {pc : Nat} {L : List (Nat × Value)} {S : List Value} {a : Int64} {b : Int32} (F : XF x g y0) (d : decode (xmB y0) pc = .ok (.lshr, 1)) 
    (k : EX x g (xmL y0) M (pc + 1) L (.long (a >>> (b.toInt64 &&& 63)) :: S)) : EX x g (xmL y0) M pc L (.int b :: .long a :: S) :=
  fun H locs ls hP hD hS hl => lv_lshr F.1 F.2.1 d rfl (k H locs ls hP hD hS hl)
theorem ex_i2l {x : XC} {g : XG} {y0 : XM} {M : Mem} {pc : Nat} {L : List (Nat × Value)} {S : List Value} {a : Int32} (F : XF x g y0) (d : decode (xmB y0) pc = .ok (.i2l, 1)) 
    (k : EX x g (xmL y0) M (pc + 1) L (.long a.toInt64 :: S)) : EX x g (xmL y0) M pc L (.int a :: S) :=
  fun H locs ls hP hD hS hl => lv_i2l F.1 F.2.1 d rfl (k H locs ls hP hD hS hl)
theorem ex_l2i {x : XC} {g : XG} {y0 : XM} {M : Mem} {pc : Nat} {L : List (Nat × Value)} {S : List Value} {a : Int64} (F : XF x g y0) (d : decode (xmB y0) pc = .ok (.l2i, 1)) 
    (k : EX x g (xmL y0) M (pc + 1) L (.int a.toInt32 :: S)) : EX x g (xmL y0) M pc L (.long a :: S) :=
  fun H locs ls hP hD hS hl => lv_l2i F.1 F.2.1 d rfl (k H locs ls hP hD hS hl)
theorem ex_i2b {x : XC} {g : XG} {y0 : XM} {M : Mem} {pc : Nat} {L : List (Nat × Value)} {S : List Value} {a : Int32} (F : XF x g y0) (d : decode (xmB y0) pc = .ok (.i2b, 1)) 
    (k : EX x g (xmL y0) M (pc + 1) L (.int a.toInt8.toInt32 :: S)) : EX x g (xmL y0) M pc L (.int a :: S) :=
  fun H locs ls hP hD hS hl => lv_i2b F.1 F.2.1 d rfl (k H locs ls hP hD hS hl)
theorem ex_i2s {x : XC} {g : XG} {y0 : XM} {M : Mem} {pc : Nat} {L : List (Nat × Value)} {S : List Value} {a : Int32} (F : XF x g y0) (d : decode (xmB y0) pc = .ok (.i2s, 1)) 
    (k : EX x g (xmL y0) M (pc + 1) L (.int a.toInt16.toInt32 :: S)) : EX x g (xmL y0) M pc L (.int a :: S) :=
  fun H locs ls hP hD hS hl => lv_i2s F.1 F.2.1 d rfl (k H locs ls hP hD hS hl)
theorem ex_i2c {x : XC} {g : XG} {y0 : XM} {M : Mem} {pc : Nat} {L : List (Nat × Value)} {S : List Value} {a : Int32} (F : XF x g y0) (d : decode (xmB y0) pc = .ok (.i2c, 1)) 
    (k : EX x g (xmL y0) M (pc + 1) L (.int (a.toUInt32 % 65536).toInt32 :: S)) : EX x g (xmL y0) M pc L (.int a :: S) :=
  fun H locs ls hP hD hS hl => lv_i2c F.1 F.2.1 d rfl (k H locs ls hP hD hS hl)
theorem ex_lcmp {x : XC} {g : XG} {y0 : XM} {M : Mem} {pc : Nat} {L : List (Nat × Value)} {S : List Value} {a b : Int64} (F : XF x g y0) (d : decode (xmB y0) pc = .ok (.lcmp, 1)) 
    (k : EX x g (xmL y0) M (pc + 1) L (.int (lg_cmp a b) :: S)) : EX x g (xmL y0) M pc L (.long b :: .long a :: S) :=
  fun H locs ls hP hD hS hl => W.lcmp F.1 F.2.1 d  (k H locs ls hP hD hS hl)
theorem ex_dup {x : XC} {g : XG} {y0 : XM} {M : Mem} {pc : Nat} {L : List (Nat × Value)} {S : List Value} {v : Value} (F : XF x g y0) (d : decode (xmB y0) pc = .ok (.dup, 1)) (hv : v.category = 1)
    (k : EX x g (xmL y0) M (pc + 1) L (v :: v :: S)) : EX x g (xmL y0) M pc L (v :: S) :=
  fun H locs ls hP hD hS hl => lv_dup F.1 F.2.1 d hv (k H locs ls hP hD hS hl)
theorem ex_pop {x : XC} {g : XG} {y0 : XM} {M : Mem} {pc : Nat} {L : List (Nat × Value)} {S : List Value} {v : Value} (F : XF x g y0) (d : decode (xmB y0) pc = .ok (.pop, 1)) (hv : v.category = 1)
    (k : EX x g (xmL y0) M (pc + 1) L S) : EX x g (xmL y0) M pc L (v :: S) :=
  fun H locs ls hP hD hS hl => lv_pop F.1 F.2.1 d hv (k H locs ls hP hD hS hl)
theorem ex_dup2 {x : XC} {g : XG} {y0 : XM} {M : Mem} {pc : Nat} {L : List (Nat × Value)} {S : List Value} {v w : Value} (F : XF x g y0) (d : decode (xmB y0) pc = .ok (.dup2, 1)) (hv : v.category = 1) (hw : w.category = 1)
    (k : EX x g (xmL y0) M (pc + 1) L (v :: w :: v :: w :: S)) : EX x g (xmL y0) M pc L (v :: w :: S) :=
  fun H locs ls hP hD hS hl => lv_dup2_11 F.1 F.2.1 d hv hw (k H locs ls hP hD hS hl)
theorem ex_null {x : XC} {g : XG} {y0 : XM} {M : Mem} {pc : Nat} {L : List (Nat × Value)} {S : List Value}  (F : XF x g y0) (d : decode (xmB y0) pc = .ok (.aconst_null, 1)) 
    (k : EX x g (xmL y0) M (pc + 1) L (.null :: S)) : EX x g (xmL y0) M pc L S :=
  fun H locs ls hP hD hS hl => lv_null F.1 F.2.1 d  (k H locs ls hP hD hS hl)
theorem ex_icmp_eq {x : XC} {g : XG} {y0 : XM} {M : Mem} {pc : Nat} {L : List (Nat × Value)} {S : List Value} {a b : Int32} {off : Int} {t : Nat} (F : XF x g y0) (d : decode (xmB y0) pc = .ok (.if_icmp .eq off, 3)) (ht : (pc : Int) + off = (t : Int))
    (kt : a = b → EX x g (xmL y0) M t L S) (kf : ¬ a = b → EX x g (xmL y0) M (pc + 3) L S) : EX x g (xmL y0) M pc L (.int b :: .int a :: S) :=
  fun H locs ls hP hD hS hl => lv_icmp_eq F.1 F.2.1 d ht (fun c => kt c H locs ls hP hD hS hl) (fun c => kf c H locs ls hP hD hS hl)
theorem ex_if_eq {x : XC} {g : XG} {y0 : XM} {M : Mem} {pc : Nat} {L : List (Nat × Value)} {S : List Value} {a : Int32} {off : Int} {t : Nat} (F : XF x g y0) (d : decode (xmB y0) pc = .ok (.ifCond .eq off, 3)) (ht : (pc : Int) + off = (t : Int))
    (kt : a = 0 → EX x g (xmL y0) M t L S) (kf : ¬ a = 0 → EX x g (xmL y0) M (pc + 3) L S) : EX x g (xmL y0) M pc L (.int a :: S) :=
  fun H locs ls hP hD hS hl => lv_if_eq F.1 F.2.1 d ht (fun c => kt c H locs ls hP hD hS hl) (fun c => kf c H locs ls hP hD hS hl)
theorem ex_icmp_ne {x : XC} {g : XG} {y0 : XM} {M : Mem} {pc : Nat} {L : List (Nat × Value)} {S : List Value} {a b : Int32} {off : Int} {t : Nat} (F : XF x g y0) (d : decode (xmB y0) pc = .ok (.if_icmp .ne off, 3)) (ht : (pc : Int) + off = (t : Int))
    (kt : ¬ a = b → EX x g (xmL y0) M t L S) (kf : a = b → EX x g (xmL y0) M (pc + 3) L S) : EX x g (xmL y0) M pc L (.int b :: .int a :: S) :=
  fun H locs ls hP hD hS hl => lv_icmp_ne F.1 F.2.1 d ht (fun c => kt c H locs ls hP hD hS hl) (fun c => kf c H locs ls hP hD hS hl)
theorem ex_if_ne {x : XC} {g : XG} {y0 : XM} {M : Mem} {pc : Nat} {L : List (Nat × Value)} {S : List Value} {a : Int32} {off : Int} {t : Nat} (F : XF x g y0) (d : decode (xmB y0) pc = .ok (.ifCond .ne off, 3)) (ht : (pc : Int) + off = (t : Int))
    (kt : ¬ a = 0 → EX x g (xmL y0) M t L S) (kf : a = 0 → EX x g (xmL y0) M (pc + 3) L S) : EX x g (xmL y0) M pc L (.int a :: S) :=
  fun H locs ls hP hD hS hl => lv_if_ne F.1 F.2.1 d ht (fun c => kt c H locs ls hP hD hS hl) (fun c => kf c H locs ls hP hD hS hl)
theorem ex_icmp_lt {x : XC} {g : XG} {y0 : XM} {M : Mem} {pc : Nat} {L : List (Nat × Value)} {S : List Value} {a b : Int32} {off : Int} {t : Nat} (F : XF x g y0) (d : decode (xmB y0) pc = .ok (.if_icmp .lt off, 3)) (ht : (pc : Int) + off = (t : Int))
    (kt : a < b → EX x g (xmL y0) M t L S) (kf : ¬ a < b → EX x g (xmL y0) M (pc + 3) L S) : EX x g (xmL y0) M pc L (.int b :: .int a :: S) :=
  fun H locs ls hP hD hS hl => lv_icmp_lt F.1 F.2.1 d ht (fun c => kt c H locs ls hP hD hS hl) (fun c => kf c H locs ls hP hD hS hl)
theorem ex_if_lt {x : XC} {g : XG} {y0 : XM} {M : Mem} {pc : Nat} {L : List (Nat × Value)} {S : List Value} {a : Int32} {off : Int} {t : Nat} (F : XF x g y0) (d : decode (xmB y0) pc = .ok (.ifCond .lt off, 3)) (ht : (pc : Int) + off = (t : Int))
    (kt : a < 0 → EX x g (xmL y0) M t L S) (kf : ¬ a < 0 → EX x g (xmL y0) M (pc + 3) L S) : EX x g (xmL y0) M pc L (.int a :: S) :=
  fun H locs ls hP hD hS hl => lv_if_lt F.1 F.2.1 d ht (fun c => kt c H locs ls hP hD hS hl) (fun c => kf c H locs ls hP hD hS hl)
theorem ex_icmp_ge {x : XC} {g : XG} {y0 : XM} {M : Mem} {pc : Nat} {L : List (Nat × Value)} {S : List Value} {a b : Int32} {off : Int} {t : Nat} (F : XF x g y0) (d : decode (xmB y0) pc = .ok (.if_icmp .ge off, 3)) (ht : (pc : Int) + off = (t : Int))
    (kt : b ≤ a → EX x g (xmL y0) M t L S) (kf : ¬ b ≤ a → EX x g (xmL y0) M (pc + 3) L S) : EX x g (xmL y0) M pc L (.int b :: .int a :: S) :=
  fun H locs ls hP hD hS hl => lv_icmp_ge F.1 F.2.1 d ht (fun c => kt c H locs ls hP hD hS hl) (fun c => kf c H locs ls hP hD hS hl)
theorem ex_if_ge {x : XC} {g : XG} {y0 : XM} {M : Mem} {pc : Nat} {L : List (Nat × Value)} {S : List Value} {a : Int32} {off : Int} {t : Nat} (F : XF x g y0) (d : decode (xmB y0) pc = .ok (.ifCond .ge off, 3)) (ht : (pc : Int) + off = (t : Int))
    (kt : 0 ≤ a → EX x g (xmL y0) M t L S) (kf : ¬ 0 ≤ a → EX x g (xmL y0) M (pc + 3) L S) : EX x g (xmL y0) M pc L (.int a :: S) :=
  fun H locs ls hP hD hS hl => lv_if_ge F.1 F.2.1 d ht (fun c => kt c H locs ls hP hD hS hl) (fun c => kf c H locs ls hP hD hS hl)
theorem ex_icmp_gt {x : XC} {g : XG} {y0 : XM} {M : Mem} {pc : Nat} {L : List (Nat × Value)} {S : List Value} {a b : Int32} {off : Int} {t : Nat} (F : XF x g y0) (d : decode (xmB y0) pc = .ok (.if_icmp .gt off, 3)) (ht : (pc : Int) + off = (t : Int))
    (kt : b < a → EX x g (xmL y0) M t L S) (kf : ¬ b < a → EX x g (xmL y0) M (pc + 3) L S) : EX x g (xmL y0) M pc L (.int b :: .int a :: S) :=
  fun H locs ls hP hD hS hl => lv_icmp_gt F.1 F.2.1 d ht (fun c => kt c H locs ls hP hD hS hl) (fun c => kf c H locs ls hP hD hS hl)
theorem ex_if_gt {x : XC} {g : XG} {y0 : XM} {M : Mem} {pc : Nat} {L : List (Nat × Value)} {S : List Value} {a : Int32} {off : Int} {t : Nat} (F : XF x g y0) (d : decode (xmB y0) pc = .ok (.ifCond .gt off, 3)) (ht : (pc : Int) + off = (t : Int))
    (kt : 0 < a → EX x g (xmL y0) M t L S) (kf : ¬ 0 < a → EX x g (xmL y0) M (pc + 3) L S) : EX x g (xmL y0) M pc L (.int a :: S) :=
  fun H locs ls hP hD hS hl => lv_if_gt F.1 F.2.1 d ht (fun c => kt c H locs ls hP hD hS hl) (fun c => kf c H locs ls hP hD hS hl)
theorem ex_icmp_le {x : XC} {g : XG} {y0 : XM} {M : Mem} {pc : Nat} {L : List (Nat × Value)} {S : List Value} {a b : Int32} {off : Int} {t : Nat} (F : XF x g y0) (d : decode (xmB y0) pc = .ok (.if_icmp .le off, 3)) (ht : (pc : Int) + off = (t : Int))
    (kt : a ≤ b → EX x g (xmL y0) M t L S) (kf : ¬ a ≤ b → EX x g (xmL y0) M (pc + 3) L S) : EX x g (xmL y0) M pc L (.int b :: .int a :: S) :=
  fun H locs ls hP hD hS hl => lv_icmp_le F.1 F.2.1 d ht (fun c => kt c H locs ls hP hD hS hl) (fun c => kf c H locs ls hP hD hS hl)
theorem ex_if_le {x : XC} {g : XG} {y0 : XM} {M : Mem} {pc : Nat} {L : List (Nat × Value)} {S : List Value} {a : Int32} {off : Int} {t : Nat} (F : XF x g y0) (d : decode (xmB y0) pc = .ok (.ifCond .le off, 3)) (ht : (pc : Int) + off = (t : Int))
    (kt : a ≤ 0 → EX x g (xmL y0) M t L S) (kf : ¬ a ≤ 0 → EX x g (xmL y0) M (pc + 3) L S) : EX x g (xmL y0) M pc L (.int a :: S) :=
  fun H locs ls hP hD hS hl => lv_if_le F.1 F.2.1 d ht (fun c => kt c H locs ls hP hD hS hl) (fun c => kf c H locs ls hP hD hS hl)
theorem ex_goto {x : XC} {g : XG} {y0 : XM} {M : Mem} {pc : Nat} {L : List (Nat × Value)} {S : List Value} {off : Int} {t : Nat} (F : XF x g y0) (d : decode (xmB y0) pc = .ok (.goto off, 3)) (ht : (pc : Int) + off = (t : Int)) (k : EX x g (xmL y0) M t L S) : EX x g (xmL y0) M pc L S :=
  fun H locs ls hP hD hS hl => lv_goto F.1 F.2.1 d ht (k H locs ls hP hD hS hl)
theorem ex_weak {x : XC} {g : XG} {y0 : XM} {M : Mem} {pc : Nat} {L : List (Nat × Value)} {S : List Value} {L1 : List (Nat × Value)} (h : lall L L1) (k : EX x g (xmL y0) M pc L1 S) : EX x g (xmL y0) M pc L S :=
  fun H locs ls hP hD hS hl => k H locs ls hP hD hS (lall_sub hl L1 h)
theorem ex_pc {x : XC} {g : XG} {y0 : XM} {M : Mem} {pc : Nat} {L : List (Nat × Value)} {S : List Value} {pc1 : Nat} (h : pc = pc1) (k : EX x g (xmL y0) M pc1 L S) : EX x g (xmL y0) M pc L S := h ▸ k
theorem ex_M {x : XC} {g : XG} {y0 : XM} {M : Mem} {pc : Nat} {L : List (Nat × Value)} {S : List Value} {M1 : Mem} (h : M = M1) (k : EX x g (xmL y0) M1 pc L S) : EX x g (xmL y0) M pc L S := h ▸ k
theorem ex_ifnull {x : XC} {g : XG} {y0 : XM} {M : Mem} {pc : Nat} {L : List (Nat × Value)} {S : List Value} {v : Nat} {off : Int} (F : XF x g y0) (d : decode (xmB y0) pc = .ok (.ifnull off, 3)) (k : EX x g (xmL y0) M (pc + 3) L S) : EX x g (xmL y0) M pc L (.ref v :: S) := fun H locs ls hP hD hS hl => lv_ifnull F.1 F.2.1 d (k H locs ls hP hD hS hl)
theorem ex_ifnonnullN {x : XC} {g : XG} {y0 : XM} {M : Mem} {pc : Nat} {L : List (Nat × Value)} {S : List Value} {off : Int} (F : XF x g y0) (d : decode (xmB y0) pc = .ok (.ifnonnull off, 3)) (k : EX x g (xmL y0) M (pc + 3) L S) : EX x g (xmL y0) M pc L (.null :: S) := fun H locs ls hP hD hS hl => lv_ifnonnullN F.1 F.2.1 d (k H locs ls hP hD hS hl)
theorem ex_ifnonnull {x : XC} {g : XG} {y0 : XM} {M : Mem} {pc : Nat} {L : List (Nat × Value)} {S : List Value} {v : Nat} {off : Int} {t : Nat} (F : XF x g y0) (d : decode (xmB y0) pc = .ok (.ifnonnull off, 3)) (ht : (pc : Int) + off = (t : Int)) (k : EX x g (xmL y0) M t L S) : EX x g (xmL y0) M pc L (.ref v :: S) := fun H locs ls hP hD hS hl => lv_ifnonnull F.1 F.2.1 d ht (k H locs ls hP hD hS hl)
theorem ex_ifnullN {x : XC} {g : XG} {y0 : XM} {M : Mem} {pc : Nat} {L : List (Nat × Value)} {S : List Value} {off : Int} {t : Nat} (F : XF x g y0) (d : decode (xmB y0) pc = .ok (.ifnull off, 3)) (ht : (pc : Int) + off = (t : Int)) (k : EX x g (xmL y0) M t L S) : EX x g (xmL y0) M pc L (.null :: S) := fun H locs ls hP hD hS hl => lv_ifnullN F.1 F.2.1 d ht (k H locs ls hP hD hS hl)
theorem ex_aload_nN {x : XC} {g : XG} {y0 : XM} {M : Mem} {pc : Nat} {L : List (Nat × Value)} {S : List Value} {n : Fin 4} {i : Nat} (F : XF x g y0) (d : decode (xmB y0) pc = .ok (.aload_n n, 1)) (hi : (n : Nat) = i) (hk : L.lookup i = some .null)
    (k : EX x g (xmL y0) M (pc + 1) L (.null :: S)) : EX x g (xmL y0) M pc L S :=
  fun H locs ls hP hD hS hl => lv_aload_nN F.1 F.2.1 d hi (lk_at hl hk) (k H locs ls hP hD hS hl)
theorem ex_aloadN {x : XC} {g : XG} {y0 : XM} {M : Mem} {pc : Nat} {L : List (Nat × Value)} {S : List Value} {i : Nat} (F : XF x g y0) (d : decode (xmB y0) pc = .ok (.aload i, 2)) (hk : L.lookup i = some .null)
    (k : EX x g (xmL y0) M (pc + 2) L (.null :: S)) : EX x g (xmL y0) M pc L S :=
  fun H locs ls hP hD hS hl => lv_aloadN F.1 F.2.1 d (lk_at hl hk) (k H locs ls hP hD hS hl)
theorem ex_astore_nN {x : XC} {g : XG} {y0 : XM} {M : Mem} {pc : Nat} {L : List (Nat × Value)} {S : List Value} {n : Fin 4} {i : Nat} (F : XF x g y0) (d : decode (xmB y0) pc = .ok (.astore_n n, 1)) (hi : (n : Nat) = i) (hn : i < xmL y0) (k : EX x g (xmL y0) M (pc + 1) (lput L i .null) S) : EX x g (xmL y0) M pc L (.null :: S) := fun H locs ls hP hD hS hl => lv_astore_nN F.1 F.2.1 d hi hl hn rfl (fun ls hl => k H locs ls hP hD hS hl)
theorem ex_astoreN {x : XC} {g : XG} {y0 : XM} {M : Mem} {pc : Nat} {L : List (Nat × Value)} {S : List Value} {i : Nat} (F : XF x g y0) (d : decode (xmB y0) pc = .ok (.astore i, 2)) (hn : i < xmL y0) (k : EX x g (xmL y0) M (pc + 2) (lput L i .null) S) : EX x g (xmL y0) M pc L (.null :: S) := fun H locs ls hP hD hS hl => lv_astoreN F.1 F.2.1 d hl hn rfl (fun ls hl => k H locs ls hP hD hS hl)
theorem ex_ldc2 {x : XC} {g : XG} {y0 : XM} {M : Mem} {pc : Nat} {L : List (Nat × Value)} {S : List Value} {i : Nat} {v : Int64} (F : XF x g y0) (d : decode (xmB y0) pc = .ok (.ldc2_w i, 3)) (hw : Cond.constantLong (xmN y0).cls i v ∈ TB) (k : EX x g (xmL y0) M (pc + 3) L (.long v :: S)) : EX x g (xmL y0) M pc L S := fun H locs ls hP hD hS hl => lv_ldc2 F.1 F.2.1 F.2.2.2.1 (F.2.2.2.2.1 _ hw) d (k H locs ls hP hD hS hl)
theorem ex_ldc {x : XC} {g : XG} {y0 : XM} {M : Mem} {pc : Nat} {L : List (Nat × Value)} {S : List Value} {i : Nat} {v : Int32} (F : XF x g y0) (d : decode (xmB y0) pc = .ok (.ldc i, 2)) (hw : Cond.constant (xmN y0).cls i v ∈ TB) (k : EX x g (xmL y0) M (pc + 2) L (.int v :: S)) : EX x g (xmL y0) M pc L S := fun H locs ls hP hD hS hl => lv_ldc F.1 F.2.1 F.2.2.2.1 (F.2.2.2.2.1 _ hw) d (k H locs ls hP hD hS hl)
theorem ex_ldcw {x : XC} {g : XG} {y0 : XM} {M : Mem} {pc : Nat} {L : List (Nat × Value)} {S : List Value} {i : Nat} {v : Int32} (F : XF x g y0) (d : decode (xmB y0) pc = .ok (.ldc_w i, 3)) (hw : Cond.constant (xmN y0).cls i v ∈ TB) (k : EX x g (xmL y0) M (pc + 3) L (.int v :: S)) : EX x g (xmL y0) M pc L S := fun H locs ls hP hD hS hl => lv_ldcw F.1 F.2.1 F.2.2.2.1 (F.2.2.2.2.1 _ hw) d (k H locs ls hP hD hS hl)
theorem ex_tswOut {x : XC} {g : XG} {y0 : XM} {M : Mem} {pc : Nat} {L : List (Nat × Value)} {S : List Value} {v : Int32} {df lo hi : Int} {offs : Array Int} {len t : Nat} (F : XF x g y0) (d : decode (xmB y0) pc = .ok (.tableswitch df lo hi offs, len)) (h : v.toInt < lo ∨ hi < v.toInt) (ht : (pc : Int) + df = (t : Int)) (k : EX x g (xmL y0) M t L S) : EX x g (xmL y0) M pc L (.int v :: S) := fun H locs ls hP hD hS hl => lv_tableOut F.1 F.2.1 d h ht (k H locs ls hP hD hS hl)
theorem ex_tswIn {x : XC} {g : XG} {y0 : XM} {M : Mem} {pc : Nat} {L : List (Nat × Value)} {S : List Value} {v : Int32} {df lo hi off : Int} {offs : Array Int} {len t : Nat} (F : XF x g y0) (d : decode (xmB y0) pc = .ok (.tableswitch df lo hi offs, len)) (h1 : ¬ v.toInt < lo) (h2 : ¬ hi < v.toInt) (ho : offs[(v.toInt - lo).toNat]? = some off) (ht : (pc : Int) + off = (t : Int)) (k : EX x g (xmL y0) M t L S) : EX x g (xmL y0) M pc L (.int v :: S) := fun H locs ls hP hD hS hl => lv_tableIn F.1 F.2.1 d h1 h2 ho ht (k H locs ls hP hD hS hl)
theorem ex_getf {x : XC} {g : XG} {y0 : XM} {M : Mem} {pc : Nat} {L : List (Nat × Value)} {S : List Value} {ci k N j idx a : Nat} {C : String} {T : u_T} {fs : List Value} {v : Value} (F : XF x g y0) (d : decode (xmB y0) pc = .ok (.getfield idx, 3)) (hin : ∀ w ∈ u_ws C T N, w ∈ TB) (he : (WL g M)[k]? = some (a, .inr (ci, fs))) (hc : vwCl[ci]? = some (C, T, N)) (hj : j < N) (hw : Cond.fieldLink (xmN y0).cls idx (T j).1 (T j).2.1 (T j).2.2.1 ∈ TB) (hv : fs[j]? = some v)
    (k : EX x g (xmL y0) M (pc + 3) L (v :: S)) : EX x g (xmL y0) M pc L (.ref a :: S) := fun H locs ls hP hD hS hl => va_get F.1 F.2.1 F.2.2.2.2.1 hin F.2.2.2.1 F.2.2.2.2.2.1 hP _ he hc j hj (F.2.2.2.2.1 _ hw) (fun _ h => h) hv d (k H locs ls hP hD hS hl)
theorem ex_putf {x : XC} {g : XG} {y0 : XM} {M : Mem} {pc : Nat} {L : List (Nat × Value)} {S : List Value} {M1 : Mem} {ci k N j idx a : Nat} {C : String} {T : u_T} {fs : List Value} {ty : FieldType} {v : Value} (F : XF x g y0) (d : decode (xmB y0) pc = .ok (.putfield idx, 3)) (hin : ∀ w ∈ u_ws C T N, w ∈ TB) (ty0 : Nat → FieldType) (hty : ∀ k, k < N → parseFieldDescriptor (T k).2.2.1 = some (ty0 k)) (hnm : ∀ a, a < N → ∀ b, b < N → a ≠ b → (T a).2.1 ≠ (T b).2.1) (he : (WL g M)[k]? = some (a, .inr (ci, fs))) (hc : vwCl[ci]? = some (C, T, N)) (hj : j < N) (hw : Cond.fieldLink (xmN y0).cls idx (T j).1 (T j).2.1 (T j).2.2.1 ∈ TB) (hfin : (T j).2.2.2 = false) (hd : parseFieldDescriptor (T j).2.2.1 = some ty) (hn : narrow ty v = v) (hfit : fits ty v = true) (hlen : j < fs.length) (hset : (WL g M).set k (a, .inr (ci, fs.set j v)) = WL g M1)
    (k : EX x g (xmL y0) M1 (pc + 3) L S) : EX x g (xmL y0) M pc L (v :: .ref a :: S) := fun H locs ls hP hD hS hl => va_put F.1 F.2.1 F.2.2.2.2.1 hin ty0 hty hnm F.2.2.2.1 F.2.2.2.2.2.1 hP hD hS _ he hc j hj (F.2.2.2.2.1 _ hw) (fun _ h => h) hfin hd hn hfit hlen d (fun H1 locs1 hP1 hD1 hS1 => by rw [hset] at hP1 hD1; exact k H1 locs1 ls hP1 hD1 hS1 hl)
theorem mu_eq (M : Mem) (k j : Nat) (y : Int32) : (fun c => if c = k then upd (M k) j y else M c) = mu M k j y := by
  funext c
  by_cases hc : c = k
  · subst hc; simp [mu]
  · simp [mu, hc]
theorem ex_iald {x : XC} {g : XG} {y0 : XM} {M : Mem} {pc : Nat} {L : List (Nat × Value)} {S : List Value} {k n j : Nat} {i : Int32} (F : XF x g y0) (d : decode (xmB y0) pc = .ok (.iaload, 1)) (h : isI k n) (hin : vp_in i n) (hj : i.toNatClampNeg = j)
    (kk : EX x g (xmL y0) M (pc + 1) L (.int (M k j) :: S)) : EX x g (xmL y0) M pc L (.int i :: .ref (ad g k) :: S) := fun H locs ls hP hD hS hl => va_iald F.1 F.2.1 F.2.2.2.2.2.1 hP _ 0 (al_I h) rfl hin d (by rw [hj]; exact kk H locs ls hP hD hS hl)
theorem ex_iast {x : XC} {g : XG} {y0 : XM} {M : Mem} {pc : Nat} {L : List (Nat × Value)} {S : List Value} {k n j : Nat} {i v : Int32} (F : XF x g y0) (d : decode (xmB y0) pc = .ok (.iastore, 1)) (h : isI k n) (hin : vp_in i n) (hj : i.toNatClampNeg = j)
    (kk : EX x g (xmL y0) (mu M k j (v)) (pc + 1) L S) : EX x g (xmL y0) M pc L (.int v :: .int i :: .ref (ad g k) :: S) := fun H locs ls hP hD hS hl => va_iast F.1 F.2.1 F.2.2.2.2.2.1 hP hD hS _ 0 (al_I h) rfl hin d (fun H1 locs1 hP1 hD1 hS1 => by
    rw [hj, as_I h] at hP1 hD1
    have e : (fun c => if c = k then upd (M k) j (v) else M c) = mu M k j (v) := mu_eq M k j _
    rw [e] at hP1 hD1
    exact kk H1 locs1 ls hP1 hD1 hS1 hl)
theorem ex_ilen {x : XC} {g : XG} {y0 : XM} {M : Mem} {pc : Nat} {L : List (Nat × Value)} {S : List Value} {k n : Nat} {v : Int32} (F : XF x g y0) (d : decode (xmB y0) pc = .ok (.arraylength, 1)) (h : isI k n) (hv : Int32.ofNat n = v)
    (kk : EX x g (xmL y0) M (pc + 1) L (.int v :: S)) : EX x g (xmL y0) M pc L (.ref (ad g k) :: S) := fun H locs ls hP hD hS hl => va_alen F.1 F.2.1 F.2.2.2.2.2.1 hP _ 0 (al_I h) rfl hv d (kk H locs ls hP hD hS hl)
theorem ex_bald {x : XC} {g : XG} {y0 : XM} {M : Mem} {pc : Nat} {L : List (Nat × Value)} {S : List Value} {k n j : Nat} {i : Int32} (F : XF x g y0) (d : decode (xmB y0) pc = .ok (.baload, 1)) (h : isB k n) (hin : vp_in i n) (hj : i.toNatClampNeg = j)
    (kk : EX x g (xmL y0) M (pc + 1) L (.int (M k j) :: S)) : EX x g (xmL y0) M pc L (.int i :: .ref (ad g k) :: S) := fun H locs ls hP hD hS hl => va_bald F.1 F.2.1 F.2.2.2.2.2.1 hP _ 1 (al_B h) rfl hin d (by rw [hj]; exact kk H locs ls hP hD hS hl)
theorem ex_bast {x : XC} {g : XG} {y0 : XM} {M : Mem} {pc : Nat} {L : List (Nat × Value)} {S : List Value} {k n j : Nat} {i v : Int32} (F : XF x g y0) (d : decode (xmB y0) pc = .ok (.bastore, 1)) (h : isB k n) (hin : vp_in i n) (hj : i.toNatClampNeg = j)
    (kk : EX x g (xmL y0) (mu M k j (vp_nar .byte v)) (pc + 1) L S) : EX x g (xmL y0) M pc L (.int v :: .int i :: .ref (ad g k) :: S) := fun H locs ls hP hD hS hl => va_bast F.1 F.2.1 F.2.2.2.2.2.1 hP hD hS _ 1 (al_B h) rfl hin d (fun H1 locs1 hP1 hD1 hS1 => by
    rw [hj, as_B h] at hP1 hD1
    have e : (fun c => if c = k then upd (M k) j (vp_nar .byte v) else M c) = mu M k j (vp_nar .byte v) := mu_eq M k j _
    rw [e] at hP1 hD1
    exact kk H1 locs1 ls hP1 hD1 hS1 hl)
theorem ex_blen {x : XC} {g : XG} {y0 : XM} {M : Mem} {pc : Nat} {L : List (Nat × Value)} {S : List Value} {k n : Nat} {v : Int32} (F : XF x g y0) (d : decode (xmB y0) pc = .ok (.arraylength, 1)) (h : isB k n) (hv : Int32.ofNat n = v)
    (kk : EX x g (xmL y0) M (pc + 1) L (.int v :: S)) : EX x g (xmL y0) M pc L (.ref (ad g k) :: S) := fun H locs ls hP hD hS hl => va_alen F.1 F.2.1 F.2.2.2.2.2.1 hP _ 1 (al_B h) rfl hv d (kk H locs ls hP hD hS hl)
theorem ex_zald {x : XC} {g : XG} {y0 : XM} {M : Mem} {pc : Nat} {L : List (Nat × Value)} {S : List Value} {k n j : Nat} {i : Int32} (F : XF x g y0) (d : decode (xmB y0) pc = .ok (.baload, 1)) (h : isZ k n) (hin : vp_in i n) (hj : i.toNatClampNeg = j)
    (kk : EX x g (xmL y0) M (pc + 1) L (.int (M k j) :: S)) : EX x g (xmL y0) M pc L (.int i :: .ref (ad g k) :: S) := fun H locs ls hP hD hS hl => va_zald F.1 F.2.1 F.2.2.2.2.2.1 hP _ 2 (al_Z h) rfl hin d (by rw [hj]; exact kk H locs ls hP hD hS hl)
theorem ex_zast {x : XC} {g : XG} {y0 : XM} {M : Mem} {pc : Nat} {L : List (Nat × Value)} {S : List Value} {k n j : Nat} {i v : Int32} (F : XF x g y0) (d : decode (xmB y0) pc = .ok (.bastore, 1)) (h : isZ k n) (hin : vp_in i n) (hj : i.toNatClampNeg = j)
    (kk : EX x g (xmL y0) (mu M k j (vp_nar .boolean v)) (pc + 1) L S) : EX x g (xmL y0) M pc L (.int v :: .int i :: .ref (ad g k) :: S) := fun H locs ls hP hD hS hl => va_zast F.1 F.2.1 F.2.2.2.2.2.1 hP hD hS _ 2 (al_Z h) rfl hin d (fun H1 locs1 hP1 hD1 hS1 => by
    rw [hj, as_Z h] at hP1 hD1
    have e : (fun c => if c = k then upd (M k) j (vp_nar .boolean v) else M c) = mu M k j (vp_nar .boolean v) := mu_eq M k j _
    rw [e] at hP1 hD1
    exact kk H1 locs1 ls hP1 hD1 hS1 hl)
theorem ex_zlen {x : XC} {g : XG} {y0 : XM} {M : Mem} {pc : Nat} {L : List (Nat × Value)} {S : List Value} {k n : Nat} {v : Int32} (F : XF x g y0) (d : decode (xmB y0) pc = .ok (.arraylength, 1)) (h : isZ k n) (hv : Int32.ofNat n = v)
    (kk : EX x g (xmL y0) M (pc + 1) L (.int v :: S)) : EX x g (xmL y0) M pc L (.ref (ad g k) :: S) := fun H locs ls hP hD hS hl => va_alen F.1 F.2.1 F.2.2.2.2.2.1 hP _ 2 (al_Z h) rfl hv d (kk H locs ls hP hD hS hl)
theorem ex_gets {x : XC} {g : XG} {y0 : XM} {M : Mem} {pc : Nat} {L : List (Nat × Value)} {S : List Value} {i idx : Nat} (F : XF x g y0) (hA : x_A x = x_A x) (d : decode (xmB y0) pc = .ok (.getstatic idx, 3)) (hi : i < 6) (hw : Cond.fieldLink (xmN y0).cls idx (stC i) (stN i) "[I" ∈ TB)
    (k : EX x g (xmL y0) M (pc + 3) L (.ref (sa g i) :: S)) : EX x g (xmL y0) M pc L S := fun H locs ls hP hD hS hl => va_gets F.1 F.2.1 (F.2.2.2.2.2.2.1.1 i hi).1 hS F.2.2.2.1 (F.2.2.2.2.1 _ hw) (fun _ h => h) d (k H locs ls hP hD hS hl)
theorem ex_sald {x : XC} {g : XG} {y0 : XM} {M : Mem} {pc : Nat} {L : List (Nat × Value)} {S : List Value} {i j : Nat} {q : Int32} (F : XF x g y0) (d : decode (xmB y0) pc = .ok (.iaload, 1)) (hi : i < 6) (hin : vp_in q (stL i)) (hj : q.toNatClampNeg = j)
    (k : EX x g (xmL y0) M (pc + 1) L (.int ((stV i).getD j 0) :: S)) : EX x g (xmL y0) M pc L (.int q :: .ref (sa g i) :: S) := fun H locs ls hP hD hS hl => va_ti F.1 F.2.1 (F.2.2.2.2.2.2.1.1 i hi).2 hS hin (v := .int ((stV i).getD j 0)) (by rw [hj]) d (k H locs ls hP hD hS hl)
theorem ex_slen {x : XC} {g : XG} {y0 : XM} {M : Mem} {pc : Nat} {L : List (Nat × Value)} {S : List Value} {i : Nat} {v : Int32} (F : XF x g y0) (d : decode (xmB y0) pc = .ok (.arraylength, 1)) (hi : i < 6) (hv : Int32.ofNat (stL i) = v)
    (k : EX x g (xmL y0) M (pc + 1) L (.int v :: S)) : EX x g (xmL y0) M pc L (.ref (sa g i) :: S) := fun H locs ls hP hD hS hl => va_tlen F.1 F.2.1 (F.2.2.2.2.2.2.1.1 i hi).2 hS hv d (k H locs ls hP hD hS hl)
theorem ex_mmax {x : XC} {g : XG} {y0 : XM} {M : Mem} {pc : Nat} {L : List (Nat × Value)} {S : List Value} {idx : Nat} {a b : Int32} (F : XF x g y0) (d : decode (xmB y0) pc = .ok (.invokestatic idx, 3)) (hw : Cond.methodLink (xmN y0).cls idx Lib.Math.max.name ∈ TB) (hst : Cond.static Lib.Math.max.name ∈ TB) (hi : Cond.initialized "java/lang/Math" ∈ TB) (hcd : Cond.code Lib.Math.max.name Lib.Math.max.code 2 (some .int) ∈ TB) (hf : 1 ≤ xmF y0) (hr : (S.map fun v => v.category).sum + 13 ≤ xmW y0)
    (k : EX x g (xmL y0) M (pc + 3) L (.int (if a < b then b else a) :: S)) : EX x g (xmL y0) M pc L (.int b :: .int a :: S) := fun H locs ls hP hD hS hl => va_mmax F.1 F.2.1 (by rw [F.2.2.1]; exact hl.1.symm) F.2.2.2.1 (F.2.2.2.2.1 _ hw) (F.2.2.2.2.1 _ hst) (F.2.2.2.2.1 _ hi) (F.2.2.2.2.1 _ hcd) (Nat.le_trans hf F.2.2.2.2.2.2.2.2.1) (Nat.le_trans hr F.2.2.2.2.2.2.2.2.2.1) F.2.2.2.2.2.2.2.2.2.2.1 F.2.2.2.2.2.2.2.2.2.2.2 d (k H locs ls hP hD hS hl)
theorem ex_mmin {x : XC} {g : XG} {y0 : XM} {M : Mem} {pc : Nat} {L : List (Nat × Value)} {S : List Value} {idx : Nat} {a b : Int32} (F : XF x g y0) (d : decode (xmB y0) pc = .ok (.invokestatic idx, 3)) (hw : Cond.methodLink (xmN y0).cls idx Lib.Math.min.name ∈ TB) (hst : Cond.static Lib.Math.min.name ∈ TB) (hi : Cond.initialized "java/lang/Math" ∈ TB) (hcd : Cond.code Lib.Math.min.name Lib.Math.min.code 2 (some .int) ∈ TB) (hf : 1 ≤ xmF y0) (hr : (S.map fun v => v.category).sum + 13 ≤ xmW y0)
    (k : EX x g (xmL y0) M (pc + 3) L (.int (if b < a then b else a) :: S)) : EX x g (xmL y0) M pc L (.int b :: .int a :: S) := fun H locs ls hP hD hS hl => va_mmin F.1 F.2.1 (by rw [F.2.2.1]; exact hl.1.symm) F.2.2.2.1 (F.2.2.2.2.1 _ hw) (F.2.2.2.2.1 _ hst) (F.2.2.2.2.1 _ hi) (F.2.2.2.2.1 _ hcd) (Nat.le_trans hf F.2.2.2.2.2.2.2.2.1) (Nat.le_trans hr F.2.2.2.2.2.2.2.2.2.1) F.2.2.2.2.2.2.2.2.2.2.1 F.2.2.2.2.2.2.2.2.2.2.2 d (k H locs ls hP hD hS hl)
theorem im_j {g : XG} {j : Nat} (h : j < 2) : va_rf (if j = 0 then some (ad g 20) else some (ad g 23)) = .ref (ad g (20 + 3 * j)) := by
  match j, h with
  | 0, _ => rfl
  | 1, _ => rfl
theorem sh_j {g : XG} {j : Nat} (h : j < 4) : va_rf (if j = 0 then some (ad g 27) else if j = 1 then some (ad g 29) else if j = 2 then some (ad g 31) else some (ad g 33)) = .ref (ad g (27 + 2 * j)) := by
  match j, h with
  | 0, _ => rfl
  | 1, _ => rfl
  | 2, _ => rfl
  | 3, _ => rfl
theorem ex_aald_im {x : XC} {g : XG} {y0 : XM} {M : Mem} {pc : Nat} {L : List (Nat × Value)} {S : List Value} {j : Nat} {i : Int32} (F : XF x g y0) (d : decode (xmB y0) pc = .ok (.aaload, 1)) (hin : vp_in i 2) (hj : i.toNatClampNeg = j)
    (k : EX x g (xmL y0) M (pc + 1) L (.ref (ad g (20 + 3 * j)) :: S)) : EX x g (xmL y0) M pc L (.int i :: .ref (ad g 19) :: S) := fun H locs ls hP hD hS hl => va_aldq F.1 F.2.1 F.2.2.2.2.2.1 hP 19 3 (n := 2) (cA := cA g 3) (C := "ButterChurn$Image") (f := fun i => if i = 0 then some (ad g 20) else some (ad g 23)) rfl rfl hin d (by rw [hj]; rw [im_j (by rw [← hj]; exact Nat.not_le.mp fun q => hin (Or.inr q))]; exact k H locs ls hP hD hS hl)
theorem ex_aald_sh {x : XC} {g : XG} {y0 : XM} {M : Mem} {pc : Nat} {L : List (Nat × Value)} {S : List Value} {j : Nat} {i : Int32} (F : XF x g y0) (d : decode (xmB y0) pc = .ok (.aaload, 1)) (hin : vp_in i 4) (hj : i.toNatClampNeg = j)
    (k : EX x g (xmL y0) M (pc + 1) L (.ref (ad g (27 + 2 * j)) :: S)) : EX x g (xmL y0) M pc L (.int i :: .ref (ad g 26) :: S) := fun H locs ls hP hD hS hl => va_aldq F.1 F.2.1 F.2.2.2.2.2.1 hP 26 4 (n := 4) (cA := cA g 4) (C := "ButterChurn$Sheet") (f := fun i => if i = 0 then some (ad g 27) else if i = 1 then some (ad g 29) else if i = 2 then some (ad g 31) else some (ad g 33)) rfl rfl hin d (by rw [hj]; rw [sh_j (by rw [← hj]; exact Nat.not_le.mp fun q => hin (Or.inr q))]; exact k H locs ls hP hD hS hl)
theorem ex_alen_im {x : XC} {g : XG} {y0 : XM} {M : Mem} {pc : Nat} {L : List (Nat × Value)} {S : List Value} {v : Int32} (F : XF x g y0) (d : decode (xmB y0) pc = .ok (.arraylength, 1)) (hv : Int32.ofNat 2 = v)
    (k : EX x g (xmL y0) M (pc + 1) L (.int v :: S)) : EX x g (xmL y0) M pc L (.ref (ad g 19) :: S) := fun H locs ls hP hD hS hl => va_alen F.1 F.2.1 F.2.2.2.2.2.1 hP 19 3 rfl rfl hv d (k H locs ls hP hD hS hl)
theorem ex_alen_sh {x : XC} {g : XG} {y0 : XM} {M : Mem} {pc : Nat} {L : List (Nat × Value)} {S : List Value} {v : Int32} (F : XF x g y0) (d : decode (xmB y0) pc = .ok (.arraylength, 1)) (hv : Int32.ofNat 4 = v)
    (k : EX x g (xmL y0) M (pc + 1) L (.int v :: S)) : EX x g (xmL y0) M pc L (.ref (ad g 26) :: S) := fun H locs ls hP hD hS hl => va_alen F.1 F.2.1 F.2.2.2.2.2.1 hP 26 4 rfl rfl hv d (k H locs ls hP hD hS hl)
theorem ex_copyi {x : XC} {g : XG} {y0 : XM} {M : Mem} {pc : Nat} {L : List (Nat × Value)} {S : List Value} {idx k0 k1 n0 n1 : Nat} {sp dp n : Int32} (F : XF x g y0) (d : decode (xmB y0) pc = .ok (.invokestatic idx, 3)) (hw : Cond.methodLink (xmN y0).cls idx arraycopyName ∈ TB) (hna : Cond.native arraycopyName ∈ TB) (hst : Cond.static arraycopyName ∈ TB) (hi : Cond.initialized "java/lang/System" ∈ TB) (h0 : isI k0 n0) (h1 : isI k1 n1) (q1 : ¬ sp < 0) (q2 : ¬ dp < 0) (q3 : ¬ n < 0) (q4 : sp.toNatClampNeg + n.toNatClampNeg ≤ n0) (q5 : dp.toNatClampNeg + n.toNatClampNeg ≤ n1) (hf : 1 ≤ xmF y0) (hr : (S.map fun v => v.category).sum + 18 ≤ xmW y0)
    (k : EX x g (xmL y0) (fun c => if c = k1 then va_cpy (M k0) (M k1) sp.toNatClampNeg dp.toNatClampNeg n.toNatClampNeg else M c) (pc + 3) L S) : EX x g (xmL y0) M pc L (.int n :: .int dp :: .ref (ad g k1) :: .int sp :: .ref (ad g k0) :: S) := fun H locs ls hP hD hS hl => va_copyi F.1 F.2.1 (by rw [F.2.2.1]; exact hl.1.symm) F.2.2.2.1 (F.2.2.2.2.1 _ hw) (F.2.2.2.2.1 _ hna) (F.2.2.2.2.1 _ hst) (F.2.2.2.2.1 _ hi) F.2.2.2.2.2.1 hP hD hS k0 k1 0 0 (al_I h0) (al_I h1) rfl rfl rfl q1 q2 q3 q4 q5 (fun _ _ => rfl) (Nat.le_trans hf F.2.2.2.2.2.2.2.2.1) (Nat.le_trans hr F.2.2.2.2.2.2.2.2.2.1) d (fun H1 locs1 hP1 hD1 hS1 => by rw [as_I h1] at hP1 hD1; exact k H1 locs1 ls hP1 hD1 hS1 hl)
def PI (Q : Int32 → Mem → Prop) : Option Value → Mem → Prop := fun r M => ∃ v : Int32, r = some (.int v) ∧ Q v M
def PL (Q : Int64 → Mem → Prop) : Option Value → Mem → Prop := fun r M => ∃ v : Int64, r = some (.long v) ∧ Q v M
def PV (Q : Mem → Prop) : Option Value → Mem → Prop := fun r M => r = none ∧ Q M
def PA (Q : Value → Mem → Prop) : Option Value → Mem → Prop := fun r M => ∃ v : Value, r = some v ∧ Q v M
theorem ex_iret {x : XC} {g : XG} {y0 : XM} {M : Mem} {pc : Nat} {L : List (Nat × Value)} {v : Int32} {P0 : Int32 → Mem → Prop} (F : XF x g y0) (R : XR x g y0 (PI P0)) (d : decode (xmB y0) pc = .ok (.ireturn, 1)) (hr : xmR y0 = some .int) (h : P0 v M) : EX x g (xmL y0) M pc L [.int v] := fun H locs ls hP hD hS hl => by
  obtain ⟨r1, r2, r3, r4, r5, r6⟩ := R
  show W _ _ _ _ _ _ _ _ _ _ _ _ (x_ce x) (x_sl x) (x_Q x) _
  rw [r1, r2, r4]
  rw [r3] at hD hS
  exact W.iret F.1 F.2.1 (r5.trans hr) (fun t ht hW => ⟨⟨_, M, rfl, ⟨v, rfl, h⟩, by rw [ht]; exact hP, hD⟩, hS.F ht⟩) hS.2.2 d r6
theorem ex_zret {x : XC} {g : XG} {y0 : XM} {M : Mem} {pc : Nat} {L : List (Nat × Value)} {v : Int32} {ty : FieldType} {P0 : Int32 → Mem → Prop} (F : XF x g y0) (R : XR x g y0 (PI P0)) (d : decode (xmB y0) pc = .ok (.ireturn, 1)) (hr : xmR y0 = some ty) (hn : narrow ty (.int v) = .int v) (h : P0 v M) : EX x g (xmL y0) M pc L [.int v] := fun H locs ls hP hD hS hl => by
  obtain ⟨r1, r2, r3, r4, r5, r6⟩ := R
  show W _ _ _ _ _ _ _ _ _ _ _ _ (x_ce x) (x_sl x) (x_Q x) _
  rw [r1, r2, r4]
  rw [r3] at hD hS
  exact W.zret F.1 F.2.1 (r5.trans hr) hn (fun t ht hW => ⟨⟨_, M, rfl, ⟨v, rfl, h⟩, by rw [ht]; exact hP, hD⟩, hS.F ht⟩) hS.2.2 d r6
theorem ex_lret {x : XC} {g : XG} {y0 : XM} {M : Mem} {pc : Nat} {L : List (Nat × Value)} {v : Int64} {P0 : Int64 → Mem → Prop} (F : XF x g y0) (R : XR x g y0 (PL P0)) (d : decode (xmB y0) pc = .ok (.lreturn, 1)) (hr : xmR y0 = some .long) (h : P0 v M) : EX x g (xmL y0) M pc L [.long v] := fun H locs ls hP hD hS hl => by
  obtain ⟨r1, r2, r3, r4, r5, r6⟩ := R
  show W _ _ _ _ _ _ _ _ _ _ _ _ (x_ce x) (x_sl x) (x_Q x) _
  rw [r1, r2, r4]
  rw [r3] at hD hS
  exact W.lret F.1 F.2.1 (r5.trans hr) (fun t ht hW => ⟨⟨_, M, rfl, ⟨v, rfl, h⟩, by rw [ht]; exact hP, hD⟩, hS.F ht⟩) hS.2.2 d r6
theorem ex_vret {x : XC} {g : XG} {y0 : XM} {M : Mem} {pc : Nat} {L : List (Nat × Value)}  {P0 : Mem → Prop} (F : XF x g y0) (R : XR x g y0 (PV P0)) (d : decode (xmB y0) pc = .ok (.return_, 1)) (hr : xmR y0 = none) (h : P0 M) : EX x g (xmL y0) M pc L [] := fun H locs ls hP hD hS hl => by
  obtain ⟨r1, r2, r3, r4, r5, r6⟩ := R
  show W _ _ _ _ _ _ _ _ _ _ _ _ (x_ce x) (x_sl x) (x_Q x) _
  rw [r1, r2, r4]
  rw [r3] at hD hS
  exact W.vret F.1 F.2.1 (r5.trans hr) (fun t ht hW => ⟨⟨_, M, rfl, ⟨rfl, h⟩, by rw [ht]; exact hP, hD⟩, hS.F ht⟩) hS.2.2 d r6
theorem ex_aret {x : XC} {g : XG} {y0 : XM} {M : Mem} {pc : Nat} {L : List (Nat × Value)} {v : Value} {C : String} {P0 : Value → Mem → Prop} (F : XF x g y0) (R : XR x g y0 (PA P0)) (d : decode (xmB y0) pc = .ok (.areturn, 1)) (hr : xmR y0 = some (.object C)) (hv : v = .null ∨ ∃ a, v = .ref a) (h : P0 v M) : EX x g (xmL y0) M pc L [v] := fun H locs ls hP hD hS hl => by
  obtain ⟨r1, r2, r3, r4, r5, r6⟩ := R
  show W _ _ _ _ _ _ _ _ _ _ _ _ (x_ce x) (x_sl x) (x_Q x) _
  rw [r1, r2, r4]
  rw [r3] at hD hS
  exact W.aret F.1 F.2.1 (r5.trans hr) (Or.inl ⟨_, rfl⟩) hv (fun t ht hW => ⟨⟨_, M, rfl, ⟨v, rfl, h⟩, by rw [ht]; exact hP, hD⟩, hS.F ht⟩) hS.2.2 d r6
/-- what the tables say of a call, decided by program -/
def CSb (own : String) (yF yW idx n : Nat) (z : XM) : Prop := Cond.methodLink own idx (xmN z) ∈ TB ∧ Cond.initialized (xmN z).cls ∈ TB ∧ xcode z ∈ TB ∧ ((xmN z).cls ≠ "java/lang/invoke/MethodHandle" ∧ (xmN z).cls ≠ "java/lang/invoke/VarHandle" ∧ (parseMethodDescriptor (xmN z).desc).map (fun d => d.parameters.length) = some n) ∧ (xmF z + 1 ≤ yF ∧ 8 + (xmL z + 11) + xmW z ≤ yW)
def CSV (own : String) (yF yW idx n : Nat) (z : XM) : Prop := CSb own yF yW idx n z ∧ Cond.instanceMethod (xmN z) ∈ TB ∧ Cond.selects (xmN z).cls (xmN z) (xmN z) ∈ TB
def CSS (own : String) (yF yW idx n : Nat) (z : XM) : Prop := CSb own yF yW idx n z ∧ Cond.static (xmN z) ∈ TB
theorem cs_b {x : XC} {g : XG} {y0 z : XM} {idx n : Nat} (F : XF x g y0) (h : CSb (xmN y0).cls (xmF y0) (xmW y0) idx n z) : CallB (x_R x) (x_s x) (x_a x) (xmN y0).cls idx (xmN z) (xmB z) (xmL z) (xmR z) (xws z) (xrm z) 0 0 n :=
  callB_of (Ts := TB) n F.2.2.2.2.1 (tb_in h.2.2.1) rfl rfl rfl (F.2.2.2.2.1 _ h.2.1) (F.2.2.2.2.1 _ h.1) h.2.2.2.1 ⟨Nat.le_trans h.2.2.2.2.1 F.2.2.2.2.2.2.2.2.1, Nat.le_trans h.2.2.2.2.2 F.2.2.2.2.2.2.2.2.2.1⟩
theorem xpc_at {x : XC} {g : XG} {y0 : XM} {M : Mem} {H : Heap} {locs : List Loc} {As : List Value} (F : XF x g y0) (hP : va_P g.1 vwCl (WL g M) H) (hD : va_D (x_A x) (WL g M)) (hS : va_S (x_A x) (x_s x).heap H locs) : ∀ U : State, U.heap = H → (x_s x).WarmedH U.vm → xPc g M H.size As As.toArray U := by
  intro U hU hW
  refine ⟨rfl, by rw [hU], by rw [hU]; exact hP, va_K.moved hW.alike F.2.2.2.2.2.1, hD.weaken (fun _ _ _ _ => trivial), ?_⟩
  rw [hU]
  exact ((CO.kept F.2.2.2.2.2.2.1 hS.2.1).narrow (xa_in hD F.2.2.2.2.2.2.2.1 hS.1)).warm hW
theorem ex_back {x : XC} {g : XG} {y0 : XM} {M : Mem} {pc : Nat} {L : List (Nat × Value)} {S : List Value} {P0 : Option Value → Mem → Prop} {a : Array Value} {St : List Value} (F : XF x g y0) {H : Heap} {locs : List Loc} {ls : Array Slot} (hD : va_D (x_A x) (WL g M)) (hS : va_S (x_A x) (x_s x).heap H locs) (hl : lv_has ls (xmL y0) L)
    (hr : va_Run (x_p x) (x_l x) (x_e x) (x_R x) (x_s x) (x_m x) (x_a x) (x_b x) (x_me x) (x_c x) H locs (x_ce x) (x_sl x) 0 0 (F0 (x_m x) pc ls St) S (xQc g H.size P0 a) (XA g H.size))
    (kk : ∀ (r : Option Value) (M1 : Mem), P0 r M1 → EX x g (xmL y0) M1 (pc + 3) L (r.toList ++ S)) :
    W (x_p x) (x_l x) (x_e x) (x_R x) (x_s x) (x_m x) (x_a x) (x_b x) (x_me x) (x_c x) H locs (x_ce x) (x_sl x) (x_Q x) (F0 (x_m x) pc ls St) := by
  intro T hT X
  obtain ⟨v, st₀, t, T', L9, h0, X', hL, e1, e2, ⟨⟨r, M1, hv, hp, hP1, hD1⟩, hz, hk⟩, st⟩ := hr T hT X
  cases hv
  rw [h0] at hz hk
  have hin := xa_in hD F.2.2.2.2.2.2.2.1 hS.1
  obtain ⟨t2, a1, b1⟩ := kk v M1 hp T'.heap (locs ++ L9) ls (by rw [e1]; exact hP1) (hD1.weaken (fun _ q _ h => hin q.1 h))
    ⟨Nat.le_trans hS.1 (by rw [e1]; exact hz), fun q h1 h2 => by rw [e1, hk q (Nat.lt_of_lt_of_le h1 hS.1) (fun z => h2 (hin q z))]; exact hS.2.1 q h1 h2, fun q hq => by
      rcases List.mem_append.mp hq with h | h
      · exact hS.2.2 q h
      · exact hin _ (hL q h)⟩ hl T' rfl X'
  exact ⟨t2, st t2 a1, b1⟩
theorem ex_callV {x : XC} {g : XG} {y0 : XM} {M : Mem} {pc : Nat} {L : List (Nat × Value)} {S : List Value} {z : XM} {idx n k ci a N : Nat} {T : u_T} {C : String} {fs : List Value} {As St : List Value} {P0 : Option Value → Mem → Prop} (F : XF x g y0) (hC : Call (x_l x) g z (.ref a :: As) M P0) (d : decode (xmB y0) pc = .ok (.invokevirtual idx, 3)) (cs : CSV (xmN y0).cls (xmF y0) (xmW y0) idx n z) (he : (WL g M)[k]? = some (a, .inr (ci, fs))) (hc : vwCl[ci]? = some (C, T, N)) (hcl : (xmN z).cls = C) (hn : As.length = n) (hst : St = As.reverse ++ .ref a :: S) (hW : (S.map fun v => v.category).sum ≤ 8)
    (kk : ∀ (r : Option Value) (M1 : Mem), P0 r M1 → EX x g (xmL y0) M1 (pc + 3) L (r.toList ++ S)) : EX x g (xmL y0) M pc L St := fun H locs ls hP hD hS hl => by
  subst hcl
  exact ex_back F hD hS hl (va_runV (As := As) (rest := S) ⟨F.1, F.2.1, F.2.2.1, F.2.2.2.1, F.2.2.2.2.1⟩ (hC H.size) ⟨cs_b F cs.1, F.2.2.2.2.1 _ cs.2.1, F.2.2.2.2.1 _ cs.2.2⟩ ⟨xPc_blind _ _ _ _, va_recv F.2.2.2.2.2.1 hP hc he, xpc_at F hP hD hS⟩ rfl hn hl.1 hst (lv_room hW) d ⟨F.2.2.2.2.2.2.2.2.2.2.1, F.2.2.2.2.2.2.2.2.2.2.2⟩) kk
theorem ex_callS {x : XC} {g : XG} {y0 : XM} {M : Mem} {pc : Nat} {L : List (Nat × Value)} {S : List Value} {z : XM} {idx n : Nat} {As St : List Value} {P0 : Option Value → Mem → Prop} (F : XF x g y0) (hC : Call (x_l x) g z As M P0) (d : decode (xmB y0) pc = .ok (.invokestatic idx, 3)) (cs : CSS (xmN y0).cls (xmF y0) (xmW y0) idx n z) (hn : As.length = n) (hst : St = As.reverse ++ S) (hW : (S.map fun v => v.category).sum ≤ 8)
    (kk : ∀ (r : Option Value) (M1 : Mem), P0 r M1 → EX x g (xmL y0) M1 (pc + 3) L (r.toList ++ S)) : EX x g (xmL y0) M pc L St := fun H locs ls hP hD hS hl => by
  exact ex_back F hD hS hl (va_runS (As := As) (rest := S) ⟨F.1, F.2.1, F.2.2.1, F.2.2.2.1, F.2.2.2.2.1⟩ (hC H.size) ⟨cs_b F cs.1, F.2.2.2.2.1 _ cs.2⟩ ⟨xPc_blind _ _ _ _, xpc_at F hP hD hS⟩ rfl hn hl.1 hst (lv_room hW) d ⟨F.2.2.2.2.2.2.2.2.2.2.1, F.2.2.2.2.2.2.2.2.2.2.2⟩) kk
theorem vpd {i : Int32} {n : Nat} (h : (!decide (i < 0) && decide (i.toNatClampNeg < n)) = true) : vp_in i n := by
  simp only [Bool.and_eq_true, Bool.not_eq_true', decide_eq_false_iff_not, decide_eq_true_eq] at h
  exact fun q => q.elim h.1 (fun q => absurd h.2 (Nat.not_lt.mpr q))

theorem ex_callVi {x : XC} {g : XG} {y0 : XM} {M : Mem} {pc : Nat} {L : List (Nat × Value)} {S : List Value} {z : XM} {idx n k ci a N : Nat} {T : u_T} {C : String} {fs : List Value} {As St : List Value} {P0 : Int32 → Mem → Prop} (F : XF x g y0) (hC : Call (x_l x) g z (.ref a :: As) M (PI P0)) (d : decode (xmB y0) pc = .ok (.invokevirtual idx, 3)) (cs : CSV (xmN y0).cls (xmF y0) (xmW y0) idx n z) (he : (WL g M)[k]? = some (a, .inr (ci, fs))) (hc : vwCl[ci]? = some (C, T, N)) (hcl : (xmN z).cls = C) (hn : As.length = n) (hst : St = As.reverse ++ .ref a :: S) (hW : (S.map fun v => v.category).sum ≤ 8)
    (kk : ∀ (v : Int32) (M1 : Mem), P0 v M1 → EX x g (xmL y0) M1 (pc + 3) L (.int v :: S)) : EX x g (xmL y0) M pc L St := ex_callV F hC d cs he hc hcl hn hst hW (fun r M1 h => by obtain ⟨v, rfl, h⟩ := h; exact kk v M1 h)
theorem ex_callSi {x : XC} {g : XG} {y0 : XM} {M : Mem} {pc : Nat} {L : List (Nat × Value)} {S : List Value} {z : XM} {idx n : Nat} {As St : List Value} {P0 : Int32 → Mem → Prop} (F : XF x g y0) (hC : Call (x_l x) g z As M (PI P0)) (d : decode (xmB y0) pc = .ok (.invokestatic idx, 3)) (cs : CSS (xmN y0).cls (xmF y0) (xmW y0) idx n z) (hn : As.length = n) (hst : St = As.reverse ++ S) (hW : (S.map fun v => v.category).sum ≤ 8)
    (kk : ∀ (v : Int32) (M1 : Mem), P0 v M1 → EX x g (xmL y0) M1 (pc + 3) L (.int v :: S)) : EX x g (xmL y0) M pc L St := ex_callS F hC d cs hn hst hW (fun r M1 h => by obtain ⟨v, rfl, h⟩ := h; exact kk v M1 h)
theorem ex_callVl {x : XC} {g : XG} {y0 : XM} {M : Mem} {pc : Nat} {L : List (Nat × Value)} {S : List Value} {z : XM} {idx n k ci a N : Nat} {T : u_T} {C : String} {fs : List Value} {As St : List Value} {P0 : Int64 → Mem → Prop} (F : XF x g y0) (hC : Call (x_l x) g z (.ref a :: As) M (PL P0)) (d : decode (xmB y0) pc = .ok (.invokevirtual idx, 3)) (cs : CSV (xmN y0).cls (xmF y0) (xmW y0) idx n z) (he : (WL g M)[k]? = some (a, .inr (ci, fs))) (hc : vwCl[ci]? = some (C, T, N)) (hcl : (xmN z).cls = C) (hn : As.length = n) (hst : St = As.reverse ++ .ref a :: S) (hW : (S.map fun v => v.category).sum ≤ 8)
    (kk : ∀ (v : Int64) (M1 : Mem), P0 v M1 → EX x g (xmL y0) M1 (pc + 3) L (.long v :: S)) : EX x g (xmL y0) M pc L St := ex_callV F hC d cs he hc hcl hn hst hW (fun r M1 h => by obtain ⟨v, rfl, h⟩ := h; exact kk v M1 h)
theorem ex_callSl {x : XC} {g : XG} {y0 : XM} {M : Mem} {pc : Nat} {L : List (Nat × Value)} {S : List Value} {z : XM} {idx n : Nat} {As St : List Value} {P0 : Int64 → Mem → Prop} (F : XF x g y0) (hC : Call (x_l x) g z As M (PL P0)) (d : decode (xmB y0) pc = .ok (.invokestatic idx, 3)) (cs : CSS (xmN y0).cls (xmF y0) (xmW y0) idx n z) (hn : As.length = n) (hst : St = As.reverse ++ S) (hW : (S.map fun v => v.category).sum ≤ 8)
    (kk : ∀ (v : Int64) (M1 : Mem), P0 v M1 → EX x g (xmL y0) M1 (pc + 3) L (.long v :: S)) : EX x g (xmL y0) M pc L St := ex_callS F hC d cs hn hst hW (fun r M1 h => by obtain ⟨v, rfl, h⟩ := h; exact kk v M1 h)
theorem ex_callVa {x : XC} {g : XG} {y0 : XM} {M : Mem} {pc : Nat} {L : List (Nat × Value)} {S : List Value} {z : XM} {idx n k ci a N : Nat} {T : u_T} {C : String} {fs : List Value} {As St : List Value} {P0 : Value → Mem → Prop} (F : XF x g y0) (hC : Call (x_l x) g z (.ref a :: As) M (PA P0)) (d : decode (xmB y0) pc = .ok (.invokevirtual idx, 3)) (cs : CSV (xmN y0).cls (xmF y0) (xmW y0) idx n z) (he : (WL g M)[k]? = some (a, .inr (ci, fs))) (hc : vwCl[ci]? = some (C, T, N)) (hcl : (xmN z).cls = C) (hn : As.length = n) (hst : St = As.reverse ++ .ref a :: S) (hW : (S.map fun v => v.category).sum ≤ 8)
    (kk : ∀ (v : Value) (M1 : Mem), P0 v M1 → EX x g (xmL y0) M1 (pc + 3) L (v :: S)) : EX x g (xmL y0) M pc L St := ex_callV F hC d cs he hc hcl hn hst hW (fun r M1 h => by obtain ⟨v, rfl, h⟩ := h; exact kk v M1 h)
theorem ex_callSa {x : XC} {g : XG} {y0 : XM} {M : Mem} {pc : Nat} {L : List (Nat × Value)} {S : List Value} {z : XM} {idx n : Nat} {As St : List Value} {P0 : Value → Mem → Prop} (F : XF x g y0) (hC : Call (x_l x) g z As M (PA P0)) (d : decode (xmB y0) pc = .ok (.invokestatic idx, 3)) (cs : CSS (xmN y0).cls (xmF y0) (xmW y0) idx n z) (hn : As.length = n) (hst : St = As.reverse ++ S) (hW : (S.map fun v => v.category).sum ≤ 8)
    (kk : ∀ (v : Value) (M1 : Mem), P0 v M1 → EX x g (xmL y0) M1 (pc + 3) L (v :: S)) : EX x g (xmL y0) M pc L St := ex_callS F hC d cs hn hst hW (fun r M1 h => by obtain ⟨v, rfl, h⟩ := h; exact kk v M1 h)
theorem ex_callVv {x : XC} {g : XG} {y0 : XM} {M : Mem} {pc : Nat} {L : List (Nat × Value)} {S : List Value} {z : XM} {idx n k ci a N : Nat} {T : u_T} {C : String} {fs : List Value} {As St : List Value} {P0 : Mem → Prop} (F : XF x g y0) (hC : Call (x_l x) g z (.ref a :: As) M (PV P0)) (d : decode (xmB y0) pc = .ok (.invokevirtual idx, 3)) (cs : CSV (xmN y0).cls (xmF y0) (xmW y0) idx n z) (he : (WL g M)[k]? = some (a, .inr (ci, fs))) (hc : vwCl[ci]? = some (C, T, N)) (hcl : (xmN z).cls = C) (hn : As.length = n) (hst : St = As.reverse ++ .ref a :: S) (hW : (S.map fun v => v.category).sum ≤ 8)
    (kk : ∀ (M1 : Mem), P0 M1 → EX x g (xmL y0) M1 (pc + 3) L S) : EX x g (xmL y0) M pc L St := ex_callV F hC d cs he hc hcl hn hst hW (fun r M1 h => by obtain ⟨rfl, h⟩ := h; exact kk M1 h)
