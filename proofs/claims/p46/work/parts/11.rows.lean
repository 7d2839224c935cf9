/-! ROWS: an instruction each, over V -/
section
variable {x : Cx} {G : Gl} {cc : ByteArray} {nL : Nat} {own : String} {rm : Room} {cells slots : Nat} {Q : State → Prop} {σ : Sg} {pc : Nat} {lo : List (Nat × Value)} {st : List Value}
theorem r_iconst (h : CX x G cc nL own rm) {n : Int} {v : Int32} (hv : Int32.ofInt n = v) (d : decode cc pc = .ok (.iconst n, 1)) (k : V x G nL cells slots Q σ (pc + 1) lo (.int v :: st)) : V x G nL cells slots Q σ pc lo st := fun H lc ls hP hS hl => lv_iconst h.1 h.2.1 d hv (k H lc ls hP hS hl)
theorem r_bipush (h : CX x G cc nL own rm) {n : Int} {v : Int32} (hv : (Int8.ofInt n).toInt32 = v) (d : decode cc pc = .ok (.bipush n, 2)) (k : V x G nL cells slots Q σ (pc + 2) lo (.int v :: st)) : V x G nL cells slots Q σ pc lo st := fun H lc ls hP hS hl => lv_bipush h.1 h.2.1 d hv (k H lc ls hP hS hl)
theorem r_sipush (h : CX x G cc nL own rm) {n : Int} {v : Int32} (hv : (Int16.ofInt n).toInt32 = v) (d : decode cc pc = .ok (.sipush n, 3)) (k : V x G nL cells slots Q σ (pc + 3) lo (.int v :: st)) : V x G nL cells slots Q σ pc lo st := fun H lc ls hP hS hl => lv_sipush h.1 h.2.1 d hv (k H lc ls hP hS hl)
theorem r_lconst (h : CX x G cc nL own rm) {n : Fin 2} {v : Int64} (hv : Int64.ofNat (n : Nat) = v) (d : decode cc pc = .ok (.lconst n, 1)) (k : V x G nL cells slots Q σ (pc + 1) lo (.long v :: st)) : V x G nL cells slots Q σ pc lo st := fun H lc ls hP hS hl => lv_lconst h.1 h.2.1 d hv (k H lc ls hP hS hl)
theorem r_iload_n (h : CX x G cc nL own rm) (j : Nat) {i : Nat} {k4 : Fin 4} {v : Int32} (hi : (k4 : Nat) = i) (hv : lo[j]? = some (i, .int v)) (d : decode cc pc = .ok (.iload_n k4, 1)) (k : V x G nL cells slots Q σ (pc + 1) lo (.int v :: st)) : V x G nL cells slots Q σ pc lo st := fun H lc ls hP hS hl => lv_iload_n h.1 h.2.1 d hi (lv_at hl j hv) (k H lc ls hP hS hl)
theorem r_iload (h : CX x G cc nL own rm) (j : Nat) {i : Nat} {v : Int32} (hv : lo[j]? = some (i, .int v)) (d : decode cc pc = .ok (.iload i, 2)) (k : V x G nL cells slots Q σ (pc + 2) lo (.int v :: st)) : V x G nL cells slots Q σ pc lo st := fun H lc ls hP hS hl => lv_iload h.1 h.2.1 d (lv_at hl j hv) (k H lc ls hP hS hl)
theorem r_lload_n (h : CX x G cc nL own rm) (j : Nat) {i : Nat} {k4 : Fin 4} {v : Int64} (hi : (k4 : Nat) = i) (hv : lo[j]? = some (i, .long v)) (d : decode cc pc = .ok (.lload_n k4, 1)) (k : V x G nL cells slots Q σ (pc + 1) lo (.long v :: st)) : V x G nL cells slots Q σ pc lo st := fun H lc ls hP hS hl => lv_lload_n h.1 h.2.1 d hi (lv_at hl j hv) (k H lc ls hP hS hl)
theorem r_lload (h : CX x G cc nL own rm) (j : Nat) {i : Nat} {v : Int64} (hv : lo[j]? = some (i, .long v)) (d : decode cc pc = .ok (.lload i, 2)) (k : V x G nL cells slots Q σ (pc + 2) lo (.long v :: st)) : V x G nL cells slots Q σ pc lo st := fun H lc ls hP hS hl => lv_lload h.1 h.2.1 d (lv_at hl j hv) (k H lc ls hP hS hl)
theorem r_aload_n (h : CX x G cc nL own rm) (j : Nat) {i : Nat} {k4 : Fin 4} {v : Nat} (hi : (k4 : Nat) = i) (hv : lo[j]? = some (i, .ref v)) (d : decode cc pc = .ok (.aload_n k4, 1)) (k : V x G nL cells slots Q σ (pc + 1) lo (.ref v :: st)) : V x G nL cells slots Q σ pc lo st := fun H lc ls hP hS hl => lv_aload_n h.1 h.2.1 d hi (lv_at hl j hv) (k H lc ls hP hS hl)
theorem r_aload (h : CX x G cc nL own rm) (j : Nat) {i : Nat} {v : Nat} (hv : lo[j]? = some (i, .ref v)) (d : decode cc pc = .ok (.aload i, 2)) (k : V x G nL cells slots Q σ (pc + 2) lo (.ref v :: st)) : V x G nL cells slots Q σ pc lo st := fun H lc ls hP hS hl => lv_aload h.1 h.2.1 d (lv_at hl j hv) (k H lc ls hP hS hl)
theorem r_istore_n (h : CX x G cc nL own rm) {i : Nat} {k4 : Fin 4} {v : Int32} {lo2 : List (Nat × Value)} (hi : (k4 : Nat) = i) (hn : i < nL) (hl2 : (i, Value.int v) :: lo.filter (fun q => !(q.1 == i) && !(q.1 + 1 == i && q.2.category == 2)) = lo2) (d : decode cc pc = .ok (.istore_n k4, 1)) (k : V x G nL cells slots Q σ (pc + 1) lo2 st) : V x G nL cells slots Q σ pc lo (Value.int v :: st) := fun H lc ls hP hS hl => lv_istore_n h.1 h.2.1 d hi hl hn hl2 (fun ls2 hl3 => k H lc ls2 hP hS hl3)
theorem r_istore (h : CX x G cc nL own rm) {i : Nat} {v : Int32} {lo2 : List (Nat × Value)} (hn : i < nL) (hl2 : (i, Value.int v) :: lo.filter (fun q => !(q.1 == i) && !(q.1 + 1 == i && q.2.category == 2)) = lo2) (d : decode cc pc = .ok (.istore i, 2)) (k : V x G nL cells slots Q σ (pc + 2) lo2 st) : V x G nL cells slots Q σ pc lo (Value.int v :: st) := fun H lc ls hP hS hl => lv_istore h.1 h.2.1 d hl hn hl2 (fun ls2 hl3 => k H lc ls2 hP hS hl3)
theorem r_lstore_n (h : CX x G cc nL own rm) {i : Nat} {k4 : Fin 4} {v : Int64} {lo2 : List (Nat × Value)} (hi : (k4 : Nat) = i) (hn : i + 1 < nL) (hl2 : (i, Value.long v) :: lo.filter (fun q => !(q.1 == i) && (!(q.1 == i + 1) && !(q.1 + 1 == i && q.2.category == 2))) = lo2) (d : decode cc pc = .ok (.lstore_n k4, 1)) (k : V x G nL cells slots Q σ (pc + 1) lo2 st) : V x G nL cells slots Q σ pc lo (Value.long v :: st) := fun H lc ls hP hS hl => lv_lstore_n h.1 h.2.1 d hi hl hn hl2 (fun ls2 hl3 => k H lc ls2 hP hS hl3)
theorem r_lstore (h : CX x G cc nL own rm) {i : Nat} {v : Int64} {lo2 : List (Nat × Value)} (hn : i + 1 < nL) (hl2 : (i, Value.long v) :: lo.filter (fun q => !(q.1 == i) && (!(q.1 == i + 1) && !(q.1 + 1 == i && q.2.category == 2))) = lo2) (d : decode cc pc = .ok (.lstore i, 2)) (k : V x G nL cells slots Q σ (pc + 2) lo2 st) : V x G nL cells slots Q σ pc lo (Value.long v :: st) := fun H lc ls hP hS hl => lv_lstore h.1 h.2.1 d hl hn hl2 (fun ls2 hl3 => k H lc ls2 hP hS hl3)
theorem r_astore_n (h : CX x G cc nL own rm) {i : Nat} {k4 : Fin 4} {v : Nat} {lo2 : List (Nat × Value)} (hi : (k4 : Nat) = i) (hn : i < nL) (hl2 : (i, Value.ref v) :: lo.filter (fun q => !(q.1 == i) && !(q.1 + 1 == i && q.2.category == 2)) = lo2) (d : decode cc pc = .ok (.astore_n k4, 1)) (k : V x G nL cells slots Q σ (pc + 1) lo2 st) : V x G nL cells slots Q σ pc lo (Value.ref v :: st) := fun H lc ls hP hS hl => lv_astore_n h.1 h.2.1 d hi hl hn hl2 (fun ls2 hl3 => k H lc ls2 hP hS hl3)
theorem r_astore (h : CX x G cc nL own rm) {i : Nat} {v : Nat} {lo2 : List (Nat × Value)} (hn : i < nL) (hl2 : (i, Value.ref v) :: lo.filter (fun q => !(q.1 == i) && !(q.1 + 1 == i && q.2.category == 2)) = lo2) (d : decode cc pc = .ok (.astore i, 2)) (k : V x G nL cells slots Q σ (pc + 2) lo2 st) : V x G nL cells slots Q σ pc lo (Value.ref v :: st) := fun H lc ls hP hS hl => lv_astore h.1 h.2.1 d hl hn hl2 (fun ls2 hl3 => k H lc ls2 hP hS hl3)
theorem r_iinc (h : CX x G cc nL own rm) (j : Nat) {i : Nat} {n : Int} {u v : Int32} {lo2 : List (Nat × Value)} (hj : lo[j]? = some (i, .int u)) (hv : u + Int32.ofInt n = v) (hn : i < nL) (hl2 : (i, Value.int v) :: lo.filter (fun q => !(q.1 == i) && !(q.1 + 1 == i && q.2.category == 2)) = lo2) (d : decode cc pc = .ok (.iinc i n, 3)) (k : V x G nL cells slots Q σ (pc + 3) lo2 st) : V x G nL cells slots Q σ pc lo st := fun H lc ls hP hS hl => lv_iinc h.1 h.2.1 d hl hj hv hn hl2 (fun ls2 hl3 => k H lc ls2 hP hS hl3)
theorem r_iadd (h : CX x G cc nL own rm) {a b v : Int32}  (hv : a + b = v) (d : decode cc pc = .ok (.iadd, 1)) (k : V x G nL cells slots Q σ (pc + 1) lo (.int v :: st)) : V x G nL cells slots Q σ pc lo (.int b :: .int a :: st) := by
  subst hv
  exact fun H lc ls hP hS hl => lv_iadd h.1 h.2.1 d (k H lc ls hP hS hl)
theorem r_isub (h : CX x G cc nL own rm) {a b v : Int32}  (hv : a - b = v) (d : decode cc pc = .ok (.isub, 1)) (k : V x G nL cells slots Q σ (pc + 1) lo (.int v :: st)) : V x G nL cells slots Q σ pc lo (.int b :: .int a :: st) := by
  subst hv
  exact fun H lc ls hP hS hl => lv_isub h.1 h.2.1 d (k H lc ls hP hS hl)
theorem r_imul (h : CX x G cc nL own rm) {a b v : Int32}  (hv : a * b = v) (d : decode cc pc = .ok (.imul, 1)) (k : V x G nL cells slots Q σ (pc + 1) lo (.int v :: st)) : V x G nL cells slots Q σ pc lo (.int b :: .int a :: st) := by
  subst hv
  exact fun H lc ls hP hS hl => lv_imul h.1 h.2.1 d (k H lc ls hP hS hl)
theorem r_iand (h : CX x G cc nL own rm) {a b v : Int32}  (hv : a &&& b = v) (d : decode cc pc = .ok (.iand, 1)) (k : V x G nL cells slots Q σ (pc + 1) lo (.int v :: st)) : V x G nL cells slots Q σ pc lo (.int b :: .int a :: st) := by
  subst hv
  exact fun H lc ls hP hS hl => lv_iand h.1 h.2.1 d (k H lc ls hP hS hl)
theorem r_idiv (h : CX x G cc nL own rm) {a b v : Int32} (hne : ¬ b = 0) (hv : a / b = v) (d : decode cc pc = .ok (.idiv, 1)) (k : V x G nL cells slots Q σ (pc + 1) lo (.int v :: st)) : V x G nL cells slots Q σ pc lo (.int b :: .int a :: st) := by
  subst hv
  exact fun H lc ls hP hS hl => lv_idiv h.1 h.2.1 d hne (k H lc ls hP hS hl)
theorem r_irem (h : CX x G cc nL own rm) {a b v : Int32} (hne : ¬ b = 0) (hv : a - a / b * b = v) (d : decode cc pc = .ok (.irem, 1)) (k : V x G nL cells slots Q σ (pc + 1) lo (.int v :: st)) : V x G nL cells slots Q σ pc lo (.int b :: .int a :: st) := by
  subst hv
  exact fun H lc ls hP hS hl => lv_irem h.1 h.2.1 d hne (k H lc ls hP hS hl)
theorem r_ishl (h : CX x G cc nL own rm) {a b v : Int32}  (hv : a <<< (b &&& 31) = v) (d : decode cc pc = .ok (.ishl, 1)) (k : V x G nL cells slots Q σ (pc + 1) lo (.int v :: st)) : V x G nL cells slots Q σ pc lo (.int b :: .int a :: st) := by
  subst hv
  exact fun H lc ls hP hS hl => lv_ishl h.1 h.2.1 d (k H lc ls hP hS hl)
theorem r_ladd (h : CX x G cc nL own rm) {a b v : Int64}  (hv : a + b = v) (d : decode cc pc = .ok (.ladd, 1)) (k : V x G nL cells slots Q σ (pc + 1) lo (.long v :: st)) : V x G nL cells slots Q σ pc lo (.long b :: .long a :: st) := by
  subst hv
  exact fun H lc ls hP hS hl => lv_ladd h.1 h.2.1 d (k H lc ls hP hS hl)
theorem r_lsub (h : CX x G cc nL own rm) {a b v : Int64}  (hv : a - b = v) (d : decode cc pc = .ok (.lsub, 1)) (k : V x G nL cells slots Q σ (pc + 1) lo (.long v :: st)) : V x G nL cells slots Q σ pc lo (.long b :: .long a :: st) := by
  subst hv
  exact fun H lc ls hP hS hl => lv_lsub h.1 h.2.1 d (k H lc ls hP hS hl)
theorem r_lmul (h : CX x G cc nL own rm) {a b v : Int64}  (hv : a * b = v) (d : decode cc pc = .ok (.lmul, 1)) (k : V x G nL cells slots Q σ (pc + 1) lo (.long v :: st)) : V x G nL cells slots Q σ pc lo (.long b :: .long a :: st) := by
  subst hv
  exact fun H lc ls hP hS hl => lv_lmul h.1 h.2.1 d (k H lc ls hP hS hl)
theorem r_land (h : CX x G cc nL own rm) {a b v : Int64}  (hv : a &&& b = v) (d : decode cc pc = .ok (.land, 1)) (k : V x G nL cells slots Q σ (pc + 1) lo (.long v :: st)) : V x G nL cells slots Q σ pc lo (.long b :: .long a :: st) := by
  subst hv
  exact fun H lc ls hP hS hl => lv_land h.1 h.2.1 d (k H lc ls hP hS hl)
theorem r_lor (h : CX x G cc nL own rm) {a b v : Int64}  (hv : a ||| b = v) (d : decode cc pc = .ok (.lor, 1)) (k : V x G nL cells slots Q σ (pc + 1) lo (.long v :: st)) : V x G nL cells slots Q σ pc lo (.long b :: .long a :: st) := by
  subst hv
  exact fun H lc ls hP hS hl => lv_lor h.1 h.2.1 d (k H lc ls hP hS hl)
theorem r_lxor (h : CX x G cc nL own rm) {a b v : Int64}  (hv : a ^^^ b = v) (d : decode cc pc = .ok (.lxor, 1)) (k : V x G nL cells slots Q σ (pc + 1) lo (.long v :: st)) : V x G nL cells slots Q σ pc lo (.long b :: .long a :: st) := by
  subst hv
  exact fun H lc ls hP hS hl => lv_lxor h.1 h.2.1 d (k H lc ls hP hS hl)
theorem r_lcmp (h : CX x G cc nL own rm) {a b : Int64} {v : Int32} (hv : lg_cmp a b = v) (d : decode cc pc = .ok (.lcmp, 1)) (k : V x G nL cells slots Q σ (pc + 1) lo (.int v :: st)) : V x G nL cells slots Q σ pc lo (.long b :: .long a :: st) := by
  subst hv
  exact fun H lc ls hP hS hl => W.lcmp h.1 h.2.1 d (k H lc ls hP hS hl)
theorem r_lneg (h : CX x G cc nL own rm) {a v : Int64} (hv : -a = v) (d : decode cc pc = .ok (.lneg, 1)) (k : V x G nL cells slots Q σ (pc + 1) lo (.long v :: st)) : V x G nL cells slots Q σ pc lo (.long a :: st) := by
  subst hv
  exact fun H lc ls hP hS hl => lv_lneg h.1 h.2.1 d (k H lc ls hP hS hl)
theorem r_i2l (h : CX x G cc nL own rm) {u : Int32} {v : Int64} (hv : u.toInt64 = v) (d : decode cc pc = .ok (.i2l, 1)) (k : V x G nL cells slots Q σ (pc + 1) lo (.long v :: st)) : V x G nL cells slots Q σ pc lo (.int u :: st) := fun H lc ls hP hS hl => lv_i2l h.1 h.2.1 d hv (k H lc ls hP hS hl)
theorem r_l2i (h : CX x G cc nL own rm) {u : Int64} {v : Int32} (hv : u.toInt32 = v) (d : decode cc pc = .ok (.l2i, 1)) (k : V x G nL cells slots Q σ (pc + 1) lo (.int v :: st)) : V x G nL cells slots Q σ pc lo (.long u :: st) := fun H lc ls hP hS hl => lv_l2i h.1 h.2.1 d hv (k H lc ls hP hS hl)
theorem r_i2c (h : CX x G cc nL own rm) {u : Int32} {v : Int32} (hv : (u.toUInt32 % 65536).toInt32 = v) (d : decode cc pc = .ok (.i2c, 1)) (k : V x G nL cells slots Q σ (pc + 1) lo (.int v :: st)) : V x G nL cells slots Q σ pc lo (.int u :: st) := fun H lc ls hP hS hl => lv_i2c h.1 h.2.1 d hv (k H lc ls hP hS hl)
theorem r_lushr (h : CX x G cc nL own rm) {u v : Int64} {y : Int32} (hv : (u.toUInt64 >>> (y.toInt64.toUInt64 &&& Int64.toUInt64 63)).toInt64 = v) (d : decode cc pc = .ok (.lushr, 1)) (k : V x G nL cells slots Q σ (pc + 1) lo (.long v :: st)) : V x G nL cells slots Q σ pc lo (.int y :: .long u :: st) := fun H lc ls hP hS hl => lv_lushr h.1 h.2.1 d hv (k H lc ls hP hS hl)
theorem r_lshl (h : CX x G cc nL own rm) {u v : Int64} {y : Int32} (hv : u <<< (y.toInt64 &&& 63) = v) (d : decode cc pc = .ok (.lshl, 1)) (k : V x G nL cells slots Q σ (pc + 1) lo (.long v :: st)) : V x G nL cells slots Q σ pc lo (.int y :: .long u :: st) := fun H lc ls hP hS hl => lv_lshl h.1 h.2.1 d hv (k H lc ls hP hS hl)
theorem r_dup (h : CX x G cc nL own rm) {v : Value} (hv : v.category = 1) (d : decode cc pc = .ok (.dup, 1)) (k : V x G nL cells slots Q σ (pc + 1) lo (v :: v :: st)) : V x G nL cells slots Q σ pc lo (v :: st) := fun H lc ls hP hS hl => lv_dup h.1 h.2.1 d hv (k H lc ls hP hS hl)
theorem r_pop (h : CX x G cc nL own rm) {v : Value} (hv : v.category = 1) (d : decode cc pc = .ok (.pop, 1)) (k : V x G nL cells slots Q σ (pc + 1) lo st) : V x G nL cells slots Q σ pc lo (v :: st) := fun H lc ls hP hS hl => lv_pop h.1 h.2.1 d hv (k H lc ls hP hS hl)
theorem r_dup_x1 (h : CX x G cc nL own rm) {v w : Value} (hv : v.category = 1) (hw : w.category = 1) (d : decode cc pc = .ok (.dup_x1, 1)) (k : V x G nL cells slots Q σ (pc + 1) lo (v :: w :: v :: st)) : V x G nL cells slots Q σ pc lo (v :: w :: st) := fun H lc ls hP hS hl => lv_dup_x1 h.1 h.2.1 d hv hw (k H lc ls hP hS hl)
theorem r_dup2 (h : CX x G cc nL own rm) {v w : Value} (hv : v.category = 1) (hw : w.category = 1) (d : decode cc pc = .ok (.dup2, 1)) (k : V x G nL cells slots Q σ (pc + 1) lo (v :: w :: v :: w :: st)) : V x G nL cells slots Q σ pc lo (v :: w :: st) := fun H lc ls hP hS hl => lv_dup2_11 h.1 h.2.1 d hv hw (k H lc ls hP hS hl)
theorem r_topi {a b : Int32} (e : a = b) (k : V x G nL cells slots Q σ pc lo (.int b :: st)) : V x G nL cells slots Q σ pc lo (.int a :: st) := e ▸ k
theorem r_if_eq (h : CX x G cc nL own rm) {a : Int32} {off : Int} {tgt : Nat} (ht : (pc : Int) + off = (tgt : Int)) (d : decode cc pc = .ok (.ifCond .eq off, 3)) (kt : a = 0 → V x G nL cells slots Q σ tgt lo st) (kf : ¬ a = 0 → V x G nL cells slots Q σ (pc + 3) lo st) : V x G nL cells slots Q σ pc lo (.int a :: st) := fun H lc ls hP hS hl => lv_if_eq h.1 h.2.1 d ht (fun q => kt q H lc ls hP hS hl) (fun q => kf q H lc ls hP hS hl)
theorem r_icmp_eq (h : CX x G cc nL own rm) {a b : Int32} {off : Int} {tgt : Nat} (ht : (pc : Int) + off = (tgt : Int)) (d : decode cc pc = .ok (.if_icmp .eq off, 3)) (kt : a = b → V x G nL cells slots Q σ tgt lo st) (kf : ¬ a = b → V x G nL cells slots Q σ (pc + 3) lo st) : V x G nL cells slots Q σ pc lo (.int b :: .int a :: st) := fun H lc ls hP hS hl => lv_icmp_eq h.1 h.2.1 d ht (fun q => kt q H lc ls hP hS hl) (fun q => kf q H lc ls hP hS hl)
theorem r_if_ne (h : CX x G cc nL own rm) {a : Int32} {off : Int} {tgt : Nat} (ht : (pc : Int) + off = (tgt : Int)) (d : decode cc pc = .ok (.ifCond .ne off, 3)) (kt : ¬ a = 0 → V x G nL cells slots Q σ tgt lo st) (kf : a = 0 → V x G nL cells slots Q σ (pc + 3) lo st) : V x G nL cells slots Q σ pc lo (.int a :: st) := fun H lc ls hP hS hl => lv_if_ne h.1 h.2.1 d ht (fun q => kt q H lc ls hP hS hl) (fun q => kf q H lc ls hP hS hl)
theorem r_icmp_ne (h : CX x G cc nL own rm) {a b : Int32} {off : Int} {tgt : Nat} (ht : (pc : Int) + off = (tgt : Int)) (d : decode cc pc = .ok (.if_icmp .ne off, 3)) (kt : ¬ a = b → V x G nL cells slots Q σ tgt lo st) (kf : a = b → V x G nL cells slots Q σ (pc + 3) lo st) : V x G nL cells slots Q σ pc lo (.int b :: .int a :: st) := fun H lc ls hP hS hl => lv_icmp_ne h.1 h.2.1 d ht (fun q => kt q H lc ls hP hS hl) (fun q => kf q H lc ls hP hS hl)
theorem r_if_lt (h : CX x G cc nL own rm) {a : Int32} {off : Int} {tgt : Nat} (ht : (pc : Int) + off = (tgt : Int)) (d : decode cc pc = .ok (.ifCond .lt off, 3)) (kt : a < 0 → V x G nL cells slots Q σ tgt lo st) (kf : ¬ a < 0 → V x G nL cells slots Q σ (pc + 3) lo st) : V x G nL cells slots Q σ pc lo (.int a :: st) := fun H lc ls hP hS hl => lv_if_lt h.1 h.2.1 d ht (fun q => kt q H lc ls hP hS hl) (fun q => kf q H lc ls hP hS hl)
theorem r_icmp_lt (h : CX x G cc nL own rm) {a b : Int32} {off : Int} {tgt : Nat} (ht : (pc : Int) + off = (tgt : Int)) (d : decode cc pc = .ok (.if_icmp .lt off, 3)) (kt : a < b → V x G nL cells slots Q σ tgt lo st) (kf : ¬ a < b → V x G nL cells slots Q σ (pc + 3) lo st) : V x G nL cells slots Q σ pc lo (.int b :: .int a :: st) := fun H lc ls hP hS hl => lv_icmp_lt h.1 h.2.1 d ht (fun q => kt q H lc ls hP hS hl) (fun q => kf q H lc ls hP hS hl)
theorem r_if_ge (h : CX x G cc nL own rm) {a : Int32} {off : Int} {tgt : Nat} (ht : (pc : Int) + off = (tgt : Int)) (d : decode cc pc = .ok (.ifCond .ge off, 3)) (kt : 0 ≤ a → V x G nL cells slots Q σ tgt lo st) (kf : ¬ 0 ≤ a → V x G nL cells slots Q σ (pc + 3) lo st) : V x G nL cells slots Q σ pc lo (.int a :: st) := fun H lc ls hP hS hl => lv_if_ge h.1 h.2.1 d ht (fun q => kt q H lc ls hP hS hl) (fun q => kf q H lc ls hP hS hl)
theorem r_icmp_ge (h : CX x G cc nL own rm) {a b : Int32} {off : Int} {tgt : Nat} (ht : (pc : Int) + off = (tgt : Int)) (d : decode cc pc = .ok (.if_icmp .ge off, 3)) (kt : b ≤ a → V x G nL cells slots Q σ tgt lo st) (kf : ¬ b ≤ a → V x G nL cells slots Q σ (pc + 3) lo st) : V x G nL cells slots Q σ pc lo (.int b :: .int a :: st) := fun H lc ls hP hS hl => lv_icmp_ge h.1 h.2.1 d ht (fun q => kt q H lc ls hP hS hl) (fun q => kf q H lc ls hP hS hl)
theorem r_if_gt (h : CX x G cc nL own rm) {a : Int32} {off : Int} {tgt : Nat} (ht : (pc : Int) + off = (tgt : Int)) (d : decode cc pc = .ok (.ifCond .gt off, 3)) (kt : 0 < a → V x G nL cells slots Q σ tgt lo st) (kf : ¬ 0 < a → V x G nL cells slots Q σ (pc + 3) lo st) : V x G nL cells slots Q σ pc lo (.int a :: st) := fun H lc ls hP hS hl => lv_if_gt h.1 h.2.1 d ht (fun q => kt q H lc ls hP hS hl) (fun q => kf q H lc ls hP hS hl)
theorem r_icmp_gt (h : CX x G cc nL own rm) {a b : Int32} {off : Int} {tgt : Nat} (ht : (pc : Int) + off = (tgt : Int)) (d : decode cc pc = .ok (.if_icmp .gt off, 3)) (kt : b < a → V x G nL cells slots Q σ tgt lo st) (kf : ¬ b < a → V x G nL cells slots Q σ (pc + 3) lo st) : V x G nL cells slots Q σ pc lo (.int b :: .int a :: st) := fun H lc ls hP hS hl => lv_icmp_gt h.1 h.2.1 d ht (fun q => kt q H lc ls hP hS hl) (fun q => kf q H lc ls hP hS hl)
theorem r_if_le (h : CX x G cc nL own rm) {a : Int32} {off : Int} {tgt : Nat} (ht : (pc : Int) + off = (tgt : Int)) (d : decode cc pc = .ok (.ifCond .le off, 3)) (kt : a ≤ 0 → V x G nL cells slots Q σ tgt lo st) (kf : ¬ a ≤ 0 → V x G nL cells slots Q σ (pc + 3) lo st) : V x G nL cells slots Q σ pc lo (.int a :: st) := fun H lc ls hP hS hl => lv_if_le h.1 h.2.1 d ht (fun q => kt q H lc ls hP hS hl) (fun q => kf q H lc ls hP hS hl)
theorem r_icmp_le (h : CX x G cc nL own rm) {a b : Int32} {off : Int} {tgt : Nat} (ht : (pc : Int) + off = (tgt : Int)) (d : decode cc pc = .ok (.if_icmp .le off, 3)) (kt : a ≤ b → V x G nL cells slots Q σ tgt lo st) (kf : ¬ a ≤ b → V x G nL cells slots Q σ (pc + 3) lo st) : V x G nL cells slots Q σ pc lo (.int b :: .int a :: st) := fun H lc ls hP hS hl => lv_icmp_le h.1 h.2.1 d ht (fun q => kt q H lc ls hP hS hl) (fun q => kf q H lc ls hP hS hl)
theorem r_goto (h : CX x G cc nL own rm) {off : Int} {tgt : Nat} (ht : (pc : Int) + off = (tgt : Int)) (d : decode cc pc = .ok (.goto off, 3)) (k : V x G nL cells slots Q σ tgt lo st) : V x G nL cells slots Q σ pc lo st := fun H lc ls hP hS hl => lv_goto h.1 h.2.1 d ht (k H lc ls hP hS hl)
theorem r_lookup (h : CX x G cc nL own rm) {dflt : Int} {ps : Array (Int × Int)} {len : Nat} {a : Int32} {off : Int} {tgt : Nat} (hp : (ps.toList.zip (ps.toList.drop 1)).all (fun (a, next) => a.1 < next.1) = true) (ho : Op.lookupswitch.offset ps.toList dflt a.toInt = off) (ht : (pc : Int) + off = (tgt : Int)) (d : decode cc pc = .ok (.lookupswitch dflt ps, len)) (k : V x G nL cells slots Q σ tgt lo st) : V x G nL cells slots Q σ pc lo (.int a :: st) := fun H lc ls hP hS hl => lv_lookup h.1 h.2.1 d hp ho ht (k H lc ls hP hS hl)
theorem r_tabOut (h : CX x G cc nL own rm) {dflt l1 hi : Int} {offs : Array Int} {len : Nat} {a : Int32} {tgt : Nat} (hr : a.toInt < l1 ∨ hi < a.toInt) (ht : (pc : Int) + dflt = (tgt : Int)) (d : decode cc pc = .ok (.tableswitch dflt l1 hi offs, len)) (k : V x G nL cells slots Q σ tgt lo st) : V x G nL cells slots Q σ pc lo (.int a :: st) := fun H lc ls hP hS hl => lv_tableOut h.1 h.2.1 d hr ht (k H lc ls hP hS hl)
theorem r_tabIn (h : CX x G cc nL own rm) {dflt l1 hi : Int} {offs : Array Int} {len : Nat} {a : Int32} {off : Int} {tgt : Nat} (h1 : ¬ a.toInt < l1) (h2 : ¬ hi < a.toInt) (ho : offs[(a.toInt - l1).toNat]? = some off) (ht : (pc : Int) + off = (tgt : Int)) (d : decode cc pc = .ok (.tableswitch dflt l1 hi offs, len)) (k : V x G nL cells slots Q σ tgt lo st) : V x G nL cells slots Q σ pc lo (.int a :: st) := fun H lc ls hP hS hl => lv_tableIn h.1 h.2.1 d h1 h2 ho ht (k H lc ls hP hS hl)
theorem r_ldc (h : CX x G cc nL own rm) {idx : Nat} {v : Int32} (hw : Cond.constant own idx v ∈ wsL_law) (d : decode cc pc = .ok (.ldc idx, 2)) (k : V x G nL cells slots Q σ (pc + 2) lo (.int v :: st)) : V x G nL cells slots Q σ pc lo st := fun H lc ls hP hS hl => lv_ldc h.1 h.2.1 h.2.2.2.1 (h.2.2.2.2.1 _ hw) d (k H lc ls hP hS hl)
theorem r_ldc2 (h : CX x G cc nL own rm) {idx : Nat} {v : Int64} (hw : Cond.constantLong own idx v ∈ wsL_law) (d : decode cc pc = .ok (.ldc2_w idx, 3)) (k : V x G nL cells slots Q σ (pc + 3) lo (.long v :: st)) : V x G nL cells slots Q σ pc lo st := fun H lc ls hP hS hl => lv_ldc2 h.1 h.2.1 h.2.2.2.1 (h.2.2.2.2.1 _ hw) d (k H lc ls hP hS hl)
theorem r_get (h : CX x G cc nL own rm) {ci idx : Nat} {fs : List Value} {C : String} {T : u_T} {N : Nat} {v : Value} (c j : Nat) (hc : c < 134) (he : cel G c (σ.1 c) (σ.2 c) = .inr (ci, fs)) (hcl : vwCl[ci]? = some (C, T, N)) (hj : j < N) (hin : ∀ w ∈ u_ws C T N, w ∈ wsL_law) (hw : Cond.fieldLink own idx C (T j).2.1 (T j).2.2.1 ∈ wsL_law) (hT : (T j).1 = C) (hv : fs[j]? = some v) (d : decode cc pc = .ok (.getfield idx, 3)) (k : V x G nL cells slots Q σ (pc + 3) lo (v :: st)) : V x G nL cells slots Q σ pc lo (.ref (G.2.1 + c) :: st) :=
  fun H lc ls hP hS hl => va_get h.1 h.2.1 h.2.2.2.2.1 hin h.2.2.2.1 h.2.2.2.2.2.2.1.1 hP c ((ws_at G σ hc).trans (by rw [he])) hcl j hj (h.2.2.2.2.1 _ hw) (fun x hx => by rw [hT] at hx; exact hx) hv d (k H lc ls hP hS hl)
theorem r_put (h : CX x G cc nL own rm) {ci idx : Nat} {fs : List Value} {C : String} {T : u_T} {N : Nat} {ty : Nat → FieldType} {v : Int32} (c j : Nat) (hc : c < 134) (he : cel G c (σ.1 c) (σ.2 c) = .inr (ci, fs)) (he2 : cel G c (upd (σ.1 c) j v) (σ.2 c) = .inr (ci, fs.set j (.int v))) (hcl : vwCl[ci]? = some (C, T, N)) (hj : j < N) (hin : ∀ w ∈ u_ws C T N, w ∈ wsL_law) (hty : ∀ k, k < N → parseFieldDescriptor (T k).2.2.1 = some (ty k)) (hnm : ∀ a, a < N → ∀ b, b < N → a ≠ b → (T a).2.1 ≠ (T b).2.1) (hw : Cond.fieldLink own idx C (T j).2.1 (T j).2.2.1 ∈ wsL_law) (hT : (T j).1 = C) (hfin : (T j).2.2.2 = false) (hd : parseFieldDescriptor (T j).2.2.1 = some .int) (hlen : j < fs.length) (d : decode cc pc = .ok (.putfield idx, 3)) (k : V x G nL cells slots Q (sI σ c j v) (pc + 3) lo st) : V x G nL cells slots Q σ pc lo (.int v :: .ref (G.2.1 + c) :: st) :=
  fun H lc ls hP hS hl => va_put (ty := .int) h.1 h.2.1 h.2.2.2.2.1 hin ty hty hnm h.2.2.2.1 h.2.2.2.2.2.2.1.1 hP (ws_D G σ) hS c ((ws_at G σ hc).trans (by rw [he])) hcl j hj (h.2.2.2.2.1 _ hw) (fun x hx => by rw [hT] at hx; exact hx) hfin hd rfl rfl hlen d (fun H1 lc1 hP1 _ hS1 => k H1 lc1 ls (by rw [← ws_sI G σ j v hc, he2]; exact hP1) hS1 hl)
/-- the cell c is an array of n whole numbers of the kind t -/
def isA (G : Gl) (c n t : Nat) : Prop := c < 134 ∧ n < 2 ^ 31 ∧ ∀ f g, cel G c f g = .inl (G.2.2 t, n, .inl f)
def isL (G : Gl) (c n : Nat) : Prop := c < 134 ∧ n < 2 ^ 31 ∧ ∀ f g, cel G c f g = .inl (G.2.2 1, n, .inr (.inl g))
def isR (G : Gl) (c n : Nat) (r : Nat → Nat) : Prop := c < 134 ∧ n < 2 ^ 31 ∧ ∀ f g, cel G c f g = .inl (G.2.2 4, n, .inr (.inr (.inr (.inr (fun j => some (r j))))))
theorem r_iald (h : CX x G cc nL own rm) {c n : Nat} {i : Int32} (ha : isA G c n 0) (j : Nat) (hi : i = nI j) (hj : j < n) (d : decode cc pc = .ok (.iaload, 1)) (k : V x G nL cells slots Q σ (pc + 1) lo (.int (σ.1 c j) :: st)) : V x G nL cells slots Q σ pc lo (.int i :: .ref (G.2.1 + c) :: st) := by
  subst hi
  have hj31 : j < 2 ^ 31 := Nat.lt_trans hj ha.2.1
  intro H lc ls hP hS hl
  refine va_iald h.1 h.2.1 h.2.2.2.2.2.2.1.1 hP c 0 ((ws_at G σ ha.1).trans (by rw [ha.2.2])) rfl (vp_in_nI hj ha.2.1) d ?_
  rw [nI_clamp hj31]
  exact k H lc ls hP hS hl
theorem r_cald (h : CX x G cc nL own rm) {c n : Nat} {i : Int32} (ha : isA G c n 2) (j : Nat) (hi : i = nI j) (hj : j < n) (d : decode cc pc = .ok (.caload, 1)) (k : V x G nL cells slots Q σ (pc + 1) lo (.int (σ.1 c j) :: st)) : V x G nL cells slots Q σ pc lo (.int i :: .ref (G.2.1 + c) :: st) := by
  subst hi
  have hj31 : j < 2 ^ 31 := Nat.lt_trans hj ha.2.1
  intro H lc ls hP hS hl
  refine va_cald h.1 h.2.1 h.2.2.2.2.2.2.1.1 hP c 2 ((ws_at G σ ha.1).trans (by rw [ha.2.2])) rfl (vp_in_nI hj ha.2.1) d ?_
  rw [nI_clamp hj31]
  exact k H lc ls hP hS hl
theorem r_zald (h : CX x G cc nL own rm) {c n : Nat} {i : Int32} (ha : isA G c n 3) (j : Nat) (hi : i = nI j) (hj : j < n) (d : decode cc pc = .ok (.baload, 1)) (k : V x G nL cells slots Q σ (pc + 1) lo (.int (σ.1 c j) :: st)) : V x G nL cells slots Q σ pc lo (.int i :: .ref (G.2.1 + c) :: st) := by
  subst hi
  have hj31 : j < 2 ^ 31 := Nat.lt_trans hj ha.2.1
  intro H lc ls hP hS hl
  refine va_zald h.1 h.2.1 h.2.2.2.2.2.2.1.1 hP c 3 ((ws_at G σ ha.1).trans (by rw [ha.2.2])) rfl (vp_in_nI hj ha.2.1) d ?_
  rw [nI_clamp hj31]
  exact k H lc ls hP hS hl
theorem r_iast (h : CX x G cc nL own rm) {c n : Nat} {i v w : Int32} (ha : isA G c n 0) (j : Nat) (hi : i = nI j) (hj : j < n) (hw : v = w) (d : decode cc pc = .ok (.iastore, 1)) (k : V x G nL cells slots Q (sI σ c j w) (pc + 1) lo st) : V x G nL cells slots Q σ pc lo (.int v :: .int i :: .ref (G.2.1 + c) :: st) := by
  subst hi; subst hw
  have hj31 : j < 2 ^ 31 := Nat.lt_trans hj ha.2.1
  intro H lc ls hP hS hl
  refine va_iast h.1 h.2.1 h.2.2.2.2.2.2.1.1 hP (ws_D G σ) hS c 0 ((ws_at G σ ha.1).trans (by rw [ha.2.2])) rfl (vp_in_nI hj ha.2.1) d (fun H1 lc1 hP1 _ hS1 => ?_)
  rw [nI_clamp hj31] at hP1
  exact k H1 lc1 ls (by rw [← ws_sI G σ j _ ha.1, ha.2.2]; exact hP1) hS1 hl
theorem r_cast (h : CX x G cc nL own rm) {c n : Nat} {i v w : Int32} (ha : isA G c n 2) (j : Nat) (hi : i = nI j) (hj : j < n) (hw : (vp_nar .char v) = w) (d : decode cc pc = .ok (.castore, 1)) (k : V x G nL cells slots Q (sI σ c j w) (pc + 1) lo st) : V x G nL cells slots Q σ pc lo (.int v :: .int i :: .ref (G.2.1 + c) :: st) := by
  subst hi; subst hw
  have hj31 : j < 2 ^ 31 := Nat.lt_trans hj ha.2.1
  intro H lc ls hP hS hl
  refine va_cast h.1 h.2.1 h.2.2.2.2.2.2.1.1 hP (ws_D G σ) hS c 2 ((ws_at G σ ha.1).trans (by rw [ha.2.2])) rfl (vp_in_nI hj ha.2.1) d (fun H1 lc1 hP1 _ hS1 => ?_)
  rw [nI_clamp hj31] at hP1
  exact k H1 lc1 ls (by rw [← ws_sI G σ j _ ha.1, ha.2.2]; exact hP1) hS1 hl
theorem r_zast (h : CX x G cc nL own rm) {c n : Nat} {i v w : Int32} (ha : isA G c n 3) (j : Nat) (hi : i = nI j) (hj : j < n) (hw : (vp_nar .boolean v) = w) (d : decode cc pc = .ok (.bastore, 1)) (k : V x G nL cells slots Q (sI σ c j w) (pc + 1) lo st) : V x G nL cells slots Q σ pc lo (.int v :: .int i :: .ref (G.2.1 + c) :: st) := by
  subst hi; subst hw
  have hj31 : j < 2 ^ 31 := Nat.lt_trans hj ha.2.1
  intro H lc ls hP hS hl
  refine va_zast h.1 h.2.1 h.2.2.2.2.2.2.1.1 hP (ws_D G σ) hS c 3 ((ws_at G σ ha.1).trans (by rw [ha.2.2])) rfl (vp_in_nI hj ha.2.1) d (fun H1 lc1 hP1 _ hS1 => ?_)
  rw [nI_clamp hj31] at hP1
  exact k H1 lc1 ls (by rw [← ws_sI G σ j _ ha.1, ha.2.2]; exact hP1) hS1 hl
theorem r_lald (h : CX x G cc nL own rm) {c n : Nat} {i : Int32} (ha : isL G c n) (j : Nat) (hi : i = nI j) (hj : j < n) (d : decode cc pc = .ok (.laload, 1)) (k : V x G nL cells slots Q σ (pc + 1) lo (.long (σ.2 c j) :: st)) : V x G nL cells slots Q σ pc lo (.int i :: .ref (G.2.1 + c) :: st) := by
  subst hi
  have hj31 : j < 2 ^ 31 := Nat.lt_trans hj ha.2.1
  intro H lc ls hP hS hl
  refine va_lald h.1 h.2.1 h.2.2.2.2.2.2.1.1 hP c 1 ((ws_at G σ ha.1).trans (by rw [ha.2.2])) rfl (vp_in_nI hj ha.2.1) d ?_
  rw [nI_clamp hj31]
  exact k H lc ls hP hS hl
theorem r_last (h : CX x G cc nL own rm) {c n : Nat} {i : Int32} {v : Int64} (ha : isL G c n) (j : Nat) (hi : i = nI j) (hj : j < n) (d : decode cc pc = .ok (.lastore, 1)) (k : V x G nL cells slots Q (sL σ c j v) (pc + 1) lo st) : V x G nL cells slots Q σ pc lo (.long v :: .int i :: .ref (G.2.1 + c) :: st) := by
  subst hi
  have hj31 : j < 2 ^ 31 := Nat.lt_trans hj ha.2.1
  intro H lc ls hP hS hl
  refine va_last h.1 h.2.1 h.2.2.2.2.2.2.1.1 hP (ws_D G σ) hS c 1 ((ws_at G σ ha.1).trans (by rw [ha.2.2])) rfl (vp_in_nI hj ha.2.1) d (fun H1 lc1 hP1 _ hS1 => ?_)
  rw [nI_clamp hj31] at hP1
  exact k H1 lc1 ls (by rw [← ws_sL G σ j _ ha.1, ha.2.2]; exact hP1) hS1 hl
theorem r_aald (h : CX x G cc nL own rm) {c n : Nat} {r : Nat → Nat} {i : Int32} (ha : isR G c n r) (j : Nat) (hi : i = nI j) (hj : j < n) (d : decode cc pc = .ok (.aaload, 1)) (k : V x G nL cells slots Q σ (pc + 1) lo (.ref (r j) :: st)) : V x G nL cells slots Q σ pc lo (.int i :: .ref (G.2.1 + c) :: st) := by
  subst hi
  have hj31 : j < 2 ^ 31 := Nat.lt_trans hj ha.2.1
  intro H lc ls hP hS hl
  refine va_aldq (C := "RuleLists$State") h.1 h.2.1 h.2.2.2.2.2.2.1.1 hP c 4 ((ws_at G σ ha.1).trans (by rw [ha.2.2])) rfl (vp_in_nI hj ha.2.1) d ?_
  rw [nI_clamp hj31]
  exact k H lc ls hP hS hl
theorem r_alenA (h : CX x G cc nL own rm) {c n : Nat} {v : Int32} (ha : isA G c n 0) (hv : nI n = v) (d : decode cc pc = .ok (.arraylength, 1)) (k : V x G nL cells slots Q σ (pc + 1) lo (.int v :: st)) : V x G nL cells slots Q σ pc lo (.ref (G.2.1 + c) :: st) := fun H lc ls hP hS hl => va_alen (ty := .int) (x := (n, .inl (σ.1 c))) h.1 h.2.1 h.2.2.2.2.2.2.1.1 hP c 0 ((ws_at G σ ha.1).trans (by rw [ha.2.2])) rfl hv d (k H lc ls hP hS hl)
theorem r_alenL (h : CX x G cc nL own rm) {c n : Nat} {v : Int32} (ha : isL G c n) (hv : nI n = v) (d : decode cc pc = .ok (.arraylength, 1)) (k : V x G nL cells slots Q σ (pc + 1) lo (.int v :: st)) : V x G nL cells slots Q σ pc lo (.ref (G.2.1 + c) :: st) := fun H lc ls hP hS hl => va_alen (ty := .long) (x := (n, .inr (.inl (σ.2 c)))) h.1 h.2.1 h.2.2.2.2.2.2.1.1 hP c 1 ((ws_at G σ ha.1).trans (by rw [ha.2.2])) rfl hv d (k H lc ls hP hS hl)
end
