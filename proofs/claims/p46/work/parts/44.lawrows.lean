/-! THE LAW'S ROWS: what the heap holds is any predicate; one object, or two, by what they ARE (numbers), not by their cells -/
abbrev Cs : Type := Nat × (Nat → Nat) × Ab × Nat × (Nat → Ab) × (Nat → Bool) × (Nat → Ab)
abbrev sT (S : Cs) : Nat → Nat := S.2.1
abbrev sA (S : Cs) : Ab := S.2.2.1
abbrev sM (S : Cs) : Nat := S.2.2.2.1
abbrev sH (S : Cs) : Nat → Ab := S.2.2.2.2.1
abbrev sV (S : Cs) : Nat → Bool := S.2.2.2.2.2.1
abbrev sL2 (S : Cs) : Nat → Ab := S.2.2.2.2.2.2
abbrev IS (S : Cs) (σ : Sg) : Prop := InvC S.1 (sT S) (sA S) (sM S) (sH S) (sV S) (sL2 S) σ
/-- the heap holds an object of what S tells -/
def W1 (G : Gl) (S : Cs) (H : Heap) : Prop := ∃ σ, IS S σ ∧ va_P G.1 vwCl (wsC G σ) H
def W2 (G K : Gl) (S T : Cs) (H : Heap) : Prop := W1 G S H ∧ W1 K T H
theorem W1.kept {G : Gl} {S : Cs} {H H1 : Heap} {A : Nat → Prop} (h : W1 G S H) (hk : ∀ q : Nat, q < H.size → ¬ A q → H1[q]? = H[q]?) (hA : ∀ k, k < 134 → ¬ A (G.2.1 + k)) : W1 G S H1 := by
  obtain ⟨σ, hi, hP⟩ := h
  refine ⟨σ, hi, hP.kept (fun k x hx => ?_)⟩
  have h1 := ws_inv hx
  refine hk x.1 ((hP k x hx).lt) ?_
  rw [h1.2]
  exact hA k h1.1
/-- q's cells lie behind o's, and what o may write lies behind q's -/
def Two (G K : Gl) : Prop := G.2.1 + 134 ≤ K.2.1 ∧ K.2.1 + 134 ≤ G.2.2 9
theorem Two.o {G K : Gl} (h : Two G K) : ∀ k, k < 134 → ¬ bA G (K.2.1 + k) := by
  intro k hk ⟨_, h2⟩
  obtain ⟨a, b⟩ := h
  rcases h2 with h3 | h3
  · omega
  · have h4 : K.2.1 + 134 ≤ K.2.1 + k := Nat.le_trans b h3
    omega
theorem Two.q {G K : Gl} (h : Two G K) : ∀ k, k < 134 → ¬ bA K (G.2.1 + k) := by
  intro k hk ⟨h1, _⟩
  obtain ⟨a, b⟩ := h
  omega
abbrev bB (G K : Gl) : Nat → Prop := fun q => bA G q ∨ bA K q
/-- what holds of the machine, A what may be written -/
def EX (A : Nat → Prop) (G : Gl) (U : State) : Prop := va_K G.1 vwCl (tysOf G) U ∧ NW U ∧ vx_Zq Bundle.tN "UNASSIGNED_STACK" Bundle.steD A U U.heap ∧ vx_Zq Bundle.tN "SUPPRESSED_SENTINEL" Bundle.listD A U U.heap
theorem EX.at {A : Nat → Prop} {G : Gl} {s U : State} {H : Heap} {locs : List Loc} (h : EX A G s) (hU : U.heap = H) (hW : s.WarmedH U.vm) (hS : va_S A s.heap H locs) : EX A G U := by
  obtain ⟨h1, h2, h3, h4⟩ := h
  subst hU
  exact ⟨va_K.moved hW.alike h1, h2.warm hW, (h3.moved hW.alike).kept hS.2.1, (h4.moved hW.alike).kept hS.2.1⟩
theorem EX.e0 {A : Nat → Prop} {G : Gl} {U : State} (h : EX A G U) (hA : ∀ q, bA G q → A q) : Env0 G U := ⟨h.1, h.2.1, h.2.2.1.narrow hA, h.2.2.2.narrow hA⟩
theorem EX.same {A : Nat → Prop} {G : Gl} {u U : State} (hv : u.vm = U.vm) (hh : u.heap = U.heap) (h : EX A G u) : EX A G U := by
  obtain ⟨h1, h2, h3, h4⟩ := h
  have ha : u.vm.Alike U.vm := by rw [hv]; exact Vm.Alike.refl _
  refine ⟨va_K.moved ha h1, h2.same hv, ?_, ?_⟩
  · rw [← hh]; exact h3.moved ha
  · rw [← hh]; exact h4.moved ha
def CL (x : Cx) (cc : ByteArray) (nL : Nat) (rm : Room) : Prop :=
  x.1.tables.exec = Jvm.exec ∧ x.2.2.2.2.2.2.2.2.2.code = cc ∧ x.2.2.2.2.2.2.2.2.2.maxLocals = nL ∧ x.2.2.2.2.1.vm.findClass RL = some x.2.2.2.2.2.1.cls ∧ (∀ w ∈ wsL_law, w.before x.2.2.2.2.2.2.1 x.2.2.2.2.1 = true) ∧ x.2.2.2.1 = rm ∧ x.2.2.2.2.2.2.2.2.1.locks = false ∧ 6 * rm.cells ≤ rm.slots
def VP (x : Cx) (A : Nat → Prop) (nL : Nat) (u : Nat) (Q : State → Prop) (P : Heap → Prop) (pc : Nat) (lo : List (Nat × Value)) (st : List Value) : Prop :=
  ∀ (H : Heap) (locs : List Loc) (ls : Array Slot), P H → va_S A x.2.2.2.2.1.heap H locs → lv_has ls nL lo →
    W x.1 x.2.1 x.2.2.1 x.2.2.2.1 x.2.2.2.2.1 x.2.2.2.2.2.1 x.2.2.2.2.2.2.1 x.2.2.2.2.2.2.2.1 x.2.2.2.2.2.2.2.2.1 x.2.2.2.2.2.2.2.2.2 H locs u (6 * u) Q (F0 x.2.2.2.2.2.1 pc ls st)
section
variable {x : Cx} {A : Nat → Prop} {cc : ByteArray} {nL : Nat} {rm : Room} {u : Nat} {Q : State → Prop} {P : Heap → Prop} {pc : Nat} {lo : List (Nat × Value)} {st : List Value}
theorem vl_iconst (h : CL x cc nL rm) {n : Int} {v : Int32} (hv : Int32.ofInt n = v) (d : decode cc pc = .ok (.iconst n, 1)) (k : VP x A nL u Q P (pc + 1) lo (.int v :: st)) : VP x A nL u Q P pc lo st := fun H lc ls hP hS hl => lv_iconst h.1 h.2.1 d hv (k H lc ls hP hS hl)
theorem vl_bipush (h : CL x cc nL rm) {n : Int} {v : Int32} (hv : (Int8.ofInt n).toInt32 = v) (d : decode cc pc = .ok (.bipush n, 2)) (k : VP x A nL u Q P (pc + 2) lo (.int v :: st)) : VP x A nL u Q P pc lo st := fun H lc ls hP hS hl => lv_bipush h.1 h.2.1 d hv (k H lc ls hP hS hl)
theorem vl_sipush (h : CL x cc nL rm) {n : Int} {v : Int32} (hv : (Int16.ofInt n).toInt32 = v) (d : decode cc pc = .ok (.sipush n, 3)) (k : VP x A nL u Q P (pc + 3) lo (.int v :: st)) : VP x A nL u Q P pc lo st := fun H lc ls hP hS hl => lv_sipush h.1 h.2.1 d hv (k H lc ls hP hS hl)
theorem vl_iload_n (h : CL x cc nL rm) (j : Nat) {i : Nat} {k4 : Fin 4} {v : Int32} (hi : (k4 : Nat) = i) (hv : lo[j]? = some (i, .int v)) (d : decode cc pc = .ok (.iload_n k4, 1)) (k : VP x A nL u Q P (pc + 1) lo (.int v :: st)) : VP x A nL u Q P pc lo st := fun H lc ls hP hS hl => lv_iload_n h.1 h.2.1 d hi (lv_at hl j hv) (k H lc ls hP hS hl)
theorem vl_iload (h : CL x cc nL rm) (j : Nat) {i : Nat} {v : Int32} (hv : lo[j]? = some (i, .int v)) (d : decode cc pc = .ok (.iload i, 2)) (k : VP x A nL u Q P (pc + 2) lo (.int v :: st)) : VP x A nL u Q P pc lo st := fun H lc ls hP hS hl => lv_iload h.1 h.2.1 d (lv_at hl j hv) (k H lc ls hP hS hl)
theorem vl_lload_n (h : CL x cc nL rm) (j : Nat) {i : Nat} {k4 : Fin 4} {v : Int64} (hi : (k4 : Nat) = i) (hv : lo[j]? = some (i, .long v)) (d : decode cc pc = .ok (.lload_n k4, 1)) (k : VP x A nL u Q P (pc + 1) lo (.long v :: st)) : VP x A nL u Q P pc lo st := fun H lc ls hP hS hl => lv_lload_n h.1 h.2.1 d hi (lv_at hl j hv) (k H lc ls hP hS hl)
theorem vl_lload (h : CL x cc nL rm) (j : Nat) {i : Nat} {v : Int64} (hv : lo[j]? = some (i, .long v)) (d : decode cc pc = .ok (.lload i, 2)) (k : VP x A nL u Q P (pc + 2) lo (.long v :: st)) : VP x A nL u Q P pc lo st := fun H lc ls hP hS hl => lv_lload h.1 h.2.1 d (lv_at hl j hv) (k H lc ls hP hS hl)
theorem vl_aload_n (h : CL x cc nL rm) (j : Nat) {i : Nat} {k4 : Fin 4} {v : Nat} (hi : (k4 : Nat) = i) (hv : lo[j]? = some (i, .ref v)) (d : decode cc pc = .ok (.aload_n k4, 1)) (k : VP x A nL u Q P (pc + 1) lo (.ref v :: st)) : VP x A nL u Q P pc lo st := fun H lc ls hP hS hl => lv_aload_n h.1 h.2.1 d hi (lv_at hl j hv) (k H lc ls hP hS hl)
theorem vl_aload (h : CL x cc nL rm) (j : Nat) {i : Nat} {v : Nat} (hv : lo[j]? = some (i, .ref v)) (d : decode cc pc = .ok (.aload i, 2)) (k : VP x A nL u Q P (pc + 2) lo (.ref v :: st)) : VP x A nL u Q P pc lo st := fun H lc ls hP hS hl => lv_aload h.1 h.2.1 d (lv_at hl j hv) (k H lc ls hP hS hl)
theorem vl_istore_n (h : CL x cc nL rm) {i : Nat} {k4 : Fin 4} {v : Int32} {lo2 : List (Nat × Value)} (hi : (k4 : Nat) = i) (hn : i < nL) (hl2 : (i, Value.int v) :: lo.filter (fun q => !(q.1 == i) && !(q.1 + 1 == i && q.2.category == 2)) = lo2) (d : decode cc pc = .ok (.istore_n k4, 1)) (k : VP x A nL u Q P (pc + 1) lo2 st) : VP x A nL u Q P pc lo (Value.int v :: st) := fun H lc ls hP hS hl => lv_istore_n h.1 h.2.1 d hi hl hn hl2 (fun ls2 hl3 => k H lc ls2 hP hS hl3)
theorem vl_istore (h : CL x cc nL rm) {i : Nat} {v : Int32} {lo2 : List (Nat × Value)} (hn : i < nL) (hl2 : (i, Value.int v) :: lo.filter (fun q => !(q.1 == i) && !(q.1 + 1 == i && q.2.category == 2)) = lo2) (d : decode cc pc = .ok (.istore i, 2)) (k : VP x A nL u Q P (pc + 2) lo2 st) : VP x A nL u Q P pc lo (Value.int v :: st) := fun H lc ls hP hS hl => lv_istore h.1 h.2.1 d hl hn hl2 (fun ls2 hl3 => k H lc ls2 hP hS hl3)
theorem vl_astore_n (h : CL x cc nL rm) {i : Nat} {k4 : Fin 4} {v : Nat} {lo2 : List (Nat × Value)} (hi : (k4 : Nat) = i) (hn : i < nL) (hl2 : (i, Value.ref v) :: lo.filter (fun q => !(q.1 == i) && !(q.1 + 1 == i && q.2.category == 2)) = lo2) (d : decode cc pc = .ok (.astore_n k4, 1)) (k : VP x A nL u Q P (pc + 1) lo2 st) : VP x A nL u Q P pc lo (Value.ref v :: st) := fun H lc ls hP hS hl => lv_astore_n h.1 h.2.1 d hi hl hn hl2 (fun ls2 hl3 => k H lc ls2 hP hS hl3)
theorem vl_astore (h : CL x cc nL rm) {i : Nat} {v : Nat} {lo2 : List (Nat × Value)} (hn : i < nL) (hl2 : (i, Value.ref v) :: lo.filter (fun q => !(q.1 == i) && !(q.1 + 1 == i && q.2.category == 2)) = lo2) (d : decode cc pc = .ok (.astore i, 2)) (k : VP x A nL u Q P (pc + 2) lo2 st) : VP x A nL u Q P pc lo (Value.ref v :: st) := fun H lc ls hP hS hl => lv_astore h.1 h.2.1 d hl hn hl2 (fun ls2 hl3 => k H lc ls2 hP hS hl3)
theorem vl_iinc (h : CL x cc nL rm) (j : Nat) {i : Nat} {n : Int} {u9 v : Int32} {lo2 : List (Nat × Value)} (hj : lo[j]? = some (i, .int u9)) (hv : u9 + Int32.ofInt n = v) (hn : i < nL) (hl2 : (i, Value.int v) :: lo.filter (fun q => !(q.1 == i) && !(q.1 + 1 == i && q.2.category == 2)) = lo2) (d : decode cc pc = .ok (.iinc i n, 3)) (k : VP x A nL u Q P (pc + 3) lo2 st) : VP x A nL u Q P pc lo st := fun H lc ls hP hS hl => lv_iinc h.1 h.2.1 d hl hj hv hn hl2 (fun ls2 hl3 => k H lc ls2 hP hS hl3)
theorem vl_iadd (h : CL x cc nL rm) {a b v : Int32}  (hv : a + b = v) (d : decode cc pc = .ok (.iadd, 1)) (k : VP x A nL u Q P (pc + 1) lo (.int v :: st)) : VP x A nL u Q P pc lo (.int b :: .int a :: st) := by
  subst hv
  exact fun H lc ls hP hS hl => lv_iadd h.1 h.2.1 d (k H lc ls hP hS hl)
theorem vl_isub (h : CL x cc nL rm) {a b v : Int32}  (hv : a - b = v) (d : decode cc pc = .ok (.isub, 1)) (k : VP x A nL u Q P (pc + 1) lo (.int v :: st)) : VP x A nL u Q P pc lo (.int b :: .int a :: st) := by
  subst hv
  exact fun H lc ls hP hS hl => lv_isub h.1 h.2.1 d (k H lc ls hP hS hl)
theorem vl_imul (h : CL x cc nL rm) {a b v : Int32}  (hv : a * b = v) (d : decode cc pc = .ok (.imul, 1)) (k : VP x A nL u Q P (pc + 1) lo (.int v :: st)) : VP x A nL u Q P pc lo (.int b :: .int a :: st) := by
  subst hv
  exact fun H lc ls hP hS hl => lv_imul h.1 h.2.1 d (k H lc ls hP hS hl)
theorem vl_iand (h : CL x cc nL rm) {a b v : Int32}  (hv : a &&& b = v) (d : decode cc pc = .ok (.iand, 1)) (k : VP x A nL u Q P (pc + 1) lo (.int v :: st)) : VP x A nL u Q P pc lo (.int b :: .int a :: st) := by
  subst hv
  exact fun H lc ls hP hS hl => lv_iand h.1 h.2.1 d (k H lc ls hP hS hl)
theorem vl_idiv (h : CL x cc nL rm) {a b v : Int32} (hne : ¬ b = 0) (hv : a / b = v) (d : decode cc pc = .ok (.idiv, 1)) (k : VP x A nL u Q P (pc + 1) lo (.int v :: st)) : VP x A nL u Q P pc lo (.int b :: .int a :: st) := by
  subst hv
  exact fun H lc ls hP hS hl => lv_idiv h.1 h.2.1 d hne (k H lc ls hP hS hl)
theorem vl_irem (h : CL x cc nL rm) {a b v : Int32} (hne : ¬ b = 0) (hv : a - a / b * b = v) (d : decode cc pc = .ok (.irem, 1)) (k : VP x A nL u Q P (pc + 1) lo (.int v :: st)) : VP x A nL u Q P pc lo (.int b :: .int a :: st) := by
  subst hv
  exact fun H lc ls hP hS hl => lv_irem h.1 h.2.1 d hne (k H lc ls hP hS hl)
theorem vl_i2l (h : CL x cc nL rm) {u9 : Int32} {v : Int64} (hv : u9.toInt64 = v) (d : decode cc pc = .ok (.i2l, 1)) (k : VP x A nL u Q P (pc + 1) lo (.long v :: st)) : VP x A nL u Q P pc lo (.int u9 :: st) := fun H lc ls hP hS hl => lv_i2l h.1 h.2.1 d hv (k H lc ls hP hS hl)
theorem vl_topi {a b : Int32} (e : a = b) (k : VP x A nL u Q P pc lo (.int b :: st)) : VP x A nL u Q P pc lo (.int a :: st) := e ▸ k
theorem vl_if_eq (h : CL x cc nL rm) {a : Int32} {off : Int} {tgt : Nat} (ht : (pc : Int) + off = (tgt : Int)) (d : decode cc pc = .ok (.ifCond .eq off, 3)) (kt : a = 0 → VP x A nL u Q P tgt lo st) (kf : ¬ a = 0 → VP x A nL u Q P (pc + 3) lo st) : VP x A nL u Q P pc lo (.int a :: st) := fun H lc ls hP hS hl => lv_if_eq h.1 h.2.1 d ht (fun q => kt q H lc ls hP hS hl) (fun q => kf q H lc ls hP hS hl)
theorem vl_if_eq_t (h : CL x cc nL rm) {a : Int32} {off : Int} {tgt : Nat} (hc : a = 0) (ht : (pc : Int) + off = (tgt : Int)) (d : decode cc pc = .ok (.ifCond .eq off, 3)) (k : VP x A nL u Q P tgt lo st) : VP x A nL u Q P pc lo (.int a :: st) := vl_if_eq h ht d (fun _ => k) (fun q => absurd q (by first | exact fun z => z hc | exact fun z => hc z))
theorem vl_if_eq_f (h : CL x cc nL rm) {a : Int32} {off : Int} {tgt : Nat} (hc : ¬ a = 0) (ht : (pc : Int) + off = (tgt : Int)) (d : decode cc pc = .ok (.ifCond .eq off, 3)) (k : VP x A nL u Q P (pc + 3) lo st) : VP x A nL u Q P pc lo (.int a :: st) := vl_if_eq h ht d (fun q => absurd q (by first | exact hc | exact fun z => z hc)) (fun _ => k)
theorem vl_icmp_eq (h : CL x cc nL rm) {a b : Int32} {off : Int} {tgt : Nat} (ht : (pc : Int) + off = (tgt : Int)) (d : decode cc pc = .ok (.if_icmp .eq off, 3)) (kt : a = b → VP x A nL u Q P tgt lo st) (kf : ¬ a = b → VP x A nL u Q P (pc + 3) lo st) : VP x A nL u Q P pc lo (.int b :: .int a :: st) := fun H lc ls hP hS hl => lv_icmp_eq h.1 h.2.1 d ht (fun q => kt q H lc ls hP hS hl) (fun q => kf q H lc ls hP hS hl)
theorem vl_icmp_eq_t (h : CL x cc nL rm) {a b : Int32} {off : Int} {tgt : Nat} (hc : a = b) (ht : (pc : Int) + off = (tgt : Int)) (d : decode cc pc = .ok (.if_icmp .eq off, 3)) (k : VP x A nL u Q P tgt lo st) : VP x A nL u Q P pc lo (.int b :: .int a :: st) := vl_icmp_eq h ht d (fun _ => k) (fun q => absurd q (by first | exact fun z => z hc | exact fun z => hc z))
theorem vl_icmp_eq_f (h : CL x cc nL rm) {a b : Int32} {off : Int} {tgt : Nat} (hc : ¬ a = b) (ht : (pc : Int) + off = (tgt : Int)) (d : decode cc pc = .ok (.if_icmp .eq off, 3)) (k : VP x A nL u Q P (pc + 3) lo st) : VP x A nL u Q P pc lo (.int b :: .int a :: st) := vl_icmp_eq h ht d (fun q => absurd q (by first | exact hc | exact fun z => z hc)) (fun _ => k)
theorem vl_if_ne (h : CL x cc nL rm) {a : Int32} {off : Int} {tgt : Nat} (ht : (pc : Int) + off = (tgt : Int)) (d : decode cc pc = .ok (.ifCond .ne off, 3)) (kt : ¬ a = 0 → VP x A nL u Q P tgt lo st) (kf : a = 0 → VP x A nL u Q P (pc + 3) lo st) : VP x A nL u Q P pc lo (.int a :: st) := fun H lc ls hP hS hl => lv_if_ne h.1 h.2.1 d ht (fun q => kt q H lc ls hP hS hl) (fun q => kf q H lc ls hP hS hl)
theorem vl_if_ne_t (h : CL x cc nL rm) {a : Int32} {off : Int} {tgt : Nat} (hc : ¬ a = 0) (ht : (pc : Int) + off = (tgt : Int)) (d : decode cc pc = .ok (.ifCond .ne off, 3)) (k : VP x A nL u Q P tgt lo st) : VP x A nL u Q P pc lo (.int a :: st) := vl_if_ne h ht d (fun _ => k) (fun q => absurd q (by first | exact fun z => z hc | exact fun z => hc z))
theorem vl_if_ne_f (h : CL x cc nL rm) {a : Int32} {off : Int} {tgt : Nat} (hc : a = 0) (ht : (pc : Int) + off = (tgt : Int)) (d : decode cc pc = .ok (.ifCond .ne off, 3)) (k : VP x A nL u Q P (pc + 3) lo st) : VP x A nL u Q P pc lo (.int a :: st) := vl_if_ne h ht d (fun q => absurd q (by first | exact hc | exact fun z => z hc)) (fun _ => k)
theorem vl_icmp_ne (h : CL x cc nL rm) {a b : Int32} {off : Int} {tgt : Nat} (ht : (pc : Int) + off = (tgt : Int)) (d : decode cc pc = .ok (.if_icmp .ne off, 3)) (kt : ¬ a = b → VP x A nL u Q P tgt lo st) (kf : a = b → VP x A nL u Q P (pc + 3) lo st) : VP x A nL u Q P pc lo (.int b :: .int a :: st) := fun H lc ls hP hS hl => lv_icmp_ne h.1 h.2.1 d ht (fun q => kt q H lc ls hP hS hl) (fun q => kf q H lc ls hP hS hl)
theorem vl_icmp_ne_t (h : CL x cc nL rm) {a b : Int32} {off : Int} {tgt : Nat} (hc : ¬ a = b) (ht : (pc : Int) + off = (tgt : Int)) (d : decode cc pc = .ok (.if_icmp .ne off, 3)) (k : VP x A nL u Q P tgt lo st) : VP x A nL u Q P pc lo (.int b :: .int a :: st) := vl_icmp_ne h ht d (fun _ => k) (fun q => absurd q (by first | exact fun z => z hc | exact fun z => hc z))
theorem vl_icmp_ne_f (h : CL x cc nL rm) {a b : Int32} {off : Int} {tgt : Nat} (hc : a = b) (ht : (pc : Int) + off = (tgt : Int)) (d : decode cc pc = .ok (.if_icmp .ne off, 3)) (k : VP x A nL u Q P (pc + 3) lo st) : VP x A nL u Q P pc lo (.int b :: .int a :: st) := vl_icmp_ne h ht d (fun q => absurd q (by first | exact hc | exact fun z => z hc)) (fun _ => k)
theorem vl_if_lt (h : CL x cc nL rm) {a : Int32} {off : Int} {tgt : Nat} (ht : (pc : Int) + off = (tgt : Int)) (d : decode cc pc = .ok (.ifCond .lt off, 3)) (kt : a < 0 → VP x A nL u Q P tgt lo st) (kf : ¬ a < 0 → VP x A nL u Q P (pc + 3) lo st) : VP x A nL u Q P pc lo (.int a :: st) := fun H lc ls hP hS hl => lv_if_lt h.1 h.2.1 d ht (fun q => kt q H lc ls hP hS hl) (fun q => kf q H lc ls hP hS hl)
theorem vl_if_lt_t (h : CL x cc nL rm) {a : Int32} {off : Int} {tgt : Nat} (hc : a < 0) (ht : (pc : Int) + off = (tgt : Int)) (d : decode cc pc = .ok (.ifCond .lt off, 3)) (k : VP x A nL u Q P tgt lo st) : VP x A nL u Q P pc lo (.int a :: st) := vl_if_lt h ht d (fun _ => k) (fun q => absurd q (by first | exact fun z => z hc | exact fun z => hc z))
theorem vl_if_lt_f (h : CL x cc nL rm) {a : Int32} {off : Int} {tgt : Nat} (hc : ¬ a < 0) (ht : (pc : Int) + off = (tgt : Int)) (d : decode cc pc = .ok (.ifCond .lt off, 3)) (k : VP x A nL u Q P (pc + 3) lo st) : VP x A nL u Q P pc lo (.int a :: st) := vl_if_lt h ht d (fun q => absurd q (by first | exact hc | exact fun z => z hc)) (fun _ => k)
theorem vl_icmp_lt (h : CL x cc nL rm) {a b : Int32} {off : Int} {tgt : Nat} (ht : (pc : Int) + off = (tgt : Int)) (d : decode cc pc = .ok (.if_icmp .lt off, 3)) (kt : a < b → VP x A nL u Q P tgt lo st) (kf : ¬ a < b → VP x A nL u Q P (pc + 3) lo st) : VP x A nL u Q P pc lo (.int b :: .int a :: st) := fun H lc ls hP hS hl => lv_icmp_lt h.1 h.2.1 d ht (fun q => kt q H lc ls hP hS hl) (fun q => kf q H lc ls hP hS hl)
theorem vl_icmp_lt_t (h : CL x cc nL rm) {a b : Int32} {off : Int} {tgt : Nat} (hc : a < b) (ht : (pc : Int) + off = (tgt : Int)) (d : decode cc pc = .ok (.if_icmp .lt off, 3)) (k : VP x A nL u Q P tgt lo st) : VP x A nL u Q P pc lo (.int b :: .int a :: st) := vl_icmp_lt h ht d (fun _ => k) (fun q => absurd q (by first | exact fun z => z hc | exact fun z => hc z))
theorem vl_icmp_lt_f (h : CL x cc nL rm) {a b : Int32} {off : Int} {tgt : Nat} (hc : ¬ a < b) (ht : (pc : Int) + off = (tgt : Int)) (d : decode cc pc = .ok (.if_icmp .lt off, 3)) (k : VP x A nL u Q P (pc + 3) lo st) : VP x A nL u Q P pc lo (.int b :: .int a :: st) := vl_icmp_lt h ht d (fun q => absurd q (by first | exact hc | exact fun z => z hc)) (fun _ => k)
theorem vl_if_ge (h : CL x cc nL rm) {a : Int32} {off : Int} {tgt : Nat} (ht : (pc : Int) + off = (tgt : Int)) (d : decode cc pc = .ok (.ifCond .ge off, 3)) (kt : 0 ≤ a → VP x A nL u Q P tgt lo st) (kf : ¬ 0 ≤ a → VP x A nL u Q P (pc + 3) lo st) : VP x A nL u Q P pc lo (.int a :: st) := fun H lc ls hP hS hl => lv_if_ge h.1 h.2.1 d ht (fun q => kt q H lc ls hP hS hl) (fun q => kf q H lc ls hP hS hl)
theorem vl_if_ge_t (h : CL x cc nL rm) {a : Int32} {off : Int} {tgt : Nat} (hc : 0 ≤ a) (ht : (pc : Int) + off = (tgt : Int)) (d : decode cc pc = .ok (.ifCond .ge off, 3)) (k : VP x A nL u Q P tgt lo st) : VP x A nL u Q P pc lo (.int a :: st) := vl_if_ge h ht d (fun _ => k) (fun q => absurd q (by first | exact fun z => z hc | exact fun z => hc z))
theorem vl_if_ge_f (h : CL x cc nL rm) {a : Int32} {off : Int} {tgt : Nat} (hc : ¬ 0 ≤ a) (ht : (pc : Int) + off = (tgt : Int)) (d : decode cc pc = .ok (.ifCond .ge off, 3)) (k : VP x A nL u Q P (pc + 3) lo st) : VP x A nL u Q P pc lo (.int a :: st) := vl_if_ge h ht d (fun q => absurd q (by first | exact hc | exact fun z => z hc)) (fun _ => k)
theorem vl_icmp_ge (h : CL x cc nL rm) {a b : Int32} {off : Int} {tgt : Nat} (ht : (pc : Int) + off = (tgt : Int)) (d : decode cc pc = .ok (.if_icmp .ge off, 3)) (kt : b ≤ a → VP x A nL u Q P tgt lo st) (kf : ¬ b ≤ a → VP x A nL u Q P (pc + 3) lo st) : VP x A nL u Q P pc lo (.int b :: .int a :: st) := fun H lc ls hP hS hl => lv_icmp_ge h.1 h.2.1 d ht (fun q => kt q H lc ls hP hS hl) (fun q => kf q H lc ls hP hS hl)
theorem vl_icmp_ge_t (h : CL x cc nL rm) {a b : Int32} {off : Int} {tgt : Nat} (hc : b ≤ a) (ht : (pc : Int) + off = (tgt : Int)) (d : decode cc pc = .ok (.if_icmp .ge off, 3)) (k : VP x A nL u Q P tgt lo st) : VP x A nL u Q P pc lo (.int b :: .int a :: st) := vl_icmp_ge h ht d (fun _ => k) (fun q => absurd q (by first | exact fun z => z hc | exact fun z => hc z))
theorem vl_icmp_ge_f (h : CL x cc nL rm) {a b : Int32} {off : Int} {tgt : Nat} (hc : ¬ b ≤ a) (ht : (pc : Int) + off = (tgt : Int)) (d : decode cc pc = .ok (.if_icmp .ge off, 3)) (k : VP x A nL u Q P (pc + 3) lo st) : VP x A nL u Q P pc lo (.int b :: .int a :: st) := vl_icmp_ge h ht d (fun q => absurd q (by first | exact hc | exact fun z => z hc)) (fun _ => k)
theorem vl_if_gt (h : CL x cc nL rm) {a : Int32} {off : Int} {tgt : Nat} (ht : (pc : Int) + off = (tgt : Int)) (d : decode cc pc = .ok (.ifCond .gt off, 3)) (kt : 0 < a → VP x A nL u Q P tgt lo st) (kf : ¬ 0 < a → VP x A nL u Q P (pc + 3) lo st) : VP x A nL u Q P pc lo (.int a :: st) := fun H lc ls hP hS hl => lv_if_gt h.1 h.2.1 d ht (fun q => kt q H lc ls hP hS hl) (fun q => kf q H lc ls hP hS hl)
theorem vl_if_gt_t (h : CL x cc nL rm) {a : Int32} {off : Int} {tgt : Nat} (hc : 0 < a) (ht : (pc : Int) + off = (tgt : Int)) (d : decode cc pc = .ok (.ifCond .gt off, 3)) (k : VP x A nL u Q P tgt lo st) : VP x A nL u Q P pc lo (.int a :: st) := vl_if_gt h ht d (fun _ => k) (fun q => absurd q (by first | exact fun z => z hc | exact fun z => hc z))
theorem vl_if_gt_f (h : CL x cc nL rm) {a : Int32} {off : Int} {tgt : Nat} (hc : ¬ 0 < a) (ht : (pc : Int) + off = (tgt : Int)) (d : decode cc pc = .ok (.ifCond .gt off, 3)) (k : VP x A nL u Q P (pc + 3) lo st) : VP x A nL u Q P pc lo (.int a :: st) := vl_if_gt h ht d (fun q => absurd q (by first | exact hc | exact fun z => z hc)) (fun _ => k)
theorem vl_icmp_gt (h : CL x cc nL rm) {a b : Int32} {off : Int} {tgt : Nat} (ht : (pc : Int) + off = (tgt : Int)) (d : decode cc pc = .ok (.if_icmp .gt off, 3)) (kt : b < a → VP x A nL u Q P tgt lo st) (kf : ¬ b < a → VP x A nL u Q P (pc + 3) lo st) : VP x A nL u Q P pc lo (.int b :: .int a :: st) := fun H lc ls hP hS hl => lv_icmp_gt h.1 h.2.1 d ht (fun q => kt q H lc ls hP hS hl) (fun q => kf q H lc ls hP hS hl)
theorem vl_icmp_gt_t (h : CL x cc nL rm) {a b : Int32} {off : Int} {tgt : Nat} (hc : b < a) (ht : (pc : Int) + off = (tgt : Int)) (d : decode cc pc = .ok (.if_icmp .gt off, 3)) (k : VP x A nL u Q P tgt lo st) : VP x A nL u Q P pc lo (.int b :: .int a :: st) := vl_icmp_gt h ht d (fun _ => k) (fun q => absurd q (by first | exact fun z => z hc | exact fun z => hc z))
theorem vl_icmp_gt_f (h : CL x cc nL rm) {a b : Int32} {off : Int} {tgt : Nat} (hc : ¬ b < a) (ht : (pc : Int) + off = (tgt : Int)) (d : decode cc pc = .ok (.if_icmp .gt off, 3)) (k : VP x A nL u Q P (pc + 3) lo st) : VP x A nL u Q P pc lo (.int b :: .int a :: st) := vl_icmp_gt h ht d (fun q => absurd q (by first | exact hc | exact fun z => z hc)) (fun _ => k)
theorem vl_if_le (h : CL x cc nL rm) {a : Int32} {off : Int} {tgt : Nat} (ht : (pc : Int) + off = (tgt : Int)) (d : decode cc pc = .ok (.ifCond .le off, 3)) (kt : a ≤ 0 → VP x A nL u Q P tgt lo st) (kf : ¬ a ≤ 0 → VP x A nL u Q P (pc + 3) lo st) : VP x A nL u Q P pc lo (.int a :: st) := fun H lc ls hP hS hl => lv_if_le h.1 h.2.1 d ht (fun q => kt q H lc ls hP hS hl) (fun q => kf q H lc ls hP hS hl)
theorem vl_if_le_t (h : CL x cc nL rm) {a : Int32} {off : Int} {tgt : Nat} (hc : a ≤ 0) (ht : (pc : Int) + off = (tgt : Int)) (d : decode cc pc = .ok (.ifCond .le off, 3)) (k : VP x A nL u Q P tgt lo st) : VP x A nL u Q P pc lo (.int a :: st) := vl_if_le h ht d (fun _ => k) (fun q => absurd q (by first | exact fun z => z hc | exact fun z => hc z))
theorem vl_if_le_f (h : CL x cc nL rm) {a : Int32} {off : Int} {tgt : Nat} (hc : ¬ a ≤ 0) (ht : (pc : Int) + off = (tgt : Int)) (d : decode cc pc = .ok (.ifCond .le off, 3)) (k : VP x A nL u Q P (pc + 3) lo st) : VP x A nL u Q P pc lo (.int a :: st) := vl_if_le h ht d (fun q => absurd q (by first | exact hc | exact fun z => z hc)) (fun _ => k)
theorem vl_icmp_le (h : CL x cc nL rm) {a b : Int32} {off : Int} {tgt : Nat} (ht : (pc : Int) + off = (tgt : Int)) (d : decode cc pc = .ok (.if_icmp .le off, 3)) (kt : a ≤ b → VP x A nL u Q P tgt lo st) (kf : ¬ a ≤ b → VP x A nL u Q P (pc + 3) lo st) : VP x A nL u Q P pc lo (.int b :: .int a :: st) := fun H lc ls hP hS hl => lv_icmp_le h.1 h.2.1 d ht (fun q => kt q H lc ls hP hS hl) (fun q => kf q H lc ls hP hS hl)
theorem vl_icmp_le_t (h : CL x cc nL rm) {a b : Int32} {off : Int} {tgt : Nat} (hc : a ≤ b) (ht : (pc : Int) + off = (tgt : Int)) (d : decode cc pc = .ok (.if_icmp .le off, 3)) (k : VP x A nL u Q P tgt lo st) : VP x A nL u Q P pc lo (.int b :: .int a :: st) := vl_icmp_le h ht d (fun _ => k) (fun q => absurd q (by first | exact fun z => z hc | exact fun z => hc z))
theorem vl_icmp_le_f (h : CL x cc nL rm) {a b : Int32} {off : Int} {tgt : Nat} (hc : ¬ a ≤ b) (ht : (pc : Int) + off = (tgt : Int)) (d : decode cc pc = .ok (.if_icmp .le off, 3)) (k : VP x A nL u Q P (pc + 3) lo st) : VP x A nL u Q P pc lo (.int b :: .int a :: st) := vl_icmp_le h ht d (fun q => absurd q (by first | exact hc | exact fun z => z hc)) (fun _ => k)
theorem vl_goto (h : CL x cc nL rm) {off : Int} {tgt : Nat} (ht : (pc : Int) + off = (tgt : Int)) (d : decode cc pc = .ok (.goto off, 3)) (k : VP x A nL u Q P tgt lo st) : VP x A nL u Q P pc lo st := fun H lc ls hP hS hl => lv_goto h.1 h.2.1 d ht (k H lc ls hP hS hl)
theorem vl_tabOut (h : CL x cc nL rm) {dflt l1 hi : Int} {offs : Array Int} {len : Nat} {a : Int32} {tgt : Nat} (hr : a.toInt < l1 ∨ hi < a.toInt) (ht : (pc : Int) + dflt = (tgt : Int)) (d : decode cc pc = .ok (.tableswitch dflt l1 hi offs, len)) (k : VP x A nL u Q P tgt lo st) : VP x A nL u Q P pc lo (.int a :: st) := fun H lc ls hP hS hl => lv_tableOut h.1 h.2.1 d hr ht (k H lc ls hP hS hl)
theorem vl_tabIn (h : CL x cc nL rm) {dflt l1 hi : Int} {offs : Array Int} {len : Nat} {a : Int32} {off : Int} {tgt : Nat} (h1 : ¬ a.toInt < l1) (h2 : ¬ hi < a.toInt) (ho : offs[(a.toInt - l1).toNat]? = some off) (ht : (pc : Int) + off = (tgt : Int)) (d : decode cc pc = .ok (.tableswitch dflt l1 hi offs, len)) (k : VP x A nL u Q P tgt lo st) : VP x A nL u Q P pc lo (.int a :: st) := fun H lc ls hP hS hl => lv_tableIn h.1 h.2.1 d h1 h2 ho ht (k H lc ls hP hS hl)
theorem vl_ldc (h : CL x cc nL rm) {idx : Nat} {v : Int32} (hw : Cond.constant RL idx v ∈ wsL_law) (d : decode cc pc = .ok (.ldc idx, 2)) (k : VP x A nL u Q P (pc + 2) lo (.int v :: st)) : VP x A nL u Q P pc lo st := fun H lc ls hP hS hl => lv_ldc h.1 h.2.1 h.2.2.2.1 (h.2.2.2.2.1 _ hw) d (k H lc ls hP hS hl)
theorem vl_sub (ks : List Nat) {lo2 : List (Nat × Value)} (hl2 : lv_pick lo ks = lo2) (k : VP x A nL u Q P pc lo2 st) : VP x A nL u Q P pc lo st := fun H lc ls hP hS hl => k H lc ls hP hS (lv_sub hl ks hl2)
theorem vl_wd {u2 : Nat} (hu : u ≤ u2) (k : VP x A nL u2 Q P pc lo st) : VP x A nL u Q P pc lo st := fun H lc ls hP hS hl => W.widen hu (Nat.mul_le_mul_left 6 hu) (k H lc ls hP hS hl)
theorem vl_wr {P2 : Heap → Prop} (hw : ∀ H, P H → P2 H) (k : VP x A nL u Q P2 pc lo st) : VP x A nL u Q P pc lo st := fun H lc ls hP hS hl => k H lc ls (hw H hP) hS hl
/-- a fact that the world gives -/
theorem vl_fact {F : Prop} (hf : ∀ H, P H → F) (k : F → VP x A nL u Q P pc lo st) : VP x A nL u Q P pc lo st := fun H lc ls hP hS hl => k (hf H hP) H lc ls hP hS hl
end
/-- before a call, two objects -/
def Pre2 (G K : Gl) (σ τ : Sg) (U : State) : Prop := (va_P G.1 vwCl (wsC G σ) U.heap ∧ va_P K.1 vwCl (wsC K τ) U.heap) ∧ EX (bB G K) G U ∧ EX (bB G K) K U ∧ XE U
theorem Pre2.blind (G K : Gl) (σ τ : Sg) (av : List Value) : FrameBlind (va_Pc av (Pre2 G K σ τ)) := by
  intro a U g mk h
  obtain ⟨h0, h1, h2, h3, h4⟩ := h
  exact ⟨h0, h1, h2.same (U := U.calling g mk a) rfl rfl, h3.same (U := U.calling g mk a) rfl rfl, XE.same (u := U) (U := U.calling g mk a) rfl h4⟩
/-- a contract in what the object IS: its answer r, what it is then T -/
def KL (l : Launch) (y : MethodName) (cc : ByteArray) (nL : Nat) (ty : FieldType) (rm : Room) (G : Gl) (av : List Value) (S : Cs) (r : Int32) (T : Cs) : Prop :=
  ∀ σ, IS S σ → Met l y (.code y cc nL (some ty) :: wsL_law) rm (va_Pc av (PreX G σ)) (va_Qi (fun r2 σ2 => r2 = r ∧ IS T σ2) (Bw G) (bA G)) rm.cells rm.slots (bA G)
/-- a link to a wrapper -/
def LKW (own : String) (idx : Nat) (y : MethodName) (bytes : ByteArray) (maxL : Nat) (hh : List (Nat × Nat × Nat × Nat)) (n : Nat) : Prop :=
  Cond.methodLink own idx y ∈ wsL_law ∧ Cond.initialized y.cls ∈ wsL_law ∧ Cond.codeWith y bytes maxL (some .int) hh ∈ wsL_law ∧ (y.cls ≠ "java/lang/invoke/MethodHandle" ∧ y.cls ≠ "java/lang/invoke/VarHandle") ∧ (parseMethodDescriptor y.desc).map (fun d => d.parameters.length) = some n ∧ Cond.static y ∈ wsL_law
/-- of a wrapper, that catches -/
def KW (l : Launch) (y : MethodName) (cc : ByteArray) (nL : Nat) (hh : List (Nat × Nat × Nat × Nat)) (rm : Room) (G : Gl) (av : List Value) (S : Cs) (r : Int32) (T : Cs) : Prop :=
  ∀ σ, IS S σ → vx_Met l y (.codeWith y cc nL (some .int) hh :: wsL_law) rm (va_Pc av (PreX G σ)) (va_Qi (fun r2 σ2 => r2 = r ∧ IS T σ2) (Bw G) (bA G)) (XC G (fun _ _ => False)) rm.cells rm.slots (bA G)
/-- two objects, alike before and behind -/
def K2 (l : Launch) (y : MethodName) (cc : ByteArray) (nL : Nat) (ty : FieldType) (rm : Room) (G K : Gl) (av : List Value) (S : Cs) (r : Int32) (T : Cs) : Prop :=
  ∀ σ τ, IS S σ → IS S τ → Met l y (.code y cc nL (some ty) :: wsL_law) rm (va_Pc av (Pre2 G K σ τ)) (va_Qi (fun r2 (u : Sg × Sg) => r2 = r ∧ IS T u.1 ∧ IS T u.2) (fun u t => va_P G.1 vwCl (wsC G u.1) t.heap ∧ va_P K.1 vwCl (wsC K u.2) t.heap) (bB G K)) rm.cells rm.slots (bB G K)
/-- no object -/
def K0 (l : Launch) (y : MethodName) (cc : ByteArray) (nL : Nat) (ty : FieldType) (rm : Room) (av : List Value) (r : Int32) : Prop :=
  Met l y (.code y cc nL (some ty) :: wsL_law) rm (va_Pc av (fun _ => True)) (va_Qi (fun r2 (_ : Unit) => r2 = r) (fun _ _ => True) (fun _ => False)) rm.cells rm.slots (fun _ => False)
section
variable {x : Cx} {A : Nat → Prop} {cc : ByteArray} {nL : Nat} {rm : Room} {u u2 : Nat} {Q : State → Prop} {P P' : Heap → Prop} {pc : Nat} {lo : List (Nat × Value)} {st st0 : List Value} {G K : Gl} {S T S2 T2 : Cs} {r r2 : Int32} {idx : Nat} {y : MethodName} {ccy : ByteArray} {maxL n : Nat} {ty : FieldType} {rmy : Room} {As : List Value} {hh : List (Nat × Nat × Nat × Nat)}
theorem wd2 {l2 : Nat} (h : CL x cc nL rm) (hR : rmy.slots = 6 * rmy.cells) (hu : u + rmy.cells ≤ u2 ∧ u2 ≤ rm.cells) : u + rmy.cells ≤ rm.cells ∧ 6 * u + rmy.slots ≤ rm.slots := by
  have := h.2.2.2.2.2.2.2
  omega
/-- a call of a method of the law with one object -/
theorem vl_kS (h : CL x cc nL rm) (hE : EX A G x.2.2.2.2.1) (hX : XE x.2.2.2.2.1) (wo : ∀ H, P H → W1 G S H) (wi : ∀ H H1 : Heap, P H → W1 G T H1 → (∀ q : Nat, q < H.size → ¬ bA G q → H1[q]? = H[q]?) → P' H1) (hA : ∀ q, bA G q → A q) (lk : LKS RL idx y ccy maxL (some ty) n)
    (hM : KL x.2.1 y ccy maxL ty rmy G As S r T) (hr : r = r2) (hst : st0 = As.reverse ++ st) (hn : As.length = n) (hR : rmy.frames + 1 ≤ rm.frames ∧ 8 + (maxL + 11) + rmy.locals ≤ rm.locals) (hs6 : rmy.slots = 6 * rmy.cells) (hW : (st.map fun v => v.category).sum ≤ 8) (hu : u + rmy.cells ≤ u2 ∧ u2 ≤ rm.cells) (d : decode cc pc = .ok (.invokestatic idx, 3))
    (k : VP x A nL u2 Q P' (pc + 3) lo (.int r2 :: st)) : VP x A nL u Q P pc lo st0 := by
  subst hst
  intro H lc ls hP hS hl
  obtain ⟨σ, hi, hP0⟩ := wo H hP
  obtain ⟨hx, hb, hml, hown, hts, hrm, hlk, h6⟩ := id h
  refine va_calli (va_runS (Ts := wsL_law) (As := As) (rest := st) ⟨hx, hb, hml, hown, hts⟩ (hM σ hi) ⟨lk.1.cb hts (by rw [hrm]; exact hR), hts _ lk.2⟩ ⟨PreX.blind G σ _, fun U hU hW => ⟨rfl, ⟨by rw [hU]; exact hP0, (hE.at hU hW hS).e0 hA⟩, hX.warm hW⟩⟩ rfl hn hl.1 rfl (lv_room hW) d (by rw [hrm]; exact wd2 (l2 := 0) h hs6 hu)) hS (fun q _ z => hA q z) hA (fun r9 u9 t H1 locs ht hvm hp hB hz1 hk1 hS1 => ?_)
  rw [hp.1, hr]
  exact W.widen hu.1 (by omega) (k H1 locs ls (wi H H1 hP ⟨u9, hp.2, by rw [← ht]; exact hB⟩ hk1) hS1 hl)
/-- a call of a wrapper -/
theorem vl_kW (h : CL x cc nL rm) (hE : EX A G x.2.2.2.2.1) (hX : XE x.2.2.2.2.1) (wo : ∀ H, P H → W1 G S H) (wi : ∀ H H1 : Heap, P H → W1 G T H1 → (∀ q : Nat, q < H.size → ¬ bA G q → H1[q]? = H[q]?) → P' H1) (hA : ∀ q, bA G q → A q) (lk : LKW RL idx y ccy maxL hh n)
    (hM : KW x.2.1 y ccy maxL hh rmy G As S r T) (hr : r = r2) (hst : st0 = As.reverse ++ st) (hn : As.length = n) (hR : rmy.frames + 1 ≤ rm.frames ∧ 8 + (maxL + 11) + rmy.locals ≤ rm.locals) (hs6 : rmy.slots = 6 * rmy.cells) (hW : (st.map fun v => v.category).sum ≤ 8) (hu : u + rmy.cells ≤ u2 ∧ u2 ≤ rm.cells) (d : decode cc pc = .ok (.invokestatic idx, 3))
    (k : VP x A nL u2 Q P' (pc + 3) lo (.int r2 :: st)) : VP x A nL u Q P pc lo st0 := by
  subst hst
  intro H lc ls hP hS hl
  obtain ⟨σ, hi, hP0⟩ := wo H hP
  obtain ⟨hx, hb, hml, hown, hts, hrm, hlk, h6⟩ := id h
  obtain ⟨l1, l2, l3, l4, l5, l6⟩ := lk
  refine vx_calli (vx_runSX (Ts := wsL_law) (As := As) (rest := st) ⟨hx, hb, hml, hown, hts⟩ (hM σ hi) ⟨⟨rfl, rfl, by rw [hrm]; exact hR.1, by rw [hrm]; exact hR.2, law_pay hts l3, List.mem_cons_self⟩, hts _ l3, hts _ l2, l4, fun sig hs => (by rw [hs] at l5; exact (Option.some.inj l5).symm), hts _ l1, hts _ l6⟩ ⟨PreX.blind G σ _, fun U hU hW => ⟨rfl, ⟨by rw [hU]; exact hP0, (hE.at hU hW hS).e0 hA⟩, hX.warm hW⟩⟩ rfl hn hl.1 rfl (lv_room hW) d (by rw [hrm]; exact wd2 (l2 := 0) h hs6 hu)) hS (fun q _ z => hA q z) hA (fun q _ z => hA q z) (fun E ce q9 u t H1 locs ht hvm _ hp hz1 hk1 hS1 hce hcv hcl => hp.1.elim) (fun r9 u9 t H1 locs ht hvm hp hB hz1 hk1 hS1 => ?_)
  rw [hp.1, hr]
  exact W.widen hu.1 (by omega) (k H1 locs ls (wi H H1 hP ⟨u9, hp.2, by rw [← ht]; exact hB⟩ hk1) hS1 hl)
/-- a call of a method of the class that throws nothing and changes nothing -/
theorem vl_kV (h : CL x cc nL rm) (hE : EX A G x.2.2.2.2.1) (wo : ∀ H, P H → W1 G S H) (wi : ∀ H H1 : Heap, P H → W1 G S H1 → (∀ q : Nat, q < H.size → ¬ bA G q → H1[q]? = H[q]?) → P H1) (hA : ∀ q, bA G q → A q) (lk : LKV RL idx RX5 y ccy maxL (some ty) n)
    (hM : ∀ σ, IS S σ → Ci x.2.1 y ccy maxL ty rmy G (.ref (G.2.1 + 0) :: As) σ (fun r9 σ2 => r9 = r ∧ σ2 = σ)) (hr : r = r2) (hst : st0 = As.reverse ++ .ref (G.2.1 + 0) :: st) (hn : As.length = n) (hR : rmy.frames + 1 ≤ rm.frames ∧ 8 + (maxL + 11) + rmy.locals ≤ rm.locals) (hs6 : rmy.slots = 6 * rmy.cells) (hW : (st.map fun v => v.category).sum ≤ 8) (hu : u + rmy.cells ≤ u2 ∧ u2 ≤ rm.cells) (d : decode cc pc = .ok (.invokevirtual idx, 3))
    (k : VP x A nL u2 Q P (pc + 3) lo (.int r2 :: st)) : VP x A nL u Q P pc lo st0 := by
  subst hst
  intro H lc ls hP hS hl
  obtain ⟨σ, hi, hP0⟩ := wo H hP
  obtain ⟨hx, hb, hml, hown, hts, hrm, hlk, h6⟩ := id h
  refine va_calli (va_runV (Ts := wsL_law) (C := RX5) (b := G.2.1 + 0) (As := As) (rest := st) ⟨hx, hb, hml, hown, hts⟩ (hM σ hi) ⟨lk.1.cb hts (by rw [hrm]; exact hR), hts _ lk.2.1, hts _ lk.2.2⟩ ⟨Pre.blind G σ _, (rc_5 (σ := σ)).cell hE.1 hP0, fun U hU hW => ⟨rfl, by rw [hU]; exact hP0, (hE.at hU hW hS).e0 hA⟩⟩ rfl hn hl.1 rfl (lv_room hW) d (by rw [hrm]; exact wd2 (l2 := 0) h hs6 hu)) hS (fun q _ z => hA q z) hA (fun r9 u9 t H1 locs ht hvm hp hB hz1 hk1 hS1 => ?_)
  rw [hp.1, hr]
  exact W.widen hu.1 (by omega) (k H1 locs ls (wi H H1 hP ⟨u9, by rw [hp.2]; exact hi, by rw [← ht]; exact hB⟩ hk1) hS1 hl)
/-- a call with both -/
theorem vl_k2 (h : CL x cc nL rm) (hE : EX (bB G K) G x.2.2.2.2.1) (hE2 : EX (bB G K) K x.2.2.2.2.1) (hX : XE x.2.2.2.2.1) (lk : LKS RL idx y ccy maxL (some ty) n)
    (hM : K2 x.2.1 y ccy maxL ty rmy G K As S r T) (hr : r = r2) (hst : st0 = As.reverse ++ st) (hn : As.length = n) (hR : rmy.frames + 1 ≤ rm.frames ∧ 8 + (maxL + 11) + rmy.locals ≤ rm.locals) (hs6 : rmy.slots = 6 * rmy.cells) (hW : (st.map fun v => v.category).sum ≤ 8) (hu : u + rmy.cells ≤ u2 ∧ u2 ≤ rm.cells) (d : decode cc pc = .ok (.invokestatic idx, 3))
    (k : VP x (bB G K) nL u2 Q (W2 G K T T) (pc + 3) lo (.int r2 :: st)) : VP x (bB G K) nL u Q (W2 G K S S) pc lo st0 := by
  subst hst
  intro H lc ls hP hS hl
  obtain ⟨⟨σ, hi, hP0⟩, ⟨τ, hj, hP1⟩⟩ := hP
  obtain ⟨hx, hb, hml, hown, hts, hrm, hlk, h6⟩ := id h
  refine va_calli (va_runS (Ts := wsL_law) (As := As) (rest := st) ⟨hx, hb, hml, hown, hts⟩ (hM σ τ hi hj) ⟨lk.1.cb hts (by rw [hrm]; exact hR), hts _ lk.2⟩ ⟨Pre2.blind G K σ τ _, fun U hU hW => ⟨rfl, ⟨by rw [hU]; exact hP0, by rw [hU]; exact hP1⟩, hE.at hU hW hS, hE2.at hU hW hS, hX.warm hW⟩⟩ rfl hn hl.1 rfl (lv_room hW) d (by rw [hrm]; exact wd2 (l2 := 0) h hs6 hu)) hS (fun q _ z => z) (fun q z => z) (fun r9 u9 t H1 locs ht hvm hp hB hz1 hk1 hS1 => ?_)
  rw [hp.1, hr]
  exact W.widen hu.1 (by omega) (k H1 locs ls ⟨⟨u9.1, hp.2.1, by rw [← ht]; exact hB.1⟩, ⟨u9.2, hp.2.2, by rw [← ht]; exact hB.2⟩⟩ hS1 hl)
/-- a call without any -/
theorem vl_k0 (h : CL x cc nL rm) (wi : ∀ H H1 : Heap, P H → (∀ q : Nat, q < H.size → H1[q]? = H[q]?) → P H1) (lk : LKS RL idx y ccy maxL (some ty) n)
    (hM : K0 x.2.1 y ccy maxL ty rmy As r) (hr : r = r2) (hst : st0 = As.reverse ++ st) (hn : As.length = n) (hR : rmy.frames + 1 ≤ rm.frames ∧ 8 + (maxL + 11) + rmy.locals ≤ rm.locals) (hs6 : rmy.slots = 6 * rmy.cells) (hW : (st.map fun v => v.category).sum ≤ 8) (hu : u + rmy.cells ≤ u2 ∧ u2 ≤ rm.cells) (d : decode cc pc = .ok (.invokestatic idx, 3))
    (k : VP x A nL u2 Q P (pc + 3) lo (.int r2 :: st)) : VP x A nL u Q P pc lo st0 := by
  subst hst
  intro H lc ls hP hS hl
  obtain ⟨hx, hb, hml, hown, hts, hrm, hlk, h6⟩ := id h
  refine va_calli (va_runS (Ts := wsL_law) (As := As) (rest := st) ⟨hx, hb, hml, hown, hts⟩ hM ⟨lk.1.cb hts (by rw [hrm]; exact hR), hts _ lk.2⟩ ⟨fun a U g mk z => z, fun U hU hW => ⟨rfl, trivial⟩⟩ rfl hn hl.1 rfl (lv_room hW) d (by rw [hrm]; exact wd2 (l2 := 0) h hs6 hu)) hS (fun q _ z => z.elim) (fun q z => z.elim) (fun r9 u9 t H1 locs ht hvm hp hB hz1 hk1 hS1 => ?_)
  rw [show r9 = r from hp, hr]
  exact W.widen hu.1 (by omega) (k H1 locs ls (wi H H1 hP (fun q hq => hk1 q hq (fun z => z))) hS1 hl)
end
theorem W1.all {G : Gl} {S : Cs} : ∀ H H1 : Heap, W1 G S H → (∀ q : Nat, q < H.size → H1[q]? = H[q]?) → W1 G S H1 := fun H H1 h hk => h.kept (A := fun _ => False) (fun q hq _ => hk q hq) (fun _ _ z => z)
theorem W2.all {G K : Gl} {S T : Cs} : ∀ H H1 : Heap, W2 G K S T H → (∀ q : Nat, q < H.size → H1[q]? = H[q]?) → W2 G K S T H1 := fun H H1 h hk => ⟨W1.all H H1 h.1 hk, W1.all H H1 h.2 hk⟩
theorem W1.own {G : Gl} {S T : Cs} : ∀ H H1 : Heap, W1 G S H → W1 G T H1 → (∀ q : Nat, q < H.size → ¬ bA G q → H1[q]? = H[q]?) → W1 G T H1 := fun _ _ _ h _ => h
theorem W2.o {G K : Gl} (h2 : Two G K) {S T S2 : Cs} : ∀ H H1 : Heap, W2 G K S T H → W1 G S2 H1 → (∀ q : Nat, q < H.size → ¬ bA G q → H1[q]? = H[q]?) → W2 G K S2 T H1 := fun _ _ h h1 hk => ⟨h1, h.2.kept hk h2.o⟩
theorem W2.q {G K : Gl} (h2 : Two G K) {S T T2 : Cs} : ∀ H H1 : Heap, W2 G K S T H → W1 K T2 H1 → (∀ q : Nat, q < H.size → ¬ bA K q → H1[q]? = H[q]?) → W2 G K S T2 H1 := fun _ _ h h1 hk => ⟨h.1.kept hk h2.q, h1⟩
/-- contracts out of walks -/
theorem KL_of {l : Launch} {y : MethodName} {cc : ByteArray} {nL : Nat} {ty : FieldType} {rm : Room} {G : Gl} {av : List Value} {S T : Cs} {r : Int32} {lo : List (Nat × Value)} (ho : y.cls = RL) (hy : plainName y.cls = true) (hlo : lv_args 0 av = lo) (hlen : (lg_sl av).length ≤ nL) (hs6 : rm.slots = 6 * rm.cells)
    (hn : narrow ty (.int r) = .int r)
    (body : ∀ (x : Cx) (Q : State → Prop), x.2.1 = l → CL x cc nL rm → EX (bA G) G x.2.2.2.2.1 → XE x.2.2.2.2.1 → (∀ pc lo', decode cc pc = .ok (.ireturn, 1) → VP x (bA G) nL rm.cells Q (W1 G T) pc lo' [.int r]) → VP x (bA G) nL 0 Q (W1 G S) 0 lo []) : KL l y cc nL ty rm G av S r T := by
  intro σ hi
  refine Met.ofW (cc := cc) (maxL := nL) (ret := some ty) hy rfl ?_
  intro p e s m args below meth c s₁ B hml hv
  obtain ⟨rfl, ⟨hP, hE⟩, hX⟩ := hv
  have hts := atoms_spec (ws := .code y cc nL (some ty) :: wsL_law) B.pre
  have hl := lv_entry av (n := nL) hlen
  rw [lg_entry_eq]
  rw [hlo] at hl
  have hr := B.returns
  refine body (p, l, e, rm, s, m, av.toArray, below, meth, c) _ rfl ⟨B.exec, B.bytes, hml, ho ▸ findClass_of_methodNamed B.named, fun w hw => hts w (List.mem_cons_of_mem _ hw), rfl, B.notSynchronized, by rw [hs6]; exact Nat.le_refl _⟩ hE hX ?_ s.heap [] _ ⟨σ, hi, hP⟩ va_S.rf hl
  intro pc lo' hd H locs ls hP' hS' hl'
  obtain ⟨σ2, hi2, hP2⟩ := hP'
  rw [← hs6]
  exact W.zret (v := r) B.exec B.bytes hr hn (fun t ht hW => ⟨⟨r, σ2, rfl, ⟨rfl, hi2⟩, by show va_P _ _ _ _; rw [ht]; exact hP2⟩, hS'.F ht⟩) hS'.2.2 hd B.notSynchronized
theorem K2_of {l : Launch} {y : MethodName} {cc : ByteArray} {nL : Nat} {ty : FieldType} {rm : Room} {G K : Gl} {av : List Value} {S T : Cs} {r : Int32} {lo : List (Nat × Value)} (ho : y.cls = RL) (hy : plainName y.cls = true) (hlo : lv_args 0 av = lo) (hlen : (lg_sl av).length ≤ nL) (hs6 : rm.slots = 6 * rm.cells)
    (hn : narrow ty (.int r) = .int r)
    (body : ∀ (x : Cx) (Q : State → Prop), x.2.1 = l → CL x cc nL rm → EX (bB G K) G x.2.2.2.2.1 → EX (bB G K) K x.2.2.2.2.1 → XE x.2.2.2.2.1 → (∀ pc lo', decode cc pc = .ok (.ireturn, 1) → VP x (bB G K) nL rm.cells Q (W2 G K T T) pc lo' [.int r]) → VP x (bB G K) nL 0 Q (W2 G K S S) 0 lo []) : K2 l y cc nL ty rm G K av S r T := by
  intro σ τ hi hj
  refine Met.ofW (cc := cc) (maxL := nL) (ret := some ty) hy rfl ?_
  intro p e s m args below meth c s₁ B hml hv
  obtain ⟨rfl, hP, hE, hE2, hX⟩ := hv
  have hts := atoms_spec (ws := .code y cc nL (some ty) :: wsL_law) B.pre
  have hl := lv_entry av (n := nL) hlen
  rw [lg_entry_eq]
  rw [hlo] at hl
  have hr := B.returns
  refine body (p, l, e, rm, s, m, av.toArray, below, meth, c) _ rfl ⟨B.exec, B.bytes, hml, ho ▸ findClass_of_methodNamed B.named, fun w hw => hts w (List.mem_cons_of_mem _ hw), rfl, B.notSynchronized, by rw [hs6]; exact Nat.le_refl _⟩ hE hE2 hX ?_ s.heap [] _ ⟨⟨σ, hi, hP.1⟩, ⟨τ, hj, hP.2⟩⟩ va_S.rf hl
  intro pc lo' hd H locs ls hP' hS' hl'
  obtain ⟨⟨σ2, hi2, hP2⟩, ⟨τ2, hj2, hP3⟩⟩ := hP'
  rw [← hs6]
  exact W.zret (v := r) B.exec B.bytes hr hn (fun t ht hW => ⟨⟨r, (σ2, τ2), rfl, ⟨rfl, hi2, hj2⟩, by rw [ht]; exact hP2, by rw [ht]; exact hP3⟩, hS'.F ht⟩) hS'.2.2 hd B.notSynchronized
theorem K0_of {l : Launch} {y : MethodName} {cc : ByteArray} {nL : Nat} {ty : FieldType} {rm : Room} {av : List Value} {r : Int32} {lo : List (Nat × Value)} (ho : y.cls = RL) (hy : plainName y.cls = true) (hlo : lv_args 0 av = lo) (hlen : (lg_sl av).length ≤ nL) (hs6 : rm.slots = 6 * rm.cells)
    (hn : narrow ty (.int r) = .int r)
    (body : ∀ (x : Cx) (Q : State → Prop), x.2.1 = l → CL x cc nL rm → (∀ pc lo', decode cc pc = .ok (.ireturn, 1) → VP x (fun _ => False) nL rm.cells Q (fun _ => True) pc lo' [.int r]) → VP x (fun _ => False) nL 0 Q (fun _ => True) 0 lo []) : K0 l y cc nL ty rm av r := by
  refine Met.ofW (cc := cc) (maxL := nL) (ret := some ty) hy rfl ?_
  intro p e s m args below meth c s₁ B hml hv
  obtain ⟨rfl, -⟩ := hv
  have hts := atoms_spec (ws := .code y cc nL (some ty) :: wsL_law) B.pre
  have hl := lv_entry av (n := nL) hlen
  rw [lg_entry_eq]
  rw [hlo] at hl
  have hr := B.returns
  refine body (p, l, e, rm, s, m, av.toArray, below, meth, c) _ rfl ⟨B.exec, B.bytes, hml, ho ▸ findClass_of_methodNamed B.named, fun w hw => hts w (List.mem_cons_of_mem _ hw), rfl, B.notSynchronized, by rw [hs6]; exact Nat.le_refl _⟩ ?_ s.heap [] _ trivial va_S.rf hl
  intro pc lo' hd H locs ls hP' hS' hl'
  rw [← hs6]
  exact W.zret (v := r) B.exec B.bytes hr hn (fun t ht hW => ⟨⟨r, (), rfl, rfl, trivial⟩, hS'.F ht⟩) hS'.2.2 hd B.notSynchronized
