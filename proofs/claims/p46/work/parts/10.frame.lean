/-! THE WORLD of one object: 134 cells in the order of their making (their addresses follow each other from the base on); what they hold is two tables of whole numbers. A method may write into them, and into what lies at G.2.2 9 or behind -/
abbrev vwCl : List vw_C := [(RX0, TX0, 3), (RX1, TX1, 2), (RX2, TX2, 5), (RX3, TX3, 2), (RX4, TX4, 6), (RX5, TX5, 6)]
abbrev Gl : Type := va_G × Nat × (Nat → ClassId)
abbrev Sg : Type := (Nat → Nat → Int32) × (Nat → Nat → Int64)
abbrev bA (G : Gl) : Nat → Prop := fun q => G.2.1 ≤ q ∧ (q < G.2.1 + 134 ∨ G.2.2 9 ≤ q)
abbrev tysOf (G : Gl) : List (ClassId × FieldType) := [(G.2.2 0, .int), (G.2.2 1, .long), (G.2.2 2, .char), (G.2.2 3, .boolean), (G.2.2 4, .object "RuleLists$State")]
/-- the kind of each cell -/
def kndL : List Nat := [5, 4, 12, 13, 3, 1, 10, 2, 11, 11, 11, 0, 15, 3, 1, 10, 2, 11, 11, 11, 3, 1, 10, 2, 11, 11, 11, 3, 1, 10, 2, 11, 11, 11, 3, 1, 10, 2, 11, 11, 11, 3, 1, 10, 2, 11, 11, 11, 3, 1, 10, 2, 11, 11, 11, 3, 1, 10, 2, 11, 11, 11, 3, 1, 10, 2, 11, 11, 11, 3, 1, 10, 2, 11, 11, 11, 3, 1, 10, 2, 11, 11, 11, 3, 1, 10, 2, 11, 11, 11, 3, 1, 10, 2, 11, 11, 11, 3, 1, 10, 2, 11, 11, 11, 3, 1, 10, 2, 11, 11, 11, 16, 14, 3, 1, 10, 2, 11, 11, 11, 3, 1, 10, 2, 11, 11, 11, 3, 1, 10, 2, 11, 11, 11]
def knd (k : Nat) : Nat := kndL.getD k 99
/-- what the cell k holds, its numbers given -/
def cel (G : Gl) (k : Nat) (f : Nat → Int32) (g : Nat → Int64) : va_E :=
  match knd k with
  | 0 => .inr (0, [.ref (G.2.1 + (k + 1)), .int (f 1), .int (f 2)])
  | 1 => .inr (1, [.ref (G.2.1 + (k + 1)), .int (f 1)])
  | 2 => .inr (2, [.ref (G.2.1 + (k + 1)), .ref (G.2.1 + (k + 2)), .ref (G.2.1 + (k + 3)), .int (f 3), .int (f 4)])
  | 3 => .inr (3, [.ref (G.2.1 + (k + 1)), .ref (G.2.1 + (k + 3))])
  | 4 => .inr (4, [.ref (G.2.1 + 2), .int (f 1), .int (f 2), .int (f 3), .int (f 4), .ref (G.2.1 + 3)])
  | 5 => .inr (5, [.ref (G.2.1 + 1), .ref (G.2.1 + 4), .ref (G.2.1 + 11), .ref (G.2.1 + 111), .ref (G.2.1 + 112), .ref (G.2.1 + 113)])
  | 10 => .inl (G.2.2 1, 192, .inr (.inl g))
  | 11 => .inl (G.2.2 0, 4, .inl f)
  | 12 => .inl (G.2.2 2, 120, .inl f)
  | 13 => .inl (G.2.2 0, 3, .inl f)
  | 14 => .inl (G.2.2 3, 2, .inl f)
  | 15 => .inl (G.2.2 4, 14, .inr (.inr (.inr (.inr (fun j => some (G.2.1 + (13 + 7 * j)))))))
  | 16 => .inl (G.2.2 4, 2, .inr (.inr (.inr (.inr (fun j => some (G.2.1 + (120 + 7 * j)))))))
  | _ => .inl (G.2.2 1, 1, .inr (.inl g))
def wsC (G : Gl) (σ : Sg) : va_W := (List.range 134).map fun k => (G.2.1 + k, cel G k (σ.1 k) (σ.2 k))
theorem ws_at (G : Gl) (σ : Sg) {k : Nat} (hk : k < 134) : (wsC G σ)[k]? = some (G.2.1 + k, cel G k (σ.1 k) (σ.2 k)) := by
  unfold wsC
  rw [List.getElem?_map, List.getElem?_range hk]
  rfl
theorem ws_inv {G : Gl} {σ : Sg} {k : Nat} {q : Nat × va_E} (h : (wsC G σ)[k]? = some q) : k < 134 ∧ q.1 = G.2.1 + k := by
  have hl : k < (wsC G σ).length := (List.getElem?_eq_some_iff.mp h).1
  have hk : k < 134 := by simpa [wsC] using hl
  rw [ws_at G σ hk] at h
  cases h
  exact ⟨hk, rfl⟩
theorem ws_D (G : Gl) (σ : Sg) : va_D (bA G) (wsC G σ) := by
  refine ⟨fun i j p q hi hj hpq => ?_, fun k q hk => ?_⟩
  · have h1 := (ws_inv hi).2
    have h2 := (ws_inv hj).2
    omega
  · have h1 := ws_inv hk
    rw [h1.2]
    exact ⟨Nat.le_add_right _ _, Or.inl (by omega)⟩
/-- one number of a cell changed -/
def sI (σ : Sg) (k j : Nat) (v : Int32) : Sg := (va_up σ.1 k (upd (σ.1 k) j v), σ.2)
def sL (σ : Sg) (k j : Nat) (v : Int64) : Sg := (σ.1, va_up σ.2 k (vp_updL (σ.2 k) j v))
theorem ws_sI (G : Gl) (σ : Sg) {k : Nat} (j : Nat) (v : Int32) (hk : k < 134) : (wsC G σ).set k (G.2.1 + k, cel G k (upd (σ.1 k) j v) (σ.2 k)) = wsC G (sI σ k j v) := by
  apply List.ext_getElem?
  intro i
  by_cases h : i < 134
  · rw [ws_at G _ h]
    by_cases hik : i = k
    · subst hik
      rw [List.getElem?_set_self (by simpa [wsC] using h)]
      simp [sI, va_up]
    · rw [List.getElem?_set_ne (Ne.symm hik), ws_at G σ h]
      simp [sI, va_up, hik]
  · rw [List.getElem?_eq_none (by simp [wsC]; omega), List.getElem?_eq_none (by simp [wsC]; omega)]
theorem ws_sL (G : Gl) (σ : Sg) {k : Nat} (j : Nat) (v : Int64) (hk : k < 134) : (wsC G σ).set k (G.2.1 + k, cel G k (σ.1 k) (vp_updL (σ.2 k) j v)) = wsC G (sL σ k j v) := by
  apply List.ext_getElem?
  intro i
  by_cases h : i < 134
  · rw [ws_at G _ h]
    by_cases hik : i = k
    · subst hik
      rw [List.getElem?_set_self (by simpa [wsC] using h)]
      simp [sL, va_up]
    · rw [List.getElem?_set_ne (Ne.symm hik), ws_at G σ h]
      simp [sL, va_up, hik]
  · rw [List.getElem?_eq_none (by simp [wsC]; omega), List.getElem?_eq_none (by simp [wsC]; omega)]
/-- the links of nest mates that calls of ours go by -/
def NW (U : State) : Prop := va_Nw (.methodLinkNest RX1 25 yX5_isWithin RX5) U ∧ va_Nw (.methodLinkNest RX3 40 yX5_isWithin RX5) U
theorem NW.warm {s U : State} (hW : s.WarmedH U.vm) (h : NW s) : NW U := ⟨va_Nw.warmM hW h.1, va_Nw.warmM hW h.2⟩
theorem NW.same {u U : State} (hv : u.vm = U.vm) (h : NW u) : NW U := ⟨va_Nw.same rfl hv h.1, va_Nw.same rfl hv h.2⟩
/-- the texts of the throws -/
def ST (U : State) : Prop := True
/-- what holds of the machine at every method's start -/
def Env0 (G : Gl) (U : State) : Prop := va_K G.1 vwCl (tysOf G) U ∧ NW U ∧ vx_Zq Bundle.tN "UNASSIGNED_STACK" Bundle.steD (bA G) U U.heap ∧ vx_Zq Bundle.tN "SUPPRESSED_SENTINEL" Bundle.listD (bA G) U U.heap
def Pre (G : Gl) (σ : Sg) (U : State) : Prop := va_P G.1 vwCl (wsC G σ) U.heap ∧ Env0 G U
abbrev Cx : Type := Program × Launch × Env × Room × State × MethodId × Array Value × List Frame × Method × Code
def CX (x : Cx) (G : Gl) (cc : ByteArray) (nL : Nat) (own : String) (rm : Room) : Prop :=
  x.1.tables.exec = Jvm.exec ∧ x.2.2.2.2.2.2.2.2.2.code = cc ∧ x.2.2.2.2.2.2.2.2.2.maxLocals = nL ∧ x.2.2.2.2.1.vm.findClass own = some x.2.2.2.2.2.1.cls ∧ (∀ w ∈ wsL_law, w.before x.2.2.2.2.2.2.1 x.2.2.2.2.1 = true) ∧ x.2.2.2.1 = rm ∧ Env0 G x.2.2.2.2.1 ∧ x.2.2.2.2.2.2.2.2.1.locks = false
/-- the machine at pc, with the world σ, these locals and this stack, comes to Q -/
def V (x : Cx) (G : Gl) (nL : Nat) (cells slots : Nat) (Q : State → Prop) (σ : Sg) (pc : Nat) (lo : List (Nat × Value)) (st : List Value) : Prop :=
  ∀ (H : Heap) (locs : List Loc) (ls : Array Slot), va_P G.1 vwCl (wsC G σ) H → va_S (bA G) x.2.2.2.2.1.heap H locs → lv_has ls nL lo →
    W x.1 x.2.1 x.2.2.1 x.2.2.2.1 x.2.2.2.2.1 x.2.2.2.2.2.1 x.2.2.2.2.2.2.1 x.2.2.2.2.2.2.2.1 x.2.2.2.2.2.2.2.2.1 x.2.2.2.2.2.2.2.2.2 H locs cells slots Q (F0 x.2.2.2.2.2.1 pc ls st)
theorem Env0.at {G : Gl} {s U : State} {H : Heap} {locs : List Loc} (h : Env0 G s) (hU : U.heap = H) (hW : s.WarmedH U.vm) (hS : va_S (bA G) s.heap H locs) : Env0 G U := by
  obtain ⟨h1, h2, h3, h4⟩ := h
  subst hU
  exact ⟨va_K.moved hW.alike h1, h2.warm hW, (h3.moved hW.alike).kept hS.2.1, (h4.moved hW.alike).kept hS.2.1⟩
theorem Pre.blind (G : Gl) (σ : Sg) (av : List Value) : FrameBlind (va_Pc av (Pre G σ)) := by
  intro a U g mk h
  obtain ⟨h0, h1, h2, h3, h4, h5⟩ := h
  exact ⟨h0, h1, va_K.moved (u := U) (U := U.calling g mk a) (Vm.Alike.refl U.vm) h2, h3.same rfl, h4.moved (u := U) (U := U.calling g mk a) (Vm.Alike.refl U.vm), h5.moved (u := U) (U := U.calling g mk a) (Vm.Alike.refl U.vm)⟩
/-- behind a method: the world -/
abbrev Bw (G : Gl) (u : Sg) (t : State) : Prop := va_P G.1 vwCl (wsC G u) t.heap
abbrev Ci (l : Launch) (y : MethodName) (cc : ByteArray) (nL : Nat) (ty : FieldType) (rm : Room) (G : Gl) (av : List Value) (σ : Sg) (post : Int32 → Sg → Prop) : Prop :=
  Met l y (.code y cc nL (some ty) :: wsL_law) rm (va_Pc av (Pre G σ)) (va_Qi post (Bw G) (bA G)) rm.cells rm.slots (bA G)
abbrev Cv (l : Launch) (y : MethodName) (cc : ByteArray) (nL : Nat) (rm : Room) (G : Gl) (av : List Value) (σ : Sg) (post : Sg → Prop) : Prop :=
  Met l y (.code y cc nL none :: wsL_law) rm (va_Pc av (Pre G σ)) (va_Qv post (Bw G) (bA G)) rm.cells rm.slots (bA G)
/-- a contract out of the walk of its body; Q is what the end gives -/
theorem Ci_of {l : Launch} {y : MethodName} {cc : ByteArray} {nL : Nat} {ty : FieldType} {rm : Room} {G : Gl} {av : List Value} {σ : Sg} {post : Int32 → Sg → Prop} {lo : List (Nat × Value)} {own : String} (ho : y.cls = own) (hy : plainName y.cls = true) (hlo : lv_args 0 av = lo) (hlen : (lg_sl av).length ≤ nL)
    (hn : ∀ r σ', post r σ' → narrow ty (.int r) = .int r)
    (body : ∀ (x : Cx) (Q : State → Prop), x.2.1 = l → CX x G cc nL own rm → (∀ r σ', post r σ' → ∀ pc lo', decode cc pc = .ok (.ireturn, 1) → V x G nL rm.cells rm.slots Q σ' pc lo' [.int r]) → V x G nL 0 0 Q σ 0 lo []) : Ci l y cc nL ty rm G av σ post := by
  refine Met.ofW (cc := cc) (maxL := nL) (ret := some ty) hy rfl ?_
  intro p e s m args below meth c s₁ B hml hv
  obtain ⟨rfl, hP, hE⟩ := hv
  have hts := atoms_spec (ws := .code y cc nL (some ty) :: wsL_law) B.pre
  have hl := lv_entry av (n := nL) hlen
  rw [lg_entry_eq]
  rw [hlo] at hl
  have hr := B.returns
  refine body (p, l, e, rm, s, m, av.toArray, below, meth, c) _ rfl ⟨B.exec, B.bytes, hml, ho ▸ findClass_of_methodNamed B.named, fun w hw => hts w (List.mem_cons_of_mem _ hw), rfl, hE, B.notSynchronized⟩ ?_ s.heap [] _ hP va_S.rf hl
  intro r σ' hp pc lo' hd H locs ls hP' hS' hl'
  exact W.zret (v := r) B.exec B.bytes hr (hn r σ' hp) (fun t ht hW => ⟨⟨r, σ', rfl, hp, by show va_P _ _ _ _; rw [ht]; exact hP'⟩, hS'.F ht⟩) hS'.2.2 hd B.notSynchronized
theorem Cv_of {l : Launch} {y : MethodName} {cc : ByteArray} {nL : Nat} {rm : Room} {G : Gl} {av : List Value} {σ : Sg} {post : Sg → Prop} {lo : List (Nat × Value)} {own : String} (ho : y.cls = own) (hy : plainName y.cls = true) (hlo : lv_args 0 av = lo) (hlen : (lg_sl av).length ≤ nL)
    (body : ∀ (x : Cx) (Q : State → Prop), x.2.1 = l → CX x G cc nL own rm → (∀ σ', post σ' → ∀ pc lo', decode cc pc = .ok (.return_, 1) → V x G nL rm.cells rm.slots Q σ' pc lo' []) → V x G nL 0 0 Q σ 0 lo []) : Cv l y cc nL rm G av σ post := by
  refine Met.ofW (cc := cc) (maxL := nL) (ret := none) hy rfl ?_
  intro p e s m args below meth c s₁ B hml hv
  obtain ⟨rfl, hP, hE⟩ := hv
  have hts := atoms_spec (ws := .code y cc nL none :: wsL_law) B.pre
  have hl := lv_entry av (n := nL) hlen
  rw [lg_entry_eq]
  rw [hlo] at hl
  have hr := B.returns
  refine body (p, l, e, rm, s, m, av.toArray, below, meth, c) _ rfl ⟨B.exec, B.bytes, hml, ho ▸ findClass_of_methodNamed B.named, fun w hw => hts w (List.mem_cons_of_mem _ hw), rfl, hE, B.notSynchronized⟩ ?_ s.heap [] _ hP va_S.rf hl
  intro σ' hp pc lo' hd H locs ls hP' hS' hl'
  exact W.vret B.exec B.bytes hr (fun t ht hW => ⟨⟨σ', rfl, hp, by show va_P _ _ _ _; rw [ht]; exact hP'⟩, hS'.F ht⟩) hS'.2.2 hd B.notSynchronized
