/-! CONSTRUCTORS: a world that grows -/
abbrev bN (G : Gl) : Nat → Prop := fun q => G.2.1 ≤ q
def wsN (G : Gl) (N : Nat) (w : Nat → va_E) : va_W := (List.range N).map fun k => (G.2.1 + k, w k)
section
variable {G : Gl} {N : Nat} {w : Nat → va_E}
theorem wn_at (G : Gl) (w : Nat → va_E) {N k : Nat} (hk : k < N) : (wsN G N w)[k]? = some (G.2.1 + k, w k) := by
  unfold wsN
  rw [List.getElem?_map, List.getElem?_range hk]
  rfl
theorem wn_len : (wsN G N w).length = N := by simp [wsN]
theorem wn_inv {k : Nat} {q : Nat × va_E} (h : (wsN G N w)[k]? = some q) : k < N ∧ q = (G.2.1 + k, w k) := by
  have hl : k < (wsN G N w).length := (List.getElem?_eq_some_iff.mp h).1
  rw [wn_len] at hl
  rw [wn_at G w hl] at h
  cases h
  exact ⟨hl, rfl⟩
theorem wn_D : va_D (bN G) (wsN G N w) := by
  refine ⟨fun i j p q hi hj hpq => ?_, fun k q hk => ?_⟩
  · rw [(wn_inv hi).2, (wn_inv hj).2] at hpq
    have hpq : G.2.1 + i = G.2.1 + j := hpq
    omega
  · rw [(wn_inv hk).2]; exact Nat.le_add_right _ _
theorem wn_set {k : Nat} (e : va_E) (hk : k < N) : (wsN G N w).set k (G.2.1 + k, e) = wsN G N (va_up w k e) := by
  apply List.ext_getElem?
  intro i
  by_cases h : i < N
  · rw [wn_at G _ h]
    by_cases hik : i = k
    · subst hik
      rw [List.getElem?_set_self (by rw [wn_len]; exact h), va_s]
    · rw [List.getElem?_set_ne (Ne.symm hik), wn_at G w h, va_n _ _ hik]
  · rw [List.getElem?_eq_none (by rw [List.length_set, wn_len]; omega), List.getElem?_eq_none (by rw [wn_len]; omega)]
theorem wn_push (e : va_E) : wsN G N w ++ [(G.2.1 + N, e)] = wsN G (N + 1) (va_up w N e) := by
  apply List.ext_getElem?
  intro i
  by_cases h : i < N
  · rw [List.getElem?_append_left (by rw [wn_len]; exact h), wn_at G w h, wn_at G _ (by omega), va_n _ _ (by omega)]
  · rw [List.getElem?_append_right (by rw [wn_len]; omega), wn_len]
    by_cases e2 : i = N
    · subst e2; rw [wn_at G _ (by omega), va_s, Nat.sub_self]; rfl
    · rw [List.getElem?_eq_none (by simp; omega), List.getElem?_eq_none (by rw [wn_len]; omega)]
theorem wn_cong {w2 : Nat → va_E} (h : ∀ j, j < N → w j = w2 j) : wsN G N w = wsN G N w2 := by
  apply List.ext_getElem?
  intro i
  by_cases q : i < N
  · rw [wn_at G w q, wn_at G w2 q, h i q]
  · rw [List.getElem?_eq_none (by rw [wn_len]; omega), List.getElem?_eq_none (by rw [wn_len]; omega)]
/-- what is made stands behind all else -/
theorem wn_q {q : Nat} {e : va_E} {H1 : Heap} (hP : va_P G.1 vwCl (wsN G N w ++ [(q, e)]) H1) (hD : va_D (bN G) (wsN G N w ++ [(q, e)])) (hs : H1.size ≤ G.2.1 + N + 1) : q = G.2.1 + N := by
  have hN : (wsN G N w ++ [(q, e)])[N]? = some (q, e) := by rw [List.getElem?_append_right (by rw [wn_len]; omega), wn_len, Nat.sub_self]; rfl
  have h1 : q < H1.size := (hP N _ hN).lt
  have h2 : G.2.1 ≤ q := hD.2 N _ hN
  by_cases h3 : q < G.2.1 + N
  · have h4 : (wsN G N w ++ [(q, e)])[q - G.2.1]? = some (G.2.1 + (q - G.2.1), w (q - G.2.1)) := by
      rw [List.getElem?_append_left (by rw [wn_len]; omega)]
      exact wn_at G w (by omega)
    have h5 := hD.1 _ _ _ _ h4 hN (by show G.2.1 + (q - G.2.1) = q; omega)
    omega
  · omega
end
theorem ra_eq {U : State} {c1 c2 : ClassId} {ty : FieldType} (h1 : va_RA U c1 ty) (h2 : va_RA U c2 ty) : c1 = c2 := by
  cases ty with
  | object C =>
    obtain ⟨_, _, _, _, _, e1⟩ := h1
    obtain ⟨_, _, _, _, _, e2⟩ := h2
    exact Option.some.inj (e1.symm.trans e2)
  | _ => exact Option.some.inj (Eq.trans (Eq.symm h1) h2)
/-- the links of nest mates that the constructors go by -/
def NW5 (U : State) : Prop := va_Nw (.methodLinkNest RX5 9 yX4_init RX5) U ∧ va_Nw (.methodLinkNest RX5 18 yX3_init RX5) U ∧ va_Nw (.methodLinkNest RX3 11 yX1_init RX5) U ∧ va_Nw (.methodLinkNest RX3 20 yX2_init RX5) U ∧ va_Nw (.methodLinkNest RX0 17 yX3_init RX5) U ∧ va_AO "RuleLists$State" U
def EnvN (G : Gl) (U : State) : Prop := va_K G.1 vwCl (tysOf G) U ∧ NW5 U
theorem EnvN.warm {G : Gl} {s U : State} (hW : s.WarmedH U.vm) (h : EnvN G s) : EnvN G U := by
  obtain ⟨h1, h2, h3, h4, h5, h6, h7⟩ := h
  exact ⟨va_K.moved hW.alike h1, va_Nw.warmM hW h2, va_Nw.warmM hW h3, va_Nw.warmM hW h4, va_Nw.warmM hW h5, va_Nw.warmM hW h6, h7.moved hW.alike⟩
theorem EnvN.same {G : Gl} {u U : State} (hv : u.vm = U.vm) (h : EnvN G u) : EnvN G U := EnvN.warm (by rw [← hv]; exact State.WarmedH.refl u) h
def CXN (x : Cx) (G : Gl) (cc : ByteArray) (nL : Nat) (own : String) (rm : Room) (N0 : Nat) : Prop :=
  x.1.tables.exec = Jvm.exec ∧ x.2.2.2.2.2.2.2.2.2.code = cc ∧ x.2.2.2.2.2.2.2.2.2.maxLocals = nL ∧ x.2.2.2.2.1.vm.findClass own = some x.2.2.2.2.2.1.cls ∧ (∀ w ∈ wsL_law, w.before x.2.2.2.2.2.2.1 x.2.2.2.2.1 = true) ∧ x.2.2.2.1 = rm ∧ EnvN G x.2.2.2.2.1 ∧ x.2.2.2.2.2.2.2.2.1.locks = false ∧ x.2.2.2.2.1.heap.size = G.2.1 + N0
/-- the machine at pc, with N cells w, comes to Q; N0 cells were there at the method's start -/
def VN (x : Cx) (G : Gl) (nL : Nat) (N0 N slots : Nat) (Q : State → Prop) (w : Nat → va_E) (pc : Nat) (lo : List (Nat × Value)) (st : List Value) : Prop :=
  ∀ (H : Heap) (locs : List Loc) (ls : Array Slot), va_P G.1 vwCl (wsN G N w) H → va_S (bN G) x.2.2.2.2.1.heap H locs → lv_has ls nL lo →
    W x.1 x.2.1 x.2.2.1 x.2.2.2.1 x.2.2.2.2.1 x.2.2.2.2.2.1 x.2.2.2.2.2.2.1 x.2.2.2.2.2.2.2.1 x.2.2.2.2.2.2.2.2.1 x.2.2.2.2.2.2.2.2.2 H locs (N - N0) slots Q (F0 x.2.2.2.2.2.1 pc ls st)
def PreN (G : Gl) (N : Nat) (w : Nat → va_E) (U : State) : Prop := va_P G.1 vwCl (wsN G N w) U.heap ∧ U.heap.size = G.2.1 + N ∧ EnvN G U
theorem PreN.blind (G : Gl) (N : Nat) (w : Nat → va_E) (av : List Value) : FrameBlind (va_Pc av (PreN G N w)) := by
  intro a U g mk h
  obtain ⟨h0, h1, h2, h3⟩ := h
  exact ⟨h0, h1, h2, h3.same rfl⟩
abbrev BwN (G : Gl) (N : Nat) (w : Nat → va_E) (t : State) : Prop := va_P G.1 vwCl (wsN G N w) t.heap
abbrev CvN (l : Launch) (y : MethodName) (cc : ByteArray) (nL : Nat) (rm : Room) (G : Gl) (av : List Value) (N0 N1 : Nat) (w : Nat → va_E) (post : (Nat → va_E) → Prop) : Prop :=
  Met l y (.code y cc nL none :: wsL_law) rm (va_Pc av (PreN G N0 w)) (va_Qv post (BwN G N1) (bN G)) rm.cells rm.slots (bN G)
theorem CvN_of {l : Launch} {y : MethodName} {cc : ByteArray} {nL : Nat} {rm : Room} {G : Gl} {av : List Value} {N0 N1 : Nat} {w : Nat → va_E} {post : (Nat → va_E) → Prop} {lo : List (Nat × Value)} {own : String} (ho : y.cls = own) (hy : plainName y.cls = true) (hlo : lv_args 0 av = lo) (hlen : (lg_sl av).length ≤ nL) (hc : N1 - N0 ≤ rm.cells)
    (body : ∀ (x : Cx) (Q : State → Prop), x.2.1 = l → CXN x G cc nL own rm N0 → (y.name = "<init>" → x.2.2.2.2.2.2.2.2.1.name = "<init>") → (∀ w2, post w2 → ∀ slots, slots ≤ rm.slots → ∀ pc lo', decode cc pc = .ok (.return_, 1) → VN x G nL N0 N1 slots Q w2 pc lo' []) → VN x G nL N0 N0 0 Q w 0 lo []) : CvN l y cc nL rm G av N0 N1 w post := by
  refine Met.ofW (cc := cc) (maxL := nL) (ret := none) hy rfl ?_
  intro p e s m args below meth c s₁ B hml hv
  obtain ⟨rfl, hP, hsz, hE⟩ := hv
  have hts := atoms_spec (ws := .code y cc nL none :: wsL_law) B.pre
  have hl := lv_entry av (n := nL) hlen
  rw [lg_entry_eq]
  rw [hlo] at hl
  have hr := B.returns
  have hb0 := body (p, l, e, rm, s, m, av.toArray, below, meth, c) (MQ below (va_Qv post (BwN G N1) (bN G)) av.toArray s rm.cells rm.slots (bN G)) rfl ⟨B.exec, B.bytes, hml, ho ▸ findClass_of_methodNamed B.named, fun w hw => hts w (List.mem_cons_of_mem _ hw), rfl, hE, B.notSynchronized, hsz⟩ (fun hn => (name_of_methodNamed B.named B.method).1.trans hn) ?_ s.heap [] _ hP va_S.rf hl
  · rw [Nat.sub_self] at hb0
    exact hb0
  · intro w2 hp slots hsl pc lo' hd H locs ls hP' hS' hl'
    exact W.widen hc hsl (W.vret B.exec B.bytes hr (fun t ht hW => ⟨⟨w2, rfl, hp, by show va_P _ _ _ _; rw [ht]; exact hP'⟩, hS'.F ht⟩) hS'.2.2 hd B.notSynchronized)
section
variable {x : Cx} {G : Gl} {cc : ByteArray} {nL : Nat} {own : String} {rm : Room} {N0 N slots : Nat} {Q : State → Prop} {w : Nat → va_E} {pc : Nat} {lo : List (Nat × Value)} {st st0 : List Value}
theorem VN.sz (h : CXN x G cc nL own rm N0) (hN : 1 ≤ N ∧ N0 ≤ N) {H : Heap} {locs : List Loc} {g : JFrame} (hP : va_P G.1 vwCl (wsN G N w) H) (k : H.size = G.2.1 + N → W x.1 x.2.1 x.2.2.1 x.2.2.2.1 x.2.2.2.2.1 x.2.2.2.2.2.1 x.2.2.2.2.2.2.1 x.2.2.2.2.2.2.2.1 x.2.2.2.2.2.2.2.2.1 x.2.2.2.2.2.2.2.2.2 H locs (N - N0) slots Q g) : W x.1 x.2.1 x.2.2.1 x.2.2.2.1 x.2.2.2.2.1 x.2.2.2.2.2.1 x.2.2.2.2.2.2.1 x.2.2.2.2.2.2.2.1 x.2.2.2.2.2.2.2.2.1 x.2.2.2.2.2.2.2.2.2 H locs (N - N0) slots Q g := fun T hT X => by
  have h1 := X.heapSize
  have h2 : G.2.1 + (N - 1) < H.size := (hP (N - 1) _ (wn_at G w (by omega))).lt
  have h3 := h.2.2.2.2.2.2.2.2
  rw [hT] at h1
  exact k (by omega) T hT X
theorem n_iconst (h : CXN x G cc nL own rm N0) {n : Int} {v : Int32} (hv : Int32.ofInt n = v) (d : decode cc pc = .ok (.iconst n, 1)) (k : VN x G nL N0 N slots Q w (pc + 1) lo (.int v :: st)) : VN x G nL N0 N slots Q w pc lo st := fun H lc ls hP hS hl => lv_iconst h.1 h.2.1 d hv (k H lc ls hP hS hl)
theorem n_bipush (h : CXN x G cc nL own rm N0) {n : Int} {v : Int32} (hv : (Int8.ofInt n).toInt32 = v) (d : decode cc pc = .ok (.bipush n, 2)) (k : VN x G nL N0 N slots Q w (pc + 2) lo (.int v :: st)) : VN x G nL N0 N slots Q w pc lo st := fun H lc ls hP hS hl => lv_bipush h.1 h.2.1 d hv (k H lc ls hP hS hl)
theorem n_sipush (h : CXN x G cc nL own rm N0) {n : Int} {v : Int32} (hv : (Int16.ofInt n).toInt32 = v) (d : decode cc pc = .ok (.sipush n, 3)) (k : VN x G nL N0 N slots Q w (pc + 3) lo (.int v :: st)) : VN x G nL N0 N slots Q w pc lo st := fun H lc ls hP hS hl => lv_sipush h.1 h.2.1 d hv (k H lc ls hP hS hl)
theorem n_iload_n (h : CXN x G cc nL own rm N0) (j : Nat) {i : Nat} {k4 : Fin 4} {v : Int32} (hi : (k4 : Nat) = i) (hv : lo[j]? = some (i, .int v)) (d : decode cc pc = .ok (.iload_n k4, 1)) (k : VN x G nL N0 N slots Q w (pc + 1) lo (.int v :: st)) : VN x G nL N0 N slots Q w pc lo st := fun H lc ls hP hS hl => lv_iload_n h.1 h.2.1 d hi (lv_at hl j hv) (k H lc ls hP hS hl)
theorem n_aload_n (h : CXN x G cc nL own rm N0) (j : Nat) {i : Nat} {k4 : Fin 4} {v : Nat} (hi : (k4 : Nat) = i) (hv : lo[j]? = some (i, .ref v)) (d : decode cc pc = .ok (.aload_n k4, 1)) (k : VN x G nL N0 N slots Q w (pc + 1) lo (.ref v :: st)) : VN x G nL N0 N slots Q w pc lo st := fun H lc ls hP hS hl => lv_aload_n h.1 h.2.1 d hi (lv_at hl j hv) (k H lc ls hP hS hl)
theorem n_istore_n (h : CXN x G cc nL own rm N0) {i : Nat} {k4 : Fin 4} {v : Int32} {lo2 : List (Nat × Value)} (hi : (k4 : Nat) = i) (hn : i < nL) (hl2 : (i, Value.int v) :: lo.filter (fun q => !(q.1 == i) && !(q.1 + 1 == i && q.2.category == 2)) = lo2) (d : decode cc pc = .ok (.istore_n k4, 1)) (k : VN x G nL N0 N slots Q w (pc + 1) lo2 st) : VN x G nL N0 N slots Q w pc lo (Value.int v :: st) := fun H lc ls hP hS hl => lv_istore_n h.1 h.2.1 d hi hl hn hl2 (fun ls2 hl3 => k H lc ls2 hP hS hl3)
theorem n_astore_n (h : CXN x G cc nL own rm N0) {i : Nat} {k4 : Fin 4} {v : Nat} {lo2 : List (Nat × Value)} (hi : (k4 : Nat) = i) (hn : i < nL) (hl2 : (i, Value.ref v) :: lo.filter (fun q => !(q.1 == i) && !(q.1 + 1 == i && q.2.category == 2)) = lo2) (d : decode cc pc = .ok (.astore_n k4, 1)) (k : VN x G nL N0 N slots Q w (pc + 1) lo2 st) : VN x G nL N0 N slots Q w pc lo (Value.ref v :: st) := fun H lc ls hP hS hl => lv_astore_n h.1 h.2.1 d hi hl hn hl2 (fun ls2 hl3 => k H lc ls2 hP hS hl3)
theorem n_iinc (h : CXN x G cc nL own rm N0) (j : Nat) {i : Nat} {n : Int} {u v : Int32} {lo2 : List (Nat × Value)} (hj : lo[j]? = some (i, .int u)) (hv : u + Int32.ofInt n = v) (hn : i < nL) (hl2 : (i, Value.int v) :: lo.filter (fun q => !(q.1 == i) && !(q.1 + 1 == i && q.2.category == 2)) = lo2) (d : decode cc pc = .ok (.iinc i n, 3)) (k : VN x G nL N0 N slots Q w (pc + 3) lo2 st) : VN x G nL N0 N slots Q w pc lo st := fun H lc ls hP hS hl => lv_iinc h.1 h.2.1 d hl hj hv hn hl2 (fun ls2 hl3 => k H lc ls2 hP hS hl3)
theorem n_dup (h : CXN x G cc nL own rm N0) {v : Value} (hv : v.category = 1) (d : decode cc pc = .ok (.dup, 1)) (k : VN x G nL N0 N slots Q w (pc + 1) lo (v :: v :: st)) : VN x G nL N0 N slots Q w pc lo (v :: st) := fun H lc ls hP hS hl => lv_dup h.1 h.2.1 d hv (k H lc ls hP hS hl)
theorem n_icmp_ge (h : CXN x G cc nL own rm N0) {a b : Int32} {off : Int} {tgt : Nat} (ht : (pc : Int) + off = (tgt : Int)) (d : decode cc pc = .ok (.if_icmp .ge off, 3)) (kt : b ≤ a → VN x G nL N0 N slots Q w tgt lo st) (kf : ¬ b ≤ a → VN x G nL N0 N slots Q w (pc + 3) lo st) : VN x G nL N0 N slots Q w pc lo (.int b :: .int a :: st) := fun H lc ls hP hS hl => lv_icmp_ge h.1 h.2.1 d ht (fun q => kt q H lc ls hP hS hl) (fun q => kf q H lc ls hP hS hl)
theorem n_goto (h : CXN x G cc nL own rm N0) {off : Int} {tgt : Nat} (ht : (pc : Int) + off = (tgt : Int)) (d : decode cc pc = .ok (.goto off, 3)) (k : VN x G nL N0 N slots Q w tgt lo st) : VN x G nL N0 N slots Q w pc lo st := fun H lc ls hP hS hl => lv_goto h.1 h.2.1 d ht (k H lc ls hP hS hl)
theorem VN.cong {w2 : Nat → va_E} (e : ∀ j, j < N → w j = w2 j) (k : VN x G nL N0 N slots Q w2 pc lo st) : VN x G nL N0 N slots Q w pc lo st := fun H lc ls hP hS hl => k H lc ls (by rw [← wn_cong e]; exact hP) hS hl
theorem VN.sub (ks : List Nat) {lo2 : List (Nat × Value)} (hl2 : lv_pick lo ks = lo2) (k : VN x G nL N0 N slots Q w pc lo2 st) : VN x G nL N0 N slots Q w pc lo st := fun H lc ls hP hS hl => k H lc ls hP hS (lv_sub hl ks hl2)
theorem n_obj (h : CXN x G cc nL own rm N0) {idx c : Nat} (hw : Cond.methodLink own idx objectInit ∈ wsL_law) (h1 : Cond.instanceMethod objectInit ∈ wsL_law) (h2 : Cond.code objectInit ⟨#[0xb1]⟩ 1 none ∈ wsL_law) (hR : 1 ≤ rm.frames ∧ (st.map fun v => v.category).sum + 12 ≤ rm.locals) (d : decode cc pc = .ok (.invokespecial idx, 3)) (k : VN x G nL N0 N slots Q w (pc + 3) lo st) : VN x G nL N0 N slots Q w pc lo (.ref (G.2.1 + c) :: st) := by
  intro H lc ls hP hS hl
  obtain ⟨hx, hb, hml, hown, hts, hrm, hE, hlk, hsz⟩ := id h
  exact W.objInit hx hb hown (hts _ hw) (hts _ h1) (hts _ h2) rfl (hl.1.trans hml.symm) rfl d (by rw [hrm]; exact hR.1) (by rw [hrm]; show 2 * 0 + _ + 12 ≤ _; rw [Nat.mul_zero, Nat.zero_add]; exact hR.2) (k H lc ls hP hS hl)
theorem n_new (h : CXN x G cc nL own rm N0) (hN : N0 ≤ N) {idx ci NF : Nat} {C : String} {T : u_T} {fs : List Value} (ty : Nat → FieldType) (hty : ∀ k, k < NF → parseFieldDescriptor (T k).2.2.1 = some (ty k)) (hcl : vwCl[ci]? = some (C, T, NF)) (hin : ∀ w ∈ u_ws C T NF, w ∈ wsL_law) (w1 : Cond.classLink own idx C ∈ wsL_law) (w2 : Cond.instantiable C NF ∈ wsL_law) (w3 : Cond.initialized C ∈ wsL_law) (hfs : ∀ j, j < NF → defaultValue (ty j) = vp_V fs j) (hR : N + 1 - N0 ≤ rm.cells ∧ slots + NF ≤ rm.slots) (d : decode cc pc = .ok (.new idx, 3)) (k : VN x G nL N0 (N + 1) (slots + NF) Q (va_up w N (.inr (ci, fs))) (pc + 3) lo (.ref (G.2.1 + N) :: st)) : VN x G nL N0 N slots Q w pc lo st := by
  intro H lc ls hP hS hl
  obtain ⟨hx, hb, hml, hown, hts, hrm, hE, hlk, hsz⟩ := id h
  refine va_new (ci := ci) (fs := fs) hx hb hts hin ty hty hown (hts _ w1) (hts _ w2) (hts _ w3) hE.1 hP wn_D hS (fun q hq => by show G.2.1 ≤ q; omega) hcl hfs (by rw [hrm]; omega) (by rw [hrm]; exact hR.2) d (fun q H1 hP1 hD1 hS1 => ?_)
  have e1 : N - N0 + 1 = N + 1 - N0 := by omega
  rw [e1]
  intro T hT X
  have h1 := X.heapSize
  rw [hT] at h1
  have hq : q = G.2.1 + N := wn_q hP1 hD1 (by omega)
  subst hq
  exact k H1 lc ls (by rw [← wn_push]; exact hP1) hS1 hl T hT X
theorem n_newa (h : CXN x G cc nL own rm N0) (hN : N0 ≤ N) {atype : ArrayType} {t n : Nat} {ty : FieldType} {a0 : vp_A} (hty : newarray.typeOf atype = ty) (ht : (tysOf G)[t]? = some (G.2.2 t, ty)) (hw : Cond.arrayClass ty ∈ wsL_law) (ha : ∀ cA : ClassId, vp_cell cA a0 = arrV cA n (fun _ => defaultValue ty)) (hn : n < 2 ^ 31) (hbytes : n * componentBytes ty ≤ 536870912) (hR : N + 1 - N0 ≤ rm.cells ∧ slots + n ≤ rm.slots) (d : decode cc pc = .ok (.newarray atype, 2)) (k : VN x G nL N0 (N + 1) (slots + n) Q (va_up w N (.inl (G.2.2 t, a0))) (pc + 2) lo (.ref (G.2.1 + N) :: st)) : VN x G nL N0 N slots Q w pc lo (.int (nI n) :: st) := by
  intro H lc ls hP hS hl
  obtain ⟨hx, hb, hml, hown, hts, hrm, hE, hlk, hsz⟩ := id h
  have hn0 : ¬ nI n < 0 := by rw [zI0, nI_ltI hn (by omega)]; omega
  refine va_newa (atype := atype) (ty := ty) (a0 := a0) (N' := n) hx hb (by rw [hty]; exact hts _ hw) hty hE.1 hP wn_D hS (fun q hq => by show G.2.1 ≤ q; omega) ha hn0 (nI_clamp hn) hbytes (by rw [hrm]; omega) (by rw [hrm]; exact hR.2) d (fun q cA H1 hK1 hP1 hD1 hS1 => ?_)
  have e1 : N - N0 + 1 = N + 1 - N0 := by omega
  rw [e1]
  have hcA : cA = G.2.2 t := ra_eq (hK1.2 (tysOf G).length (cA, ty) (by rw [List.getElem?_append_right (Nat.le_refl _), Nat.sub_self]; rfl)).2 (hE.1.2 t _ ht).2
  subst hcA
  intro T hT X
  have h1 := X.heapSize
  rw [hT] at h1
  have hq : q = G.2.1 + N := wn_q hP1 hD1 (by omega)
  subst hq
  exact k H1 lc ls (by rw [← wn_push]; exact hP1) hS1 hl T hT X
theorem n_newq (h : CXN x G cc nL own rm N0) (hN : N0 ≤ N) {idx n : Nat} (hw : Cond.classLink own idx "RuleLists$State" ∈ wsL_law) (hn : n < 2 ^ 31) (hbytes : n * 4 ≤ 536870912) (hR : N + 1 - N0 ≤ rm.cells ∧ slots + n ≤ rm.slots) (d : decode cc pc = .ok (.anewarray idx, 3)) (k : VN x G nL N0 (N + 1) (slots + n) Q (va_up w N (.inl (G.2.2 4, n, .inr (.inr (.inr (.inr (fun _ => none))))))) (pc + 3) lo (.ref (G.2.1 + N) :: st)) : VN x G nL N0 N slots Q w pc lo (.int (nI n) :: st) := by
  intro H lc ls hP hS hl
  obtain ⟨hx, hb, hml, hown, hts, hrm, hE, hlk, hsz⟩ := id h
  have hn0 : ¬ nI n < 0 := by rw [zI0, nI_ltI hn (by omega)]; omega
  refine va_newq (C := "RuleLists$State") (N' := n) hx hb hown (hts _ hw) hE.2.2.2.2.2.2 hE.1 hP wn_D hS (fun q hq => by show G.2.1 ≤ q; omega) hn0 (nI_clamp hn) hbytes (by rw [hrm]; omega) (by rw [hrm]; exact hR.2) d (fun q cA H1 hK1 hP1 hD1 hS1 => ?_)
  have e1 : N - N0 + 1 = N + 1 - N0 := by omega
  rw [e1]
  have hcA : cA = G.2.2 4 := ra_eq (hK1.2 (tysOf G).length (cA, .object "RuleLists$State") (by rw [List.getElem?_append_right (Nat.le_refl _), Nat.sub_self]; rfl)).2 (hE.1.2 4 _ rfl).2
  subst hcA
  intro T hT X
  have h1 := X.heapSize
  rw [hT] at h1
  have hq : q = G.2.1 + N := wn_q hP1 hD1 (by omega)
  subst hq
  exact k H1 lc ls (by rw [← wn_push]; exact hP1) hS1 hl T hT X
theorem n_putF (h : CXN x G cc nL own rm N0) (hini : x.2.2.2.2.2.2.2.2.1.name = "<init>") {ci idx NF : Nat} {T : u_T} {fs : List Value} {fty : FieldType} {v : Value} (c j : Nat) (ty : Nat → FieldType) (hty : ∀ k, k < NF → parseFieldDescriptor (T k).2.2.1 = some (ty k)) (hnm : ∀ a, a < NF → ∀ b, b < NF → a ≠ b → (T a).2.1 ≠ (T b).2.1) (hcl : vwCl[ci]? = some (own, T, NF)) (hin : ∀ w ∈ u_ws own T NF, w ∈ wsL_law) (hc : c < N) (he : w c = .inr (ci, fs)) (hj : j < NF) (hw : Cond.fieldLink own idx own (T j).2.1 (T j).2.2.1 ∈ wsL_law) (hT : (T j).1 = own) (hfin : (T j).2.2.2 = true) (hd : parseFieldDescriptor (T j).2.2.1 = some fty) (hn : narrow fty v = v) (hfit : fits fty v = true) (hl0 : j < fs.length) (d : decode cc pc = .ok (.putfield idx, 3)) (k : VN x G nL N0 N slots Q (va_up w c (.inr (ci, fs.set j v))) (pc + 3) lo st) : VN x G nL N0 N slots Q w pc lo (v :: .ref (G.2.1 + c) :: st) := by
  intro H lc ls hP hS hl
  obtain ⟨hx, hb, hml, hown, hts, hrm, hE, hlk, hsz⟩ := id h
  refine va_putF (ci := ci) (ty := fty) (v := v) (C := own) (T := T) (N := NF) hx hb hts hin ty hty hnm hown hE.1 hP wn_D hS c ((wn_at G w hc).trans (by rw [he])) hcl j hj (hts _ hw) (fun x9 h9 => by rw [hT] at h9; exact h9) hfin hini hT hd hn hfit hl0 d (fun H1 lc1 hP1 hD1 hS1 => ?_)
  exact k H1 lc1 ls (by rw [← wn_set _ hc]; exact hP1) hS1 hl
theorem n_get (h : CXN x G cc nL own rm N0) {ci idx NF : Nat} {T : u_T} {fs : List Value} {v : Value} (c j : Nat) (hcl : vwCl[ci]? = some (own, T, NF)) (hin : ∀ w ∈ u_ws own T NF, w ∈ wsL_law) (hc : c < N) (he : w c = .inr (ci, fs)) (hj : j < NF) (hw : Cond.fieldLink own idx own (T j).2.1 (T j).2.2.1 ∈ wsL_law) (hT : (T j).1 = own) (hv : fs[j]? = some v) (d : decode cc pc = .ok (.getfield idx, 3)) (k : VN x G nL N0 N slots Q w (pc + 3) lo (v :: st)) : VN x G nL N0 N slots Q w pc lo (.ref (G.2.1 + c) :: st) := by
  intro H lc ls hP hS hl
  obtain ⟨hx, hb, hml, hown, hts, hrm, hE, hlk, hsz⟩ := id h
  exact va_get hx hb hts hin hown hE.1 hP c ((wn_at G w hc).trans (by rw [he])) hcl j hj (hts _ hw) (fun x9 h9 => by rw [hT] at h9; exact h9) hv d (k H lc ls hP hS hl)
/-- a State into a row of States -/
theorem n_ast (h : CXN x G cc nL own rm N0) {n : Nat} {f : Nat → Option Nat} {vs : List Value} (c cv j : Nat) (hc : c < N) (he : w c = .inl (G.2.2 4, n, .inr (.inr (.inr (.inr f))))) (hv : cv < N) (hev : w cv = .inr (3, vs)) (hj : j < n) (hn : n < 2 ^ 31) (d : decode cc pc = .ok (.aastore, 1)) (k : VN x G nL N0 N slots Q (va_up w c (.inl (G.2.2 4, n, .inr (.inr (.inr (.inr (va_up f j (some (G.2.1 + cv))))))))) (pc + 1) lo st) : VN x G nL N0 N slots Q w pc lo (.ref (G.2.1 + cv) :: .int (nI j) :: .ref (G.2.1 + c) :: st) := by
  intro H lc ls hP hS hl
  obtain ⟨hx, hb, hml, hown, hts, hrm, hE, hlk, hsz⟩ := id h
  refine va_astq (r := (RX3, TX3, 2)) hx hb hE.1 hP wn_D hS c 4 cv 3 ((wn_at G w hc).trans (by rw [he])) rfl ((wn_at G w hv).trans (by rw [hev])) rfl (vp_in_nI hj hn) d (fun H1 lc1 hP1 hD1 hS1 => ?_)
  rw [nI_clamp (Nat.lt_trans hj hn)] at hP1
  exact k H1 lc1 ls (by rw [← wn_set _ hc]; exact hP1) hS1 hl
/-- a constructor of a nest mate -/
theorem n_callN (h : CXN x G cc nL own rm N0) (hN : 1 ≤ N ∧ N0 ≤ N) {idx N1 c : Nat} {host : String} {y : MethodName} {ccy : ByteArray} {maxL : Nat} {rmy : Room} {post : (Nat → va_E) → Prop} (hnw : va_Nw (.methodLinkNest own idx y host) x.2.2.2.2.1) (l1 : Cond.initialized y.cls ∈ wsL_law) (l2 : Cond.code y ccy maxL none ∈ wsL_law) (l3 : y.cls ≠ "java/lang/invoke/MethodHandle" ∧ y.cls ≠ "java/lang/invoke/VarHandle") (l4 : (parseMethodDescriptor y.desc).map (fun d => d.parameters.length) = some 0) (l5 : Cond.instanceMethod y ∈ wsL_law) (l6 : y.name = "<init>")
    (hM : CvN x.2.1 y ccy maxL rmy G [.ref (G.2.1 + c)] N N1 w post) (hR : rmy.frames + 1 ≤ rm.frames ∧ 8 + (maxL + 11) + rmy.locals ≤ rm.locals) (hW : (st.map fun v => v.category).sum ≤ 8) (hf : N1 - N0 ≤ rm.cells ∧ slots + rmy.slots ≤ rm.slots) (hc1 : rmy.cells = N1 - N) (hNN : N ≤ N1) (d : decode cc pc = .ok (.invokespecial idx, 3))
    (k : ∀ w2, post w2 → VN x G nL N0 N1 (slots + rmy.slots) Q w2 (pc + 3) lo st) : VN x G nL N0 N slots Q w pc lo (.ref (G.2.1 + c) :: st) := by
  intro H lc ls hP hS hl
  refine VN.sz h hN hP (fun hsH => ?_)
  obtain ⟨hx, hb, hml, hown, hts, hrm, hE, hlk, hsz⟩ := id h
  refine va_callv (va_runIN (Ts := wsL_law) (host := host) (As := []) (rest := st) ⟨hx, hb, hml, hown, hts⟩ hM ⟨⟨⟨rfl, rfl, by rw [hrm]; exact hR.1, by rw [hrm]; exact hR.2, law_pay hts l2, List.mem_cons_self⟩, hts _ l2, hts _ l1, l3, fun sig hs => (by rw [hs] at l4; exact (Option.some.inj l4).symm), va_Nw.use rfl hnw⟩, l6, hts _ l5⟩ ⟨PreN.blind G N w _, fun U hU hW => ⟨rfl, by rw [hU]; exact hP, by rw [hU]; exact hsH, hE.warm hW⟩⟩ rfl rfl hl.1 rfl (lv_room hW) d (by rw [hrm, hc1]; omega)) hS (fun _ _ q => q) (fun _ q => q) (fun u t H1 locs1 ht hvm hp hB hz1 hk1 hS1 => ?_)
  have e1 : N - N0 + rmy.cells = N1 - N0 := by omega
  rw [e1]
  exact k u hp H1 locs1 ls (by rw [← ht]; exact hB) hS1 hl
/-- a constructor by a link of the tables -/
theorem n_callI (h : CXN x G cc nL own rm N0) (hN : 1 ≤ N ∧ N0 ≤ N) {idx N1 c : Nat} {y : MethodName} {ccy : ByteArray} {maxL : Nat} {rmy : Room} {post : (Nat → va_E) → Prop} (lk : LKB own idx y ccy maxL none 0) (l5 : Cond.instanceMethod y ∈ wsL_law) (l6 : y.name = "<init>")
    (hM : CvN x.2.1 y ccy maxL rmy G [.ref (G.2.1 + c)] N N1 w post) (hR : rmy.frames + 1 ≤ rm.frames ∧ 8 + (maxL + 11) + rmy.locals ≤ rm.locals) (hW : (st.map fun v => v.category).sum ≤ 8) (hf : N1 - N0 ≤ rm.cells ∧ slots + rmy.slots ≤ rm.slots) (hc1 : rmy.cells = N1 - N) (hNN : N ≤ N1) (d : decode cc pc = .ok (.invokespecial idx, 3))
    (k : ∀ w2, post w2 → VN x G nL N0 N1 (slots + rmy.slots) Q w2 (pc + 3) lo st) : VN x G nL N0 N slots Q w pc lo (.ref (G.2.1 + c) :: st) := by
  intro H lc ls hP hS hl
  refine VN.sz h hN hP (fun hsH => ?_)
  obtain ⟨hx, hb, hml, hown, hts, hrm, hE, hlk, hsz⟩ := id h
  refine va_callv (va_runI (Ts := wsL_law) (As := []) (rest := st) ⟨hx, hb, hml, hown, hts⟩ hM ⟨lk.cb hts (by rw [hrm]; exact hR), l6, hts _ l5⟩ ⟨PreN.blind G N w _, fun U hU hW => ⟨rfl, by rw [hU]; exact hP, by rw [hU]; exact hsH, hE.warm hW⟩⟩ rfl rfl hl.1 rfl (lv_room hW) d (by rw [hrm, hc1]; omega)) hS (fun _ _ q => q) (fun _ q => q) (fun u t H1 locs1 ht hvm hp hB hz1 hk1 hS1 => ?_)
  have e1 : N - N0 + rmy.cells = N1 - N0 := by omega
  rw [e1]
  exact k u hp H1 locs1 ls (by rw [← ht]; exact hB) hS1 hl
/-- a static method that makes nothing -/
theorem n_callS (h : CXN x G cc nL own rm N0) (hN : 1 ≤ N ∧ N0 ≤ N) {idx n : Nat} {y : MethodName} {ccy : ByteArray} {maxL : Nat} {rmy : Room} {As : List Value} {post : (Nat → va_E) → Prop} (lk : LKS own idx y ccy maxL none n)
    (hM : CvN x.2.1 y ccy maxL rmy G As N N w post) (hst : st0 = As.reverse ++ st) (hn : As.length = n) (hR : rmy.frames + 1 ≤ rm.frames ∧ 8 + (maxL + 11) + rmy.locals ≤ rm.locals) (hW : (st.map fun v => v.category).sum ≤ 8) (hf : N - N0 ≤ rm.cells ∧ slots + rmy.slots ≤ rm.slots) (hc1 : rmy.cells = 0) (d : decode cc pc = .ok (.invokestatic idx, 3))
    (k : ∀ w2, post w2 → VN x G nL N0 N (slots + rmy.slots) Q w2 (pc + 3) lo st) : VN x G nL N0 N slots Q w pc lo st0 := by
  subst hst
  intro H lc ls hP hS hl
  refine VN.sz h hN hP (fun hsH => ?_)
  obtain ⟨hx, hb, hml, hown, hts, hrm, hE, hlk, hsz⟩ := id h
  refine va_callv (va_runS (Ts := wsL_law) (As := As) (rest := st) ⟨hx, hb, hml, hown, hts⟩ hM ⟨lk.1.cb hts (by rw [hrm]; exact hR), hts _ lk.2⟩ ⟨PreN.blind G N w _, fun U hU hW => ⟨rfl, by rw [hU]; exact hP, by rw [hU]; exact hsH, hE.warm hW⟩⟩ rfl hn hl.1 rfl (lv_room hW) d (by rw [hrm, hc1]; omega)) hS (fun _ _ q => q) (fun _ q => q) (fun u t H1 locs1 ht hvm hp hB hz1 hk1 hS1 => ?_)
  have e1 : N - N0 + rmy.cells = N - N0 := by omega
  rw [e1]
  exact k u hp H1 locs1 ls (by rw [← ht]; exact hB) hS1 hl
/-- a number into a row of numbers that holds it already -/
theorem n_iast0 (h : CXN x G cc nL own rm N0) {n : Nat} {f : Nat → Int32} (c j : Nat) (hc : c < N) (he : w c = .inl (G.2.2 0, n, .inl f)) (hj : j < n) (hn : n < 2 ^ 31) {v : Int32} (hv : f j = v) (d : decode cc pc = .ok (.iastore, 1)) (k : VN x G nL N0 N slots Q w (pc + 1) lo st) : VN x G nL N0 N slots Q w pc lo (.int v :: .int (nI j) :: .ref (G.2.1 + c) :: st) := by
  subst hv
  intro H lc ls hP hS hl
  obtain ⟨hx, hb, hml, hown, hts, hrm, hE, hlk, hsz⟩ := id h
  refine va_iast hx hb hE.1 hP wn_D hS c 0 ((wn_at G w hc).trans (by rw [he])) rfl (vp_in_nI hj hn) d (fun H1 lc1 hP1 hD1 hS1 => ?_)
  rw [nI_clamp (Nat.lt_trans hj hn)] at hP1
  refine k H1 lc1 ls ?_ hS1 hl
  rw [wn_set _ hc] at hP1
  rw [wn_cong (w2 := va_up w c (.inl (G.2.2 0, n, .inl (upd f j (f j))))) (fun i hi => by
    by_cases e : i = c
    · subst e; rw [va_s, he, upd_self]
    · rw [va_n _ _ e])]
  exact hP1
end
