/-! CALLS over V: the callee's words are the law's own list, so a link is a handful of memberships -/
theorem good_law : wsL_law.all goodWord = true := by decide +kernel
theorem law_pay {args : Array Value} {s : State} (hts : ∀ w ∈ wsL_law, w.before args s = true) {w0 : Cond} (h0 : w0 ∈ wsL_law) : ∀ w ∈ w0 :: wsL_law, ∀ (a' : Array Value) (U : State), s.WarmedH U.vm → w.before a' U = true :=
  pay_in (big := wsL_law) hts (fun w hw => by
    have hm : w ∈ wsL_law := (List.mem_cons.mp hw).elim (fun e => by rw [e]; exact h0) id
    exact ⟨hm, good_of_word (List.all_eq_true.mp good_law w hm)⟩)
/-- a link of the class own, at the place idx of its pool, to the method y -/
def LKB (own : String) (idx : Nat) (y : MethodName) (bytes : ByteArray) (maxL : Nat) (ret : Option FieldType) (n : Nat) : Prop :=
  Cond.methodLink own idx y ∈ wsL_law ∧ Cond.initialized y.cls ∈ wsL_law ∧ Cond.code y bytes maxL ret ∈ wsL_law ∧ (y.cls ≠ "java/lang/invoke/MethodHandle" ∧ y.cls ≠ "java/lang/invoke/VarHandle") ∧ (parseMethodDescriptor y.desc).map (fun d => d.parameters.length) = some n
def LKV (own : String) (idx : Nat) (C : String) (y : MethodName) (bytes : ByteArray) (maxL : Nat) (ret : Option FieldType) (n : Nat) : Prop :=
  LKB own idx y bytes maxL ret n ∧ Cond.instanceMethod y ∈ wsL_law ∧ Cond.selects C y y ∈ wsL_law
def LKS (own : String) (idx : Nat) (y : MethodName) (bytes : ByteArray) (maxL : Nat) (ret : Option FieldType) (n : Nat) : Prop :=
  LKB own idx y bytes maxL ret n ∧ Cond.static y ∈ wsL_law
/-- a nest mate's static method, by a link that is no word -/
def LKN (y : MethodName) (bytes : ByteArray) (maxL : Nat) (ret : Option FieldType) (n : Nat) : Prop :=
  Cond.initialized y.cls ∈ wsL_law ∧ Cond.code y bytes maxL ret ∈ wsL_law ∧ (y.cls ≠ "java/lang/invoke/MethodHandle" ∧ y.cls ≠ "java/lang/invoke/VarHandle") ∧ (parseMethodDescriptor y.desc).map (fun d => d.parameters.length) = some n ∧ Cond.static y ∈ wsL_law
theorem LKB.cb {own : String} {idx : Nat} {y : MethodName} {bytes : ByteArray} {maxL : Nat} {ret : Option FieldType} {n : Nat} (lk : LKB own idx y bytes maxL ret n) {R : Room} {s : State} {args : Array Value} {rm : Room} (hts : ∀ w ∈ wsL_law, w.before args s = true) (hR : rm.frames + 1 ≤ R.frames ∧ 8 + (maxL + 11) + rm.locals ≤ R.locals) :
    CallB R s args own idx y bytes maxL ret (.code y bytes maxL ret :: wsL_law) rm rm.cells rm.slots n := by
  obtain ⟨h1, h2, h3, h4, h5⟩ := lk
  refine ⟨rfl, rfl, hR.1, hR.2, law_pay hts h3, List.mem_cons_self, hts _ h3, hts _ h2, h4, fun sig hs => ?_, hts _ h1⟩
  rw [hs] at h5
  exact (Option.some.inj h5).symm
section
variable {x : Cx} {G : Gl} {cc : ByteArray} {nL : Nat} {own : String} {rm : Room} {cells slots : Nat} {Q : State → Prop} {σ : Sg} {pc : Nat} {lo : List (Nat × Value)} {st st0 : List Value}
theorem Pre.now (h : CX x G cc nL own rm) {H : Heap} {locs : List Loc} (hP : va_P G.1 vwCl (wsC G σ) H) (hS : va_S (bA G) x.2.2.2.2.1.heap H locs) (U : State) (hU : U.heap = H) (hW : x.2.2.2.2.1.WarmedH U.vm) : Pre G σ U :=
  ⟨by rw [hU]; exact hP, h.2.2.2.2.2.2.1.at hU hW hS⟩
/-- the receiver of a call: the cell c, an object of the class C -/
def Rcv (G : Gl) (σ : Sg) (c : Nat) (C : String) : Prop := c < 134 ∧ ∃ (ci : Nat) (fs : List Value) (T : u_T) (N : Nat), cel G c (σ.1 c) (σ.2 c) = .inr (ci, fs) ∧ vwCl[ci]? = some (C, T, N)
theorem Rcv.cell {s : State} {C : String} {c : Nat} {H : Heap} (hK : va_K G.1 vwCl (tysOf G) s) (hP : va_P G.1 vwCl (wsC G σ) H) (hr : Rcv G σ c C) : ∃ cell : Cell, H[G.2.1 + c]? = some cell ∧ cell.vm.isStatics = false ∧ s.vm.findClass C = some cell.cls := by
  obtain ⟨hc, ci, fs, T, N, he, hcl⟩ := hr
  exact va_recv hK hP (q0 := c) hcl ((ws_at G σ hc).trans (by rw [he]))
theorem r_cVi (h : CX x G cc nL own rm) {idx : Nat} {C : String} {y : MethodName} {ccy : ByteArray} {maxL n : Nat} {ty : FieldType} {rmy : Room} {c : Nat} {As : List Value} {post : Int32 → Sg → Prop} (lk : LKV own idx C y ccy maxL (some ty) n)
    (hM : Ci x.2.1 y ccy maxL ty rmy G (.ref (G.2.1 + c) :: As) σ post) (hrc : Rcv G σ c C) (hR : rmy.frames + 1 ≤ rm.frames ∧ 8 + (maxL + 11) + rmy.locals ≤ rm.locals) (hst : st0 = As.reverse ++ .ref (G.2.1 + c) :: st) (hn : As.length = n) (hW : (st.map fun v => v.category).sum ≤ 8) (hf : cells + rmy.cells ≤ rm.cells ∧ slots + rmy.slots ≤ rm.slots) (d : decode cc pc = .ok (.invokevirtual idx, 3))
    (k : ∀ r σ', post r σ' → V x G nL (cells + rmy.cells) (slots + rmy.slots) Q σ' (pc + 3) lo (.int r :: st)) : V x G nL cells slots Q σ pc lo st0 := by
  subst hst
  intro H lc ls hP hS hl
  obtain ⟨hx, hb, hml, hown, hts, hrm, hE, hlk⟩ := id h
  refine va_calli (va_runV (Ts := wsL_law) (C := C) (b := G.2.1 + c) (As := As) (rest := st) ⟨hx, hb, hml, hown, hts⟩ hM ⟨lk.1.cb hts (by rw [hrm]; exact hR), hts _ lk.2.1, hts _ lk.2.2⟩ ⟨Pre.blind G σ _, hrc.cell hE.1 hP, fun U hU hW => ⟨rfl, Pre.now h hP hS U hU hW⟩⟩ rfl hn hl.1 rfl (lv_room hW) d (by rw [hrm]; exact hf)) hS (fun _ _ q => q) (fun _ q => q) (fun r u t H1 locs ht hvm hp hB hz1 hk1 hS1 => ?_)
  exact k r u hp H1 locs ls (by rw [← ht]; exact hB) hS1 hl
theorem r_cVv (h : CX x G cc nL own rm) {idx : Nat} {C : String} {y : MethodName} {ccy : ByteArray} {maxL n : Nat} {rmy : Room} {c : Nat} {As : List Value} {post : Sg → Prop} (lk : LKV own idx C y ccy maxL none n)
    (hM : Cv x.2.1 y ccy maxL rmy G (.ref (G.2.1 + c) :: As) σ post) (hrc : Rcv G σ c C) (hR : rmy.frames + 1 ≤ rm.frames ∧ 8 + (maxL + 11) + rmy.locals ≤ rm.locals) (hst : st0 = As.reverse ++ .ref (G.2.1 + c) :: st) (hn : As.length = n) (hW : (st.map fun v => v.category).sum ≤ 8) (hf : cells + rmy.cells ≤ rm.cells ∧ slots + rmy.slots ≤ rm.slots) (d : decode cc pc = .ok (.invokevirtual idx, 3))
    (k : ∀ σ', post σ' → V x G nL (cells + rmy.cells) (slots + rmy.slots) Q σ' (pc + 3) lo st) : V x G nL cells slots Q σ pc lo st0 := by
  subst hst
  intro H lc ls hP hS hl
  obtain ⟨hx, hb, hml, hown, hts, hrm, hE, hlk⟩ := id h
  refine va_callv (va_runV (Ts := wsL_law) (C := C) (b := G.2.1 + c) (As := As) (rest := st) ⟨hx, hb, hml, hown, hts⟩ hM ⟨lk.1.cb hts (by rw [hrm]; exact hR), hts _ lk.2.1, hts _ lk.2.2⟩ ⟨Pre.blind G σ _, hrc.cell hE.1 hP, fun U hU hW => ⟨rfl, Pre.now h hP hS U hU hW⟩⟩ rfl hn hl.1 rfl (lv_room hW) d (by rw [hrm]; exact hf)) hS (fun _ _ q => q) (fun _ q => q) (fun u t H1 locs ht hvm hp hB hz1 hk1 hS1 => ?_)
  exact k u hp H1 locs ls (by rw [← ht]; exact hB) hS1 hl
theorem r_cSi (h : CX x G cc nL own rm) {idx : Nat} {y : MethodName} {ccy : ByteArray} {maxL n : Nat} {ty : FieldType} {rmy : Room} {As : List Value} {post : Int32 → Sg → Prop} (lk : LKS own idx y ccy maxL (some ty) n)
    (hM : Ci x.2.1 y ccy maxL ty rmy G As σ post) (hR : rmy.frames + 1 ≤ rm.frames ∧ 8 + (maxL + 11) + rmy.locals ≤ rm.locals) (hst : st0 = As.reverse ++ st) (hn : As.length = n) (hW : (st.map fun v => v.category).sum ≤ 8) (hf : cells + rmy.cells ≤ rm.cells ∧ slots + rmy.slots ≤ rm.slots) (d : decode cc pc = .ok (.invokestatic idx, 3))
    (k : ∀ r σ', post r σ' → V x G nL (cells + rmy.cells) (slots + rmy.slots) Q σ' (pc + 3) lo (.int r :: st)) : V x G nL cells slots Q σ pc lo st0 := by
  subst hst
  intro H lc ls hP hS hl
  obtain ⟨hx, hb, hml, hown, hts, hrm, hE, hlk⟩ := id h
  refine va_calli (va_runS (Ts := wsL_law) (As := As) (rest := st) ⟨hx, hb, hml, hown, hts⟩ hM ⟨lk.1.cb hts (by rw [hrm]; exact hR), hts _ lk.2⟩ ⟨Pre.blind G σ _, fun U hU hW => ⟨rfl, Pre.now h hP hS U hU hW⟩⟩ rfl hn hl.1 rfl (lv_room hW) d (by rw [hrm]; exact hf)) hS (fun _ _ q => q) (fun _ q => q) (fun r u t H1 locs ht hvm hp hB hz1 hk1 hS1 => ?_)
  exact k r u hp H1 locs ls (by rw [← ht]; exact hB) hS1 hl
theorem r_cSv (h : CX x G cc nL own rm) {idx : Nat} {y : MethodName} {ccy : ByteArray} {maxL n : Nat} {rmy : Room} {As : List Value} {post : Sg → Prop} (lk : LKS own idx y ccy maxL none n)
    (hM : Cv x.2.1 y ccy maxL rmy G As σ post) (hR : rmy.frames + 1 ≤ rm.frames ∧ 8 + (maxL + 11) + rmy.locals ≤ rm.locals) (hst : st0 = As.reverse ++ st) (hn : As.length = n) (hW : (st.map fun v => v.category).sum ≤ 8) (hf : cells + rmy.cells ≤ rm.cells ∧ slots + rmy.slots ≤ rm.slots) (d : decode cc pc = .ok (.invokestatic idx, 3))
    (k : ∀ σ', post σ' → V x G nL (cells + rmy.cells) (slots + rmy.slots) Q σ' (pc + 3) lo st) : V x G nL cells slots Q σ pc lo st0 := by
  subst hst
  intro H lc ls hP hS hl
  obtain ⟨hx, hb, hml, hown, hts, hrm, hE, hlk⟩ := id h
  refine va_callv (va_runS (Ts := wsL_law) (As := As) (rest := st) ⟨hx, hb, hml, hown, hts⟩ hM ⟨lk.1.cb hts (by rw [hrm]; exact hR), hts _ lk.2⟩ ⟨Pre.blind G σ _, fun U hU hW => ⟨rfl, Pre.now h hP hS U hU hW⟩⟩ rfl hn hl.1 rfl (lv_room hW) d (by rw [hrm]; exact hf)) hS (fun _ _ q => q) (fun _ q => q) (fun u t H1 locs ht hvm hp hB hz1 hk1 hS1 => ?_)
  exact k u hp H1 locs ls (by rw [← ht]; exact hB) hS1 hl
theorem r_cNi (h : CX x G cc nL own rm) {idx : Nat} {host : String} {y : MethodName} {ccy : ByteArray} {maxL n : Nat} {ty : FieldType} {rmy : Room} {As : List Value} {post : Int32 → Sg → Prop} (lk : LKN y ccy maxL (some ty) n) (hnw : ∀ s : State, NW s → va_Nw (.methodLinkNest own idx y host) s)
    (hM : Ci x.2.1 y ccy maxL ty rmy G As σ post) (hR : rmy.frames + 1 ≤ rm.frames ∧ 8 + (maxL + 11) + rmy.locals ≤ rm.locals) (hst : st0 = As.reverse ++ st) (hn : As.length = n) (hW : (st.map fun v => v.category).sum ≤ 8) (hf : cells + rmy.cells ≤ rm.cells ∧ slots + rmy.slots ≤ rm.slots) (d : decode cc pc = .ok (.invokestatic idx, 3))
    (k : ∀ r σ', post r σ' → V x G nL (cells + rmy.cells) (slots + rmy.slots) Q σ' (pc + 3) lo (.int r :: st)) : V x G nL cells slots Q σ pc lo st0 := by
  subst hst
  intro H lc ls hP hS hl
  obtain ⟨hx, hb, hml, hown, hts, hrm, hE, hlk⟩ := id h
  obtain ⟨l1, l2, l3, l4, l5⟩ := lk
  refine va_calli (va_runSN (Ts := wsL_law) (host := host) (As := As) (rest := st) ⟨hx, hb, hml, hown, hts⟩ hM ⟨⟨⟨rfl, rfl, by rw [hrm]; exact hR.1, by rw [hrm]; exact hR.2, law_pay hts l2, List.mem_cons_self⟩, hts _ l2, hts _ l1, l3, fun sig hs => (by rw [hs] at l4; exact (Option.some.inj l4).symm), va_Nw.use rfl (hnw _ hE.2.1)⟩, hts _ l5, trivial⟩ ⟨Pre.blind G σ _, fun U hU hW => ⟨rfl, Pre.now h hP hS U hU hW⟩⟩ rfl hn hl.1 rfl (lv_room hW) d (by rw [hrm]; exact hf)) hS (fun _ _ q => q) (fun _ q => q) (fun r u t H1 locs ht hvm hp hB hz1 hk1 hS1 => ?_)
  exact k r u hp H1 locs ls (by rw [← ht]; exact hB) hS1 hl
end
