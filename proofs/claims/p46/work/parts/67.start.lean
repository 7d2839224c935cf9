/-! THE LAW: its start -/
/-! THE CLAIM OUT OF ONE WALK OF THE LAW'S BODY. Your part is whole_start (and what it stands on); all else here is the same for every law, but numbers. -/
def R_law : String := "RuleListsLaw"
def lw_P (b : Addr) (xs : List Int32) (args : Array Value) (s : State) : Prop := args = #[.ref b] ∧ s.IntsAt b xs ∧ xs.length ≤ 260 ∧ (Jvm.Cond.and given_1 narrow_1).before args s = true
def lw_Q (_ : Array Value) (s : State) (o : Outcome) (t : State) : Prop := o = .returned (some (.int 1)) ∧ Framed s o t [] 600130 7301080
def lw_Z (below : List Frame) (a : Array Value) (s : State) : State → Prop := fun t => ∃ o, t.status = .running ∧ Ended t below o ∧ lw_Q a s o t
/-- the law's own end, with 1 on the stack, nothing written that was there before, its room as the claim has it -/
theorem lw_ret {p : Program} {l : Launch} {e : Env} {s : State} {m : MethodId} {below : List Frame} {meth : Method} {c : Code} {b : Nat} (hx : p.tables.exec = Jvm.exec) (hb : c.code = code) (hr : meth.sig.returnType = ret) (hlocks : meth.locks = false) {pc : Nat} {H : Heap} {ls : Array Slot} (hdg : decode code pc = .ok (.ireturn, 1)) : W p l e room_1 s m #[Value.ref b] below meth c H [] 600130 7301080 (lw_Z below #[Value.ref b] s) (F0 m pc ls [.int 1]) := by
  intro T hT X
  obtain ⟨fs, hret, hrun, hended, hW, hframe⟩ := X.leave (v := some (.int 1)) (hlocks := hlocks) (fun h => by rw [hr] at h; cases h)
  have hmeth' : T.vm.method? m = some meth := X.method'
  refine ⟨T.setFrames fs, ?_, .returned (some (.int 1)), hrun, hended, rfl, ⟨_, rfl⟩, hW, hframe⟩
  jvm_step X.here [X.here.top, hx, hb, hdg, hmeth', hr, ret, narrow_b1]
  (try refine ⟨rfl, ?_⟩); (try refine ⟨rfl, ?_⟩)
  first | (intro acts; rw [hret _ acts rfl rfl rfl]) | rw [hret _ _ rfl rfl rfl]
  exact Steps.refl _
/-- what holds at the law's entry: the machine, the code, the tables' words (any of lw_tbl by 'hts w (by decide +kernel)'), the script of L ints xs at the cell b, what the Statement gives of the start (any of its parts by flat_of_before) -/
def lw_At (p : Program) (s : State) (m : MethodId) (meth : Method) (c : Code) (b L : Nat) (xs : Nat → Int32) : Prop :=
  p.tables.exec = Jvm.exec ∧ c.code = code ∧ meth.sig.returnType = ret ∧ c.maxLocals = 9 ∧ s.vm.findClass R_law = some m.cls ∧ (∀ w ∈ lw_tbl, w.before #[Value.ref b] s = true) ∧ va_X b L xs s s.heap ∧ b < s.heap.size ∧ meth.locks = false ∧ (Jvm.Cond.and given_1 narrow_1).before #[Value.ref b] s = true
set_option maxRecDepth 100000 in
set_option maxHeartbeats 4000000 in
/-- what holds at the law's entry: classes, links, what a throw needs -/
theorem law_env {p : Program} {s : State} {m : MethodId} {meth : Method} {c : Code} {b L : Nat} {xs : Nat → Int32} (C0 : lw_At p s m meth c b L xs) : ∃ G : Gl, G.2.1 = s.heap.size ∧ G.2.2 9 = G.2.1 + 268 ∧ EX (bB G (Kof G)) G s ∧ EX (bB G (Kof G)) (Kof G) s ∧ EnvN G s ∧ EnvN (Kof G) s ∧ XE s := by
  obtain ⟨hx, hb, hr, hml, hown, hts, hX, hbl, hlocks, hgv⟩ := id C0
  have hw : ∀ w ∈ wsL_law, w.before #[Value.ref b] s = true := fun w h => hts w (wsL_law_in w h)
  obtain ⟨c0, i0, K0⟩ := u_known (C := RX0) (T := TX0) (N := 3) (n := 3) hw inlX0 (hw _ mw_1_19)
  obtain ⟨c1, i1, K1⟩ := u_known (C := RX1) (T := TX1) (N := 2) (n := 2) hw inlX1 (hw _ mw_2_13)
  obtain ⟨c2, i2, K2⟩ := u_known (C := RX2) (T := TX2) (N := 5) (n := 5) hw inlX2 (hw _ mw_2_17)
  obtain ⟨c3, i3, K3⟩ := u_known (C := RX3) (T := TX3) (N := 2) (n := 2) hw inlX3 (hw _ mw_1_15)
  obtain ⟨c4, i4, K4⟩ := u_known (C := RX4) (T := TX4) (N := 6) (n := 6) hw inlX4 (hw _ mw_1_11)
  obtain ⟨c5, i5, K5⟩ := u_known (C := RX5) (T := TX5) (N := 6) (n := 6) hw inlX5 (hw _ mw_1_1)
  obtain ⟨dC, dI, hKc⟩ : ∃ (dC : Nat → ClassId) (dI : Nat → Nat → Nat), ∀ (k : Nat) (q : vw_C), vwCl[k]? = some q → u_Kn s q.1 q.2.1 q.2.2 (dC k) (dI k) := by
    refine ⟨fun k => if k = 0 then c0 else if k = 1 then c1 else if k = 2 then c2 else if k = 3 then c3 else if k = 4 then c4 else c5, fun k => if k = 0 then i0 else if k = 1 then i1 else if k = 2 then i2 else if k = 3 then i3 else if k = 4 then i4 else i5, ?_⟩
    intro k q hq
    match k, hq with
    | 0, hq => cases hq; exact K0
    | 1, hq => cases hq; exact K1
    | 2, hq => cases hq; exact K2
    | 3, hq => cases hq; exact K3
    | 4, hq => cases hq; exact K4
    | 5, hq => cases hq; exact K5
    | k + 6, hq => simp [vwCl] at hq
  obtain ⟨a0, ka0, p0, f0, g0, e0⟩ := Cond.arrayClass_spec (hw _ mw_2_7)
  obtain ⟨a1, ka1, p1, f1, g1, e1⟩ := Cond.arrayClass_spec (hw _ mw_2_23)
  obtain ⟨a2, ka2, p2, f2, g2, e2⟩ := Cond.arrayClass_spec (hw _ mw_2_5)
  obtain ⟨a3, ka3, p3, f3, g3, e3⟩ := Cond.arrayClass_spec (hw _ mw_1_23)
  obtain ⟨p4, a4, ka4, f4, x4, g4, e4, n4⟩ := Cond.arrayOver_spec (hts (.arrayOver (.object "RuleLists$State")) (List.mem_of_getElem? (i := 137) rfl))
  have hK : va_K (dC, dI) vwCl [(a0, .int), (a1, .long), (a2, .char), (a3, .boolean), (a4, .object "RuleLists$State")] s := by
    refine ⟨hKc, fun k q hq => ?_⟩
    match k, hq with
    | 0, hq => cases hq; exact ⟨fun n z => ⟨fun k h => (by cases h), ka0, g0, p0, e0⟩, f0⟩
    | 1, hq => cases hq; exact ⟨fun n z => ⟨fun k h => (by cases h), ka1, g1, p1, e1⟩, f1⟩
    | 2, hq => cases hq; exact ⟨fun n z => ⟨fun k h => (by cases h), ka2, g2, p2, e2⟩, f2⟩
    | 3, hq => cases hq; exact ⟨fun n z => ⟨fun k h => (by cases h), ka3, g3, p3, e3⟩, f3⟩
    | 4, hq => cases hq; exact ⟨fun n z => ⟨fun k h => (by cases h), ka4, g4, p4, e4⟩, ka4, p4, g4, e4, f4, n4⟩
    | k + 5, hq => simp at hq
  have flat := flat_of_before _ hgv
  have hnew : ∀ a : Nat, a < s.heap.size → ¬ (fun q : Nat => s.heap.size ≤ q) a := fun a h1 h2 => by
    have h3 : s.heap.size ≤ a := h2
    omega
  have hZ1 : vx_Zq Bundle.tN "UNASSIGNED_STACK" Bundle.steD (fun q => s.heap.size ≤ q) s s.heap := vx_Zqof (hts (.laysStatic Bundle.tN "UNASSIGNED_STACK" Bundle.steD) (List.mem_of_getElem? (i := 215) rfl)) (hts (.initialized Bundle.tN) (List.mem_of_getElem? (i := 22) rfl)) (flat (.isRef (.static Bundle.tN "UNASSIGNED_STACK" Bundle.steD)) (by decide +kernel)) hnew
  have hZ2 : vx_Zq Bundle.tN "SUPPRESSED_SENTINEL" Bundle.listD (fun q => s.heap.size ≤ q) s s.heap := vx_Zqof (hts (.laysStatic Bundle.tN "SUPPRESSED_SENTINEL" Bundle.listD) (List.mem_of_getElem? (i := 217) rfl)) (hts (.initialized Bundle.tN) (List.mem_of_getElem? (i := 22) rfl)) (flat (.isRef (.static Bundle.tN "SUPPRESSED_SENTINEL" Bundle.listD)) (by decide +kernel)) hnew
  have hNW : NW s := ⟨va_Nw.of rfl (hts _ (List.mem_of_getElem? (i := 377) rfl)), va_Nw.of rfl (hts _ (List.mem_of_getElem? (i := 341) rfl))⟩
  have hN5 : NW5 s := ⟨va_Nw.of rfl (hts _ (List.mem_of_getElem? (i := 41) rfl)), va_Nw.of rfl (hts _ (List.mem_of_getElem? (i := 71) rfl)), va_Nw.of rfl (hts _ (List.mem_of_getElem? (i := 77) rfl)), va_Nw.of rfl (hts _ (List.mem_of_getElem? (i := 93) rfl)), va_Nw.of rfl (hts _ (List.mem_of_getElem? (i := 138) rfl)), va_AO.of (hts (.arrayOver (.object "RuleLists$State")) (List.mem_of_getElem? (i := 137) rfl))⟩
  have hXE : XE s := by
    refine ⟨fun w hw2 => ?_, ⟨va_Nw.of rfl (hts (.castable xI xI) (List.mem_of_getElem? (i := 190) rfl)), va_Nw.of rfl (hts (.castable xS xS) (List.mem_of_getElem? (i := 258) rfl)), va_Nw.of rfl (hts (.castable xO xO) (List.mem_of_getElem? (i := 482) rfl)), fun y hy => va_Nw.of rfl (hts _ (dS_in y hy))⟩, fun q hq => stringRef_at (hts _ (strs_in q hq)), va_Nc.of (flat (.not (.castable xI xO)) (by decide +kernel)), va_Nc.of (flat (.not (.castable xS xO)) (by decide +kernel)), va_Nc.of (flat (.not (.castable xS xI)) (by decide +kernel))⟩
    refine word_at (State.WarmedH.refl s) (good_of_word (List.mem_filter.mp hw2).2) (hts w ?_)
    exact List.forall_mem_append.mpr ⟨xwI_in, List.forall_mem_append.mpr ⟨xwS_in, xwO_in⟩⟩ w (List.mem_filter.mp hw2).1
  refine ⟨((dC, dI), s.heap.size, fun t => if t = 0 then a0 else if t = 1 then a1 else if t = 2 then a2 else if t = 3 then a3 else if t = 4 then a4 else s.heap.size + 268), rfl, rfl, ⟨hK, hNW, hZ1.narrow ?_, hZ2.narrow ?_⟩, ⟨hK, hNW, hZ1.narrow ?_, hZ2.narrow ?_⟩, ⟨hK, hN5⟩, ⟨hK, hN5⟩, hXE⟩ <;> (rintro q (⟨z, -⟩ | ⟨z, -⟩) <;> first | exact z | exact Nat.le_trans (Nat.le_add_right _ _) z)
set_option maxRecDepth 100000 in
set_option maxHeartbeats 4000000 in
/-- THE LAW, from its entry -/
theorem whole_start {p : Program} {e : Env} {s : State} {m : MethodId} {below : List Frame} {meth : Method} {c : Code} (l : Launch) (hflags : l.flags = flags0) {b L : Nat} {xs : Nat → Int32} (hL : L ≤ 260) (C0 : lw_At p s m meth c b L xs) : W p l e room_1 s m #[Value.ref b] below meth c s.heap [] 0 0 (lw_Z below #[Value.ref b] s) (entryFrame m ([Value.ref b] : List Value).toArray 9) := by
  obtain ⟨hx, hb, hr, hml, hown, hts, hX, hbl, hlocks, hgv⟩ := id C0
  obtain ⟨G, hG, hZ, hE, hE2, hEN, hKN, hXE⟩ := law_env C0
  have hst : l.stackTraces = false := by unfold Launch.stackTraces; rw [hflags]; decide
  have hw : ∀ w ∈ wsL_law, w.before #[Value.ref b] s = true := fun w h => hts w (wsL_law_in w h)
  have hCL : CL (p, l, e, room_1, s, m, #[Value.ref b], below, meth, c) cL_law 9 room_1 := ⟨hx, hb, hml, hown, hw, rfl, hlocks, by decide⟩
  have hCN : CXN (p, l, e, room_1, s, m, #[Value.ref b], below, meth, c) G cL_law 9 RL room_1 0 := ⟨hx, hb, hml, hown, hw, rfl, hEN, hlocks, by show s.heap.size = G.2.1 + 0; omega⟩
  have hbB : ∀ q : Nat, bB G (Kof G) q → s.heap.size ≤ q := by
    rintro q (⟨z, -⟩ | ⟨z, -⟩)
    · rw [← hG]; exact z
    · rw [← hG]; exact Nat.le_trans (Nat.le_add_right _ _) z
  have hend : ∀ (P : Heap → Prop) (lo : List (Nat × Value)) (u : Nat), u ≤ 600130 → VP (p, l, e, room_1, s, m, #[Value.ref b], below, meth, c) (bB G (Kof G)) 9 u (lw_Z below #[Value.ref b] s) P 292 lo [.int (nI 1)] := fun P lo u hu H lc ls hP hS hl => va_forget (fun q hq => hbB _ (hS.2.2 q hq)) (W.widen hu (by omega) (lw_ret hx hb hr hlocks dL_law_292))
  have hwk := law_walk (Kof_two hZ) hCL hE hE2 hXE hst hX hbl (fun z => by have := hbB b z; omega) (by omega) hend
  have hmk := law_make (b := b) (fun _ => .inr (0, [])) hCN hKN hZ hwk
  have hl := lv_entry ([.ref b]) (n := 9) (Nat.le_of_ble_eq_true rfl)
  rw [lg_entry_eq]
  exact hmk s.heap [] _ (fun k q hq => by simp [wsN] at hq) va_S.rf hl
