/-! THROWS: the words that they need; contracts that return or throw -/
def xI : String := "java/lang/IllegalArgumentException"
def xS : String := "java/lang/IllegalStateException"
def xO : String := "java/lang/IndexOutOfBoundsException"
def xNm : List String := ["java/lang/RuntimeException", "java/lang/Exception"]
def xwI : List Cond := Cond.classLink RX5 221 xI :: Cond.initialized xI :: vx_atS RX5 225 xI xNm
def xwS : List Cond := Cond.classLink RX5 49 xS :: Cond.initialized xS :: vx_atS RX5 53 xS xNm
def xwO : List Cond := Cond.classLink RX5 216 xO :: Cond.initialized xO :: vx_atS RX5 220 xO xNm
theorem xwI_ot : ∀ w ∈ xwI, vx_ot w = true := by decide +kernel
theorem xwS_ot : ∀ w ∈ xwS, vx_ot w = true := by decide +kernel
theorem xwO_ot : ∀ w ∈ xwO, vx_ot w = true := by decide +kernel
theorem xwI_in : ∀ w ∈ xwI, w ∈ lw_tbl := by decide +kernel
theorem xwS_in : ∀ w ∈ xwS, w ∈ lw_tbl := by decide +kernel
theorem xwO_in : ∀ w ∈ xwO, w ∈ lw_tbl := by decide +kernel
def dS : List MethodName := [⟨"java/lang/RuntimeException", "<init>", "(Ljava/lang/String;)V"⟩, ⟨"java/lang/Exception", "<init>", "(Ljava/lang/String;)V"⟩, ⟨"java/lang/Throwable", "<init>", "(Ljava/lang/String;)V"⟩]
theorem dS_in : ∀ y ∈ dS, Cond.declares y ∈ lw_tbl := by decide +kernel
theorem xwI_bad : ∀ w ∈ xwI.filter (fun w => !goodWord w), w ∈ Cond.castable xI xI :: dS.map Cond.declares := by decide +kernel
theorem xwS_bad : ∀ w ∈ xwS.filter (fun w => !goodWord w), w ∈ Cond.castable xS xS :: dS.map Cond.declares := by decide +kernel
theorem xwO_bad : ∀ w ∈ xwO.filter (fun w => !goodWord w), w ∈ Cond.castable xO xO :: dS.map Cond.declares := by decide +kernel
def strs : List (Nat × String) := [(51, "the text is full"), (64, "the text is not rules"), (82, "no state is remembered"), (178, "nothing was saved in this slot"), (218, "there is no such list or reader"), (223, "a number is out of range"), (226, "this cannot be done now"), (236, "there is no such list"), (241, "there is no such reader"), (243, "there is no such place"), (245, "there is no such slot")]
theorem strs_in : ∀ q ∈ strs, Cond.stringRef RX5 q.1 q.2 ∈ lw_tbl := by decide +kernel
def XE (U : State) : Prop := (∀ w ∈ (xwI ++ (xwS ++ xwO)).filter goodWord, w.before #[] U = true) ∧ (va_Nw (.castable xI xI) U ∧ va_Nw (.castable xS xS) U ∧ va_Nw (.castable xO xO) U ∧ ∀ y ∈ dS, va_Nw (.declares y) U) ∧ (∀ q ∈ strs, ∃ a, vk_R RX5 q.1 q.2 a U) ∧ va_Nc xI xO U ∧ va_Nc xS xO U ∧ va_Nc xS xI U
theorem XE.warm {s U : State} (hW : s.WarmedH U.vm) (h : XE s) : XE U := by
  obtain ⟨h1, ⟨c1, c2, c3, c4⟩, h3, n1, n2, n3⟩ := h
  refine ⟨fun w hw => word_at hW (good_of_word (List.mem_filter.mp hw).2) (h1 w hw), ⟨va_Nw.warmC hW c1, va_Nw.warmC hW c2, va_Nw.warmC hW c3, fun y hy => va_Nw.warmD hW (c4 y hy)⟩, fun q hq => ?_, n1.moved hW.alike, n2.moved hW.alike, n3.moved hW.alike⟩
  obtain ⟨a, ha⟩ := h3 q hq
  exact ⟨a, ha.warm hW⟩
theorem XE.same {u U : State} (hv : u.vm = U.vm) (h : XE u) : XE U := XE.warm (by rw [← hv]; exact State.WarmedH.refl u) h
theorem XE.words {U : State} {args : Array Value} (h : XE U) : (∀ w ∈ xwI, w.before args U = true) ∧ (∀ w ∈ xwS, w.before args U = true) ∧ (∀ w ∈ xwO, w.before args U = true) := by
  obtain ⟨h1, ⟨c1, c2, c3, c4⟩, -⟩ := h
  have g : ∀ w ∈ (xwI ++ (xwS ++ xwO)).filter goodWord, w.before args U = true := fun w hw => word_at (State.WarmedH.refl U) (good_of_word (List.mem_filter.mp hw).2) (h1 w hw)
  have m : ∀ (L : List Cond) (w : Cond), (∀ v ∈ L, v ∈ xwI ++ (xwS ++ xwO)) → w ∈ L.filter goodWord → w ∈ (xwI ++ (xwS ++ xwO)).filter goodWord := fun L w hL hw => List.mem_filter.mpr ⟨hL w (List.mem_filter.mp hw).1, (List.mem_filter.mp hw).2⟩
  refine ⟨vx_hat (fun w hw => g w (m xwI w (fun v hv => List.mem_append_left _ hv) hw)) xwI_bad (fun w hw => ?_), vx_hat (fun w hw => g w (m xwS w (fun v hv => List.mem_append_right _ (List.mem_append_left _ hv)) hw)) xwS_bad (fun w hw => ?_), vx_hat (fun w hw => g w (m xwO w (fun v hv => List.mem_append_right _ (List.mem_append_right _ hv)) hw)) xwO_bad (fun w hw => ?_)⟩
  · rcases List.mem_cons.mp hw with e | e
    · rw [e]; exact va_tabs rfl rfl c1
    · obtain ⟨y, hy, rfl⟩ := List.mem_map.mp e
      exact va_tabs rfl rfl (c4 y hy)
  · rcases List.mem_cons.mp hw with e | e
    · rw [e]; exact va_tabs rfl rfl c2
    · obtain ⟨y, hy, rfl⟩ := List.mem_map.mp e
      exact va_tabs rfl rfl (c4 y hy)
  · rcases List.mem_cons.mp hw with e | e
    · rw [e]; exact va_tabs rfl rfl c3
    · obtain ⟨y, hy, rfl⟩ := List.mem_map.mp e
      exact va_tabs rfl rfl (c4 y hy)
theorem stringRef_at {s : State} {own text : String} {k : Nat} {args : Array Value} (h : (Cond.stringRef own k text).before args s = true) : ∃ a, vk_R own k text a s := by
  have h2 : (Cond.stringRef own k text).before #[] s = true := by
    simp only [Cond.before, Cond.holds, Cond.value] at h ⊢
    exact h
  cases hc : s.vm.findClass own with
  | none => simp [Cond.before, Cond.holds, Cond.value, hc] at h
  | some cc =>
    obtain ⟨k1, cf, i, a, hk, hcf, hp, -, hr, -⟩ := Cond.stringRef_spec hc h
    exact ⟨a, h2, by simp [Term.eval, hc, hk, hr]⟩
/-- before a call of what may throw -/
def PreX (G : Gl) (σ : Sg) (U : State) : Prop := Pre G σ U ∧ XE U
theorem PreX.blind (G : Gl) (σ : Sg) (av : List Value) : FrameBlind (va_Pc av (PreX G σ)) := by
  intro a U g mk h
  obtain ⟨h0, h1, h2⟩ := h
  obtain ⟨h3, h4⟩ := Pre.blind G σ av a U g mk ⟨h0, h1⟩
  exact ⟨h3, h4, XE.same (u := U) (U := U.calling g mk a) rfl h2⟩
/-- thrown: an object of the class E, the world then -/
def XC (G : Gl) (pe : String → Sg → Prop) : String → State → State → Prop := vx_X (fun _ : Sg => True) (fun E u t => pe E u ∧ Bw G u t) (bA G)
abbrev Xi (l : Launch) (y : MethodName) (cc : ByteArray) (nL : Nat) (ty : FieldType) (rm : Room) (G : Gl) (av : List Value) (σ : Sg) (post : Int32 → Sg → Prop) (pe : String → Sg → Prop) : Prop :=
  vx_Met l y (.code y cc nL (some ty) :: wsL_law) rm (va_Pc av (PreX G σ)) (va_Qi post (Bw G) (bA G)) (XC G pe) rm.cells rm.slots (bA G)
abbrev Xv (l : Launch) (y : MethodName) (cc : ByteArray) (nL : Nat) (rm : Room) (G : Gl) (av : List Value) (σ : Sg) (post : Sg → Prop) (pe : String → Sg → Prop) : Prop :=
  vx_Met l y (.code y cc nL none :: wsL_law) rm (va_Pc av (PreX G σ)) (va_Qv post (Bw G) (bA G)) (XC G pe) rm.cells rm.slots (bA G)
/-- the machine has thrown something of the class E at pc -/
def VT (x : Cx) (G : Gl) (nL : Nat) (cells slots : Nat) (Q : State → Prop) (σ : Sg) (pc : Nat) (lo : List (Nat × Value)) (st : List Value) (E : String) : Prop :=
  ∀ (H : Heap) (locs : List Loc) (ls : Array Slot) (ce : Cell) (q : Addr), va_P G.1 vwCl (wsC G σ) H → va_S (bA G) x.2.2.2.2.1.heap H locs → lv_has ls nL lo → H[q]? = some ce → ce.vm = .none → x.2.2.2.2.1.vm.findClass E = some ce.cls →
    vx_W x.1 x.2.1 x.2.2.1 x.2.2.2.1 x.2.2.2.2.1 x.2.2.2.2.2.1 x.2.2.2.2.2.2.1 x.2.2.2.2.2.2.2.1 x.2.2.2.2.2.2.2.2.1 x.2.2.2.2.2.2.2.2.2 H locs cells slots Q (F0 x.2.2.2.2.2.1 pc ls st) q
def noTab (x : Cx) : Prop := ∀ y ∈ x.2.2.2.2.2.2.2.2.2.exceptionTable.toList, False
/-- 'throw new E(text)' at pc, where the world is σ -/
def THR (x : Cx) (G : Gl) (cc : ByteArray) (nL : Nat) (rm : Room) (Q : State → Prop) (pe : String → Sg → Prop) (cls : String) (ik ic : Nat) : Prop :=
  ∀ σ, pe cls σ → ∀ (is : Nat) (text : String), (is, text) ∈ strs → ∀ (pc : Nat) (lo : List (Nat × Value)) (st : List Value) (cells slots : Nat),
    decode cc pc = .ok (.new ik, 3) → decode cc (pc + 3) = .ok (.dup, 1) → decode cc (pc + 4) = .ok (.ldc is, 2) → decode cc (pc + 6) = .ok (.invokespecial ic, 3) → decode cc (pc + 9) = .ok (.athrow, 1) →
    (6 ≤ rm.frames ∧ (st.map fun v => v.category).sum + 82 ≤ rm.locals ∧ cells + 1 ≤ rm.cells ∧ slots + 6 ≤ rm.slots) → V x G nL cells slots Q σ pc lo st
def OUTX (x : Cx) (G : Gl) (nL : Nat) (rm : Room) (Q : State → Prop) (pe : String → Sg → Prop) : Prop :=
  ∀ (E : String) (σ : Sg), pe E σ → ∀ (pc : Nat) (lo : List (Nat × Value)) (st : List Value) (cells slots : Nat), (cells ≤ rm.cells ∧ slots ≤ rm.slots) → VT x G nL cells slots Q σ pc lo st E
theorem P_keep {G : Gl} {σ : Sg} {H H1 : Heap} (hP : va_P G.1 vwCl (wsC G σ) H) (h : ∀ q : Nat, q < H.size → H1[q]? = H[q]?) : va_P G.1 vwCl (wsC G σ) H1 := hP.kept (fun k x hx => h x.1 ((hP k x hx).lt))
theorem thr_of {x : Cx} {G : Gl} {cc : ByteArray} {nL : Nat} {rm : Room} {pe : String → Sg → Prop} {Qc : Array Value → State → Outcome → State → Prop} (h : CX x G cc nL RX5 rm) (hX : XE x.2.2.2.2.1) (ht : noTab x) (hl : x.2.1.stackTraces = false) {cls : String} {ik ic : Nat} (hcls : Bundle.fit cls = true) {L : List Cond} (hL : L = Cond.classLink RX5 ik cls :: Cond.initialized cls :: vx_atS RX5 ic cls xNm) (hw : ∀ w ∈ L, w.before x.2.2.2.2.2.2.1 x.2.2.2.2.1 = true) (hot : ∀ w ∈ L, vx_ot w = true) :
    THR x G cc nL rm (vx_MQ x.2.2.2.2.2.2.2.1 Qc (XC G pe) x.2.2.2.2.2.2.1 x.2.2.2.2.1 rm.cells rm.slots (bA G)) pe cls ik ic := by
  subst hL
  intro σ hpe is text hs pc lo st cells slots d0 d3 d4 d6 d9 hR H lc ls hP hS hl2
  obtain ⟨hx, hb, hml, hown, hts, hrm, hE, hlk⟩ := id h
  obtain ⟨sa, hsa⟩ := hX.2.2.1 _ hs
  refine vx_throwS (own := RX5) (cls := cls) (text := text) (names := xNm) (ik := ik) (is := is) (ic := ic) (sa := sa) (A := bA G) hx hb hl hown hcls (by decide +kernel) (hw _ List.mem_cons_self) (hw _ (List.mem_cons_of_mem _ List.mem_cons_self)) hsa (fun w hw' => hw w (List.mem_cons_of_mem _ (List.mem_cons_of_mem _ hw'))) hot hE.2.2.1 hE.2.2.2 hS (hl2.1.trans hml.symm) d0 d3 d4 d6 d9 (fun z hz => (ht z hz).elim) (by rw [hrm]; show 5 < rm.frames; omega) (by rw [hrm]; exact hR.2.1) (by rw [hrm]; exact hR.2.2.1) (by rw [hrm]; exact hR.2.2.2) hlk (fun t hal hz hk => ⟨σ, trivial, ⟨hpe, P_keep hP hk⟩, Nat.le_trans hS.1 hz, fun q h1 h2 => (hk q (Nat.lt_of_lt_of_le h1 hS.1)).trans (hS.2.1 q h1 h2)⟩) hS.2.2 hR.2.2.1 hR.2.2.2
theorem out_of {x : Cx} {G : Gl} {cc : ByteArray} {nL : Nat} {own : String} {rm : Room} {pe : String → Sg → Prop} {Qc : Array Value → State → Outcome → State → Prop} (h : CX x G cc nL own rm) (ht : noTab x) : OUTX x G nL rm (vx_MQ x.2.2.2.2.2.2.2.1 Qc (XC G pe) x.2.2.2.2.2.2.1 x.2.2.2.2.1 rm.cells rm.slots (bA G)) pe := by
  intro E σ hpe pc lo st cells slots hR H lc ls ce q hP hS hl2 hce hcv hcl
  exact vx_out (fun z hz => (ht z hz).elim) h.2.2.2.2.2.2.2 hce hcv hcl (fun t hth hal => ⟨σ, trivial, ⟨hpe, by show va_P _ _ _ _; rw [hth]; exact hP⟩, hS.F hth⟩) hS.2.2 hR.1 hR.2
theorem Xi_of {l : Launch} (hst : l.stackTraces = false) {y : MethodName} {cc : ByteArray} {nL : Nat} {ty : FieldType} {rm : Room} {G : Gl} {av : List Value} {σ : Sg} {post : Int32 → Sg → Prop} {pe : String → Sg → Prop} {lo : List (Nat × Value)} (ho : y.cls = RX5) (hy : plainName y.cls = true) (hlo : lv_args 0 av = lo) (hlen : (lg_sl av).length ≤ nL)
    (hn : ∀ r σ', post r σ' → narrow ty (.int r) = .int r)
    (body : ∀ (x : Cx) (Q : State → Prop), x.2.1 = l → CX x G cc nL RX5 rm → XE x.2.2.2.2.1 → (∀ r σ', post r σ' → ∀ pc lo', decode cc pc = .ok (.ireturn, 1) → V x G nL rm.cells rm.slots Q σ' pc lo' [.int r]) → THR x G cc nL rm Q pe xI 221 225 → THR x G cc nL rm Q pe xS 49 53 → THR x G cc nL rm Q pe xO 216 220 → OUTX x G nL rm Q pe → V x G nL 0 0 Q σ 0 lo []) : Xi l y cc nL ty rm G av σ post pe := by
  refine vx_ofW (cc := cc) (maxL := nL) (ret := some ty) hy rfl ?_
  intro p e s m args below meth c s₁ B hml htb hv
  obtain ⟨rfl, ⟨hP, hE⟩, hX⟩ := hv
  have hts := atoms_spec (ws := .code y cc nL (some ty) :: wsL_law) B.pre
  have hl := lv_entry av (n := nL) hlen
  rw [lg_entry_eq]
  rw [hlo] at hl
  have hr := B.returns
  have hCX : CX (p, l, e, rm, s, m, av.toArray, below, meth, c) G cc nL RX5 rm := ⟨B.exec, B.bytes, hml, ho ▸ findClass_of_methodNamed B.named, fun w hw => hts w (List.mem_cons_of_mem _ hw), rfl, hE, B.notSynchronized⟩
  have hww := XE.words (args := av.toArray) hX
  refine body (p, l, e, rm, s, m, av.toArray, below, meth, c) _ rfl hCX hX ?_ (thr_of hCX hX htb hst (by decide +kernel) rfl hww.1 xwI_ot) (thr_of hCX hX htb hst (by decide +kernel) rfl hww.2.1 xwS_ot) (thr_of hCX hX htb hst (by decide +kernel) rfl hww.2.2 xwO_ot) (out_of hCX htb) s.heap [] _ hP va_S.rf hl
  intro r σ' hp pc lo' hd H locs ls hP' hS' hl'
  exact vx_ret (W.zret (v := r) B.exec B.bytes hr (hn r σ' hp) (fun t ht hW => ⟨⟨r, σ', rfl, hp, by show va_P _ _ _ _; rw [ht]; exact hP'⟩, hS'.F ht⟩) hS'.2.2 hd B.notSynchronized)
theorem Xv_of {l : Launch} (hst : l.stackTraces = false) {y : MethodName} {cc : ByteArray} {nL : Nat} {rm : Room} {G : Gl} {av : List Value} {σ : Sg} {post : Sg → Prop} {pe : String → Sg → Prop} {lo : List (Nat × Value)} (ho : y.cls = RX5) (hy : plainName y.cls = true) (hlo : lv_args 0 av = lo) (hlen : (lg_sl av).length ≤ nL)
    (body : ∀ (x : Cx) (Q : State → Prop), x.2.1 = l → CX x G cc nL RX5 rm → XE x.2.2.2.2.1 → (∀ σ', post σ' → ∀ pc lo', decode cc pc = .ok (.return_, 1) → V x G nL rm.cells rm.slots Q σ' pc lo' []) → THR x G cc nL rm Q pe xI 221 225 → THR x G cc nL rm Q pe xS 49 53 → THR x G cc nL rm Q pe xO 216 220 → OUTX x G nL rm Q pe → V x G nL 0 0 Q σ 0 lo []) : Xv l y cc nL rm G av σ post pe := by
  refine vx_ofW (cc := cc) (maxL := nL) (ret := none) hy rfl ?_
  intro p e s m args below meth c s₁ B hml htb hv
  obtain ⟨rfl, ⟨hP, hE⟩, hX⟩ := hv
  have hts := atoms_spec (ws := .code y cc nL none :: wsL_law) B.pre
  have hl := lv_entry av (n := nL) hlen
  rw [lg_entry_eq]
  rw [hlo] at hl
  have hr := B.returns
  have hCX : CX (p, l, e, rm, s, m, av.toArray, below, meth, c) G cc nL RX5 rm := ⟨B.exec, B.bytes, hml, ho ▸ findClass_of_methodNamed B.named, fun w hw => hts w (List.mem_cons_of_mem _ hw), rfl, hE, B.notSynchronized⟩
  have hww := XE.words (args := av.toArray) hX
  refine body (p, l, e, rm, s, m, av.toArray, below, meth, c) _ rfl hCX hX ?_ (thr_of hCX hX htb hst (by decide +kernel) rfl hww.1 xwI_ot) (thr_of hCX hX htb hst (by decide +kernel) rfl hww.2.1 xwS_ot) (thr_of hCX hX htb hst (by decide +kernel) rfl hww.2.2 xwO_ot) (out_of hCX htb) s.heap [] _ hP va_S.rf hl
  intro σ' hp pc lo' hd H locs ls hP' hS' hl'
  exact vx_ret (W.vret B.exec B.bytes hr (fun t ht hW => ⟨⟨σ', rfl, hp, by show va_P _ _ _ _; rw [ht]; exact hP'⟩, hS'.F ht⟩) hS'.2.2 hd B.notSynchronized)
section
variable {x : Cx} {G : Gl} {cc : ByteArray} {nL : Nat} {own : String} {rm : Room} {cells slots : Nat} {Q : State → Prop} {σ : Sg} {pc : Nat} {lo : List (Nat × Value)} {st st0 : List Value}
theorem PreX.now (h : CX x G cc nL own rm) (hX : XE x.2.2.2.2.1) {H : Heap} {locs : List Loc} (hP : va_P G.1 vwCl (wsC G σ) H) (hS : va_S (bA G) x.2.2.2.2.1.heap H locs) (U : State) (hU : U.heap = H) (hW : x.2.2.2.2.1.WarmedH U.vm) : PreX G σ U := ⟨Pre.now h hP hS U hU hW, hX.warm hW⟩
theorem r_xVi (h : CX x G cc nL own rm) (hX : XE x.2.2.2.2.1) {idx : Nat} {C : String} {y : MethodName} {ccy : ByteArray} {maxL n : Nat} {ty : FieldType} {rmy : Room} {c : Nat} {As : List Value} {post : Int32 → Sg → Prop} {pe : String → Sg → Prop} (lk : LKV own idx C y ccy maxL (some ty) n)
    (hM : Xi x.2.1 y ccy maxL ty rmy G (.ref (G.2.1 + c) :: As) σ post pe) (hrc : Rcv G σ c C) (hR : rmy.frames + 1 ≤ rm.frames ∧ 8 + (maxL + 11) + rmy.locals ≤ rm.locals) (hst : st0 = As.reverse ++ .ref (G.2.1 + c) :: st) (hn : As.length = n) (hW : (st.map fun v => v.category).sum ≤ 8) (hf : cells + rmy.cells ≤ rm.cells ∧ slots + rmy.slots ≤ rm.slots) (d : decode cc pc = .ok (.invokevirtual idx, 3))
    (kx : ∀ E σ', pe E σ' → VT x G nL (cells + rmy.cells) (slots + rmy.slots) Q σ' pc lo st E)
    (k : ∀ r σ', post r σ' → V x G nL (cells + rmy.cells) (slots + rmy.slots) Q σ' (pc + 3) lo (.int r :: st)) : V x G nL cells slots Q σ pc lo st0 := by
  subst hst
  intro H lc ls hP hS hl
  obtain ⟨hx, hb, hml, hown, hts, hrm, hE, hlk⟩ := id h
  refine vx_calli (vx_runV (Ts := wsL_law) (C := C) (b := G.2.1 + c) (As := As) (rest := st) ⟨hx, hb, hml, hown, hts⟩ hM ⟨lk.1.cb hts (by rw [hrm]; exact hR), hts _ lk.2.1, hts _ lk.2.2⟩ ⟨PreX.blind G σ _, hrc.cell hE.1 hP, fun U hU hW => ⟨rfl, PreX.now h hX hP hS U hU hW⟩⟩ rfl hn hl.1 rfl (lv_room hW) d (by rw [hrm]; exact hf)) hS (fun _ _ q => q) (fun _ q => q) (fun _ _ q => q) (fun E ce q9 u t H1 locs ht hvm _ hp hz1 hk1 hS1 hce hcv hcl => ?_) (fun r u t H1 locs ht hvm hp hB hz1 hk1 hS1 => ?_)
  · exact kx E u hp.1 H1 locs ls ce q9 (by rw [← ht]; exact hp.2) hS1 hl hce hcv hcl
  · exact k r u hp H1 locs ls (by rw [← ht]; exact hB) hS1 hl
theorem r_xVv (h : CX x G cc nL own rm) (hX : XE x.2.2.2.2.1) {idx : Nat} {C : String} {y : MethodName} {ccy : ByteArray} {maxL n : Nat} {rmy : Room} {c : Nat} {As : List Value} {post : Sg → Prop} {pe : String → Sg → Prop} (lk : LKV own idx C y ccy maxL none n)
    (hM : Xv x.2.1 y ccy maxL rmy G (.ref (G.2.1 + c) :: As) σ post pe) (hrc : Rcv G σ c C) (hR : rmy.frames + 1 ≤ rm.frames ∧ 8 + (maxL + 11) + rmy.locals ≤ rm.locals) (hst : st0 = As.reverse ++ .ref (G.2.1 + c) :: st) (hn : As.length = n) (hW : (st.map fun v => v.category).sum ≤ 8) (hf : cells + rmy.cells ≤ rm.cells ∧ slots + rmy.slots ≤ rm.slots) (d : decode cc pc = .ok (.invokevirtual idx, 3))
    (kx : ∀ E σ', pe E σ' → VT x G nL (cells + rmy.cells) (slots + rmy.slots) Q σ' pc lo st E)
    (k : ∀ σ', post σ' → V x G nL (cells + rmy.cells) (slots + rmy.slots) Q σ' (pc + 3) lo st) : V x G nL cells slots Q σ pc lo st0 := by
  subst hst
  intro H lc ls hP hS hl
  obtain ⟨hx, hb, hml, hown, hts, hrm, hE, hlk⟩ := id h
  refine vx_callv (vx_runV (Ts := wsL_law) (C := C) (b := G.2.1 + c) (As := As) (rest := st) ⟨hx, hb, hml, hown, hts⟩ hM ⟨lk.1.cb hts (by rw [hrm]; exact hR), hts _ lk.2.1, hts _ lk.2.2⟩ ⟨PreX.blind G σ _, hrc.cell hE.1 hP, fun U hU hW => ⟨rfl, PreX.now h hX hP hS U hU hW⟩⟩ rfl hn hl.1 rfl (lv_room hW) d (by rw [hrm]; exact hf)) hS (fun _ _ q => q) (fun _ q => q) (fun _ _ q => q) (fun E ce q9 u t H1 locs ht hvm _ hp hz1 hk1 hS1 hce hcv hcl => ?_) (fun u t H1 locs ht hvm hp hB hz1 hk1 hS1 => ?_)
  · exact kx E u hp.1 H1 locs ls ce q9 (by rw [← ht]; exact hp.2) hS1 hl hce hcv hcl
  · exact k u hp H1 locs ls (by rw [← ht]; exact hB) hS1 hl
theorem r_xSv (h : CX x G cc nL own rm) (hX : XE x.2.2.2.2.1) {idx : Nat} {y : MethodName} {ccy : ByteArray} {maxL n : Nat} {rmy : Room} {As : List Value} {post : Sg → Prop} {pe : String → Sg → Prop} (lk : LKS own idx y ccy maxL none n)
    (hM : Xv x.2.1 y ccy maxL rmy G As σ post pe) (hR : rmy.frames + 1 ≤ rm.frames ∧ 8 + (maxL + 11) + rmy.locals ≤ rm.locals) (hst : st0 = As.reverse ++ st) (hn : As.length = n) (hW : (st.map fun v => v.category).sum ≤ 8) (hf : cells + rmy.cells ≤ rm.cells ∧ slots + rmy.slots ≤ rm.slots) (d : decode cc pc = .ok (.invokestatic idx, 3))
    (kx : ∀ E σ', pe E σ' → VT x G nL (cells + rmy.cells) (slots + rmy.slots) Q σ' pc lo st E)
    (k : ∀ σ', post σ' → V x G nL (cells + rmy.cells) (slots + rmy.slots) Q σ' (pc + 3) lo st) : V x G nL cells slots Q σ pc lo st0 := by
  subst hst
  intro H lc ls hP hS hl
  obtain ⟨hx, hb, hml, hown, hts, hrm, hE, hlk⟩ := id h
  refine vx_callv (vx_runS (Ts := wsL_law) (As := As) (rest := st) ⟨hx, hb, hml, hown, hts⟩ hM ⟨lk.1.cb hts (by rw [hrm]; exact hR), hts _ lk.2⟩ ⟨PreX.blind G σ _, fun U hU hW => ⟨rfl, PreX.now h hX hP hS U hU hW⟩⟩ rfl hn hl.1 rfl (lv_room hW) d (by rw [hrm]; exact hf)) hS (fun _ _ q => q) (fun _ q => q) (fun _ _ q => q) (fun E ce q9 u t H1 locs ht hvm _ hp hz1 hk1 hS1 hce hcv hcl => ?_) (fun u t H1 locs ht hvm hp hB hz1 hk1 hS1 => ?_)
  · exact kx E u hp.1 H1 locs ls ce q9 (by rw [← ht]; exact hp.2) hS1 hl hce hcv hcl
  · exact k u hp H1 locs ls (by rw [← ht]; exact hB) hS1 hl
theorem V.wd {cells2 slots2 : Nat} (h1 : cells ≤ cells2) (h2 : slots ≤ slots2) (k : V x G nL cells2 slots2 Q σ pc lo st) : V x G nL cells slots Q σ pc lo st := fun H lc ls hP hS hl => W.widen h1 h2 (k H lc ls hP hS hl)
end
