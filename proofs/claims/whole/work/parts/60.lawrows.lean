/-! THE LAW: its words, its wrappers -/
/-- how a wrapper of the law ends: what it answers, and what stands in the row of one -/
def Lw (lst : List Nat) (C : Nat) (σ σ2 : Sg) (I0 I1 : Sg → Prop) (r : Int32) (a : Int64) : Prop := r = nI (kq lst C) ∧ (∀ q, 134 ≤ q → q < 143 → σ2.1 q = σ.1 q) ∧ (C ≠ 0 → I0 σ2) ∧ (C = 0 → σ2.2 143 0 = a ∧ I1 σ2)
theorem wl_no {lst : List Nat} {C c0 : Nat} {σ σ2 : Sg} {I0 I1 : Sg → Prop} {r : Int32} {a : Int64} (hC : C = c0) (h0 : c0 ≠ 0) (hk : r = nI (kq lst c0)) (o : ∀ q, 134 ≤ q → q < 143 → σ2.1 q = σ.1 q) (i : I0 σ2) : Lw lst C σ σ2 I0 I1 r a := by
  subst hC
  exact ⟨hk, o, fun _ => i, fun q => absurd q h0⟩
theorem wl_ok {lst : List Nat} {C : Nat} {σ σ2 : Sg} {I0 I1 : Sg → Prop} {r : Int32} {a : Int64} (hC : C = 0) (hk : r = nI 0) (o : ∀ q, 134 ≤ q → q < 143 → σ2.1 q = σ.1 q) (ha : σ2.2 143 0 = a) (i : I1 σ2) : Lw lst C σ σ2 I0 I1 r a := by
  subst hC
  exact ⟨by rw [hk, kq_0], o, fun q => absurd rfl q, fun _ => ⟨ha, i⟩⟩
theorem out_sL (σ : Sg) (c j : Nat) (v : Int64) : Out c (c + 1) σ (sL σ c j v) := fun q hq => ⟨rfl, va_n _ _ (by omega)⟩
theorem sL_s (σ : Sg) (c j : Nat) (v : Int64) : (sL σ c j v).2 c j = v := by
  show va_up σ.2 c (vp_updL (σ.2 c) j v) c j = v
  rw [va_s]
  simp [vp_updL]
theorem keepM {n : Nat} {tx : Nat → Nat} {A : Ab} {m : Nat} {H : Nat → Ab} {sv : Nat → Bool} {sl : Nat → Ab} {σ σ2 : Sg} (h : InvM n tx A m H sv sl σ) (e : ∀ q, 134 ≤ q → q < 143 → σ2.1 q = σ.1 q) : InvM n tx A m H sv sl σ2 := by
  unfold InvM TxM at h ⊢
  rw [e 134 (by omega) (by omega), e 135 (by omega) (by omega), e 136 (by omega) (by omega), e 138 (by omega) (by omega), e 139 (by omega) (by omega), e 140 (by omega) (by omega)]
  exact h
theorem keepO {lo hi : Nat} {σ σ2 : Sg} (h : Out lo hi σ σ2) (hd : hi ≤ 134) : ∀ q, 134 ≤ q → q < 143 → σ2.1 q = σ.1 q := fun q h1 _ => (h q (by omega)).1
theorem kq_le : ∀ (l : List Nat) (C : Nat), kq l C ≤ l.length
  | [], _ => Nat.le_refl _
  | a :: l, C => by
    rw [kq]
    have := kq_le l C
    by_cases h : C = 0
    · rw [if_pos h]; exact Nat.zero_le _
    · rw [if_neg h]
      by_cases h2 : C = a
      · rw [if_pos h2]; show 1 ≤ l.length + 1; omega
      · rw [if_neg h2]; show _ ≤ l.length + 1; omega
theorem kq_z {a : Nat} {l : List Nat} {C : Nat} (hl : l.length < 9) : nI (kq (a :: l) C) = nI 0 ↔ C = 0 := by
  have := kq_le (a :: l) C
  have h2 : (a :: l).length = l.length + 1 := rfl
  rw [nI_eq (by omega) (by omega)]
  exact ⟨fun h => Classical.byContradiction fun q => kq_n q h, fun h => by rw [h]; exact kq_0 _⟩
def bL (b : Bool) : Int64 := if b then 1 else 0
/-! which numbers may stand against a call -/
theorem r_cB (b : Bool) (k : Nat) : cB b k = 0 ∨ cB b k = k := by cases b <;> simp [cB]
theorem r_seq (a b : Bool) (j k : Nat) : seqC (cB a j) (cB b k) = 0 ∨ seqC (cB a j) (cB b k) = j ∨ seqC (cB a j) (cB b k) = k := by
  rcases r_cB a j with h | h
  · rw [h]; rcases r_cB b k with g | g
    · rw [g]; exact Or.inl rfl
    · rw [g]; exact Or.inr (Or.inr rfl)
  · rw [h]
    by_cases z : j = 0
    · subst z; rcases r_cB b k with g | g
      · rw [g]; exact Or.inl rfl
      · rw [g]; exact Or.inr (Or.inr rfl)
    · exact Or.inr (Or.inl (if_neg z))
theorem r_seq1 (a b : Bool) (k : Nat) : seqC (cB a k) (cB b k) = 0 ∨ seqC (cB a k) (cB b k) = k := (r_seq a b k k).imp id (fun h => h.elim id id)
theorem r_f23 (b c : Bool) : fst3 true b c = 0 ∨ fst3 true b c = 2 ∨ fst3 true b c = 3 := by cases b <;> cases c <;> decide
theorem r_f123 (a b c : Bool) : fst3 a b c = 0 ∨ fst3 a b c = 1 ∨ fst3 a b c = 2 ∨ fst3 a b c = 3 := by cases a <;> cases b <;> cases c <;> decide
theorem r_f13 (a c : Bool) : fst3 a true c = 0 ∨ fst3 a true c = 1 ∨ fst3 a true c = 3 := by cases a <;> cases c <;> decide
theorem r_f12 (a b : Bool) : fst3 a b true = 0 ∨ fst3 a b true = 1 ∨ fst3 a b true = 2 := by cases a <;> cases b <;> decide
theorem r_f1 (a : Bool) : fst3 a true true = 0 ∨ fst3 a true true = 1 := by cases a <;> decide
theorem r_f3 (c : Bool) : fst3 true true c = 0 ∨ fst3 true true c = 3 := by cases c <;> decide
/-- a wrapper: it catches all that may be thrown -/
abbrev Li (l : Launch) (y : MethodName) (cc : ByteArray) (nL : Nat) (hh : List (Nat × Nat × Nat × Nat)) (rm : Room) (G : Gl) (av : List Value) (σ : Sg) (post : Int32 → Sg → Prop) : Prop :=
  vx_Met l y (.codeWith y cc nL (some .int) hh :: wsL_law) rm (va_Pc av (PreX G σ)) (va_Qi post (Bw G) (bA G)) (XC G (fun _ _ => False)) rm.cells rm.slots (bA G)
theorem Li_of {l : Launch} {y : MethodName} {cc : ByteArray} {nL : Nat} {hh : List (Nat × Nat × Nat × Nat)} {rm : Room} {G : Gl} {av : List Value} {σ : Sg} {post : Int32 → Sg → Prop} {lo : List (Nat × Value)} (ho : y.cls = RL) (hy : plainName y.cls = true) (hlo : lv_args 0 av = lo) (hlen : (lg_sl av).length ≤ nL)
    (body : ∀ (x : Cx) (Q : State → Prop), x.2.1 = l → CX x G cc nL RL rm → XE x.2.2.2.2.1 → x.2.2.2.2.2.2.2.2.2.exceptionTable.toList = tableOf hh → (∀ r σ', post r σ' → ∀ pc lo', decode cc pc = .ok (.ireturn, 1) → V x G nL rm.cells rm.slots Q σ' pc lo' [.int r]) → V x G nL 0 0 Q σ 0 lo []) : Li l y cc nL hh rm G av σ post := by
  refine vx_ofWH (cc := cc) (maxL := nL) (ret := some .int) (hh := hh) hy rfl ?_
  intro p e s m args below meth c s₁ B hml hv
  obtain ⟨rfl, ⟨hP, hE⟩, hX⟩ := hv
  have hts := atoms_spec (ws := .codeWith y cc nL (some .int) hh :: wsL_law) B.pre
  have hl := lv_entry av (n := nL) hlen
  rw [lg_entry_eq]
  rw [hlo] at hl
  have hr := B.returns
  have htab := vx_table (x := y) B (hts _ List.mem_cons_self)
  have hCX : CX (p, l, e, rm, s, m, av.toArray, below, meth, c) G cc nL RL rm := ⟨B.exec, B.bytes, hml, ho ▸ findClass_of_methodNamed B.named, fun w hw => hts w (List.mem_cons_of_mem _ hw), rfl, hE, B.notSynchronized⟩
  refine body (p, l, e, rm, s, m, av.toArray, below, meth, c) _ rfl hCX hX htab ?_ s.heap [] _ hP va_S.rf hl
  intro r σ' hp pc lo' hd H locs ls hP' hS' hl'
  exact vx_ret (W.zret (v := r) B.exec B.bytes hr rfl (fun t ht hW => ⟨⟨r, σ', rfl, hp, by show va_P _ _ _ _; rw [ht]; exact hP'⟩, hS'.F ht⟩) hS'.2.2 hd B.notSynchronized)
section
variable {x : Cx} {G : Gl} {cc : ByteArray} {nL : Nat} {rm : Room} {cells slots : Nat} {Q : State → Prop} {σ : Sg} {pc : Nat} {lo : List (Nat × Value)} {st st0 : List Value}
theorem VT_catch {own : String} (h : CX x G cc nL own rm) {E : String} (pre : List ExceptionTableEntry) (z : ExceptionTableEntry) (suf : List ExceptionTableEntry) (hsplit : x.2.2.2.2.2.2.2.2.2.exceptionTable.toList = pre ++ z :: suf) (hpass : ∀ y ∈ pre, covers y pc = false ∨ (y.catchType ≠ 0 ∧ ∃ nm : String, Cond.classLink own y.catchType nm ∈ wsL_law ∧ va_Nc E nm x.2.2.2.2.1)) (hx : covers z pc = true) (h0 : z.catchType ≠ 0) (hlink : Cond.classLink own z.catchType E ∈ wsL_law) (hcast : va_Nw (.castable E E) x.2.2.2.2.1) (k : ∀ q : Nat, V x G nL cells slots Q σ z.handlerPc lo [.ref q]) : VT x G nL cells slots Q σ pc lo st E := by
  intro H lc ls ce q hP hS hl hce hcv hcl
  exact vx_catch (own := own) (name := E) h.2.2.2.1 pre z suf hsplit (fun y hy => (hpass y hy).imp id (fun ⟨a, nm, b, c⟩ => ⟨a, nm, h.2.2.2.2.1 _ b, c⟩)) hx h0 (h.2.2.2.2.1 _ hlink) (va_Nw.use rfl hcast) hce hcv hcl (k q H lc ls hP hS hl)
/-- a link to a wrapper -/
def LKW (own : String) (idx : Nat) (y : MethodName) (bytes : ByteArray) (maxL : Nat) (hh : List (Nat × Nat × Nat × Nat)) (n : Nat) : Prop :=
  Cond.methodLink own idx y ∈ wsL_law ∧ Cond.initialized y.cls ∈ wsL_law ∧ Cond.codeWith y bytes maxL (some .int) hh ∈ wsL_law ∧ (y.cls ≠ "java/lang/invoke/MethodHandle" ∧ y.cls ≠ "java/lang/invoke/VarHandle") ∧ (parseMethodDescriptor y.desc).map (fun d => d.parameters.length) = some n ∧ Cond.static y ∈ wsL_law
theorem r_LS {own : String} (h : CX x G cc nL own rm) (hX : XE x.2.2.2.2.1) {idx : Nat} {y : MethodName} {ccy : ByteArray} {maxL n : Nat} {hh : List (Nat × Nat × Nat × Nat)} {rmy : Room} {As : List Value} {post : Int32 → Sg → Prop} (lk : LKW own idx y ccy maxL hh n)
    (hM : Li x.2.1 y ccy maxL hh rmy G As σ post) (hst : st0 = As.reverse ++ st) (hn : As.length = n) (hR : rmy.frames + 1 ≤ rm.frames ∧ 8 + (maxL + 11) + rmy.locals ≤ rm.locals) (hW : (st.map fun v => v.category).sum ≤ 8) (hf : cells + rmy.cells ≤ rm.cells ∧ slots + rmy.slots ≤ rm.slots) (d : decode cc pc = .ok (.invokestatic idx, 3))
    (k : ∀ r σ', post r σ' → V x G nL (cells + rmy.cells) (slots + rmy.slots) Q σ' (pc + 3) lo (.int r :: st)) : V x G nL cells slots Q σ pc lo st0 := by
  subst hst
  intro H lc ls hP hS hl
  obtain ⟨hx, hb, hml, hown, hts, hrm, hE, hlk⟩ := id h
  obtain ⟨l1, l2, l3, l4, l5, l6⟩ := lk
  refine vx_calli (vx_runSX (Ts := wsL_law) (As := As) (rest := st) ⟨hx, hb, hml, hown, hts⟩ hM ⟨⟨rfl, rfl, by rw [hrm]; exact hR.1, by rw [hrm]; exact hR.2, law_pay hts l3, List.mem_cons_self⟩, hts _ l3, hts _ l2, l4, fun sig hs => (by rw [hs] at l5; exact (Option.some.inj l5).symm), hts _ l1, hts _ l6⟩ ⟨PreX.blind G σ _, fun U hU hW => ⟨rfl, PreX.now h hX hP hS U hU hW⟩⟩ rfl hn hl.1 rfl (lv_room hW) d (by rw [hrm]; exact hf)) hS (fun _ _ q => q) (fun _ q => q) (fun _ _ q => q) (fun E ce q9 u t H1 locs ht hvm _ hp hz1 hk1 hS1 hce hcv hcl => hp.1.elim) (fun r u t H1 locs ht hvm hp hB hz1 hk1 hS1 => ?_)
  exact k r u hp H1 locs ls (by rw [← ht]; exact hB) hS1 hl
/-- the script -/
theorem r_slen {own9 : String} (h : CX x G cc nL own9 rm) {b L : Nat} {xs : Nat → Int32} (hS0 : va_X b L xs x.2.2.2.2.1 x.2.2.2.2.1.heap) (hbl : b < x.2.2.2.2.1.heap.size) (hbA : ¬ bA G b) (d : decode cc pc = .ok (.arraylength, 1)) (k : V x G nL cells slots Q σ (pc + 1) lo (.int (nI L) :: st)) : V x G nL cells slots Q σ pc lo (.ref b :: st) := fun H lc ls hP hS hl => va_slen h.1 h.2.1 hS0 hbl hbA hS d (k H lc ls hP hS hl)
theorem r_sld {own9 : String} (h : CX x G cc nL own9 rm) {b L j : Nat} {i : Int32} {xs : Nat → Int32} (hS0 : va_X b L xs x.2.2.2.2.1 x.2.2.2.2.1.heap) (hbl : b < x.2.2.2.2.1.heap.size) (hbA : ¬ bA G b) (hi : i = nI j) (hj : j < L) (hL : L < 2 ^ 31) (d : decode cc pc = .ok (.iaload, 1)) (k : V x G nL cells slots Q σ (pc + 1) lo (.int (xs j) :: st)) : V x G nL cells slots Q σ pc lo (.int i :: .ref b :: st) := by
  subst hi
  intro H lc ls hP hS hl
  refine va_sld h.1 h.2.1 hS0 hbl hbA hS (vp_in_nI hj hL) d ?_
  rw [nI_clamp (Nat.lt_trans hj hL)]
  exact k H lc ls hP hS hl
end
