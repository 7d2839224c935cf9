/-! THE LAW'S WRAPPERS -/
/-- the answer: v, or what the exception is told by -/
def xq (C : Nat) (v : Int32) : Int32 := if C = 0 then v else if C = 1 then -9999001 else if C = 2 then -9999002 else -9999003
def sq (C : Nat) (S T : Cs) : Cs := if C = 0 then T else S
theorem xq_0 {C : Nat} {v : Int32} (h : C = 0) : xq C v = v := if_pos h
theorem sq_0 {C : Nat} {S T : Cs} (h : C = 0) : sq C S T = T := if_pos h
theorem sq_n {C : Nat} {S T : Cs} (h : C ≠ 0) : sq C S T = S := if_neg h
theorem sq_i {C : Nat} {S : Cs} : sq C S S = S := by unfold sq; split <;> rfl
theorem xq_1 {C : Nat} {v : Int32} (h : C = 1) : xq C v = -9999001 := by subst h; rfl
theorem xq_2 {C : Nat} {v : Int32} (h : C = 2) : xq C v = -9999002 := by subst h; rfl
theorem xq_3 {C : Nat} {v : Int32} (h : C = 3) : xq C v = -9999003 := by subst h; rfl
theorem wx_no {C c0 : Nat} {v r : Int32} {S T : Cs} {σ : Sg} (hC : C = c0) (h0 : c0 ≠ 0) (hk : r = xq c0 v) (hi : IS S σ) : r = xq C v ∧ IS (sq C S T) σ := by
  subst hC
  exact ⟨hk, by rw [sq_n h0]; exact hi⟩
theorem wx_ok {C : Nat} {v r : Int32} {S T : Cs} {σ : Sg} (hC : C = 0) (hr : r = v) (hi : IS T σ) : r = xq C v ∧ IS (sq C S T) σ := by
  rw [xq_0 hC, sq_0 hC]
  exact ⟨hr, hi⟩
/-- remembered, and then A2 -/
def pu (S : Cs) (A2 : Ab) : Cs := (S.1, sT S, A2, pushN (sM S), pushH (sM S) (sH S) (sA S), sV S, sL2 S)
/-- undone -/
def po (S : Cs) : Cs := (S.1, sT S, sH S (sM S - 1), sM S - 1, sH S, sV S, sL2 S)
def tadd (S : Cs) (u : Int32) : Cs := (S.1 + 1, va_up (sT S) S.1 (toN u), sA S, sM S, sH S, sV S, sL2 S)
def ksv (S : Cs) (u : Int32) : Cs := (S.1, sT S, sA S, sM S, sH S, va_up (sV S) (toN u) true, va_up (sL2 S) (toN u) (sA S))
def rst (S : Cs) (u : Int32) : Cs := (S.1, sT S, sL2 S (toN u), 0, sH S, sV S, sL2 S)
/-! which numbers may stand against a call -/
theorem r_cB (b : Bool) (k : Nat) : cB b k = 0 ∨ cB b k = k := by cases b <;> simp [cB]
theorem r_seq (a b : Bool) (j k : Nat) : seqC (cB a j) (cB b k) = 0 ∨ seqC (cB a j) (cB b k) = j ∨ seqC (cB a j) (cB b k) = k := by
  rcases r_cB a j with h | h
  · rw [h]; rcases r_cB b k with g | g
    · rw [g]; exact Or.inl rfl
    · rw [g]; exact Or.inr (Or.inr rfl)
  · rw [h]
    by_cases z : j = 0
    · subst z; rcases r_cB b k with g | g
      · rw [g]; exact Or.inl rfl
      · rw [g]; exact Or.inr (Or.inr rfl)
    · exact Or.inr (Or.inl (if_neg z))
theorem r_seq1 (a b : Bool) (k : Nat) : seqC (cB a k) (cB b k) = 0 ∨ seqC (cB a k) (cB b k) = k := (r_seq a b k k).imp id (fun h => h.elim id id)
theorem r_f23 (b c : Bool) : fst3 true b c = 0 ∨ fst3 true b c = 2 ∨ fst3 true b c = 3 := by cases b <;> cases c <;> decide
theorem r_f123 (a b c : Bool) : fst3 a b c = 0 ∨ fst3 a b c = 1 ∨ fst3 a b c = 2 ∨ fst3 a b c = 3 := by cases a <;> cases b <;> cases c <;> decide
theorem r_f13 (a c : Bool) : fst3 a true c = 0 ∨ fst3 a true c = 1 ∨ fst3 a true c = 3 := by cases a <;> cases c <;> decide
theorem r_f12 (a b : Bool) : fst3 a b true = 0 ∨ fst3 a b true = 1 ∨ fst3 a b true = 2 := by cases a <;> cases b <;> decide
theorem r_f1 (a : Bool) : fst3 a true true = 0 ∨ fst3 a true true = 1 := by cases a <;> decide
theorem r_f3 (c : Bool) : fst3 true true c = 0 ∨ fst3 true true c = 3 := by cases c <;> decide
/-- a wrapper: it catches all that may be thrown -/
abbrev Li (l : Launch) (y : MethodName) (cc : ByteArray) (nL : Nat) (hh : List (Nat × Nat × Nat × Nat)) (rm : Room) (G : Gl) (av : List Value) (σ : Sg) (post : Int32 → Sg → Prop) : Prop :=
  vx_Met l y (.codeWith y cc nL (some .int) hh :: wsL_law) rm (va_Pc av (PreX G σ)) (va_Qi post (Bw G) (bA G)) (XC G (fun _ _ => False)) rm.cells rm.slots (bA G)
theorem Li_of {l : Launch} {y : MethodName} {cc : ByteArray} {nL : Nat} {hh : List (Nat × Nat × Nat × Nat)} {rm : Room} {G : Gl} {av : List Value} {σ : Sg} {post : Int32 → Sg → Prop} {lo : List (Nat × Value)} (ho : y.cls = RL) (hy : plainName y.cls = true) (hlo : lv_args 0 av = lo) (hlen : (lg_sl av).length ≤ nL)
    (body : ∀ (x : Cx) (Q : State → Prop), x.2.1 = l → CX x G cc nL RL rm → XE x.2.2.2.2.1 → x.2.2.2.2.2.2.2.2.2.exceptionTable.toList = tableOf hh → (∀ r σ', post r σ' → ∀ pc lo', decode cc pc = .ok (.ireturn, 1) → V x G nL rm.cells rm.slots Q σ' pc lo' [.int r]) → V x G nL 0 0 Q σ 0 lo []) : Li l y cc nL hh rm G av σ post := by
  refine vx_ofWH (cc := cc) (maxL := nL) (ret := some .int) (hh := hh) hy rfl ?_
  intro p e s m args below meth c s₁ B hml hv
  obtain ⟨rfl, ⟨hP, hE⟩, hX⟩ := hv
  have hts := atoms_spec (ws := .codeWith y cc nL (some .int) hh :: wsL_law) B.pre
  have hl := lv_entry av (n := nL) hlen
  rw [lg_entry_eq]
  rw [hlo] at hl
  have hr := B.returns
  have htab := vx_table (x := y) B (hts _ List.mem_cons_self)
  have hCX : CX (p, l, e, rm, s, m, av.toArray, below, meth, c) G cc nL RL rm := ⟨B.exec, B.bytes, hml, ho ▸ findClass_of_methodNamed B.named, fun w hw => hts w (List.mem_cons_of_mem _ hw), rfl, hE, B.notSynchronized⟩
  refine body (p, l, e, rm, s, m, av.toArray, below, meth, c) _ rfl hCX hX htab ?_ s.heap [] _ hP va_S.rf hl
  intro r σ' hp pc lo' hd H locs ls hP' hS' hl'
  exact vx_ret (W.zret (v := r) B.exec B.bytes hr rfl (fun t ht hW => ⟨⟨r, σ', rfl, hp, by show va_P _ _ _ _; rw [ht]; exact hP'⟩, hS'.F ht⟩) hS'.2.2 hd B.notSynchronized)
section
variable {x : Cx} {G : Gl} {cc : ByteArray} {nL : Nat} {rm : Room} {cells slots : Nat} {Q : State → Prop} {σ : Sg} {pc : Nat} {lo : List (Nat × Value)} {st st0 : List Value}
theorem VT_catch {own : String} (h : CX x G cc nL own rm) {E : String} (pre : List ExceptionTableEntry) (z : ExceptionTableEntry) (suf : List ExceptionTableEntry) (hsplit : x.2.2.2.2.2.2.2.2.2.exceptionTable.toList = pre ++ z :: suf) (hpass : ∀ y ∈ pre, covers y pc = false ∨ (y.catchType ≠ 0 ∧ ∃ nm : String, Cond.classLink own y.catchType nm ∈ wsL_law ∧ va_Nc E nm x.2.2.2.2.1)) (hx : covers z pc = true) (h0 : z.catchType ≠ 0) (hlink : Cond.classLink own z.catchType E ∈ wsL_law) (hcast : va_Nw (.castable E E) x.2.2.2.2.1) (k : ∀ q : Nat, V x G nL cells slots Q σ z.handlerPc lo [.ref q]) : VT x G nL cells slots Q σ pc lo st E := by
  intro H lc ls ce q hP hS hl hce hcv hcl
  exact vx_catch (own := own) (name := E) h.2.2.2.1 pre z suf hsplit (fun y hy => (hpass y hy).imp id (fun ⟨a, nm, b, c⟩ => ⟨a, nm, h.2.2.2.2.1 _ b, c⟩)) hx h0 (h.2.2.2.2.1 _ hlink) (va_Nw.use rfl hcast) hce hcv hcl (k q H lc ls hP hS hl)
end

theorem lkw_132 : LKW RL 132 yL_tryAppend cL_tryAppend 3 [(0, 5, 6, 16), (0, 5, 10, 27)] 2 := ⟨mw_3_22, mw_3_15, mw_4_0, ⟨by decide +kernel, by decide +kernel⟩, by decide +kernel, mw_3_23⟩
theorem lkw_138 : LKW RL 138 yL_tryLoad cL_tryLoad 2 [(0, 4, 5, 27)] 1 := ⟨mw_5_1, mw_3_15, mw_5_3, ⟨by decide +kernel, by decide +kernel⟩, by decide +kernel, mw_5_2⟩
theorem lkw_142 : LKW RL 142 yL_trySteps cL_trySteps 4 [(0, 6, 7, 16), (0, 6, 11, 27)] 3 := ⟨mw_13_7, mw_3_15, mw_13_9, ⟨by decide +kernel, by decide +kernel⟩, by decide +kernel, mw_13_8⟩
theorem lkw_146 : LKW RL 146 yL_tryScaled cL_tryScaled 5 [(0, 7, 8, 13), (0, 7, 13, 16), (0, 7, 18, 27)] 4 := ⟨mw_14_23, mw_3_15, mw_15_1, ⟨by decide +kernel, by decide +kernel⟩, by decide +kernel, mw_15_0⟩
theorem lkw_150 : LKW RL 150 yL_tryJoined cL_tryJoined 4 [(0, 6, 7, 13), (0, 6, 11, 27)] 3 := ⟨mw_15_8, mw_3_15, mw_15_10, ⟨by decide +kernel, by decide +kernel⟩, by decide +kernel, mw_15_9⟩
theorem lkw_153 : LKW RL 153 yL_tryShared cL_tryShared 4 [(0, 6, 7, 13), (0, 6, 11, 27)] 3 := ⟨mw_15_15, mw_3_15, mw_15_17, ⟨by decide +kernel, by decide +kernel⟩, by decide +kernel, mw_15_16⟩
theorem lkw_156 : LKW RL 156 yL_tryWithout cL_tryWithout 4 [(0, 6, 7, 13), (0, 6, 11, 27)] 3 := ⟨mw_15_22, mw_3_15, mw_16_0, ⟨by decide +kernel, by decide +kernel⟩, by decide +kernel, mw_15_23⟩
theorem lkw_159 : LKW RL 159 yL_trySieved cL_trySieved 3 [(0, 5, 6, 13), (0, 5, 10, 27)] 2 := ⟨mw_16_5, mw_3_15, mw_16_7, ⟨by decide +kernel, by decide +kernel⟩, by decide +kernel, mw_16_6⟩
theorem lkw_162 : LKW RL 162 yL_tryThinned cL_tryThinned 4 [(0, 6, 7, 13), (0, 6, 11, 16), (0, 6, 15, 27)] 3 := ⟨mw_16_12, mw_3_15, mw_16_14, ⟨by decide +kernel, by decide +kernel⟩, by decide +kernel, mw_16_13⟩
theorem lkw_165 : LKW RL 165 yL_tryAdded cL_tryAdded 3 [(0, 5, 6, 13), (0, 5, 10, 27)] 2 := ⟨mw_16_19, mw_3_15, mw_16_21, ⟨by decide +kernel, by decide +kernel⟩, by decide +kernel, mw_16_20⟩
theorem lkw_168 : LKW RL 168 yL_tryDrop cL_tryDrop 2 [(0, 4, 5, 27)] 1 := ⟨mw_17_2, mw_3_15, mw_17_4, ⟨by decide +kernel, by decide +kernel⟩, by decide +kernel, mw_17_3⟩
theorem lkw_171 : LKW RL 171 yL_tryBegin cL_tryBegin 3 [(0, 5, 6, 13), (0, 5, 10, 27)] 2 := ⟨mw_17_9, mw_3_15, mw_17_11, ⟨by decide +kernel, by decide +kernel⟩, by decide +kernel, mw_17_10⟩
theorem lkw_174 : LKW RL 174 yL_tryRead cL_tryRead 3 [(0, 5, 6, 13), (0, 5, 10, 27)] 2 := ⟨mw_17_16, mw_3_15, mw_17_18, ⟨by decide +kernel, by decide +kernel⟩, by decide +kernel, mw_17_17⟩
theorem lkw_177 : LKW RL 177 yL_trySkip cL_trySkip 4 [(0, 6, 7, 13), (0, 6, 11, 16)] 3 := ⟨mw_17_23, mw_3_15, mw_18_1, ⟨by decide +kernel, by decide +kernel⟩, by decide +kernel, mw_18_0⟩
theorem lkw_180 : LKW RL 180 yL_tryReturn cL_tryReturn 3 [(0, 5, 6, 13)] 2 := ⟨mw_18_6, mw_3_15, mw_18_8, ⟨by decide +kernel, by decide +kernel⟩, by decide +kernel, mw_18_7⟩
theorem lkw_183 : LKW RL 183 yL_tryStop cL_tryStop 3 [(0, 5, 6, 13)] 2 := ⟨mw_18_13, mw_3_15, mw_18_15, ⟨by decide +kernel, by decide +kernel⟩, by decide +kernel, mw_18_14⟩
theorem lkw_186 : LKW RL 186 yL_tryUndo cL_tryUndo 2 [(0, 4, 5, 27)] 1 := ⟨mw_18_20, mw_3_15, mw_18_22, ⟨by decide +kernel, by decide +kernel⟩, by decide +kernel, mw_18_21⟩
theorem lkw_189 : LKW RL 189 yL_tryAt cL_tryAt 4 [(0, 6, 7, 13)] 3 := ⟨mw_19_8, mw_3_15, mw_19_10, ⟨by decide +kernel, by decide +kernel⟩, by decide +kernel, mw_19_9⟩
theorem lkw_192 : LKW RL 192 yL_tryTested cL_tryTested 4 [(0, 6, 7, 13)] 3 := ⟨mw_20_4, mw_3_15, mw_20_6, ⟨by decide +kernel, by decide +kernel⟩, by decide +kernel, mw_20_5⟩
theorem lkw_195 : LKW RL 195 yL_tryPlace cL_tryPlace 4 [(0, 6, 7, 13), (0, 6, 11, 16)] 3 := ⟨mw_20_19, mw_3_15, mw_20_21, ⟨by decide +kernel, by decide +kernel⟩, by decide +kernel, mw_20_20⟩
theorem lkw_198 : LKW RL 198 yL_tryUpTo cL_tryUpTo 4 [(0, 6, 7, 13), (0, 6, 11, 16)] 3 := ⟨mw_21_14, mw_3_15, mw_21_16, ⟨by decide +kernel, by decide +kernel⟩, by decide +kernel, mw_21_15⟩
theorem lkw_201 : LKW RL 201 yL_tryLast cL_tryLast 3 [(0, 5, 6, 13)] 2 := ⟨mw_21_21, mw_3_15, mw_21_23, ⟨by decide +kernel, by decide +kernel⟩, by decide +kernel, mw_21_22⟩
theorem lkw_204 : LKW RL 204 yL_tryCommon cL_tryCommon 4 [(0, 6, 7, 13)] 3 := ⟨mw_22_8, mw_3_15, mw_22_10, ⟨by decide +kernel, by decide +kernel⟩, by decide +kernel, mw_22_9⟩
theorem lkw_207 : LKW RL 207 yL_tryGap cL_tryGap 3 [(0, 5, 6, 13)] 2 := ⟨mw_22_19, mw_3_15, mw_22_21, ⟨by decide +kernel, by decide +kernel⟩, by decide +kernel, mw_22_20⟩
theorem lkw_210 : LKW RL 210 yL_tryListOf cL_tryListOf 3 [(0, 5, 6, 13)] 2 := ⟨mw_23_6, mw_3_15, mw_23_8, ⟨by decide +kernel, by decide +kernel⟩, by decide +kernel, mw_23_7⟩
theorem lkw_213 : LKW RL 213 yL_trySoFar cL_trySoFar 3 [(0, 5, 6, 13)] 2 := ⟨mw_23_20, mw_3_15, mw_23_22, ⟨by decide +kernel, by decide +kernel⟩, by decide +kernel, mw_23_21⟩
theorem lkw_216 : LKW RL 216 yL_tryNext cL_tryNext 3 [(0, 5, 6, 13)] 2 := ⟨mw_24_4, mw_3_15, mw_24_6, ⟨by decide +kernel, by decide +kernel⟩, by decide +kernel, mw_24_5⟩
theorem lkw_219 : LKW RL 219 yL_tryWalk cL_tryWalk 3 [(0, 5, 6, 16)] 2 := ⟨mw_24_12, mw_3_15, mw_24_14, ⟨by decide +kernel, by decide +kernel⟩, by decide +kernel, mw_24_13⟩
theorem lkw_222 : LKW RL 222 yL_tryCount cL_tryCount 3 [(0, 5, 6, 16)] 2 := ⟨mw_24_20, mw_3_15, mw_24_22, ⟨by decide +kernel, by decide +kernel⟩, by decide +kernel, mw_24_21⟩
theorem lkw_225 : LKW RL 225 yL_tryPair cL_tryPair 4 [(0, 6, 7, 16)] 3 := ⟨mw_25_6, mw_3_15, mw_25_8, ⟨by decide +kernel, by decide +kernel⟩, by decide +kernel, mw_25_7⟩
theorem lkw_228 : LKW RL 228 yL_tryIfJoined cL_tryIfJoined 4 [(0, 6, 7, 13)] 3 := ⟨mw_25_13, mw_3_15, mw_25_15, ⟨by decide +kernel, by decide +kernel⟩, by decide +kernel, mw_25_14⟩
theorem lkw_231 : LKW RL 231 yL_trySkipsTo cL_trySkipsTo 4 [(0, 6, 7, 13), (0, 6, 11, 16)] 3 := ⟨mw_26_0, mw_3_15, mw_26_2, ⟨by decide +kernel, by decide +kernel⟩, by decide +kernel, mw_26_1⟩
theorem lkw_234 : LKW RL 234 yL_tryKeep cL_tryKeep 3 [(0, 5, 6, 13)] 2 := ⟨mw_26_11, mw_3_15, mw_26_13, ⟨by decide +kernel, by decide +kernel⟩, by decide +kernel, mw_26_12⟩
theorem lkw_237 : LKW RL 237 yL_tryBack cL_tryBack 3 [(0, 5, 6, 13), (0, 5, 10, 27)] 2 := ⟨mw_26_23, mw_3_15, mw_27_1, ⟨by decide +kernel, by decide +kernel⟩, by decide +kernel, mw_27_0⟩
theorem lkw_252 : LKW RL 252 yL_is cL_is 4 [(0, 14, 15, 13), (0, 14, 19, 16)] 3 := ⟨mw_27_21, mw_3_15, mw_27_23, ⟨by decide +kernel, by decide +kernel⟩, by decide +kernel, mw_27_22⟩
theorem lkw_256 : LKW RL 256 yL_doSimulate cL_doSimulate 5 [(0, 6, 7, 16)] 3 := ⟨mw_28_4, mw_3_15, mw_28_6, ⟨by decide +kernel, by decide +kernel⟩, by decide +kernel, mw_28_5⟩
set_option maxRecDepth 100000 in
set_option maxHeartbeats 800000 in
theorem w_tryAppend (l : Launch) (hst : l.stackTraces = false) (G : Gl) (S : Cs) (u1 : Int32) : KW l yL_tryAppend cL_tryAppend 3 [(0, 5, 6, 16), (0, 5, 10, 27)] ({ frames := 8, cells := 2, slots := 12, locals := 133 } : Room) G [.ref (G.2.1 + 0), .int u1] S (xq (seqC (cB (inB (nI 0) (nI 255) u1) 2) (cB (decide (S.1 < 120)) 3)) (nI (S.1 + 1))) (sq (seqC (cB (inB (nI 0) (nI 255) u1) 2) (cB (decide (S.1 < 120)) 3)) S (tadd S u1)) := by
  intro σ hi
  refine Li_of rfl (by decide +kernel) (lo := [(0, .ref (G.2.1 + 0)), (1, .int u1)]) rfl (Nat.le_of_ble_eq_true rfl) ?_
  intro x Q hxl h hX htab hret
  subst hxl
  refine r_aload_n (pc := 0) h 0 rfl rfl dL_tryAppend_0 ?_
  refine r_iload_n (pc := 1) h 1 rfl rfl dL_tryAppend_1 ?_
  have hkx : ∀ (E : String) (s9 : Sg), (s9 = σ ∧ seqC (cB (inB (nI 0) (nI 255) u1) 2) (cB (decide (S.1 < 120)) 3) ≠ 0 ∧ E = exN (seqC (cB (inB (nI 0) (nI 255) u1) 2) (cB (decide (S.1 < 120)) 3))) → VT x G 3 2 12 Q s9 2 [(0, .ref (G.2.1 + 0)), (1, .int u1)] [] E := by
    intro E s9 hp
    obtain ⟨e9, hC, hE⟩ := hp
    subst e9
    rcases (show seqC (cB (inB (nI 0) (nI 255) u1) 2) (cB (decide (S.1 < 120)) 3) = 0 ∨ seqC (cB (inB (nI 0) (nI 255) u1) 2) (cB (decide (S.1 < 120)) 3) = 2 ∨ seqC (cB (inB (nI 0) (nI 255) u1) 2) (cB (decide (S.1 < 120)) 3) = 3 from r_seq _ _ _ _) with e0 | e0 | e0
    · exact absurd e0 hC
    · rw [e0] at hE
      obtain rfl : E = xI := hE
      refine VT_catch h [] ({ startPc := 0, endPc := 5, handlerPc := 6, catchType := 16 } : ExceptionTableEntry) [({ startPc := 0, endPc := 5, handlerPc := 10, catchType := 27 } : ExceptionTableEntry)] (htab.trans rfl) (fun y hy => absurd hy List.not_mem_nil) rfl (by decide) mw_4_1 hX.2.1.1 (fun q => ?_)
      refine r_astore_n (pc := 6) (lo2 := [(2, .ref q), (0, .ref (G.2.1 + 0)), (1, .int u1)]) h rfl (by decide) rfl dL_tryAppend_6 ?_
      refine r_ldc (pc := 7) (v := -9999002) h mw_4_3 dL_tryAppend_7 ?_
      exact V.wd (by decide) (by decide) (hret _ _ (wx_no e0 (by decide) rfl hi) 9 _ dL_tryAppend_9)
    · rw [e0] at hE
      obtain rfl : E = xS := hE
      refine VT_catch h [({ startPc := 0, endPc := 5, handlerPc := 6, catchType := 16 } : ExceptionTableEntry)] ({ startPc := 0, endPc := 5, handlerPc := 10, catchType := 27 } : ExceptionTableEntry) [] (htab.trans rfl) (List.forall_mem_cons.mpr ⟨Or.inr ⟨by decide, xI, mw_4_1, hX.2.2.2.2.2⟩, (fun y hy => absurd hy List.not_mem_nil)⟩) rfl (by decide) mw_4_2 hX.2.1.2.1 (fun q => ?_)
      refine r_astore_n (pc := 10) (lo2 := [(2, .ref q), (0, .ref (G.2.1 + 0)), (1, .int u1)]) h rfl (by decide) rfl dL_tryAppend_10 ?_
      refine r_ldc (pc := 11) (v := -9999003) h mw_4_4 dL_tryAppend_11 ?_
      exact V.wd (by decide) (by decide) (hret _ _ (wx_no e0 (by decide) rfl hi) 13 _ dL_tryAppend_13)
  refine r_xVi (pc := 2) (As := [.int u1]) (st := []) h hX lk_RL_23 (c_x_append x.2.1 hst G σ S.1 (sT S) (sA S) (sM S) (sH S) (sV S) (sL2 S) hi u1) rc_5 (by decide) rfl rfl (by first | decide | exact Nat.le_of_ble_eq_true rfl) (by decide) dL_tryAppend_2 hkx (fun r1 s2 q3 => ?_)
  obtain ⟨k0, k1, k2, k3⟩ := q3
  subst k1
  exact V.wd (by decide) (by decide) (hret _ _ (wx_ok k0 rfl k2) 5 _ dL_tryAppend_5)

set_option maxRecDepth 100000 in
set_option maxHeartbeats 800000 in
theorem w_trySteps (l : Launch) (hst : l.stackTraces = false) (G : Gl) (S : Cs) (u1 : Int32) (u2 : Int32) : KW l yL_trySteps cL_trySteps 4 [(0, 6, 7, 16), (0, 6, 11, 27)] ({ frames := 9, cells := 1, slots := 6, locals := 169 } : Room) G [.ref (G.2.1 + 0), .int u1, .int u2] S (xq (ob (sA S) 115 u1 u2 (nI 0)) ((co (sA S) 115 u1 u2 (nI 0)).1)) (sq (ob (sA S) 115 u1 u2 (nI 0)) S (pu S (co (sA S) 115 u1 u2 (nI 0)).2)) := by
  intro σ hi
  refine Li_of rfl (by decide +kernel) (lo := [(0, .ref (G.2.1 + 0)), (1, .int u1), (2, .int u2)]) rfl (Nat.le_of_ble_eq_true rfl) ?_
  intro x Q hxl h hX htab hret
  subst hxl
  refine r_aload_n (pc := 0) h 0 rfl rfl dL_trySteps_0 ?_
  refine r_iload_n (pc := 1) h 1 rfl rfl dL_trySteps_1 ?_
  refine r_iload_n (pc := 2) h 2 rfl rfl dL_trySteps_2 ?_
  have hkx : ∀ (E : String) (s9 : Sg), (s9 = σ ∧ ob (sA S) 115 u1 u2 (nI 0) ≠ 0 ∧ E = exN (ob (sA S) 115 u1 u2 (nI 0))) → VT x G 4 1 6 Q s9 3 [(0, .ref (G.2.1 + 0)), (1, .int u1), (2, .int u2)] [] E := by
    intro E s9 hp
    obtain ⟨e9, hC, hE⟩ := hp
    subst e9
    rcases (show ob (sA S) 115 u1 u2 (nI 0) = 0 ∨ ob (sA S) 115 u1 u2 (nI 0) = 2 ∨ ob (sA S) 115 u1 u2 (nI 0) = 3 from r_f23 _ _) with e0 | e0 | e0
    · exact absurd e0 hC
    · rw [e0] at hE
      obtain rfl : E = xI := hE
      refine VT_catch h [] ({ startPc := 0, endPc := 6, handlerPc := 7, catchType := 16 } : ExceptionTableEntry) [({ startPc := 0, endPc := 6, handlerPc := 11, catchType := 27 } : ExceptionTableEntry)] (htab.trans rfl) (fun y hy => absurd hy List.not_mem_nil) rfl (by decide) mw_4_1 hX.2.1.1 (fun q => ?_)
      refine r_astore_n (pc := 7) (lo2 := [(3, .ref q), (0, .ref (G.2.1 + 0)), (1, .int u1), (2, .int u2)]) h rfl (by decide) rfl dL_trySteps_7 ?_
      refine r_ldc (pc := 8) (v := -9999002) h mw_4_3 dL_trySteps_8 ?_
      exact V.wd (by decide) (by decide) (hret _ _ (wx_no e0 (by decide) rfl hi) 10 _ dL_trySteps_10)
    · rw [e0] at hE
      obtain rfl : E = xS := hE
      refine VT_catch h [({ startPc := 0, endPc := 6, handlerPc := 7, catchType := 16 } : ExceptionTableEntry)] ({ startPc := 0, endPc := 6, handlerPc := 11, catchType := 27 } : ExceptionTableEntry) [] (htab.trans rfl) (List.forall_mem_cons.mpr ⟨Or.inr ⟨by decide, xI, mw_4_1, hX.2.2.2.2.2⟩, (fun y hy => absurd hy List.not_mem_nil)⟩) rfl (by decide) mw_4_2 hX.2.1.2.1 (fun q => ?_)
      refine r_astore_n (pc := 11) (lo2 := [(3, .ref q), (0, .ref (G.2.1 + 0)), (1, .int u1), (2, .int u2)]) h rfl (by decide) rfl dL_trySteps_11 ?_
      refine r_ldc (pc := 12) (v := -9999003) h mw_4_4 dL_trySteps_12 ?_
      exact V.wd (by decide) (by decide) (hret _ _ (wx_no e0 (by decide) rfl hi) 14 _ dL_trySteps_14)
  refine r_xVi (pc := 3) (As := [.int u1, .int u2]) (st := []) h hX lk_RL_34 (c_x_makeSteps x.2.1 hst G σ S.1 (sT S) (sA S) (sM S) (sH S) (sV S) (sL2 S) hi u1 u2) rc_5 (by decide) rfl rfl (by first | decide | exact Nat.le_of_ble_eq_true rfl) (by decide) dL_trySteps_3 hkx (fun r1 s2 q3 => ?_)
  obtain ⟨k0, k1, k2, k3⟩ := q3
  subst k1
  exact V.wd (by decide) (by decide) (hret _ _ (wx_ok k0 rfl k2) 6 _ dL_trySteps_6)

set_option maxRecDepth 100000 in
set_option maxHeartbeats 800000 in
theorem w_tryScaled (l : Launch) (hst : l.stackTraces = false) (G : Gl) (S : Cs) (u1 : Int32) (u2 : Int32) (u3 : Int32) : KW l yL_tryScaled cL_tryScaled 5 [(0, 7, 8, 13), (0, 7, 13, 16), (0, 7, 18, 27)] ({ frames := 9, cells := 1, slots := 6, locals := 170 } : Room) G [.ref (G.2.1 + 0), .int u1, .int u2, .int u3] S (xq (ob (sA S) 120 u1 u2 u3) ((co (sA S) 120 u1 u2 u3).1)) (sq (ob (sA S) 120 u1 u2 u3) S (pu S (co (sA S) 120 u1 u2 u3).2)) := by
  intro σ hi
  refine Li_of rfl (by decide +kernel) (lo := [(0, .ref (G.2.1 + 0)), (1, .int u1), (2, .int u2), (3, .int u3)]) rfl (Nat.le_of_ble_eq_true rfl) ?_
  intro x Q hxl h hX htab hret
  subst hxl
  refine r_aload_n (pc := 0) h 0 rfl rfl dL_tryScaled_0 ?_
  refine r_iload_n (pc := 1) h 1 rfl rfl dL_tryScaled_1 ?_
  refine r_iload_n (pc := 2) h 2 rfl rfl dL_tryScaled_2 ?_
  refine r_iload_n (pc := 3) h 3 rfl rfl dL_tryScaled_3 ?_
  have hkx : ∀ (E : String) (s9 : Sg), (s9 = σ ∧ ob (sA S) 120 u1 u2 u3 ≠ 0 ∧ E = exN (ob (sA S) 120 u1 u2 u3)) → VT x G 5 1 6 Q s9 4 [(0, .ref (G.2.1 + 0)), (1, .int u1), (2, .int u2), (3, .int u3)] [] E := by
    intro E s9 hp
    obtain ⟨e9, hC, hE⟩ := hp
    subst e9
    rcases (show ob (sA S) 120 u1 u2 u3 = 0 ∨ ob (sA S) 120 u1 u2 u3 = 1 ∨ ob (sA S) 120 u1 u2 u3 = 2 ∨ ob (sA S) 120 u1 u2 u3 = 3 from r_f123 _ _ _) with e0 | e0 | e0 | e0
    · exact absurd e0 hC
    · rw [e0] at hE
      obtain rfl : E = xO := hE
      refine VT_catch h [] ({ startPc := 0, endPc := 7, handlerPc := 8, catchType := 13 } : ExceptionTableEntry) [({ startPc := 0, endPc := 7, handlerPc := 13, catchType := 16 } : ExceptionTableEntry), ({ startPc := 0, endPc := 7, handlerPc := 18, catchType := 27 } : ExceptionTableEntry)] (htab.trans rfl) (fun y hy => absurd hy List.not_mem_nil) rfl (by decide) mw_15_2 hX.2.1.2.2.1 (fun q => ?_)
      refine r_astore (pc := 8) (lo2 := [(4, .ref q), (0, .ref (G.2.1 + 0)), (1, .int u1), (2, .int u2), (3, .int u3)]) h (by decide) rfl dL_tryScaled_8 ?_
      refine r_ldc (pc := 10) (v := -9999001) h mw_15_3 dL_tryScaled_10 ?_
      exact V.wd (by decide) (by decide) (hret _ _ (wx_no e0 (by decide) rfl hi) 12 _ dL_tryScaled_12)
    · rw [e0] at hE
      obtain rfl : E = xI := hE
      refine VT_catch h [({ startPc := 0, endPc := 7, handlerPc := 8, catchType := 13 } : ExceptionTableEntry)] ({ startPc := 0, endPc := 7, handlerPc := 13, catchType := 16 } : ExceptionTableEntry) [({ startPc := 0, endPc := 7, handlerPc := 18, catchType := 27 } : ExceptionTableEntry)] (htab.trans rfl) (List.forall_mem_cons.mpr ⟨Or.inr ⟨by decide, xO, mw_15_2, hX.2.2.2.1⟩, (fun y hy => absurd hy List.not_mem_nil)⟩) rfl (by decide) mw_4_1 hX.2.1.1 (fun q => ?_)
      refine r_astore (pc := 13) (lo2 := [(4, .ref q), (0, .ref (G.2.1 + 0)), (1, .int u1), (2, .int u2), (3, .int u3)]) h (by decide) rfl dL_tryScaled_13 ?_
      refine r_ldc (pc := 15) (v := -9999002) h mw_4_3 dL_tryScaled_15 ?_
      exact V.wd (by decide) (by decide) (hret _ _ (wx_no e0 (by decide) rfl hi) 17 _ dL_tryScaled_17)
    · rw [e0] at hE
      obtain rfl : E = xS := hE
      refine VT_catch h [({ startPc := 0, endPc := 7, handlerPc := 8, catchType := 13 } : ExceptionTableEntry), ({ startPc := 0, endPc := 7, handlerPc := 13, catchType := 16 } : ExceptionTableEntry)] ({ startPc := 0, endPc := 7, handlerPc := 18, catchType := 27 } : ExceptionTableEntry) [] (htab.trans rfl) (List.forall_mem_cons.mpr ⟨Or.inr ⟨by decide, xO, mw_15_2, hX.2.2.2.2.1⟩, (List.forall_mem_cons.mpr ⟨Or.inr ⟨by decide, xI, mw_4_1, hX.2.2.2.2.2⟩, (fun y hy => absurd hy List.not_mem_nil)⟩)⟩) rfl (by decide) mw_4_2 hX.2.1.2.1 (fun q => ?_)
      refine r_astore (pc := 18) (lo2 := [(4, .ref q), (0, .ref (G.2.1 + 0)), (1, .int u1), (2, .int u2), (3, .int u3)]) h (by decide) rfl dL_tryScaled_18 ?_
      refine r_ldc (pc := 20) (v := -9999003) h mw_4_4 dL_tryScaled_20 ?_
      exact V.wd (by decide) (by decide) (hret _ _ (wx_no e0 (by decide) rfl hi) 22 _ dL_tryScaled_22)
  refine r_xVi (pc := 4) (As := [.int u1, .int u2, .int u3]) (st := []) h hX lk_RL_38 (c_x_makeScaled x.2.1 hst G σ S.1 (sT S) (sA S) (sM S) (sH S) (sV S) (sL2 S) hi u1 u2 u3) rc_5 (by decide) rfl rfl (by first | decide | exact Nat.le_of_ble_eq_true rfl) (by decide) dL_tryScaled_4 hkx (fun r1 s2 q3 => ?_)
  obtain ⟨k0, k1, k2, k3⟩ := q3
  subst k1
  exact V.wd (by decide) (by decide) (hret _ _ (wx_ok k0 rfl k2) 7 _ dL_tryScaled_7)

set_option maxRecDepth 100000 in
set_option maxHeartbeats 800000 in
theorem w_tryJoined (l : Launch) (hst : l.stackTraces = false) (G : Gl) (S : Cs) (u1 : Int32) (u2 : Int32) : KW l yL_tryJoined cL_tryJoined 4 [(0, 6, 7, 13), (0, 6, 11, 27)] ({ frames := 9, cells := 1, slots := 6, locals := 169 } : Room) G [.ref (G.2.1 + 0), .int u1, .int u2] S (xq (ob (sA S) 106 u1 u2 (nI 0)) ((co (sA S) 106 u1 u2 (nI 0)).1)) (sq (ob (sA S) 106 u1 u2 (nI 0)) S (pu S (co (sA S) 106 u1 u2 (nI 0)).2)) := by
  intro σ hi
  refine Li_of rfl (by decide +kernel) (lo := [(0, .ref (G.2.1 + 0)), (1, .int u1), (2, .int u2)]) rfl (Nat.le_of_ble_eq_true rfl) ?_
  intro x Q hxl h hX htab hret
  subst hxl
  refine r_aload_n (pc := 0) h 0 rfl rfl dL_tryJoined_0 ?_
  refine r_iload_n (pc := 1) h 1 rfl rfl dL_tryJoined_1 ?_
  refine r_iload_n (pc := 2) h 2 rfl rfl dL_tryJoined_2 ?_
  have hkx : ∀ (E : String) (s9 : Sg), (s9 = σ ∧ ob (sA S) 106 u1 u2 (nI 0) ≠ 0 ∧ E = exN (ob (sA S) 106 u1 u2 (nI 0))) → VT x G 4 1 6 Q s9 3 [(0, .ref (G.2.1 + 0)), (1, .int u1), (2, .int u2)] [] E := by
    intro E s9 hp
    obtain ⟨e9, hC, hE⟩ := hp
    subst e9
    rcases (show ob (sA S) 106 u1 u2 (nI 0) = 0 ∨ ob (sA S) 106 u1 u2 (nI 0) = 1 ∨ ob (sA S) 106 u1 u2 (nI 0) = 3 from r_f13 _ _) with e0 | e0 | e0
    · exact absurd e0 hC
    · rw [e0] at hE
      obtain rfl : E = xO := hE
      refine VT_catch h [] ({ startPc := 0, endPc := 6, handlerPc := 7, catchType := 13 } : ExceptionTableEntry) [({ startPc := 0, endPc := 6, handlerPc := 11, catchType := 27 } : ExceptionTableEntry)] (htab.trans rfl) (fun y hy => absurd hy List.not_mem_nil) rfl (by decide) mw_15_2 hX.2.1.2.2.1 (fun q => ?_)
      refine r_astore_n (pc := 7) (lo2 := [(3, .ref q), (0, .ref (G.2.1 + 0)), (1, .int u1), (2, .int u2)]) h rfl (by decide) rfl dL_tryJoined_7 ?_
      refine r_ldc (pc := 8) (v := -9999001) h mw_15_3 dL_tryJoined_8 ?_
      exact V.wd (by decide) (by decide) (hret _ _ (wx_no e0 (by decide) rfl hi) 10 _ dL_tryJoined_10)
    · rw [e0] at hE
      obtain rfl : E = xS := hE
      refine VT_catch h [({ startPc := 0, endPc := 6, handlerPc := 7, catchType := 13 } : ExceptionTableEntry)] ({ startPc := 0, endPc := 6, handlerPc := 11, catchType := 27 } : ExceptionTableEntry) [] (htab.trans rfl) (List.forall_mem_cons.mpr ⟨Or.inr ⟨by decide, xO, mw_15_2, hX.2.2.2.2.1⟩, (fun y hy => absurd hy List.not_mem_nil)⟩) rfl (by decide) mw_4_2 hX.2.1.2.1 (fun q => ?_)
      refine r_astore_n (pc := 11) (lo2 := [(3, .ref q), (0, .ref (G.2.1 + 0)), (1, .int u1), (2, .int u2)]) h rfl (by decide) rfl dL_tryJoined_11 ?_
      refine r_ldc (pc := 12) (v := -9999003) h mw_4_4 dL_tryJoined_12 ?_
      exact V.wd (by decide) (by decide) (hret _ _ (wx_no e0 (by decide) rfl hi) 14 _ dL_tryJoined_14)
  refine r_xVi (pc := 3) (As := [.int u1, .int u2]) (st := []) h hX lk_RL_42 (c_x_makeJoined x.2.1 hst G σ S.1 (sT S) (sA S) (sM S) (sH S) (sV S) (sL2 S) hi u1 u2) rc_5 (by decide) rfl rfl (by first | decide | exact Nat.le_of_ble_eq_true rfl) (by decide) dL_tryJoined_3 hkx (fun r1 s2 q3 => ?_)
  obtain ⟨k0, k1, k2, k3⟩ := q3
  subst k1
  exact V.wd (by decide) (by decide) (hret _ _ (wx_ok k0 rfl k2) 6 _ dL_tryJoined_6)

set_option maxRecDepth 100000 in
set_option maxHeartbeats 800000 in
theorem w_tryShared (l : Launch) (hst : l.stackTraces = false) (G : Gl) (S : Cs) (u1 : Int32) (u2 : Int32) : KW l yL_tryShared cL_tryShared 4 [(0, 6, 7, 13), (0, 6, 11, 27)] ({ frames := 9, cells := 1, slots := 6, locals := 169 } : Room) G [.ref (G.2.1 + 0), .int u1, .int u2] S (xq (ob (sA S) 104 u1 u2 (nI 0)) ((co (sA S) 104 u1 u2 (nI 0)).1)) (sq (ob (sA S) 104 u1 u2 (nI 0)) S (pu S (co (sA S) 104 u1 u2 (nI 0)).2)) := by
  intro σ hi
  refine Li_of rfl (by decide +kernel) (lo := [(0, .ref (G.2.1 + 0)), (1, .int u1), (2, .int u2)]) rfl (Nat.le_of_ble_eq_true rfl) ?_
  intro x Q hxl h hX htab hret
  subst hxl
  refine r_aload_n (pc := 0) h 0 rfl rfl dL_tryShared_0 ?_
  refine r_iload_n (pc := 1) h 1 rfl rfl dL_tryShared_1 ?_
  refine r_iload_n (pc := 2) h 2 rfl rfl dL_tryShared_2 ?_
  have hkx : ∀ (E : String) (s9 : Sg), (s9 = σ ∧ ob (sA S) 104 u1 u2 (nI 0) ≠ 0 ∧ E = exN (ob (sA S) 104 u1 u2 (nI 0))) → VT x G 4 1 6 Q s9 3 [(0, .ref (G.2.1 + 0)), (1, .int u1), (2, .int u2)] [] E := by
    intro E s9 hp
    obtain ⟨e9, hC, hE⟩ := hp
    subst e9
    rcases (show ob (sA S) 104 u1 u2 (nI 0) = 0 ∨ ob (sA S) 104 u1 u2 (nI 0) = 1 ∨ ob (sA S) 104 u1 u2 (nI 0) = 3 from r_f13 _ _) with e0 | e0 | e0
    · exact absurd e0 hC
    · rw [e0] at hE
      obtain rfl : E = xO := hE
      refine VT_catch h [] ({ startPc := 0, endPc := 6, handlerPc := 7, catchType := 13 } : ExceptionTableEntry) [({ startPc := 0, endPc := 6, handlerPc := 11, catchType := 27 } : ExceptionTableEntry)] (htab.trans rfl) (fun y hy => absurd hy List.not_mem_nil) rfl (by decide) mw_15_2 hX.2.1.2.2.1 (fun q => ?_)
      refine r_astore_n (pc := 7) (lo2 := [(3, .ref q), (0, .ref (G.2.1 + 0)), (1, .int u1), (2, .int u2)]) h rfl (by decide) rfl dL_tryShared_7 ?_
      refine r_ldc (pc := 8) (v := -9999001) h mw_15_3 dL_tryShared_8 ?_
      exact V.wd (by decide) (by decide) (hret _ _ (wx_no e0 (by decide) rfl hi) 10 _ dL_tryShared_10)
    · rw [e0] at hE
      obtain rfl : E = xS := hE
      refine VT_catch h [({ startPc := 0, endPc := 6, handlerPc := 7, catchType := 13 } : ExceptionTableEntry)] ({ startPc := 0, endPc := 6, handlerPc := 11, catchType := 27 } : ExceptionTableEntry) [] (htab.trans rfl) (List.forall_mem_cons.mpr ⟨Or.inr ⟨by decide, xO, mw_15_2, hX.2.2.2.2.1⟩, (fun y hy => absurd hy List.not_mem_nil)⟩) rfl (by decide) mw_4_2 hX.2.1.2.1 (fun q => ?_)
      refine r_astore_n (pc := 11) (lo2 := [(3, .ref q), (0, .ref (G.2.1 + 0)), (1, .int u1), (2, .int u2)]) h rfl (by decide) rfl dL_tryShared_11 ?_
      refine r_ldc (pc := 12) (v := -9999003) h mw_4_4 dL_tryShared_12 ?_
      exact V.wd (by decide) (by decide) (hret _ _ (wx_no e0 (by decide) rfl hi) 14 _ dL_tryShared_14)
  refine r_xVi (pc := 3) (As := [.int u1, .int u2]) (st := []) h hX lk_RL_45 (c_x_makeShared x.2.1 hst G σ S.1 (sT S) (sA S) (sM S) (sH S) (sV S) (sL2 S) hi u1 u2) rc_5 (by decide) rfl rfl (by first | decide | exact Nat.le_of_ble_eq_true rfl) (by decide) dL_tryShared_3 hkx (fun r1 s2 q3 => ?_)
  obtain ⟨k0, k1, k2, k3⟩ := q3
  subst k1
  exact V.wd (by decide) (by decide) (hret _ _ (wx_ok k0 rfl k2) 6 _ dL_tryShared_6)

set_option maxRecDepth 100000 in
set_option maxHeartbeats 800000 in
theorem w_tryWithout (l : Launch) (hst : l.stackTraces = false) (G : Gl) (S : Cs) (u1 : Int32) (u2 : Int32) : KW l yL_tryWithout cL_tryWithout 4 [(0, 6, 7, 13), (0, 6, 11, 27)] ({ frames := 9, cells := 1, slots := 6, locals := 169 } : Room) G [.ref (G.2.1 + 0), .int u1, .int u2] S (xq (ob (sA S) 119 u1 u2 (nI 0)) ((co (sA S) 119 u1 u2 (nI 0)).1)) (sq (ob (sA S) 119 u1 u2 (nI 0)) S (pu S (co (sA S) 119 u1 u2 (nI 0)).2)) := by
  intro σ hi
  refine Li_of rfl (by decide +kernel) (lo := [(0, .ref (G.2.1 + 0)), (1, .int u1), (2, .int u2)]) rfl (Nat.le_of_ble_eq_true rfl) ?_
  intro x Q hxl h hX htab hret
  subst hxl
  refine r_aload_n (pc := 0) h 0 rfl rfl dL_tryWithout_0 ?_
  refine r_iload_n (pc := 1) h 1 rfl rfl dL_tryWithout_1 ?_
  refine r_iload_n (pc := 2) h 2 rfl rfl dL_tryWithout_2 ?_
  have hkx : ∀ (E : String) (s9 : Sg), (s9 = σ ∧ ob (sA S) 119 u1 u2 (nI 0) ≠ 0 ∧ E = exN (ob (sA S) 119 u1 u2 (nI 0))) → VT x G 4 1 6 Q s9 3 [(0, .ref (G.2.1 + 0)), (1, .int u1), (2, .int u2)] [] E := by
    intro E s9 hp
    obtain ⟨e9, hC, hE⟩ := hp
    subst e9
    rcases (show ob (sA S) 119 u1 u2 (nI 0) = 0 ∨ ob (sA S) 119 u1 u2 (nI 0) = 1 ∨ ob (sA S) 119 u1 u2 (nI 0) = 3 from r_f13 _ _) with e0 | e0 | e0
    · exact absurd e0 hC
    · rw [e0] at hE
      obtain rfl : E = xO := hE
      refine VT_catch h [] ({ startPc := 0, endPc := 6, handlerPc := 7, catchType := 13 } : ExceptionTableEntry) [({ startPc := 0, endPc := 6, handlerPc := 11, catchType := 27 } : ExceptionTableEntry)] (htab.trans rfl) (fun y hy => absurd hy List.not_mem_nil) rfl (by decide) mw_15_2 hX.2.1.2.2.1 (fun q => ?_)
      refine r_astore_n (pc := 7) (lo2 := [(3, .ref q), (0, .ref (G.2.1 + 0)), (1, .int u1), (2, .int u2)]) h rfl (by decide) rfl dL_tryWithout_7 ?_
      refine r_ldc (pc := 8) (v := -9999001) h mw_15_3 dL_tryWithout_8 ?_
      exact V.wd (by decide) (by decide) (hret _ _ (wx_no e0 (by decide) rfl hi) 10 _ dL_tryWithout_10)
    · rw [e0] at hE
      obtain rfl : E = xS := hE
      refine VT_catch h [({ startPc := 0, endPc := 6, handlerPc := 7, catchType := 13 } : ExceptionTableEntry)] ({ startPc := 0, endPc := 6, handlerPc := 11, catchType := 27 } : ExceptionTableEntry) [] (htab.trans rfl) (List.forall_mem_cons.mpr ⟨Or.inr ⟨by decide, xO, mw_15_2, hX.2.2.2.2.1⟩, (fun y hy => absurd hy List.not_mem_nil)⟩) rfl (by decide) mw_4_2 hX.2.1.2.1 (fun q => ?_)
      refine r_astore_n (pc := 11) (lo2 := [(3, .ref q), (0, .ref (G.2.1 + 0)), (1, .int u1), (2, .int u2)]) h rfl (by decide) rfl dL_tryWithout_11 ?_
      refine r_ldc (pc := 12) (v := -9999003) h mw_4_4 dL_tryWithout_12 ?_
      exact V.wd (by decide) (by decide) (hret _ _ (wx_no e0 (by decide) rfl hi) 14 _ dL_tryWithout_14)
  refine r_xVi (pc := 3) (As := [.int u1, .int u2]) (st := []) h hX lk_RL_48 (c_x_makeWithout x.2.1 hst G σ S.1 (sT S) (sA S) (sM S) (sH S) (sV S) (sL2 S) hi u1 u2) rc_5 (by decide) rfl rfl (by first | decide | exact Nat.le_of_ble_eq_true rfl) (by decide) dL_tryWithout_3 hkx (fun r1 s2 q3 => ?_)
  obtain ⟨k0, k1, k2, k3⟩ := q3
  subst k1
  exact V.wd (by decide) (by decide) (hret _ _ (wx_ok k0 rfl k2) 6 _ dL_tryWithout_6)

set_option maxRecDepth 100000 in
set_option maxHeartbeats 800000 in
theorem w_trySieved (l : Launch) (hst : l.stackTraces = false) (G : Gl) (S : Cs) (u1 : Int32) : KW l yL_trySieved cL_trySieved 3 [(0, 5, 6, 13), (0, 5, 10, 27)] ({ frames := 9, cells := 1, slots := 6, locals := 168 } : Room) G [.ref (G.2.1 + 0), .int u1] S (xq (ob (sA S) 118 u1 (nI 0) (nI 0)) ((co (sA S) 118 u1 (nI 0) (nI 0)).1)) (sq (ob (sA S) 118 u1 (nI 0) (nI 0)) S (pu S (co (sA S) 118 u1 (nI 0) (nI 0)).2)) := by
  intro σ hi
  refine Li_of rfl (by decide +kernel) (lo := [(0, .ref (G.2.1 + 0)), (1, .int u1)]) rfl (Nat.le_of_ble_eq_true rfl) ?_
  intro x Q hxl h hX htab hret
  subst hxl
  refine r_aload_n (pc := 0) h 0 rfl rfl dL_trySieved_0 ?_
  refine r_iload_n (pc := 1) h 1 rfl rfl dL_trySieved_1 ?_
  have hkx : ∀ (E : String) (s9 : Sg), (s9 = σ ∧ ob (sA S) 118 u1 (nI 0) (nI 0) ≠ 0 ∧ E = exN (ob (sA S) 118 u1 (nI 0) (nI 0))) → VT x G 3 1 6 Q s9 2 [(0, .ref (G.2.1 + 0)), (1, .int u1)] [] E := by
    intro E s9 hp
    obtain ⟨e9, hC, hE⟩ := hp
    subst e9
    rcases (show ob (sA S) 118 u1 (nI 0) (nI 0) = 0 ∨ ob (sA S) 118 u1 (nI 0) (nI 0) = 1 ∨ ob (sA S) 118 u1 (nI 0) (nI 0) = 3 from r_f13 _ _) with e0 | e0 | e0
    · exact absurd e0 hC
    · rw [e0] at hE
      obtain rfl : E = xO := hE
      refine VT_catch h [] ({ startPc := 0, endPc := 5, handlerPc := 6, catchType := 13 } : ExceptionTableEntry) [({ startPc := 0, endPc := 5, handlerPc := 10, catchType := 27 } : ExceptionTableEntry)] (htab.trans rfl) (fun y hy => absurd hy List.not_mem_nil) rfl (by decide) mw_15_2 hX.2.1.2.2.1 (fun q => ?_)
      refine r_astore_n (pc := 6) (lo2 := [(2, .ref q), (0, .ref (G.2.1 + 0)), (1, .int u1)]) h rfl (by decide) rfl dL_trySieved_6 ?_
      refine r_ldc (pc := 7) (v := -9999001) h mw_15_3 dL_trySieved_7 ?_
      exact V.wd (by decide) (by decide) (hret _ _ (wx_no e0 (by decide) rfl hi) 9 _ dL_trySieved_9)
    · rw [e0] at hE
      obtain rfl : E = xS := hE
      refine VT_catch h [({ startPc := 0, endPc := 5, handlerPc := 6, catchType := 13 } : ExceptionTableEntry)] ({ startPc := 0, endPc := 5, handlerPc := 10, catchType := 27 } : ExceptionTableEntry) [] (htab.trans rfl) (List.forall_mem_cons.mpr ⟨Or.inr ⟨by decide, xO, mw_15_2, hX.2.2.2.2.1⟩, (fun y hy => absurd hy List.not_mem_nil)⟩) rfl (by decide) mw_4_2 hX.2.1.2.1 (fun q => ?_)
      refine r_astore_n (pc := 10) (lo2 := [(2, .ref q), (0, .ref (G.2.1 + 0)), (1, .int u1)]) h rfl (by decide) rfl dL_trySieved_10 ?_
      refine r_ldc (pc := 11) (v := -9999003) h mw_4_4 dL_trySieved_11 ?_
      exact V.wd (by decide) (by decide) (hret _ _ (wx_no e0 (by decide) rfl hi) 13 _ dL_trySieved_13)
  refine r_xVi (pc := 2) (As := [.int u1]) (st := []) h hX lk_RL_51 (c_x_makeSieved x.2.1 hst G σ S.1 (sT S) (sA S) (sM S) (sH S) (sV S) (sL2 S) hi u1) rc_5 (by decide) rfl rfl (by first | decide | exact Nat.le_of_ble_eq_true rfl) (by decide) dL_trySieved_2 hkx (fun r1 s2 q3 => ?_)
  obtain ⟨k0, k1, k2, k3⟩ := q3
  subst k1
  exact V.wd (by decide) (by decide) (hret _ _ (wx_ok k0 rfl k2) 5 _ dL_trySieved_5)

set_option maxRecDepth 100000 in
set_option maxHeartbeats 800000 in
theorem w_tryThinned (l : Launch) (hst : l.stackTraces = false) (G : Gl) (S : Cs) (u1 : Int32) (u2 : Int32) : KW l yL_tryThinned cL_tryThinned 4 [(0, 6, 7, 13), (0, 6, 11, 16), (0, 6, 15, 27)] ({ frames := 9, cells := 1, slots := 6, locals := 169 } : Room) G [.ref (G.2.1 + 0), .int u1, .int u2] S (xq (ob (sA S) 101 u1 u2 (nI 0)) ((co (sA S) 101 u1 u2 (nI 0)).1)) (sq (ob (sA S) 101 u1 u2 (nI 0)) S (pu S (co (sA S) 101 u1 u2 (nI 0)).2)) := by
  intro σ hi
  refine Li_of rfl (by decide +kernel) (lo := [(0, .ref (G.2.1 + 0)), (1, .int u1), (2, .int u2)]) rfl (Nat.le_of_ble_eq_true rfl) ?_
  intro x Q hxl h hX htab hret
  subst hxl
  refine r_aload_n (pc := 0) h 0 rfl rfl dL_tryThinned_0 ?_
  refine r_iload_n (pc := 1) h 1 rfl rfl dL_tryThinned_1 ?_
  refine r_iload_n (pc := 2) h 2 rfl rfl dL_tryThinned_2 ?_
  have hkx : ∀ (E : String) (s9 : Sg), (s9 = σ ∧ ob (sA S) 101 u1 u2 (nI 0) ≠ 0 ∧ E = exN (ob (sA S) 101 u1 u2 (nI 0))) → VT x G 4 1 6 Q s9 3 [(0, .ref (G.2.1 + 0)), (1, .int u1), (2, .int u2)] [] E := by
    intro E s9 hp
    obtain ⟨e9, hC, hE⟩ := hp
    subst e9
    rcases (show ob (sA S) 101 u1 u2 (nI 0) = 0 ∨ ob (sA S) 101 u1 u2 (nI 0) = 1 ∨ ob (sA S) 101 u1 u2 (nI 0) = 2 ∨ ob (sA S) 101 u1 u2 (nI 0) = 3 from r_f123 _ _ _) with e0 | e0 | e0 | e0
    · exact absurd e0 hC
    · rw [e0] at hE
      obtain rfl : E = xO := hE
      refine VT_catch h [] ({ startPc := 0, endPc := 6, handlerPc := 7, catchType := 13 } : ExceptionTableEntry) [({ startPc := 0, endPc := 6, handlerPc := 11, catchType := 16 } : ExceptionTableEntry), ({ startPc := 0, endPc := 6, handlerPc := 15, catchType := 27 } : ExceptionTableEntry)] (htab.trans rfl) (fun y hy => absurd hy List.not_mem_nil) rfl (by decide) mw_15_2 hX.2.1.2.2.1 (fun q => ?_)
      refine r_astore_n (pc := 7) (lo2 := [(3, .ref q), (0, .ref (G.2.1 + 0)), (1, .int u1), (2, .int u2)]) h rfl (by decide) rfl dL_tryThinned_7 ?_
      refine r_ldc (pc := 8) (v := -9999001) h mw_15_3 dL_tryThinned_8 ?_
      exact V.wd (by decide) (by decide) (hret _ _ (wx_no e0 (by decide) rfl hi) 10 _ dL_tryThinned_10)
    · rw [e0] at hE
      obtain rfl : E = xI := hE
      refine VT_catch h [({ startPc := 0, endPc := 6, handlerPc := 7, catchType := 13 } : ExceptionTableEntry)] ({ startPc := 0, endPc := 6, handlerPc := 11, catchType := 16 } : ExceptionTableEntry) [({ startPc := 0, endPc := 6, handlerPc := 15, catchType := 27 } : ExceptionTableEntry)] (htab.trans rfl) (List.forall_mem_cons.mpr ⟨Or.inr ⟨by decide, xO, mw_15_2, hX.2.2.2.1⟩, (fun y hy => absurd hy List.not_mem_nil)⟩) rfl (by decide) mw_4_1 hX.2.1.1 (fun q => ?_)
      refine r_astore_n (pc := 11) (lo2 := [(3, .ref q), (0, .ref (G.2.1 + 0)), (1, .int u1), (2, .int u2)]) h rfl (by decide) rfl dL_tryThinned_11 ?_
      refine r_ldc (pc := 12) (v := -9999002) h mw_4_3 dL_tryThinned_12 ?_
      exact V.wd (by decide) (by decide) (hret _ _ (wx_no e0 (by decide) rfl hi) 14 _ dL_tryThinned_14)
    · rw [e0] at hE
      obtain rfl : E = xS := hE
      refine VT_catch h [({ startPc := 0, endPc := 6, handlerPc := 7, catchType := 13 } : ExceptionTableEntry), ({ startPc := 0, endPc := 6, handlerPc := 11, catchType := 16 } : ExceptionTableEntry)] ({ startPc := 0, endPc := 6, handlerPc := 15, catchType := 27 } : ExceptionTableEntry) [] (htab.trans rfl) (List.forall_mem_cons.mpr ⟨Or.inr ⟨by decide, xO, mw_15_2, hX.2.2.2.2.1⟩, (List.forall_mem_cons.mpr ⟨Or.inr ⟨by decide, xI, mw_4_1, hX.2.2.2.2.2⟩, (fun y hy => absurd hy List.not_mem_nil)⟩)⟩) rfl (by decide) mw_4_2 hX.2.1.2.1 (fun q => ?_)
      refine r_astore_n (pc := 15) (lo2 := [(3, .ref q), (0, .ref (G.2.1 + 0)), (1, .int u1), (2, .int u2)]) h rfl (by decide) rfl dL_tryThinned_15 ?_
      refine r_ldc (pc := 16) (v := -9999003) h mw_4_4 dL_tryThinned_16 ?_
      exact V.wd (by decide) (by decide) (hret _ _ (wx_no e0 (by decide) rfl hi) 18 _ dL_tryThinned_18)
  refine r_xVi (pc := 3) (As := [.int u1, .int u2]) (st := []) h hX lk_RL_54 (c_x_makeThinned x.2.1 hst G σ S.1 (sT S) (sA S) (sM S) (sH S) (sV S) (sL2 S) hi u1 u2) rc_5 (by decide) rfl rfl (by first | decide | exact Nat.le_of_ble_eq_true rfl) (by decide) dL_tryThinned_3 hkx (fun r1 s2 q3 => ?_)
  obtain ⟨k0, k1, k2, k3⟩ := q3
  subst k1
  exact V.wd (by decide) (by decide) (hret _ _ (wx_ok k0 rfl k2) 6 _ dL_tryThinned_6)

set_option maxRecDepth 100000 in
set_option maxHeartbeats 800000 in
theorem w_tryAdded (l : Launch) (hst : l.stackTraces = false) (G : Gl) (S : Cs) (u1 : Int32) : KW l yL_tryAdded cL_tryAdded 3 [(0, 5, 6, 13), (0, 5, 10, 27)] ({ frames := 9, cells := 1, slots := 6, locals := 168 } : Room) G [.ref (G.2.1 + 0), .int u1] S (xq (ob (sA S) 117 u1 (nI 0) (nI 0)) ((co (sA S) 117 u1 (nI 0) (nI 0)).1)) (sq (ob (sA S) 117 u1 (nI 0) (nI 0)) S (pu S (co (sA S) 117 u1 (nI 0) (nI 0)).2)) := by
  intro σ hi
  refine Li_of rfl (by decide +kernel) (lo := [(0, .ref (G.2.1 + 0)), (1, .int u1)]) rfl (Nat.le_of_ble_eq_true rfl) ?_
  intro x Q hxl h hX htab hret
  subst hxl
  refine r_aload_n (pc := 0) h 0 rfl rfl dL_tryAdded_0 ?_
  refine r_iload_n (pc := 1) h 1 rfl rfl dL_tryAdded_1 ?_
  have hkx : ∀ (E : String) (s9 : Sg), (s9 = σ ∧ ob (sA S) 117 u1 (nI 0) (nI 0) ≠ 0 ∧ E = exN (ob (sA S) 117 u1 (nI 0) (nI 0))) → VT x G 3 1 6 Q s9 2 [(0, .ref (G.2.1 + 0)), (1, .int u1)] [] E := by
    intro E s9 hp
    obtain ⟨e9, hC, hE⟩ := hp
    subst e9
    rcases (show ob (sA S) 117 u1 (nI 0) (nI 0) = 0 ∨ ob (sA S) 117 u1 (nI 0) (nI 0) = 1 ∨ ob (sA S) 117 u1 (nI 0) (nI 0) = 3 from r_f13 _ _) with e0 | e0 | e0
    · exact absurd e0 hC
    · rw [e0] at hE
      obtain rfl : E = xO := hE
      refine VT_catch h [] ({ startPc := 0, endPc := 5, handlerPc := 6, catchType := 13 } : ExceptionTableEntry) [({ startPc := 0, endPc := 5, handlerPc := 10, catchType := 27 } : ExceptionTableEntry)] (htab.trans rfl) (fun y hy => absurd hy List.not_mem_nil) rfl (by decide) mw_15_2 hX.2.1.2.2.1 (fun q => ?_)
      refine r_astore_n (pc := 6) (lo2 := [(2, .ref q), (0, .ref (G.2.1 + 0)), (1, .int u1)]) h rfl (by decide) rfl dL_tryAdded_6 ?_
      refine r_ldc (pc := 7) (v := -9999001) h mw_15_3 dL_tryAdded_7 ?_
      exact V.wd (by decide) (by decide) (hret _ _ (wx_no e0 (by decide) rfl hi) 9 _ dL_tryAdded_9)
    · rw [e0] at hE
      obtain rfl : E = xS := hE
      refine VT_catch h [({ startPc := 0, endPc := 5, handlerPc := 6, catchType := 13 } : ExceptionTableEntry)] ({ startPc := 0, endPc := 5, handlerPc := 10, catchType := 27 } : ExceptionTableEntry) [] (htab.trans rfl) (List.forall_mem_cons.mpr ⟨Or.inr ⟨by decide, xO, mw_15_2, hX.2.2.2.2.1⟩, (fun y hy => absurd hy List.not_mem_nil)⟩) rfl (by decide) mw_4_2 hX.2.1.2.1 (fun q => ?_)
      refine r_astore_n (pc := 10) (lo2 := [(2, .ref q), (0, .ref (G.2.1 + 0)), (1, .int u1)]) h rfl (by decide) rfl dL_tryAdded_10 ?_
      refine r_ldc (pc := 11) (v := -9999003) h mw_4_4 dL_tryAdded_11 ?_
      exact V.wd (by decide) (by decide) (hret _ _ (wx_no e0 (by decide) rfl hi) 13 _ dL_tryAdded_13)
  refine r_xVi (pc := 2) (As := [.int u1]) (st := []) h hX lk_RL_57 (c_x_makeAddedUp x.2.1 hst G σ S.1 (sT S) (sA S) (sM S) (sH S) (sV S) (sL2 S) hi u1) rc_5 (by decide) rfl rfl (by first | decide | exact Nat.le_of_ble_eq_true rfl) (by decide) dL_tryAdded_2 hkx (fun r1 s2 q3 => ?_)
  obtain ⟨k0, k1, k2, k3⟩ := q3
  subst k1
  exact V.wd (by decide) (by decide) (hret _ _ (wx_ok k0 rfl k2) 5 _ dL_tryAdded_5)

set_option maxRecDepth 100000 in
set_option maxHeartbeats 800000 in
theorem w_tryDrop (l : Launch) (hst : l.stackTraces = false) (G : Gl) (S : Cs) : KW l yL_tryDrop cL_tryDrop 2 [(0, 4, 5, 27)] ({ frames := 9, cells := 1, slots := 6, locals := 167 } : Room) G [.ref (G.2.1 + 0)] S (xq (ob (sA S) 100 (nI 0) (nI 0) (nI 0)) ((co (sA S) 100 (nI 0) (nI 0) (nI 0)).1)) (sq (ob (sA S) 100 (nI 0) (nI 0) (nI 0)) S (pu S (co (sA S) 100 (nI 0) (nI 0) (nI 0)).2)) := by
  intro σ hi
  refine Li_of rfl (by decide +kernel) (lo := [(0, .ref (G.2.1 + 0))]) rfl (Nat.le_of_ble_eq_true rfl) ?_
  intro x Q hxl h hX htab hret
  subst hxl
  refine r_aload_n (pc := 0) h 0 rfl rfl dL_tryDrop_0 ?_
  have hkx : ∀ (E : String) (s9 : Sg), (s9 = σ ∧ ob (sA S) 100 (nI 0) (nI 0) (nI 0) ≠ 0 ∧ E = exN (ob (sA S) 100 (nI 0) (nI 0) (nI 0))) → VT x G 2 1 6 Q s9 1 [(0, .ref (G.2.1 + 0))] [] E := by
    intro E s9 hp
    obtain ⟨e9, hC, hE⟩ := hp
    subst e9
    rcases (show ob (sA S) 100 (nI 0) (nI 0) (nI 0) = 0 ∨ ob (sA S) 100 (nI 0) (nI 0) (nI 0) = 3 from r_f3 _) with e0 | e0
    · exact absurd e0 hC
    · rw [e0] at hE
      obtain rfl : E = xS := hE
      refine VT_catch h [] ({ startPc := 0, endPc := 4, handlerPc := 5, catchType := 27 } : ExceptionTableEntry) [] (htab.trans rfl) (fun y hy => absurd hy List.not_mem_nil) rfl (by decide) mw_4_2 hX.2.1.2.1 (fun q => ?_)
      refine r_astore_n (pc := 5) (lo2 := [(1, .ref q), (0, .ref (G.2.1 + 0))]) h rfl (by decide) rfl dL_tryDrop_5 ?_
      refine r_ldc (pc := 6) (v := -9999003) h mw_4_4 dL_tryDrop_6 ?_
      exact V.wd (by decide) (by decide) (hret _ _ (wx_no e0 (by decide) rfl hi) 8 _ dL_tryDrop_8)
  refine r_xVi (pc := 1) (As := []) (st := []) h hX lk_RL_60 (c_x_dropLast x.2.1 hst G σ S.1 (sT S) (sA S) (sM S) (sH S) (sV S) (sL2 S) hi) rc_5 (by decide) rfl rfl (by first | decide | exact Nat.le_of_ble_eq_true rfl) (by decide) dL_tryDrop_1 hkx (fun r1 s2 q3 => ?_)
  obtain ⟨k0, k1, k2, k3⟩ := q3
  subst k1
  exact V.wd (by decide) (by decide) (hret _ _ (wx_ok k0 rfl k2) 4 _ dL_tryDrop_4)

set_option maxRecDepth 100000 in
set_option maxHeartbeats 800000 in
theorem w_tryBegin (l : Launch) (hst : l.stackTraces = false) (G : Gl) (S : Cs) (u1 : Int32) : KW l yL_tryBegin cL_tryBegin 3 [(0, 5, 6, 13), (0, 5, 10, 27)] ({ frames := 9, cells := 1, slots := 6, locals := 168 } : Room) G [.ref (G.2.1 + 0), .int u1] S (xq (ob (sA S) 114 u1 (nI 0) (nI 0)) ((co (sA S) 114 u1 (nI 0) (nI 0)).1)) (sq (ob (sA S) 114 u1 (nI 0) (nI 0)) S (pu S (co (sA S) 114 u1 (nI 0) (nI 0)).2)) := by
  intro σ hi
  refine Li_of rfl (by decide +kernel) (lo := [(0, .ref (G.2.1 + 0)), (1, .int u1)]) rfl (Nat.le_of_ble_eq_true rfl) ?_
  intro x Q hxl h hX htab hret
  subst hxl
  refine r_aload_n (pc := 0) h 0 rfl rfl dL_tryBegin_0 ?_
  refine r_iload_n (pc := 1) h 1 rfl rfl dL_tryBegin_1 ?_
  have hkx : ∀ (E : String) (s9 : Sg), (s9 = σ ∧ ob (sA S) 114 u1 (nI 0) (nI 0) ≠ 0 ∧ E = exN (ob (sA S) 114 u1 (nI 0) (nI 0))) → VT x G 3 1 6 Q s9 2 [(0, .ref (G.2.1 + 0)), (1, .int u1)] [] E := by
    intro E s9 hp
    obtain ⟨e9, hC, hE⟩ := hp
    subst e9
    rcases (show ob (sA S) 114 u1 (nI 0) (nI 0) = 0 ∨ ob (sA S) 114 u1 (nI 0) (nI 0) = 1 ∨ ob (sA S) 114 u1 (nI 0) (nI 0) = 3 from r_f13 _ _) with e0 | e0 | e0
    · exact absurd e0 hC
    · rw [e0] at hE
      obtain rfl : E = xO := hE
      refine VT_catch h [] ({ startPc := 0, endPc := 5, handlerPc := 6, catchType := 13 } : ExceptionTableEntry) [({ startPc := 0, endPc := 5, handlerPc := 10, catchType := 27 } : ExceptionTableEntry)] (htab.trans rfl) (fun y hy => absurd hy List.not_mem_nil) rfl (by decide) mw_15_2 hX.2.1.2.2.1 (fun q => ?_)
      refine r_astore_n (pc := 6) (lo2 := [(2, .ref q), (0, .ref (G.2.1 + 0)), (1, .int u1)]) h rfl (by decide) rfl dL_tryBegin_6 ?_
      refine r_ldc (pc := 7) (v := -9999001) h mw_15_3 dL_tryBegin_7 ?_
      exact V.wd (by decide) (by decide) (hret _ _ (wx_no e0 (by decide) rfl hi) 9 _ dL_tryBegin_9)
    · rw [e0] at hE
      obtain rfl : E = xS := hE
      refine VT_catch h [({ startPc := 0, endPc := 5, handlerPc := 6, catchType := 13 } : ExceptionTableEntry)] ({ startPc := 0, endPc := 5, handlerPc := 10, catchType := 27 } : ExceptionTableEntry) [] (htab.trans rfl) (List.forall_mem_cons.mpr ⟨Or.inr ⟨by decide, xO, mw_15_2, hX.2.2.2.2.1⟩, (fun y hy => absurd hy List.not_mem_nil)⟩) rfl (by decide) mw_4_2 hX.2.1.2.1 (fun q => ?_)
      refine r_astore_n (pc := 10) (lo2 := [(2, .ref q), (0, .ref (G.2.1 + 0)), (1, .int u1)]) h rfl (by decide) rfl dL_tryBegin_10 ?_
      refine r_ldc (pc := 11) (v := -9999003) h mw_4_4 dL_tryBegin_11 ?_
      exact V.wd (by decide) (by decide) (hret _ _ (wx_no e0 (by decide) rfl hi) 13 _ dL_tryBegin_13)
  refine r_xVi (pc := 2) (As := [.int u1]) (st := []) h hX lk_RL_63 (c_x_beginReading x.2.1 hst G σ S.1 (sT S) (sA S) (sM S) (sH S) (sV S) (sL2 S) hi u1) rc_5 (by decide) rfl rfl (by first | decide | exact Nat.le_of_ble_eq_true rfl) (by decide) dL_tryBegin_2 hkx (fun r1 s2 q3 => ?_)
  obtain ⟨k0, k1, k2, k3⟩ := q3
  subst k1
  exact V.wd (by decide) (by decide) (hret _ _ (wx_ok k0 rfl k2) 5 _ dL_tryBegin_5)

set_option maxRecDepth 100000 in
set_option maxHeartbeats 800000 in
theorem w_tryRead (l : Launch) (hst : l.stackTraces = false) (G : Gl) (S : Cs) (u1 : Int32) : KW l yL_tryRead cL_tryRead 3 [(0, 5, 6, 13), (0, 5, 10, 27)] ({ frames := 9, cells := 1, slots := 6, locals := 168 } : Room) G [.ref (G.2.1 + 0), .int u1] S (xq (ob (sA S) 110 u1 (nI 0) (nI 0)) ((co (sA S) 110 u1 (nI 0) (nI 0)).1)) (sq (ob (sA S) 110 u1 (nI 0) (nI 0)) S (pu S (co (sA S) 110 u1 (nI 0) (nI 0)).2)) := by
  intro σ hi
  refine Li_of rfl (by decide +kernel) (lo := [(0, .ref (G.2.1 + 0)), (1, .int u1)]) rfl (Nat.le_of_ble_eq_true rfl) ?_
  intro x Q hxl h hX htab hret
  subst hxl
  refine r_aload_n (pc := 0) h 0 rfl rfl dL_tryRead_0 ?_
  refine r_iload_n (pc := 1) h 1 rfl rfl dL_tryRead_1 ?_
  have hkx : ∀ (E : String) (s9 : Sg), (s9 = σ ∧ ob (sA S) 110 u1 (nI 0) (nI 0) ≠ 0 ∧ E = exN (ob (sA S) 110 u1 (nI 0) (nI 0))) → VT x G 3 1 6 Q s9 2 [(0, .ref (G.2.1 + 0)), (1, .int u1)] [] E := by
    intro E s9 hp
    obtain ⟨e9, hC, hE⟩ := hp
    subst e9
    rcases (show ob (sA S) 110 u1 (nI 0) (nI 0) = 0 ∨ ob (sA S) 110 u1 (nI 0) (nI 0) = 1 ∨ ob (sA S) 110 u1 (nI 0) (nI 0) = 3 from r_f13 _ _) with e0 | e0 | e0
    · exact absurd e0 hC
    · rw [e0] at hE
      obtain rfl : E = xO := hE
      refine VT_catch h [] ({ startPc := 0, endPc := 5, handlerPc := 6, catchType := 13 } : ExceptionTableEntry) [({ startPc := 0, endPc := 5, handlerPc := 10, catchType := 27 } : ExceptionTableEntry)] (htab.trans rfl) (fun y hy => absurd hy List.not_mem_nil) rfl (by decide) mw_15_2 hX.2.1.2.2.1 (fun q => ?_)
      refine r_astore_n (pc := 6) (lo2 := [(2, .ref q), (0, .ref (G.2.1 + 0)), (1, .int u1)]) h rfl (by decide) rfl dL_tryRead_6 ?_
      refine r_ldc (pc := 7) (v := -9999001) h mw_15_3 dL_tryRead_7 ?_
      exact V.wd (by decide) (by decide) (hret _ _ (wx_no e0 (by decide) rfl hi) 9 _ dL_tryRead_9)
    · rw [e0] at hE
      obtain rfl : E = xS := hE
      refine VT_catch h [({ startPc := 0, endPc := 5, handlerPc := 6, catchType := 13 } : ExceptionTableEntry)] ({ startPc := 0, endPc := 5, handlerPc := 10, catchType := 27 } : ExceptionTableEntry) [] (htab.trans rfl) (List.forall_mem_cons.mpr ⟨Or.inr ⟨by decide, xO, mw_15_2, hX.2.2.2.2.1⟩, (fun y hy => absurd hy List.not_mem_nil)⟩) rfl (by decide) mw_4_2 hX.2.1.2.1 (fun q => ?_)
      refine r_astore_n (pc := 10) (lo2 := [(2, .ref q), (0, .ref (G.2.1 + 0)), (1, .int u1)]) h rfl (by decide) rfl dL_tryRead_10 ?_
      refine r_ldc (pc := 11) (v := -9999003) h mw_4_4 dL_tryRead_11 ?_
      exact V.wd (by decide) (by decide) (hret _ _ (wx_no e0 (by decide) rfl hi) 13 _ dL_tryRead_13)
  refine r_xVi (pc := 2) (As := [.int u1]) (st := []) h hX lk_RL_66 (c_x_read x.2.1 hst G σ S.1 (sT S) (sA S) (sM S) (sH S) (sV S) (sL2 S) hi u1) rc_5 (by decide) rfl rfl (by first | decide | exact Nat.le_of_ble_eq_true rfl) (by decide) dL_tryRead_2 hkx (fun r1 s2 q3 => ?_)
  obtain ⟨k0, k1, k2, k3⟩ := q3
  subst k1
  exact V.wd (by decide) (by decide) (hret _ _ (wx_ok k0 rfl k2) 5 _ dL_tryRead_5)

set_option maxRecDepth 100000 in
set_option maxHeartbeats 800000 in
theorem w_trySkip (l : Launch) (hst : l.stackTraces = false) (G : Gl) (S : Cs) (u1 : Int32) (u2 : Int32) : KW l yL_trySkip cL_trySkip 4 [(0, 6, 7, 13), (0, 6, 11, 16)] ({ frames := 9, cells := 1, slots := 6, locals := 169 } : Room) G [.ref (G.2.1 + 0), .int u1, .int u2] S (xq (ob (sA S) 107 u1 u2 (nI 0)) ((co (sA S) 107 u1 u2 (nI 0)).1)) (sq (ob (sA S) 107 u1 u2 (nI 0)) S (pu S (co (sA S) 107 u1 u2 (nI 0)).2)) := by
  intro σ hi
  refine Li_of rfl (by decide +kernel) (lo := [(0, .ref (G.2.1 + 0)), (1, .int u1), (2, .int u2)]) rfl (Nat.le_of_ble_eq_true rfl) ?_
  intro x Q hxl h hX htab hret
  subst hxl
  refine r_aload_n (pc := 0) h 0 rfl rfl dL_trySkip_0 ?_
  refine r_iload_n (pc := 1) h 1 rfl rfl dL_trySkip_1 ?_
  refine r_iload_n (pc := 2) h 2 rfl rfl dL_trySkip_2 ?_
  have hkx : ∀ (E : String) (s9 : Sg), (s9 = σ ∧ ob (sA S) 107 u1 u2 (nI 0) ≠ 0 ∧ E = exN (ob (sA S) 107 u1 u2 (nI 0))) → VT x G 4 1 6 Q s9 3 [(0, .ref (G.2.1 + 0)), (1, .int u1), (2, .int u2)] [] E := by
    intro E s9 hp
    obtain ⟨e9, hC, hE⟩ := hp
    subst e9
    rcases (show ob (sA S) 107 u1 u2 (nI 0) = 0 ∨ ob (sA S) 107 u1 u2 (nI 0) = 1 ∨ ob (sA S) 107 u1 u2 (nI 0) = 2 from r_f12 _ _) with e0 | e0 | e0
    · exact absurd e0 hC
    · rw [e0] at hE
      obtain rfl : E = xO := hE
      refine VT_catch h [] ({ startPc := 0, endPc := 6, handlerPc := 7, catchType := 13 } : ExceptionTableEntry) [({ startPc := 0, endPc := 6, handlerPc := 11, catchType := 16 } : ExceptionTableEntry)] (htab.trans rfl) (fun y hy => absurd hy List.not_mem_nil) rfl (by decide) mw_15_2 hX.2.1.2.2.1 (fun q => ?_)
      refine r_astore_n (pc := 7) (lo2 := [(3, .ref q), (0, .ref (G.2.1 + 0)), (1, .int u1), (2, .int u2)]) h rfl (by decide) rfl dL_trySkip_7 ?_
      refine r_ldc (pc := 8) (v := -9999001) h mw_15_3 dL_trySkip_8 ?_
      exact V.wd (by decide) (by decide) (hret _ _ (wx_no e0 (by decide) rfl hi) 10 _ dL_trySkip_10)
    · rw [e0] at hE
      obtain rfl : E = xI := hE
      refine VT_catch h [({ startPc := 0, endPc := 6, handlerPc := 7, catchType := 13 } : ExceptionTableEntry)] ({ startPc := 0, endPc := 6, handlerPc := 11, catchType := 16 } : ExceptionTableEntry) [] (htab.trans rfl) (List.forall_mem_cons.mpr ⟨Or.inr ⟨by decide, xO, mw_15_2, hX.2.2.2.1⟩, (fun y hy => absurd hy List.not_mem_nil)⟩) rfl (by decide) mw_4_1 hX.2.1.1 (fun q => ?_)
      refine r_astore_n (pc := 11) (lo2 := [(3, .ref q), (0, .ref (G.2.1 + 0)), (1, .int u1), (2, .int u2)]) h rfl (by decide) rfl dL_trySkip_11 ?_
      refine r_ldc (pc := 12) (v := -9999002) h mw_4_3 dL_trySkip_12 ?_
      exact V.wd (by decide) (by decide) (hret _ _ (wx_no e0 (by decide) rfl hi) 14 _ dL_trySkip_14)
  refine r_xVi (pc := 3) (As := [.int u1, .int u2]) (st := []) h hX lk_RL_69 (c_x_skip x.2.1 hst G σ S.1 (sT S) (sA S) (sM S) (sH S) (sV S) (sL2 S) hi u1 u2) rc_5 (by decide) rfl rfl (by first | decide | exact Nat.le_of_ble_eq_true rfl) (by decide) dL_trySkip_3 hkx (fun r1 s2 q3 => ?_)
  obtain ⟨k0, k1, k2, k3⟩ := q3
  subst k1
  exact V.wd (by decide) (by decide) (hret _ _ (wx_ok k0 rfl k2) 6 _ dL_trySkip_6)

set_option maxRecDepth 100000 in
set_option maxHeartbeats 800000 in
theorem w_tryReturn (l : Launch) (hst : l.stackTraces = false) (G : Gl) (S : Cs) (u1 : Int32) : KW l yL_tryReturn cL_tryReturn 3 [(0, 5, 6, 13)] ({ frames := 9, cells := 1, slots := 6, locals := 168 } : Room) G [.ref (G.2.1 + 0), .int u1] S (xq (ob (sA S) 122 u1 (nI 0) (nI 0)) ((co (sA S) 122 u1 (nI 0) (nI 0)).1)) (sq (ob (sA S) 122 u1 (nI 0) (nI 0)) S (pu S (co (sA S) 122 u1 (nI 0) (nI 0)).2)) := by
  intro σ hi
  refine Li_of rfl (by decide +kernel) (lo := [(0, .ref (G.2.1 + 0)), (1, .int u1)]) rfl (Nat.le_of_ble_eq_true rfl) ?_
  intro x Q hxl h hX htab hret
  subst hxl
  refine r_aload_n (pc := 0) h 0 rfl rfl dL_tryReturn_0 ?_
  refine r_iload_n (pc := 1) h 1 rfl rfl dL_tryReturn_1 ?_
  have hkx : ∀ (E : String) (s9 : Sg), (s9 = σ ∧ ob (sA S) 122 u1 (nI 0) (nI 0) ≠ 0 ∧ E = exN (ob (sA S) 122 u1 (nI 0) (nI 0))) → VT x G 3 1 6 Q s9 2 [(0, .ref (G.2.1 + 0)), (1, .int u1)] [] E := by
    intro E s9 hp
    obtain ⟨e9, hC, hE⟩ := hp
    subst e9
    rcases (show ob (sA S) 122 u1 (nI 0) (nI 0) = 0 ∨ ob (sA S) 122 u1 (nI 0) (nI 0) = 1 from r_f1 _) with e0 | e0
    · exact absurd e0 hC
    · rw [e0] at hE
      obtain rfl : E = xO := hE
      refine VT_catch h [] ({ startPc := 0, endPc := 5, handlerPc := 6, catchType := 13 } : ExceptionTableEntry) [] (htab.trans rfl) (fun y hy => absurd hy List.not_mem_nil) rfl (by decide) mw_15_2 hX.2.1.2.2.1 (fun q => ?_)
      refine r_astore_n (pc := 6) (lo2 := [(2, .ref q), (0, .ref (G.2.1 + 0)), (1, .int u1)]) h rfl (by decide) rfl dL_tryReturn_6 ?_
      refine r_ldc (pc := 7) (v := -9999001) h mw_15_3 dL_tryReturn_7 ?_
      exact V.wd (by decide) (by decide) (hret _ _ (wx_no e0 (by decide) rfl hi) 9 _ dL_tryReturn_9)
  refine r_xVi (pc := 2) (As := [.int u1]) (st := []) h hX lk_RL_72 (c_x_goBack x.2.1 hst G σ S.1 (sT S) (sA S) (sM S) (sH S) (sV S) (sL2 S) hi u1) rc_5 (by decide) rfl rfl (by first | decide | exact Nat.le_of_ble_eq_true rfl) (by decide) dL_tryReturn_2 hkx (fun r1 s2 q3 => ?_)
  obtain ⟨k0, k1, k2, k3⟩ := q3
  subst k1
  exact V.wd (by decide) (by decide) (hret _ _ (wx_ok k0 rfl k2) 5 _ dL_tryReturn_5)

set_option maxRecDepth 100000 in
set_option maxHeartbeats 800000 in
theorem w_tryStop (l : Launch) (hst : l.stackTraces = false) (G : Gl) (S : Cs) (u1 : Int32) : KW l yL_tryStop cL_tryStop 3 [(0, 5, 6, 13)] ({ frames := 9, cells := 1, slots := 6, locals := 168 } : Room) G [.ref (G.2.1 + 0), .int u1] S (xq (ob (sA S) 113 u1 (nI 0) (nI 0)) ((co (sA S) 113 u1 (nI 0) (nI 0)).1)) (sq (ob (sA S) 113 u1 (nI 0) (nI 0)) S (pu S (co (sA S) 113 u1 (nI 0) (nI 0)).2)) := by
  intro σ hi
  refine Li_of rfl (by decide +kernel) (lo := [(0, .ref (G.2.1 + 0)), (1, .int u1)]) rfl (Nat.le_of_ble_eq_true rfl) ?_
  intro x Q hxl h hX htab hret
  subst hxl
  refine r_aload_n (pc := 0) h 0 rfl rfl dL_tryStop_0 ?_
  refine r_iload_n (pc := 1) h 1 rfl rfl dL_tryStop_1 ?_
  have hkx : ∀ (E : String) (s9 : Sg), (s9 = σ ∧ ob (sA S) 113 u1 (nI 0) (nI 0) ≠ 0 ∧ E = exN (ob (sA S) 113 u1 (nI 0) (nI 0))) → VT x G 3 1 6 Q s9 2 [(0, .ref (G.2.1 + 0)), (1, .int u1)] [] E := by
    intro E s9 hp
    obtain ⟨e9, hC, hE⟩ := hp
    subst e9
    rcases (show ob (sA S) 113 u1 (nI 0) (nI 0) = 0 ∨ ob (sA S) 113 u1 (nI 0) (nI 0) = 1 from r_f1 _) with e0 | e0
    · exact absurd e0 hC
    · rw [e0] at hE
      obtain rfl : E = xO := hE
      refine VT_catch h [] ({ startPc := 0, endPc := 5, handlerPc := 6, catchType := 13 } : ExceptionTableEntry) [] (htab.trans rfl) (fun y hy => absurd hy List.not_mem_nil) rfl (by decide) mw_15_2 hX.2.1.2.2.1 (fun q => ?_)
      refine r_astore_n (pc := 6) (lo2 := [(2, .ref q), (0, .ref (G.2.1 + 0)), (1, .int u1)]) h rfl (by decide) rfl dL_tryStop_6 ?_
      refine r_ldc (pc := 7) (v := -9999001) h mw_15_3 dL_tryStop_7 ?_
      exact V.wd (by decide) (by decide) (hret _ _ (wx_no e0 (by decide) rfl hi) 9 _ dL_tryStop_9)
  refine r_xVi (pc := 2) (As := [.int u1]) (st := []) h hX lk_RL_75 (c_x_stopReading x.2.1 hst G σ S.1 (sT S) (sA S) (sM S) (sH S) (sV S) (sL2 S) hi u1) rc_5 (by decide) rfl rfl (by first | decide | exact Nat.le_of_ble_eq_true rfl) (by decide) dL_tryStop_2 hkx (fun r1 s2 q3 => ?_)
  obtain ⟨k0, k1, k2, k3⟩ := q3
  subst k1
  exact V.wd (by decide) (by decide) (hret _ _ (wx_ok k0 rfl k2) 5 _ dL_tryStop_5)

set_option maxRecDepth 100000 in
set_option maxHeartbeats 800000 in
theorem w_tryUndo (l : Launch) (hst : l.stackTraces = false) (G : Gl) (S : Cs) : KW l yL_tryUndo cL_tryUndo 2 [(0, 4, 5, 27)] ({ frames := 7, cells := 1, slots := 6, locals := 143 } : Room) G [.ref (G.2.1 + 0)] S (xq (cB (decide (sM S ≠ 0)) 3) (nI (sM S - 1))) (sq (cB (decide (sM S ≠ 0)) 3) S (po S)) := by
  intro σ hi
  refine Li_of rfl (by decide +kernel) (lo := [(0, .ref (G.2.1 + 0))]) rfl (Nat.le_of_ble_eq_true rfl) ?_
  intro x Q hxl h hX htab hret
  subst hxl
  refine r_aload_n (pc := 0) h 0 rfl rfl dL_tryUndo_0 ?_
  have hkx : ∀ (E : String) (s9 : Sg), (s9 = σ ∧ cB (decide (sM S ≠ 0)) 3 ≠ 0 ∧ E = exN (cB (decide (sM S ≠ 0)) 3)) → VT x G 2 1 6 Q s9 1 [(0, .ref (G.2.1 + 0))] [] E := by
    intro E s9 hp
    obtain ⟨e9, hC, hE⟩ := hp
    subst e9
    rcases (show cB (decide (sM S ≠ 0)) 3 = 0 ∨ cB (decide (sM S ≠ 0)) 3 = 3 from r_cB _ _) with e0 | e0
    · exact absurd e0 hC
    · rw [e0] at hE
      obtain rfl : E = xS := hE
      refine VT_catch h [] ({ startPc := 0, endPc := 4, handlerPc := 5, catchType := 27 } : ExceptionTableEntry) [] (htab.trans rfl) (fun y hy => absurd hy List.not_mem_nil) rfl (by decide) mw_4_2 hX.2.1.2.1 (fun q => ?_)
      refine r_astore_n (pc := 5) (lo2 := [(1, .ref q), (0, .ref (G.2.1 + 0))]) h rfl (by decide) rfl dL_tryUndo_5 ?_
      refine r_ldc (pc := 6) (v := -9999003) h mw_4_4 dL_tryUndo_6 ?_
      exact V.wd (by decide) (by decide) (hret _ _ (wx_no e0 (by decide) rfl hi) 8 _ dL_tryUndo_8)
  refine r_xVi (pc := 1) (As := []) (st := []) h hX lk_RL_78 (c_x_undo x.2.1 hst G σ S.1 (sT S) (sA S) (sM S) (sH S) (sV S) (sL2 S) hi) rc_5 (by decide) rfl rfl (by first | decide | exact Nat.le_of_ble_eq_true rfl) (by decide) dL_tryUndo_1 hkx (fun r1 s2 q3 => ?_)
  obtain ⟨k0, k1, k2, k3⟩ := q3
  subst k1
  exact V.wd (by decide) (by decide) (hret _ _ (wx_ok k0 rfl k2) 4 _ dL_tryUndo_4)

set_option maxRecDepth 100000 in
set_option maxHeartbeats 800000 in
theorem w_tryAt (l : Launch) (hst : l.stackTraces = false) (G : Gl) (S : Cs) (u1 : Int32) (u2 : Int32) : KW l yL_tryAt cL_tryAt 4 [(0, 6, 7, 13)] ({ frames := 8, cells := 2, slots := 12, locals := 133 } : Room) G [.ref (G.2.1 + 0), .int u1, .int u2] S (xq (seqC (cB (liB (sA S) u1) 1) (cB (decide (0 ≤ u2)) 1)) (oI (ath (mem (aU (sA S)) (toN u1)) (toN u2)))) (sq (seqC (cB (liB (sA S) u1) 1) (cB (decide (0 ≤ u2)) 1)) S (S)) := by
  intro σ hi
  refine Li_of rfl (by decide +kernel) (lo := [(0, .ref (G.2.1 + 0)), (1, .int u1), (2, .int u2)]) rfl (Nat.le_of_ble_eq_true rfl) ?_
  intro x Q hxl h hX htab hret
  subst hxl
  refine r_aload_n (pc := 0) h 0 rfl rfl dL_tryAt_0 ?_
  refine r_iload_n (pc := 1) h 1 rfl rfl dL_tryAt_1 ?_
  refine r_iload_n (pc := 2) h 2 rfl rfl dL_tryAt_2 ?_
  have hkx : ∀ (E : String) (s9 : Sg), (s9 = σ ∧ seqC (cB (liB (sA S) u1) 1) (cB (decide (0 ≤ u2)) 1) ≠ 0 ∧ E = exN (seqC (cB (liB (sA S) u1) 1) (cB (decide (0 ≤ u2)) 1))) → VT x G 4 2 12 Q s9 3 [(0, .ref (G.2.1 + 0)), (1, .int u1), (2, .int u2)] [] E := by
    intro E s9 hp
    obtain ⟨e9, hC, hE⟩ := hp
    subst e9
    rcases (show seqC (cB (liB (sA S) u1) 1) (cB (decide (0 ≤ u2)) 1) = 0 ∨ seqC (cB (liB (sA S) u1) 1) (cB (decide (0 ≤ u2)) 1) = 1 from r_seq1 _ _ _) with e0 | e0
    · exact absurd e0 hC
    · rw [e0] at hE
      obtain rfl : E = xO := hE
      refine VT_catch h [] ({ startPc := 0, endPc := 6, handlerPc := 7, catchType := 13 } : ExceptionTableEntry) [] (htab.trans rfl) (fun y hy => absurd hy List.not_mem_nil) rfl (by decide) mw_15_2 hX.2.1.2.2.1 (fun q => ?_)
      refine r_astore_n (pc := 7) (lo2 := [(3, .ref q), (0, .ref (G.2.1 + 0)), (1, .int u1), (2, .int u2)]) h rfl (by decide) rfl dL_tryAt_7 ?_
      refine r_ldc (pc := 8) (v := -9999001) h mw_15_3 dL_tryAt_8 ?_
      exact V.wd (by decide) (by decide) (hret _ _ (wx_no e0 (by decide) rfl hi) 10 _ dL_tryAt_10)
  refine r_xVi (pc := 3) (As := [.int u1, .int u2]) (st := []) h hX lk_RL_81 (c_x_memberByReading x.2.1 hst G σ (sA S) hi.2.1 u1 u2) rc_5 (by decide) rfl rfl (by first | decide | exact Nat.le_of_ble_eq_true rfl) (by decide) dL_tryAt_3 hkx (fun r1 s2 q3 => ?_)
  obtain ⟨k0, k1, k2⟩ := q3
  rw [k1, k2]
  exact V.wd (by decide) (by decide) (hret _ _ (wx_ok k0 rfl hi) 6 _ dL_tryAt_6)

set_option maxRecDepth 100000 in
set_option maxHeartbeats 800000 in
theorem w_tryTested (l : Launch) (hst : l.stackTraces = false) (G : Gl) (S : Cs) (u1 : Int32) (u2 : Int32) : KW l yL_tryTested cL_tryTested 4 [(0, 6, 7, 13)] ({ frames := 8, cells := 2, slots := 12, locals := 133 } : Room) G [.ref (G.2.1 + 0), .int u1, .int u2] S (xq (seqC (cB (liB (sA S) u1) 1) (cB (decide (0 ≤ u2)) 1)) (oI (ath (mem (aU (sA S)) (toN u1)) (toN u2)))) (sq (seqC (cB (liB (sA S) u1) 1) (cB (decide (0 ≤ u2)) 1)) S (S)) := by
  intro σ hi
  refine Li_of rfl (by decide +kernel) (lo := [(0, .ref (G.2.1 + 0)), (1, .int u1), (2, .int u2)]) rfl (Nat.le_of_ble_eq_true rfl) ?_
  intro x Q hxl h hX htab hret
  subst hxl
  refine r_aload_n (pc := 0) h 0 rfl rfl dL_tryTested_0 ?_
  refine r_iload_n (pc := 1) h 1 rfl rfl dL_tryTested_1 ?_
  refine r_iload_n (pc := 2) h 2 rfl rfl dL_tryTested_2 ?_
  have hkx : ∀ (E : String) (s9 : Sg), (s9 = σ ∧ seqC (cB (liB (sA S) u1) 1) (cB (decide (0 ≤ u2)) 1) ≠ 0 ∧ E = exN (seqC (cB (liB (sA S) u1) 1) (cB (decide (0 ≤ u2)) 1))) → VT x G 4 2 12 Q s9 3 [(0, .ref (G.2.1 + 0)), (1, .int u1), (2, .int u2)] [] E := by
    intro E s9 hp
    obtain ⟨e9, hC, hE⟩ := hp
    subst e9
    rcases (show seqC (cB (liB (sA S) u1) 1) (cB (decide (0 ≤ u2)) 1) = 0 ∨ seqC (cB (liB (sA S) u1) 1) (cB (decide (0 ≤ u2)) 1) = 1 from r_seq1 _ _ _) with e0 | e0
    · exact absurd e0 hC
    · rw [e0] at hE
      obtain rfl : E = xO := hE
      refine VT_catch h [] ({ startPc := 0, endPc := 6, handlerPc := 7, catchType := 13 } : ExceptionTableEntry) [] (htab.trans rfl) (fun y hy => absurd hy List.not_mem_nil) rfl (by decide) mw_15_2 hX.2.1.2.2.1 (fun q => ?_)
      refine r_astore_n (pc := 7) (lo2 := [(3, .ref q), (0, .ref (G.2.1 + 0)), (1, .int u1), (2, .int u2)]) h rfl (by decide) rfl dL_tryTested_7 ?_
      refine r_ldc (pc := 8) (v := -9999001) h mw_15_3 dL_tryTested_8 ?_
      exact V.wd (by decide) (by decide) (hret _ _ (wx_no e0 (by decide) rfl hi) 10 _ dL_tryTested_10)
  refine r_xVi (pc := 3) (As := [.int u1, .int u2]) (st := []) h hX lk_RL_84 (c_x_memberByTesting x.2.1 hst G σ (sA S) hi.2.1 u1 u2) rc_5 (by decide) rfl rfl (by first | decide | exact Nat.le_of_ble_eq_true rfl) (by decide) dL_tryTested_3 hkx (fun r1 s2 q3 => ?_)
  obtain ⟨k0, k1, k2⟩ := q3
  rw [k1, k2]
  exact V.wd (by decide) (by decide) (hret _ _ (wx_ok k0 rfl hi) 6 _ dL_tryTested_6)

set_option maxRecDepth 100000 in
set_option maxHeartbeats 800000 in
theorem w_tryPlace (l : Launch) (hst : l.stackTraces = false) (G : Gl) (S : Cs) (u1 : Int32) (u2 : Int32) : KW l yL_tryPlace cL_tryPlace 4 [(0, 6, 7, 13), (0, 6, 11, 16)] ({ frames := 8, cells := 2, slots := 12, locals := 134 } : Room) G [.ref (G.2.1 + 0), .int u1, .int u2] S (xq (seqC (cB (liB (sA S) u1) 1) (cB (inB (nI 0) (nI 999) u2) 2)) ((if mem (aU (sA S)) (toN u1) (toN u2) then nI (cS (mem (aU (sA S)) (toN u1)) ((toN u2) + 1) - 1) else -1))) (sq (seqC (cB (liB (sA S) u1) 1) (cB (inB (nI 0) (nI 999) u2) 2)) S (S)) := by
  intro σ hi
  refine Li_of rfl (by decide +kernel) (lo := [(0, .ref (G.2.1 + 0)), (1, .int u1), (2, .int u2)]) rfl (Nat.le_of_ble_eq_true rfl) ?_
  intro x Q hxl h hX htab hret
  subst hxl
  refine r_aload_n (pc := 0) h 0 rfl rfl dL_tryPlace_0 ?_
  refine r_iload_n (pc := 1) h 1 rfl rfl dL_tryPlace_1 ?_
  refine r_iload_n (pc := 2) h 2 rfl rfl dL_tryPlace_2 ?_
  have hkx : ∀ (E : String) (s9 : Sg), (s9 = σ ∧ seqC (cB (liB (sA S) u1) 1) (cB (inB (nI 0) (nI 999) u2) 2) ≠ 0 ∧ E = exN (seqC (cB (liB (sA S) u1) 1) (cB (inB (nI 0) (nI 999) u2) 2))) → VT x G 4 2 12 Q s9 3 [(0, .ref (G.2.1 + 0)), (1, .int u1), (2, .int u2)] [] E := by
    intro E s9 hp
    obtain ⟨e9, hC, hE⟩ := hp
    subst e9
    rcases (show seqC (cB (liB (sA S) u1) 1) (cB (inB (nI 0) (nI 999) u2) 2) = 0 ∨ seqC (cB (liB (sA S) u1) 1) (cB (inB (nI 0) (nI 999) u2) 2) = 1 ∨ seqC (cB (liB (sA S) u1) 1) (cB (inB (nI 0) (nI 999) u2) 2) = 2 from r_seq _ _ _ _) with e0 | e0 | e0
    · exact absurd e0 hC
    · rw [e0] at hE
      obtain rfl : E = xO := hE
      refine VT_catch h [] ({ startPc := 0, endPc := 6, handlerPc := 7, catchType := 13 } : ExceptionTableEntry) [({ startPc := 0, endPc := 6, handlerPc := 11, catchType := 16 } : ExceptionTableEntry)] (htab.trans rfl) (fun y hy => absurd hy List.not_mem_nil) rfl (by decide) mw_15_2 hX.2.1.2.2.1 (fun q => ?_)
      refine r_astore_n (pc := 7) (lo2 := [(3, .ref q), (0, .ref (G.2.1 + 0)), (1, .int u1), (2, .int u2)]) h rfl (by decide) rfl dL_tryPlace_7 ?_
      refine r_ldc (pc := 8) (v := -9999001) h mw_15_3 dL_tryPlace_8 ?_
      exact V.wd (by decide) (by decide) (hret _ _ (wx_no e0 (by decide) rfl hi) 10 _ dL_tryPlace_10)
    · rw [e0] at hE
      obtain rfl : E = xI := hE
      refine VT_catch h [({ startPc := 0, endPc := 6, handlerPc := 7, catchType := 13 } : ExceptionTableEntry)] ({ startPc := 0, endPc := 6, handlerPc := 11, catchType := 16 } : ExceptionTableEntry) [] (htab.trans rfl) (List.forall_mem_cons.mpr ⟨Or.inr ⟨by decide, xO, mw_15_2, hX.2.2.2.1⟩, (fun y hy => absurd hy List.not_mem_nil)⟩) rfl (by decide) mw_4_1 hX.2.1.1 (fun q => ?_)
      refine r_astore_n (pc := 11) (lo2 := [(3, .ref q), (0, .ref (G.2.1 + 0)), (1, .int u1), (2, .int u2)]) h rfl (by decide) rfl dL_tryPlace_11 ?_
      refine r_ldc (pc := 12) (v := -9999002) h mw_4_3 dL_tryPlace_12 ?_
      exact V.wd (by decide) (by decide) (hret _ _ (wx_no e0 (by decide) rfl hi) 14 _ dL_tryPlace_14)
  refine r_xVi (pc := 3) (As := [.int u1, .int u2]) (st := []) h hX lk_RL_87 (c_x_placeOf x.2.1 hst G σ (sA S) hi.2.1 u1 u2) rc_5 (by decide) rfl rfl (by first | decide | exact Nat.le_of_ble_eq_true rfl) (by decide) dL_tryPlace_3 hkx (fun r1 s2 q3 => ?_)
  obtain ⟨k0, k1, k2⟩ := q3
  rw [k1, k2]
  exact V.wd (by decide) (by decide) (hret _ _ (wx_ok k0 rfl hi) 6 _ dL_tryPlace_6)

set_option maxRecDepth 100000 in
set_option maxHeartbeats 800000 in
theorem w_tryUpTo (l : Launch) (hst : l.stackTraces = false) (G : Gl) (S : Cs) (u1 : Int32) (u2 : Int32) : KW l yL_tryUpTo cL_tryUpTo 4 [(0, 6, 7, 13), (0, 6, 11, 16)] ({ frames := 8, cells := 2, slots := 12, locals := 134 } : Room) G [.ref (G.2.1 + 0), .int u1, .int u2] S (xq (seqC (cB (liB (sA S) u1) 1) (cB (inB (nI 0) (nI 999) u2) 2)) (nI (cS (mem (aU (sA S)) (toN u1)) ((toN u2) + 1)))) (sq (seqC (cB (liB (sA S) u1) 1) (cB (inB (nI 0) (nI 999) u2) 2)) S (S)) := by
  intro σ hi
  refine Li_of rfl (by decide +kernel) (lo := [(0, .ref (G.2.1 + 0)), (1, .int u1), (2, .int u2)]) rfl (Nat.le_of_ble_eq_true rfl) ?_
  intro x Q hxl h hX htab hret
  subst hxl
  refine r_aload_n (pc := 0) h 0 rfl rfl dL_tryUpTo_0 ?_
  refine r_iload_n (pc := 1) h 1 rfl rfl dL_tryUpTo_1 ?_
  refine r_iload_n (pc := 2) h 2 rfl rfl dL_tryUpTo_2 ?_
  have hkx : ∀ (E : String) (s9 : Sg), (s9 = σ ∧ seqC (cB (liB (sA S) u1) 1) (cB (inB (nI 0) (nI 999) u2) 2) ≠ 0 ∧ E = exN (seqC (cB (liB (sA S) u1) 1) (cB (inB (nI 0) (nI 999) u2) 2))) → VT x G 4 2 12 Q s9 3 [(0, .ref (G.2.1 + 0)), (1, .int u1), (2, .int u2)] [] E := by
    intro E s9 hp
    obtain ⟨e9, hC, hE⟩ := hp
    subst e9
    rcases (show seqC (cB (liB (sA S) u1) 1) (cB (inB (nI 0) (nI 999) u2) 2) = 0 ∨ seqC (cB (liB (sA S) u1) 1) (cB (inB (nI 0) (nI 999) u2) 2) = 1 ∨ seqC (cB (liB (sA S) u1) 1) (cB (inB (nI 0) (nI 999) u2) 2) = 2 from r_seq _ _ _ _) with e0 | e0 | e0
    · exact absurd e0 hC
    · rw [e0] at hE
      obtain rfl : E = xO := hE
      refine VT_catch h [] ({ startPc := 0, endPc := 6, handlerPc := 7, catchType := 13 } : ExceptionTableEntry) [({ startPc := 0, endPc := 6, handlerPc := 11, catchType := 16 } : ExceptionTableEntry)] (htab.trans rfl) (fun y hy => absurd hy List.not_mem_nil) rfl (by decide) mw_15_2 hX.2.1.2.2.1 (fun q => ?_)
      refine r_astore_n (pc := 7) (lo2 := [(3, .ref q), (0, .ref (G.2.1 + 0)), (1, .int u1), (2, .int u2)]) h rfl (by decide) rfl dL_tryUpTo_7 ?_
      refine r_ldc (pc := 8) (v := -9999001) h mw_15_3 dL_tryUpTo_8 ?_
      exact V.wd (by decide) (by decide) (hret _ _ (wx_no e0 (by decide) rfl hi) 10 _ dL_tryUpTo_10)
    · rw [e0] at hE
      obtain rfl : E = xI := hE
      refine VT_catch h [({ startPc := 0, endPc := 6, handlerPc := 7, catchType := 13 } : ExceptionTableEntry)] ({ startPc := 0, endPc := 6, handlerPc := 11, catchType := 16 } : ExceptionTableEntry) [] (htab.trans rfl) (List.forall_mem_cons.mpr ⟨Or.inr ⟨by decide, xO, mw_15_2, hX.2.2.2.1⟩, (fun y hy => absurd hy List.not_mem_nil)⟩) rfl (by decide) mw_4_1 hX.2.1.1 (fun q => ?_)
      refine r_astore_n (pc := 11) (lo2 := [(3, .ref q), (0, .ref (G.2.1 + 0)), (1, .int u1), (2, .int u2)]) h rfl (by decide) rfl dL_tryUpTo_11 ?_
      refine r_ldc (pc := 12) (v := -9999002) h mw_4_3 dL_tryUpTo_12 ?_
      exact V.wd (by decide) (by decide) (hret _ _ (wx_no e0 (by decide) rfl hi) 14 _ dL_tryUpTo_14)
  refine r_xVi (pc := 3) (As := [.int u1, .int u2]) (st := []) h hX lk_RL_90 (c_x_membersUpTo x.2.1 hst G σ (sA S) hi.2.1 u1 u2) rc_5 (by decide) rfl rfl (by first | decide | exact Nat.le_of_ble_eq_true rfl) (by decide) dL_tryUpTo_3 hkx (fun r1 s2 q3 => ?_)
  obtain ⟨k0, k1, k2⟩ := q3
  rw [k1, k2]
  exact V.wd (by decide) (by decide) (hret _ _ (wx_ok k0 rfl hi) 6 _ dL_tryUpTo_6)

set_option maxRecDepth 100000 in
set_option maxHeartbeats 800000 in
theorem w_tryLast (l : Launch) (hst : l.stackTraces = false) (G : Gl) (S : Cs) (u1 : Int32) : KW l yL_tryLast cL_tryLast 3 [(0, 5, 6, 13)] ({ frames := 8, cells := 1, slots := 6, locals := 132 } : Room) G [.ref (G.2.1 + 0), .int u1] S (xq (cB (liB (sA S) u1) 1) (oI (lstB (mem (aU (sA S)) (toN u1)) 1000))) (sq (cB (liB (sA S) u1) 1) S (S)) := by
  intro σ hi
  refine Li_of rfl (by decide +kernel) (lo := [(0, .ref (G.2.1 + 0)), (1, .int u1)]) rfl (Nat.le_of_ble_eq_true rfl) ?_
  intro x Q hxl h hX htab hret
  subst hxl
  refine r_aload_n (pc := 0) h 0 rfl rfl dL_tryLast_0 ?_
  refine r_iload_n (pc := 1) h 1 rfl rfl dL_tryLast_1 ?_
  have hkx : ∀ (E : String) (s9 : Sg), (s9 = σ ∧ cB (liB (sA S) u1) 1 ≠ 0 ∧ E = exN (cB (liB (sA S) u1) 1)) → VT x G 3 1 6 Q s9 2 [(0, .ref (G.2.1 + 0)), (1, .int u1)] [] E := by
    intro E s9 hp
    obtain ⟨e9, hC, hE⟩ := hp
    subst e9
    rcases (show cB (liB (sA S) u1) 1 = 0 ∨ cB (liB (sA S) u1) 1 = 1 from r_cB _ _) with e0 | e0
    · exact absurd e0 hC
    · rw [e0] at hE
      obtain rfl : E = xO := hE
      refine VT_catch h [] ({ startPc := 0, endPc := 5, handlerPc := 6, catchType := 13 } : ExceptionTableEntry) [] (htab.trans rfl) (fun y hy => absurd hy List.not_mem_nil) rfl (by decide) mw_15_2 hX.2.1.2.2.1 (fun q => ?_)
      refine r_astore_n (pc := 6) (lo2 := [(2, .ref q), (0, .ref (G.2.1 + 0)), (1, .int u1)]) h rfl (by decide) rfl dL_tryLast_6 ?_
      refine r_ldc (pc := 7) (v := -9999001) h mw_15_3 dL_tryLast_7 ?_
      exact V.wd (by decide) (by decide) (hret _ _ (wx_no e0 (by decide) rfl hi) 9 _ dL_tryLast_9)
  refine r_xVi (pc := 2) (As := [.int u1]) (st := []) h hX lk_RL_93 (c_x_lastMember x.2.1 hst G σ (sA S) hi.2.1 u1) rc_5 (by decide) rfl rfl (by first | decide | exact Nat.le_of_ble_eq_true rfl) (by decide) dL_tryLast_2 hkx (fun r1 s2 q3 => ?_)
  obtain ⟨k0, k1, k2⟩ := q3
  rw [k1, k2]
  exact V.wd (by decide) (by decide) (hret _ _ (wx_ok k0 rfl hi) 5 _ dL_tryLast_5)

set_option maxRecDepth 100000 in
set_option maxHeartbeats 800000 in
theorem w_tryCommon (l : Launch) (hst : l.stackTraces = false) (G : Gl) (S : Cs) (u1 : Int32) (u2 : Int32) : KW l yL_tryCommon cL_tryCommon 4 [(0, 6, 7, 13)] ({ frames := 8, cells := 2, slots := 12, locals := 133 } : Room) G [.ref (G.2.1 + 0), .int u1, .int u2] S (xq (seqC (cB (liB (sA S) u1) 1) (cB (liB (sA S) u2) 1)) (oI (nxt (fun v => mem (aU (sA S)) (toN u1) v && mem (aU (sA S)) (toN u2) v) 0))) (sq (seqC (cB (liB (sA S) u1) 1) (cB (liB (sA S) u2) 1)) S (S)) := by
  intro σ hi
  refine Li_of rfl (by decide +kernel) (lo := [(0, .ref (G.2.1 + 0)), (1, .int u1), (2, .int u2)]) rfl (Nat.le_of_ble_eq_true rfl) ?_
  intro x Q hxl h hX htab hret
  subst hxl
  refine r_aload_n (pc := 0) h 0 rfl rfl dL_tryCommon_0 ?_
  refine r_iload_n (pc := 1) h 1 rfl rfl dL_tryCommon_1 ?_
  refine r_iload_n (pc := 2) h 2 rfl rfl dL_tryCommon_2 ?_
  have hkx : ∀ (E : String) (s9 : Sg), (s9 = σ ∧ seqC (cB (liB (sA S) u1) 1) (cB (liB (sA S) u2) 1) ≠ 0 ∧ E = exN (seqC (cB (liB (sA S) u1) 1) (cB (liB (sA S) u2) 1))) → VT x G 4 2 12 Q s9 3 [(0, .ref (G.2.1 + 0)), (1, .int u1), (2, .int u2)] [] E := by
    intro E s9 hp
    obtain ⟨e9, hC, hE⟩ := hp
    subst e9
    rcases (show seqC (cB (liB (sA S) u1) 1) (cB (liB (sA S) u2) 1) = 0 ∨ seqC (cB (liB (sA S) u1) 1) (cB (liB (sA S) u2) 1) = 1 from r_seq1 _ _ _) with e0 | e0
    · exact absurd e0 hC
    · rw [e0] at hE
      obtain rfl : E = xO := hE
      refine VT_catch h [] ({ startPc := 0, endPc := 6, handlerPc := 7, catchType := 13 } : ExceptionTableEntry) [] (htab.trans rfl) (fun y hy => absurd hy List.not_mem_nil) rfl (by decide) mw_15_2 hX.2.1.2.2.1 (fun q => ?_)
      refine r_astore_n (pc := 7) (lo2 := [(3, .ref q), (0, .ref (G.2.1 + 0)), (1, .int u1), (2, .int u2)]) h rfl (by decide) rfl dL_tryCommon_7 ?_
      refine r_ldc (pc := 8) (v := -9999001) h mw_15_3 dL_tryCommon_8 ?_
      exact V.wd (by decide) (by decide) (hret _ _ (wx_no e0 (by decide) rfl hi) 10 _ dL_tryCommon_10)
  refine r_xVi (pc := 3) (As := [.int u1, .int u2]) (st := []) h hX lk_RL_96 (c_x_firstShared x.2.1 hst G σ (sA S) hi.2.1 u1 u2) rc_5 (by decide) rfl rfl (by first | decide | exact Nat.le_of_ble_eq_true rfl) (by decide) dL_tryCommon_3 hkx (fun r1 s2 q3 => ?_)
  obtain ⟨k0, k1, k2⟩ := q3
  rw [k1, k2]
  exact V.wd (by decide) (by decide) (hret _ _ (wx_ok k0 rfl hi) 6 _ dL_tryCommon_6)

set_option maxRecDepth 100000 in
set_option maxHeartbeats 800000 in
theorem w_tryGap (l : Launch) (hst : l.stackTraces = false) (G : Gl) (S : Cs) (u1 : Int32) : KW l yL_tryGap cL_tryGap 3 [(0, 5, 6, 13)] ({ frames := 8, cells := 1, slots := 6, locals := 132 } : Room) G [.ref (G.2.1 + 0), .int u1] S (xq (cB (liB (sA S) u1) 1) (nI (gp (mem (aU (sA S)) (toN u1)) 1000).2)) (sq (cB (liB (sA S) u1) 1) S (S)) := by
  intro σ hi
  refine Li_of rfl (by decide +kernel) (lo := [(0, .ref (G.2.1 + 0)), (1, .int u1)]) rfl (Nat.le_of_ble_eq_true rfl) ?_
  intro x Q hxl h hX htab hret
  subst hxl
  refine r_aload_n (pc := 0) h 0 rfl rfl dL_tryGap_0 ?_
  refine r_iload_n (pc := 1) h 1 rfl rfl dL_tryGap_1 ?_
  have hkx : ∀ (E : String) (s9 : Sg), (s9 = σ ∧ cB (liB (sA S) u1) 1 ≠ 0 ∧ E = exN (cB (liB (sA S) u1) 1)) → VT x G 3 1 6 Q s9 2 [(0, .ref (G.2.1 + 0)), (1, .int u1)] [] E := by
    intro E s9 hp
    obtain ⟨e9, hC, hE⟩ := hp
    subst e9
    rcases (show cB (liB (sA S) u1) 1 = 0 ∨ cB (liB (sA S) u1) 1 = 1 from r_cB _ _) with e0 | e0
    · exact absurd e0 hC
    · rw [e0] at hE
      obtain rfl : E = xO := hE
      refine VT_catch h [] ({ startPc := 0, endPc := 5, handlerPc := 6, catchType := 13 } : ExceptionTableEntry) [] (htab.trans rfl) (fun y hy => absurd hy List.not_mem_nil) rfl (by decide) mw_15_2 hX.2.1.2.2.1 (fun q => ?_)
      refine r_astore_n (pc := 6) (lo2 := [(2, .ref q), (0, .ref (G.2.1 + 0)), (1, .int u1)]) h rfl (by decide) rfl dL_tryGap_6 ?_
      refine r_ldc (pc := 7) (v := -9999001) h mw_15_3 dL_tryGap_7 ?_
      exact V.wd (by decide) (by decide) (hret _ _ (wx_no e0 (by decide) rfl hi) 9 _ dL_tryGap_9)
  refine r_xVi (pc := 2) (As := [.int u1]) (st := []) h hX lk_RL_99 (c_x_widestGap x.2.1 hst G σ (sA S) hi.2.1 u1) rc_5 (by decide) rfl rfl (by first | decide | exact Nat.le_of_ble_eq_true rfl) (by decide) dL_tryGap_2 hkx (fun r1 s2 q3 => ?_)
  obtain ⟨k0, k1, k2⟩ := q3
  rw [k1, k2]
  exact V.wd (by decide) (by decide) (hret _ _ (wx_ok k0 rfl hi) 5 _ dL_tryGap_5)

set_option maxRecDepth 100000 in
set_option maxHeartbeats 800000 in
theorem w_tryListOf (l : Launch) (hst : l.stackTraces = false) (G : Gl) (S : Cs) (u1 : Int32) : KW l yL_tryListOf cL_tryListOf 3 [(0, 5, 6, 13)] ({ frames := 8, cells := 1, slots := 6, locals := 132 } : Room) G [.ref (G.2.1 + 0), .int u1] S (xq (cB (rdB (sA S) u1) 1) (nI (aL (sA S) (toN u1)))) (sq (cB (rdB (sA S) u1) 1) S (S)) := by
  intro σ hi
  refine Li_of rfl (by decide +kernel) (lo := [(0, .ref (G.2.1 + 0)), (1, .int u1)]) rfl (Nat.le_of_ble_eq_true rfl) ?_
  intro x Q hxl h hX htab hret
  subst hxl
  refine r_aload_n (pc := 0) h 0 rfl rfl dL_tryListOf_0 ?_
  refine r_iload_n (pc := 1) h 1 rfl rfl dL_tryListOf_1 ?_
  have hkx : ∀ (E : String) (s9 : Sg), (s9 = σ ∧ cB (rdB (sA S) u1) 1 ≠ 0 ∧ E = exN (cB (rdB (sA S) u1) 1)) → VT x G 3 1 6 Q s9 2 [(0, .ref (G.2.1 + 0)), (1, .int u1)] [] E := by
    intro E s9 hp
    obtain ⟨e9, hC, hE⟩ := hp
    subst e9
    rcases (show cB (rdB (sA S) u1) 1 = 0 ∨ cB (rdB (sA S) u1) 1 = 1 from r_cB _ _) with e0 | e0
    · exact absurd e0 hC
    · rw [e0] at hE
      obtain rfl : E = xO := hE
      refine VT_catch h [] ({ startPc := 0, endPc := 5, handlerPc := 6, catchType := 13 } : ExceptionTableEntry) [] (htab.trans rfl) (fun y hy => absurd hy List.not_mem_nil) rfl (by decide) mw_15_2 hX.2.1.2.2.1 (fun q => ?_)
      refine r_astore_n (pc := 6) (lo2 := [(2, .ref q), (0, .ref (G.2.1 + 0)), (1, .int u1)]) h rfl (by decide) rfl dL_tryListOf_6 ?_
      refine r_ldc (pc := 7) (v := -9999001) h mw_15_3 dL_tryListOf_7 ?_
      exact V.wd (by decide) (by decide) (hret _ _ (wx_no e0 (by decide) rfl hi) 9 _ dL_tryListOf_9)
  refine r_xVi (pc := 2) (As := [.int u1]) (st := []) h hX lk_RL_102 (c_x_listOf x.2.1 hst G σ (sA S) hi.2.1 u1) rc_5 (by decide) rfl rfl (by first | decide | exact Nat.le_of_ble_eq_true rfl) (by decide) dL_tryListOf_2 hkx (fun r1 s2 q3 => ?_)
  obtain ⟨k0, k1, k2⟩ := q3
  rw [k1, k2]
  exact V.wd (by decide) (by decide) (hret _ _ (wx_ok k0 rfl hi) 5 _ dL_tryListOf_5)

set_option maxRecDepth 100000 in
set_option maxHeartbeats 800000 in
theorem w_trySoFar (l : Launch) (hst : l.stackTraces = false) (G : Gl) (S : Cs) (u1 : Int32) : KW l yL_trySoFar cL_trySoFar 3 [(0, 5, 6, 13)] ({ frames := 8, cells := 1, slots := 6, locals := 132 } : Room) G [.ref (G.2.1 + 0), .int u1] S (xq (cB (rdB (sA S) u1) 1) (nI (aP (sA S) (toN u1)))) (sq (cB (rdB (sA S) u1) 1) S (S)) := by
  intro σ hi
  refine Li_of rfl (by decide +kernel) (lo := [(0, .ref (G.2.1 + 0)), (1, .int u1)]) rfl (Nat.le_of_ble_eq_true rfl) ?_
  intro x Q hxl h hX htab hret
  subst hxl
  refine r_aload_n (pc := 0) h 0 rfl rfl dL_trySoFar_0 ?_
  refine r_iload_n (pc := 1) h 1 rfl rfl dL_trySoFar_1 ?_
  have hkx : ∀ (E : String) (s9 : Sg), (s9 = σ ∧ cB (rdB (sA S) u1) 1 ≠ 0 ∧ E = exN (cB (rdB (sA S) u1) 1)) → VT x G 3 1 6 Q s9 2 [(0, .ref (G.2.1 + 0)), (1, .int u1)] [] E := by
    intro E s9 hp
    obtain ⟨e9, hC, hE⟩ := hp
    subst e9
    rcases (show cB (rdB (sA S) u1) 1 = 0 ∨ cB (rdB (sA S) u1) 1 = 1 from r_cB _ _) with e0 | e0
    · exact absurd e0 hC
    · rw [e0] at hE
      obtain rfl : E = xO := hE
      refine VT_catch h [] ({ startPc := 0, endPc := 5, handlerPc := 6, catchType := 13 } : ExceptionTableEntry) [] (htab.trans rfl) (fun y hy => absurd hy List.not_mem_nil) rfl (by decide) mw_15_2 hX.2.1.2.2.1 (fun q => ?_)
      refine r_astore_n (pc := 6) (lo2 := [(2, .ref q), (0, .ref (G.2.1 + 0)), (1, .int u1)]) h rfl (by decide) rfl dL_trySoFar_6 ?_
      refine r_ldc (pc := 7) (v := -9999001) h mw_15_3 dL_trySoFar_7 ?_
      exact V.wd (by decide) (by decide) (hret _ _ (wx_no e0 (by decide) rfl hi) 9 _ dL_trySoFar_9)
  refine r_xVi (pc := 2) (As := [.int u1]) (st := []) h hX lk_RL_105 (c_x_readSoFar x.2.1 hst G σ (sA S) hi.2.1 u1) rc_5 (by decide) rfl rfl (by first | decide | exact Nat.le_of_ble_eq_true rfl) (by decide) dL_trySoFar_2 hkx (fun r1 s2 q3 => ?_)
  obtain ⟨k0, k1, k2⟩ := q3
  rw [k1, k2]
  exact V.wd (by decide) (by decide) (hret _ _ (wx_ok k0 rfl hi) 5 _ dL_trySoFar_5)

set_option maxRecDepth 100000 in
set_option maxHeartbeats 800000 in
theorem w_tryNext (l : Launch) (hst : l.stackTraces = false) (G : Gl) (S : Cs) (u1 : Int32) : KW l yL_tryNext cL_tryNext 3 [(0, 5, 6, 13)] ({ frames := 8, cells := 1, slots := 6, locals := 132 } : Room) G [.ref (G.2.1 + 0), .int u1] S (xq (cB (rdB (sA S) u1) 1) (oI (nextO (sA S) (toN u1)))) (sq (cB (rdB (sA S) u1) 1) S (S)) := by
  intro σ hi
  refine Li_of rfl (by decide +kernel) (lo := [(0, .ref (G.2.1 + 0)), (1, .int u1)]) rfl (Nat.le_of_ble_eq_true rfl) ?_
  intro x Q hxl h hX htab hret
  subst hxl
  refine r_aload_n (pc := 0) h 0 rfl rfl dL_tryNext_0 ?_
  refine r_iload_n (pc := 1) h 1 rfl rfl dL_tryNext_1 ?_
  have hkx : ∀ (E : String) (s9 : Sg), (s9 = σ ∧ cB (rdB (sA S) u1) 1 ≠ 0 ∧ E = exN (cB (rdB (sA S) u1) 1)) → VT x G 3 1 6 Q s9 2 [(0, .ref (G.2.1 + 0)), (1, .int u1)] [] E := by
    intro E s9 hp
    obtain ⟨e9, hC, hE⟩ := hp
    subst e9
    rcases (show cB (rdB (sA S) u1) 1 = 0 ∨ cB (rdB (sA S) u1) 1 = 1 from r_cB _ _) with e0 | e0
    · exact absurd e0 hC
    · rw [e0] at hE
      obtain rfl : E = xO := hE
      refine VT_catch h [] ({ startPc := 0, endPc := 5, handlerPc := 6, catchType := 13 } : ExceptionTableEntry) [] (htab.trans rfl) (fun y hy => absurd hy List.not_mem_nil) rfl (by decide) mw_15_2 hX.2.1.2.2.1 (fun q => ?_)
      refine r_astore_n (pc := 6) (lo2 := [(2, .ref q), (0, .ref (G.2.1 + 0)), (1, .int u1)]) h rfl (by decide) rfl dL_tryNext_6 ?_
      refine r_ldc (pc := 7) (v := -9999001) h mw_15_3 dL_tryNext_7 ?_
      exact V.wd (by decide) (by decide) (hret _ _ (wx_no e0 (by decide) rfl hi) 9 _ dL_tryNext_9)
  refine r_xVi (pc := 2) (As := [.int u1]) (st := []) h hX lk_RL_108 (c_x_nextOf x.2.1 hst G σ (sA S) hi.2.1 u1) rc_5 (by decide) rfl rfl (by first | decide | exact Nat.le_of_ble_eq_true rfl) (by decide) dL_tryNext_2 hkx (fun r1 s2 q3 => ?_)
  obtain ⟨k0, k1, k2⟩ := q3
  rw [k1, k2]
  exact V.wd (by decide) (by decide) (hret _ _ (wx_ok k0 rfl hi) 5 _ dL_tryNext_5)

set_option maxRecDepth 100000 in
set_option maxHeartbeats 800000 in
theorem w_tryWalk (l : Launch) (hst : l.stackTraces = false) (G : Gl) (S : Cs) (u1 : Int32) : KW l yL_tryWalk cL_tryWalk 3 [(0, 5, 6, 16)] ({ frames := 8, cells := 1, slots := 6, locals := 135 } : Room) G [.ref (G.2.1 + 0), .int u1] S (xq (cB (inB (nI 0) (nI 99999) u1) 2) (nI (fpN (toN u1)))) (sq (cB (inB (nI 0) (nI 99999) u1) 2) S (S)) := by
  intro σ hi
  refine Li_of rfl (by decide +kernel) (lo := [(0, .ref (G.2.1 + 0)), (1, .int u1)]) rfl (Nat.le_of_ble_eq_true rfl) ?_
  intro x Q hxl h hX htab hret
  subst hxl
  refine r_aload_n (pc := 0) h 0 rfl rfl dL_tryWalk_0 ?_
  refine r_iload_n (pc := 1) h 1 rfl rfl dL_tryWalk_1 ?_
  have hkx : ∀ (E : String) (s9 : Sg), (s9 = σ ∧ cB (inB (nI 0) (nI 99999) u1) 2 ≠ 0 ∧ E = exN (cB (inB (nI 0) (nI 99999) u1) 2)) → VT x G 3 1 6 Q s9 2 [(0, .ref (G.2.1 + 0)), (1, .int u1)] [] E := by
    intro E s9 hp
    obtain ⟨e9, hC, hE⟩ := hp
    subst e9
    rcases (show cB (inB (nI 0) (nI 99999) u1) 2 = 0 ∨ cB (inB (nI 0) (nI 99999) u1) 2 = 2 from r_cB _ _) with e0 | e0
    · exact absurd e0 hC
    · rw [e0] at hE
      obtain rfl : E = xI := hE
      refine VT_catch h [] ({ startPc := 0, endPc := 5, handlerPc := 6, catchType := 16 } : ExceptionTableEntry) [] (htab.trans rfl) (fun y hy => absurd hy List.not_mem_nil) rfl (by decide) mw_4_1 hX.2.1.1 (fun q => ?_)
      refine r_astore_n (pc := 6) (lo2 := [(2, .ref q), (0, .ref (G.2.1 + 0)), (1, .int u1)]) h rfl (by decide) rfl dL_tryWalk_6 ?_
      refine r_ldc (pc := 7) (v := -9999002) h mw_4_3 dL_tryWalk_7 ?_
      exact V.wd (by decide) (by decide) (hret _ _ (wx_no e0 (by decide) rfl hi) 9 _ dL_tryWalk_9)
  refine r_xVi (pc := 2) (As := [.int u1]) (st := []) h hX lk_RL_111 (c_x_firstOfPairByWalking x.2.1 hst G σ u1) rc_5 (by decide) rfl rfl (by first | decide | exact Nat.le_of_ble_eq_true rfl) (by decide) dL_tryWalk_2 hkx (fun r1 s2 q3 => ?_)
  obtain ⟨k0, k1, k2⟩ := q3
  rw [k1, k2]
  exact V.wd (by decide) (by decide) (hret _ _ (wx_ok k0 rfl hi) 5 _ dL_tryWalk_5)

set_option maxRecDepth 100000 in
set_option maxHeartbeats 800000 in
theorem w_tryCount (l : Launch) (hst : l.stackTraces = false) (G : Gl) (S : Cs) (u1 : Int32) : KW l yL_tryCount cL_tryCount 3 [(0, 5, 6, 16)] ({ frames := 8, cells := 1, slots := 6, locals := 136 } : Room) G [.ref (G.2.1 + 0), .int u1] S (xq (cB (inB (nI 0) (nI 99999) u1) 2) (nI (fpN (toN u1)))) (sq (cB (inB (nI 0) (nI 99999) u1) 2) S (S)) := by
  intro σ hi
  refine Li_of rfl (by decide +kernel) (lo := [(0, .ref (G.2.1 + 0)), (1, .int u1)]) rfl (Nat.le_of_ble_eq_true rfl) ?_
  intro x Q hxl h hX htab hret
  subst hxl
  refine r_aload_n (pc := 0) h 0 rfl rfl dL_tryCount_0 ?_
  refine r_iload_n (pc := 1) h 1 rfl rfl dL_tryCount_1 ?_
  have hkx : ∀ (E : String) (s9 : Sg), (s9 = σ ∧ cB (inB (nI 0) (nI 99999) u1) 2 ≠ 0 ∧ E = exN (cB (inB (nI 0) (nI 99999) u1) 2)) → VT x G 3 1 6 Q s9 2 [(0, .ref (G.2.1 + 0)), (1, .int u1)] [] E := by
    intro E s9 hp
    obtain ⟨e9, hC, hE⟩ := hp
    subst e9
    rcases (show cB (inB (nI 0) (nI 99999) u1) 2 = 0 ∨ cB (inB (nI 0) (nI 99999) u1) 2 = 2 from r_cB _ _) with e0 | e0
    · exact absurd e0 hC
    · rw [e0] at hE
      obtain rfl : E = xI := hE
      refine VT_catch h [] ({ startPc := 0, endPc := 5, handlerPc := 6, catchType := 16 } : ExceptionTableEntry) [] (htab.trans rfl) (fun y hy => absurd hy List.not_mem_nil) rfl (by decide) mw_4_1 hX.2.1.1 (fun q => ?_)
      refine r_astore_n (pc := 6) (lo2 := [(2, .ref q), (0, .ref (G.2.1 + 0)), (1, .int u1)]) h rfl (by decide) rfl dL_tryCount_6 ?_
      refine r_ldc (pc := 7) (v := -9999002) h mw_4_3 dL_tryCount_7 ?_
      exact V.wd (by decide) (by decide) (hret _ _ (wx_no e0 (by decide) rfl hi) 9 _ dL_tryCount_9)
  refine r_xVi (pc := 2) (As := [.int u1]) (st := []) h hX lk_RL_114 (c_x_firstOfPairByCounting x.2.1 hst G σ u1) rc_5 (by decide) rfl rfl (by first | decide | exact Nat.le_of_ble_eq_true rfl) (by decide) dL_tryCount_2 hkx (fun r1 s2 q3 => ?_)
  obtain ⟨k0, k1, k2⟩ := q3
  rw [k1, k2]
  exact V.wd (by decide) (by decide) (hret _ _ (wx_ok k0 rfl hi) 5 _ dL_tryCount_5)

set_option maxRecDepth 100000 in
set_option maxHeartbeats 800000 in
theorem w_tryPair (l : Launch) (hst : l.stackTraces = false) (G : Gl) (S : Cs) (u1 : Int32) (u2 : Int32) : KW l yL_tryPair cL_tryPair 4 [(0, 6, 7, 16)] ({ frames := 8, cells := 2, slots := 12, locals := 134 } : Room) G [.ref (G.2.1 + 0), .int u1, .int u2] S (xq (seqC (cB (inB (nI 0) (nI 200) u1) 2) (cB (inB (nI 0) (nI 200) u2) 2)) (nI (triN ((toN u1) + (toN u2)) + (toN u1)))) (sq (seqC (cB (inB (nI 0) (nI 200) u1) 2) (cB (inB (nI 0) (nI 200) u2) 2)) S (S)) := by
  intro σ hi
  refine Li_of rfl (by decide +kernel) (lo := [(0, .ref (G.2.1 + 0)), (1, .int u1), (2, .int u2)]) rfl (Nat.le_of_ble_eq_true rfl) ?_
  intro x Q hxl h hX htab hret
  subst hxl
  refine r_aload_n (pc := 0) h 0 rfl rfl dL_tryPair_0 ?_
  refine r_iload_n (pc := 1) h 1 rfl rfl dL_tryPair_1 ?_
  refine r_iload_n (pc := 2) h 2 rfl rfl dL_tryPair_2 ?_
  have hkx : ∀ (E : String) (s9 : Sg), (s9 = σ ∧ seqC (cB (inB (nI 0) (nI 200) u1) 2) (cB (inB (nI 0) (nI 200) u2) 2) ≠ 0 ∧ E = exN (seqC (cB (inB (nI 0) (nI 200) u1) 2) (cB (inB (nI 0) (nI 200) u2) 2))) → VT x G 4 2 12 Q s9 3 [(0, .ref (G.2.1 + 0)), (1, .int u1), (2, .int u2)] [] E := by
    intro E s9 hp
    obtain ⟨e9, hC, hE⟩ := hp
    subst e9
    rcases (show seqC (cB (inB (nI 0) (nI 200) u1) 2) (cB (inB (nI 0) (nI 200) u2) 2) = 0 ∨ seqC (cB (inB (nI 0) (nI 200) u1) 2) (cB (inB (nI 0) (nI 200) u2) 2) = 2 from r_seq1 _ _ _) with e0 | e0
    · exact absurd e0 hC
    · rw [e0] at hE
      obtain rfl : E = xI := hE
      refine VT_catch h [] ({ startPc := 0, endPc := 6, handlerPc := 7, catchType := 16 } : ExceptionTableEntry) [] (htab.trans rfl) (fun y hy => absurd hy List.not_mem_nil) rfl (by decide) mw_4_1 hX.2.1.1 (fun q => ?_)
      refine r_astore_n (pc := 7) (lo2 := [(3, .ref q), (0, .ref (G.2.1 + 0)), (1, .int u1), (2, .int u2)]) h rfl (by decide) rfl dL_tryPair_7 ?_
      refine r_ldc (pc := 8) (v := -9999002) h mw_4_3 dL_tryPair_8 ?_
      exact V.wd (by decide) (by decide) (hret _ _ (wx_no e0 (by decide) rfl hi) 10 _ dL_tryPair_10)
  refine r_xVi (pc := 3) (As := [.int u1, .int u2]) (st := []) h hX lk_RL_117 (c_x_numberOfPair x.2.1 hst G σ u1 u2) rc_5 (by decide) rfl rfl (by first | decide | exact Nat.le_of_ble_eq_true rfl) (by decide) dL_tryPair_3 hkx (fun r1 s2 q3 => ?_)
  obtain ⟨k0, k1, k2⟩ := q3
  rw [k1, k2]
  exact V.wd (by decide) (by decide) (hret _ _ (wx_ok k0 rfl hi) 6 _ dL_tryPair_6)

set_option maxRecDepth 100000 in
set_option maxHeartbeats 800000 in
theorem w_tryIfJoined (l : Launch) (hst : l.stackTraces = false) (G : Gl) (S : Cs) (u1 : Int32) (u2 : Int32) : KW l yL_tryIfJoined cL_tryIfJoined 4 [(0, 6, 7, 13)] ({ frames := 8, cells := 2, slots := 12, locals := 133 } : Room) G [.ref (G.2.1 + 0), .int u1, .int u2] S (xq (seqC (cB (liB (sA S) u1) 1) (cB (liB (sA S) u2) 1)) (nI (cS (fun v => mem (aU (sA S)) (toN u1) v || mem (aU (sA S)) (toN u2) v) 1000))) (sq (seqC (cB (liB (sA S) u1) 1) (cB (liB (sA S) u2) 1)) S (S)) := by
  intro σ hi
  refine Li_of rfl (by decide +kernel) (lo := [(0, .ref (G.2.1 + 0)), (1, .int u1), (2, .int u2)]) rfl (Nat.le_of_ble_eq_true rfl) ?_
  intro x Q hxl h hX htab hret
  subst hxl
  refine r_aload_n (pc := 0) h 0 rfl rfl dL_tryIfJoined_0 ?_
  refine r_iload_n (pc := 1) h 1 rfl rfl dL_tryIfJoined_1 ?_
  refine r_iload_n (pc := 2) h 2 rfl rfl dL_tryIfJoined_2 ?_
  have hkx : ∀ (E : String) (s9 : Sg), (s9 = σ ∧ seqC (cB (liB (sA S) u1) 1) (cB (liB (sA S) u2) 1) ≠ 0 ∧ E = exN (seqC (cB (liB (sA S) u1) 1) (cB (liB (sA S) u2) 1))) → VT x G 4 2 12 Q s9 3 [(0, .ref (G.2.1 + 0)), (1, .int u1), (2, .int u2)] [] E := by
    intro E s9 hp
    obtain ⟨e9, hC, hE⟩ := hp
    subst e9
    rcases (show seqC (cB (liB (sA S) u1) 1) (cB (liB (sA S) u2) 1) = 0 ∨ seqC (cB (liB (sA S) u1) 1) (cB (liB (sA S) u2) 1) = 1 from r_seq1 _ _ _) with e0 | e0
    · exact absurd e0 hC
    · rw [e0] at hE
      obtain rfl : E = xO := hE
      refine VT_catch h [] ({ startPc := 0, endPc := 6, handlerPc := 7, catchType := 13 } : ExceptionTableEntry) [] (htab.trans rfl) (fun y hy => absurd hy List.not_mem_nil) rfl (by decide) mw_15_2 hX.2.1.2.2.1 (fun q => ?_)
      refine r_astore_n (pc := 7) (lo2 := [(3, .ref q), (0, .ref (G.2.1 + 0)), (1, .int u1), (2, .int u2)]) h rfl (by decide) rfl dL_tryIfJoined_7 ?_
      refine r_ldc (pc := 8) (v := -9999001) h mw_15_3 dL_tryIfJoined_8 ?_
      exact V.wd (by decide) (by decide) (hret _ _ (wx_no e0 (by decide) rfl hi) 10 _ dL_tryIfJoined_10)
  refine r_xVi (pc := 3) (As := [.int u1, .int u2]) (st := []) h hX lk_RL_120 (c_x_membersIfJoined x.2.1 hst G σ (sA S) hi.2.1 u1 u2) rc_5 (by decide) rfl rfl (by first | decide | exact Nat.le_of_ble_eq_true rfl) (by decide) dL_tryIfJoined_3 hkx (fun r1 s2 q3 => ?_)
  obtain ⟨k0, k1, k2⟩ := q3
  rw [k1, k2]
  exact V.wd (by decide) (by decide) (hret _ _ (wx_ok k0 rfl hi) 6 _ dL_tryIfJoined_6)

set_option maxRecDepth 100000 in
set_option maxHeartbeats 800000 in
theorem w_trySkipsTo (l : Launch) (hst : l.stackTraces = false) (G : Gl) (S : Cs) (u1 : Int32) (u2 : Int32) : KW l yL_trySkipsTo cL_trySkipsTo 4 [(0, 6, 7, 13), (0, 6, 11, 16)] ({ frames := 8, cells := 2, slots := 12, locals := 137 } : Room) G [.ref (G.2.1 + 0), .int u1, .int u2] S (xq (seqC (cB (rdB (sA S) u1) 1) (cB (inB (nI 0) (nI 999) u2) 2)) (skU (sA S) (toN u1) (toN u2))) (sq (seqC (cB (rdB (sA S) u1) 1) (cB (inB (nI 0) (nI 999) u2) 2)) S (S)) := by
  intro σ hi
  refine Li_of rfl (by decide +kernel) (lo := [(0, .ref (G.2.1 + 0)), (1, .int u1), (2, .int u2)]) rfl (Nat.le_of_ble_eq_true rfl) ?_
  intro x Q hxl h hX htab hret
  subst hxl
  refine r_aload_n (pc := 0) h 0 rfl rfl dL_trySkipsTo_0 ?_
  refine r_iload_n (pc := 1) h 1 rfl rfl dL_trySkipsTo_1 ?_
  refine r_iload_n (pc := 2) h 2 rfl rfl dL_trySkipsTo_2 ?_
  have hkx : ∀ (E : String) (s9 : Sg), (s9 = σ ∧ seqC (cB (rdB (sA S) u1) 1) (cB (inB (nI 0) (nI 999) u2) 2) ≠ 0 ∧ E = exN (seqC (cB (rdB (sA S) u1) 1) (cB (inB (nI 0) (nI 999) u2) 2))) → VT x G 4 2 12 Q s9 3 [(0, .ref (G.2.1 + 0)), (1, .int u1), (2, .int u2)] [] E := by
    intro E s9 hp
    obtain ⟨e9, hC, hE⟩ := hp
    subst e9
    rcases (show seqC (cB (rdB (sA S) u1) 1) (cB (inB (nI 0) (nI 999) u2) 2) = 0 ∨ seqC (cB (rdB (sA S) u1) 1) (cB (inB (nI 0) (nI 999) u2) 2) = 1 ∨ seqC (cB (rdB (sA S) u1) 1) (cB (inB (nI 0) (nI 999) u2) 2) = 2 from r_seq _ _ _ _) with e0 | e0 | e0
    · exact absurd e0 hC
    · rw [e0] at hE
      obtain rfl : E = xO := hE
      refine VT_catch h [] ({ startPc := 0, endPc := 6, handlerPc := 7, catchType := 13 } : ExceptionTableEntry) [({ startPc := 0, endPc := 6, handlerPc := 11, catchType := 16 } : ExceptionTableEntry)] (htab.trans rfl) (fun y hy => absurd hy List.not_mem_nil) rfl (by decide) mw_15_2 hX.2.1.2.2.1 (fun q => ?_)
      refine r_astore_n (pc := 7) (lo2 := [(3, .ref q), (0, .ref (G.2.1 + 0)), (1, .int u1), (2, .int u2)]) h rfl (by decide) rfl dL_trySkipsTo_7 ?_
      refine r_ldc (pc := 8) (v := -9999001) h mw_15_3 dL_trySkipsTo_8 ?_
      exact V.wd (by decide) (by decide) (hret _ _ (wx_no e0 (by decide) rfl hi) 10 _ dL_trySkipsTo_10)
    · rw [e0] at hE
      obtain rfl : E = xI := hE
      refine VT_catch h [({ startPc := 0, endPc := 6, handlerPc := 7, catchType := 13 } : ExceptionTableEntry)] ({ startPc := 0, endPc := 6, handlerPc := 11, catchType := 16 } : ExceptionTableEntry) [] (htab.trans rfl) (List.forall_mem_cons.mpr ⟨Or.inr ⟨by decide, xO, mw_15_2, hX.2.2.2.1⟩, (fun y hy => absurd hy List.not_mem_nil)⟩) rfl (by decide) mw_4_1 hX.2.1.1 (fun q => ?_)
      refine r_astore_n (pc := 11) (lo2 := [(3, .ref q), (0, .ref (G.2.1 + 0)), (1, .int u1), (2, .int u2)]) h rfl (by decide) rfl dL_trySkipsTo_11 ?_
      refine r_ldc (pc := 12) (v := -9999002) h mw_4_3 dL_trySkipsTo_12 ?_
      exact V.wd (by decide) (by decide) (hret _ _ (wx_no e0 (by decide) rfl hi) 14 _ dL_trySkipsTo_14)
  refine r_xVi (pc := 3) (As := [.int u1, .int u2]) (st := []) h hX lk_RL_123 (c_x_skipsTo x.2.1 hst G σ (sA S) hi.2.1 u1 u2) rc_5 (by decide) rfl rfl (by first | decide | exact Nat.le_of_ble_eq_true rfl) (by decide) dL_trySkipsTo_3 hkx (fun r1 s2 q3 => ?_)
  obtain ⟨k0, k1, k2⟩ := q3
  rw [k1, k2]
  exact V.wd (by decide) (by decide) (hret _ _ (wx_ok k0 rfl hi) 6 _ dL_trySkipsTo_6)

set_option maxRecDepth 100000 in
set_option maxHeartbeats 800000 in
theorem w_tryKeep (l : Launch) (hst : l.stackTraces = false) (G : Gl) (S : Cs) (u1 : Int32) : KW l yL_tryKeep cL_tryKeep 3 [(0, 5, 6, 13)] ({ frames := 8, cells := 1, slots := 6, locals := 131 } : Room) G [.ref (G.2.1 + 0), .int u1] S (xq (cB (inB (nI 0) (nI 1) u1) 1) (nI (sA S).1)) (sq (cB (inB (nI 0) (nI 1) u1) 1) S (ksv S u1)) := by
  intro σ hi
  refine Li_of rfl (by decide +kernel) (lo := [(0, .ref (G.2.1 + 0)), (1, .int u1)]) rfl (Nat.le_of_ble_eq_true rfl) ?_
  intro x Q hxl h hX htab hret
  subst hxl
  refine r_aload_n (pc := 0) h 0 rfl rfl dL_tryKeep_0 ?_
  refine r_iload_n (pc := 1) h 1 rfl rfl dL_tryKeep_1 ?_
  have hkx : ∀ (E : String) (s9 : Sg), (s9 = σ ∧ cB (inB (nI 0) (nI 1) u1) 1 ≠ 0 ∧ E = exN (cB (inB (nI 0) (nI 1) u1) 1)) → VT x G 3 1 6 Q s9 2 [(0, .ref (G.2.1 + 0)), (1, .int u1)] [] E := by
    intro E s9 hp
    obtain ⟨e9, hC, hE⟩ := hp
    subst e9
    rcases (show cB (inB (nI 0) (nI 1) u1) 1 = 0 ∨ cB (inB (nI 0) (nI 1) u1) 1 = 1 from r_cB _ _) with e0 | e0
    · exact absurd e0 hC
    · rw [e0] at hE
      obtain rfl : E = xO := hE
      refine VT_catch h [] ({ startPc := 0, endPc := 5, handlerPc := 6, catchType := 13 } : ExceptionTableEntry) [] (htab.trans rfl) (fun y hy => absurd hy List.not_mem_nil) rfl (by decide) mw_15_2 hX.2.1.2.2.1 (fun q => ?_)
      refine r_astore_n (pc := 6) (lo2 := [(2, .ref q), (0, .ref (G.2.1 + 0)), (1, .int u1)]) h rfl (by decide) rfl dL_tryKeep_6 ?_
      refine r_ldc (pc := 7) (v := -9999001) h mw_15_3 dL_tryKeep_7 ?_
      exact V.wd (by decide) (by decide) (hret _ _ (wx_no e0 (by decide) rfl hi) 9 _ dL_tryKeep_9)
  refine r_xVi (pc := 2) (As := [.int u1]) (st := []) h hX lk_RL_126 (c_x_save x.2.1 hst G σ S.1 (sT S) (sA S) (sM S) (sH S) (sV S) (sL2 S) hi u1) rc_5 (by decide) rfl rfl (by first | decide | exact Nat.le_of_ble_eq_true rfl) (by decide) dL_tryKeep_2 hkx (fun r1 s2 q3 => ?_)
  obtain ⟨k0, k1, k2, k3⟩ := q3
  subst k1
  exact V.wd (by decide) (by decide) (hret _ _ (wx_ok k0 rfl k2) 5 _ dL_tryKeep_5)

set_option maxRecDepth 100000 in
set_option maxHeartbeats 800000 in
theorem w_tryBack (l : Launch) (hst : l.stackTraces = false) (G : Gl) (S : Cs) (u1 : Int32) : KW l yL_tryBack cL_tryBack 3 [(0, 5, 6, 13), (0, 5, 10, 27)] ({ frames := 8, cells := 2, slots := 12, locals := 131 } : Room) G [.ref (G.2.1 + 0), .int u1] S (xq (seqC (cB (inB (nI 0) (nI 1) u1) 1) (cB (sV S (toN u1)) 3)) (nI (sL2 S (toN u1)).1)) (sq (seqC (cB (inB (nI 0) (nI 1) u1) 1) (cB (sV S (toN u1)) 3)) S (rst S u1)) := by
  intro σ hi
  refine Li_of rfl (by decide +kernel) (lo := [(0, .ref (G.2.1 + 0)), (1, .int u1)]) rfl (Nat.le_of_ble_eq_true rfl) ?_
  intro x Q hxl h hX htab hret
  subst hxl
  refine r_aload_n (pc := 0) h 0 rfl rfl dL_tryBack_0 ?_
  refine r_iload_n (pc := 1) h 1 rfl rfl dL_tryBack_1 ?_
  have hkx : ∀ (E : String) (s9 : Sg), (s9 = σ ∧ seqC (cB (inB (nI 0) (nI 1) u1) 1) (cB (sV S (toN u1)) 3) ≠ 0 ∧ E = exN (seqC (cB (inB (nI 0) (nI 1) u1) 1) (cB (sV S (toN u1)) 3))) → VT x G 3 2 12 Q s9 2 [(0, .ref (G.2.1 + 0)), (1, .int u1)] [] E := by
    intro E s9 hp
    obtain ⟨e9, hC, hE⟩ := hp
    subst e9
    rcases (show seqC (cB (inB (nI 0) (nI 1) u1) 1) (cB (sV S (toN u1)) 3) = 0 ∨ seqC (cB (inB (nI 0) (nI 1) u1) 1) (cB (sV S (toN u1)) 3) = 1 ∨ seqC (cB (inB (nI 0) (nI 1) u1) 1) (cB (sV S (toN u1)) 3) = 3 from r_seq _ _ _ _) with e0 | e0 | e0
    · exact absurd e0 hC
    · rw [e0] at hE
      obtain rfl : E = xO := hE
      refine VT_catch h [] ({ startPc := 0, endPc := 5, handlerPc := 6, catchType := 13 } : ExceptionTableEntry) [({ startPc := 0, endPc := 5, handlerPc := 10, catchType := 27 } : ExceptionTableEntry)] (htab.trans rfl) (fun y hy => absurd hy List.not_mem_nil) rfl (by decide) mw_15_2 hX.2.1.2.2.1 (fun q => ?_)
      refine r_astore_n (pc := 6) (lo2 := [(2, .ref q), (0, .ref (G.2.1 + 0)), (1, .int u1)]) h rfl (by decide) rfl dL_tryBack_6 ?_
      refine r_ldc (pc := 7) (v := -9999001) h mw_15_3 dL_tryBack_7 ?_
      exact V.wd (by decide) (by decide) (hret _ _ (wx_no e0 (by decide) rfl hi) 9 _ dL_tryBack_9)
    · rw [e0] at hE
      obtain rfl : E = xS := hE
      refine VT_catch h [({ startPc := 0, endPc := 5, handlerPc := 6, catchType := 13 } : ExceptionTableEntry)] ({ startPc := 0, endPc := 5, handlerPc := 10, catchType := 27 } : ExceptionTableEntry) [] (htab.trans rfl) (List.forall_mem_cons.mpr ⟨Or.inr ⟨by decide, xO, mw_15_2, hX.2.2.2.2.1⟩, (fun y hy => absurd hy List.not_mem_nil)⟩) rfl (by decide) mw_4_2 hX.2.1.2.1 (fun q => ?_)
      refine r_astore_n (pc := 10) (lo2 := [(2, .ref q), (0, .ref (G.2.1 + 0)), (1, .int u1)]) h rfl (by decide) rfl dL_tryBack_10 ?_
      refine r_ldc (pc := 11) (v := -9999003) h mw_4_4 dL_tryBack_11 ?_
      exact V.wd (by decide) (by decide) (hret _ _ (wx_no e0 (by decide) rfl hi) 13 _ dL_tryBack_13)
  refine r_xVi (pc := 2) (As := [.int u1]) (st := []) h hX lk_RL_129 (c_x_restore x.2.1 hst G σ S.1 (sT S) (sA S) (sM S) (sH S) (sV S) (sL2 S) hi u1) rc_5 (by decide) rfl rfl (by first | decide | exact Nat.le_of_ble_eq_true rfl) (by decide) dL_tryBack_2 hkx (fun r1 s2 q3 => ?_)
  obtain ⟨k0, k1, k2, k3⟩ := q3
  subst k1
  exact V.wd (by decide) (by decide) (hret _ _ (wx_ok k0 rfl k2) 5 _ dL_tryBack_5)

set_option maxRecDepth 100000 in
set_option maxHeartbeats 800000 in
theorem w_is (l : Launch) (hst : l.stackTraces = false) (G : Gl) (S : Cs) (u1 : Int32) (u2 : Int32) : KW l yL_is cL_is 4 [(0, 14, 15, 13), (0, 14, 19, 16)] ({ frames := 8, cells := 2, slots := 12, locals := 134 } : Room) G [.ref (G.2.1 + 0), .int u1, .int u2] S (xq (seqC (cB (liB (sA S) u1) 1) (cB (inB (nI 0) (nI 999) u2) 2)) (zB (mem (aU (sA S)) (toN u1) (toN u2)))) (sq (seqC (cB (liB (sA S) u1) 1) (cB (inB (nI 0) (nI 999) u2) 2)) S (S)) := by
  intro σ hi
  refine Li_of rfl (by decide +kernel) (lo := [(0, .ref (G.2.1 + 0)), (1, .int u1), (2, .int u2)]) rfl (Nat.le_of_ble_eq_true rfl) ?_
  intro x Q hxl h hX htab hret
  subst hxl
  refine r_aload_n (pc := 0) h 0 rfl rfl dL_is_0 ?_
  refine r_iload_n (pc := 1) h 1 rfl rfl dL_is_1 ?_
  refine r_iload_n (pc := 2) h 2 rfl rfl dL_is_2 ?_
  have hkx : ∀ (E : String) (s9 : Sg), (s9 = σ ∧ seqC (cB (liB (sA S) u1) 1) (cB (inB (nI 0) (nI 999) u2) 2) ≠ 0 ∧ E = exN (seqC (cB (liB (sA S) u1) 1) (cB (inB (nI 0) (nI 999) u2) 2))) → VT x G 4 2 12 Q s9 3 [(0, .ref (G.2.1 + 0)), (1, .int u1), (2, .int u2)] [] E := by
    intro E s9 hp
    obtain ⟨e9, hC, hE⟩ := hp
    subst e9
    rcases (show seqC (cB (liB (sA S) u1) 1) (cB (inB (nI 0) (nI 999) u2) 2) = 0 ∨ seqC (cB (liB (sA S) u1) 1) (cB (inB (nI 0) (nI 999) u2) 2) = 1 ∨ seqC (cB (liB (sA S) u1) 1) (cB (inB (nI 0) (nI 999) u2) 2) = 2 from r_seq _ _ _ _) with e0 | e0 | e0
    · exact absurd e0 hC
    · rw [e0] at hE
      obtain rfl : E = xO := hE
      refine VT_catch h [] ({ startPc := 0, endPc := 14, handlerPc := 15, catchType := 13 } : ExceptionTableEntry) [({ startPc := 0, endPc := 14, handlerPc := 19, catchType := 16 } : ExceptionTableEntry)] (htab.trans rfl) (fun y hy => absurd hy List.not_mem_nil) rfl (by decide) mw_15_2 hX.2.1.2.2.1 (fun q => ?_)
      refine r_astore_n (pc := 15) (lo2 := [(3, .ref q), (0, .ref (G.2.1 + 0)), (1, .int u1), (2, .int u2)]) h rfl (by decide) rfl dL_is_15 ?_
      refine r_ldc (pc := 16) (v := -9999001) h mw_15_3 dL_is_16 ?_
      exact V.wd (by decide) (by decide) (hret _ _ (wx_no e0 (by decide) rfl hi) 18 _ dL_is_18)
    · rw [e0] at hE
      obtain rfl : E = xI := hE
      refine VT_catch h [({ startPc := 0, endPc := 14, handlerPc := 15, catchType := 13 } : ExceptionTableEntry)] ({ startPc := 0, endPc := 14, handlerPc := 19, catchType := 16 } : ExceptionTableEntry) [] (htab.trans rfl) (List.forall_mem_cons.mpr ⟨Or.inr ⟨by decide, xO, mw_15_2, hX.2.2.2.1⟩, (fun y hy => absurd hy List.not_mem_nil)⟩) rfl (by decide) mw_4_1 hX.2.1.1 (fun q => ?_)
      refine r_astore_n (pc := 19) (lo2 := [(3, .ref q), (0, .ref (G.2.1 + 0)), (1, .int u1), (2, .int u2)]) h rfl (by decide) rfl dL_is_19 ?_
      refine r_ldc (pc := 20) (v := -9999002) h mw_4_3 dL_is_20 ?_
      exact V.wd (by decide) (by decide) (hret _ _ (wx_no e0 (by decide) rfl hi) 22 _ dL_is_22)
  refine r_xVi (pc := 3) (As := [.int u1, .int u2]) (st := []) h hX lk_RL_7 (c_x_isMember x.2.1 hst G σ (sA S) hi.2.1 u1 u2) rc_5 (by decide) rfl rfl (by first | decide | exact Nat.le_of_ble_eq_true rfl) (by decide) dL_is_3 hkx (fun r1 s2 q3 => ?_)
  obtain ⟨k0, k1, k2⟩ := q3
  rw [k1, k2]
  refine r_if_eq (pc := 6) (tgt := 13) h (by decide) dL_is_6 (fun c6 => ?_) (fun c6 => ?_)
  · skip
    replace c6 := zB_0.mp c6
    refine r_iconst (pc := 13) (v := nI 0) h (by decide) dL_is_13 ?_
    exact V.wd (by decide) (by decide) (hret _ _ (wx_ok k0 (by rw [c6]; rfl) hi) 14 _ dL_is_14)
  · skip
    replace c6 := zB_n0.mp c6
    refine r_iconst (pc := 9) (v := nI 1) h (by decide) dL_is_9 ?_
    refine r_goto (pc := 10) (tgt := 14) h (by decide) dL_is_10 ?_
    exact V.wd (by decide) (by decide) (hret _ _ (wx_ok k0 (by rw [c6]; rfl) hi) 14 _ dL_is_14)

set_option maxRecDepth 100000 in
set_option maxHeartbeats 800000 in
theorem w_doSimulate (l : Launch) (hst : l.stackTraces = false) (G : Gl) (S : Cs) (u1 : Int64) (u2 : Int32) : KW l yL_doSimulate cL_doSimulate 5 [(0, 6, 7, 16)] ({ frames := 8, cells := 1, slots := 6, locals := 194 } : Room) G [.ref (G.2.1 + 0), .long u1, .int u2] S (xq (cB (inB (nI 1) (nI 60) u2) 2) (simV (sA S) u1 (toN u2))) (sq (cB (inB (nI 1) (nI 60) u2) 2) S (S)) := by
  intro σ hi
  refine Li_of rfl (by decide +kernel) (lo := [(0, .ref (G.2.1 + 0)), (1, .long u1), (3, .int u2)]) rfl (Nat.le_of_ble_eq_true rfl) ?_
  intro x Q hxl h hX htab hret
  subst hxl
  refine r_aload_n (pc := 0) h 0 rfl rfl dL_doSimulate_0 ?_
  refine r_lload_n (pc := 1) h 1 rfl rfl dL_doSimulate_1 ?_
  refine r_iload_n (pc := 2) h 2 rfl rfl dL_doSimulate_2 ?_
  have hkx : ∀ (E : String) (s9 : Sg), (s9 = σ ∧ cB (inB (nI 1) (nI 60) u2) 2 ≠ 0 ∧ E = exN (cB (inB (nI 1) (nI 60) u2) 2)) → VT x G 5 1 6 Q s9 3 [(0, .ref (G.2.1 + 0)), (1, .long u1), (3, .int u2)] [] E := by
    intro E s9 hp
    obtain ⟨e9, hC, hE⟩ := hp
    subst e9
    rcases (show cB (inB (nI 1) (nI 60) u2) 2 = 0 ∨ cB (inB (nI 1) (nI 60) u2) 2 = 2 from r_cB _ _) with e0 | e0
    · exact absurd e0 hC
    · rw [e0] at hE
      obtain rfl : E = xI := hE
      refine VT_catch h [] ({ startPc := 0, endPc := 6, handlerPc := 7, catchType := 16 } : ExceptionTableEntry) [] (htab.trans rfl) (fun y hy => absurd hy List.not_mem_nil) rfl (by decide) mw_4_1 hX.2.1.1 (fun q => ?_)
      refine r_astore (pc := 7) (lo2 := [(4, .ref q), (0, .ref (G.2.1 + 0)), (1, .long u1), (3, .int u2)]) h (by decide) rfl dL_doSimulate_7 ?_
      refine r_ldc (pc := 9) (v := -9999002) h mw_4_3 dL_doSimulate_9 ?_
      exact V.wd (by decide) (by decide) (hret _ _ (wx_no e0 (by decide) rfl hi) 11 _ dL_doSimulate_11)
  refine r_xVi (pc := 3) (As := [.long u1, .int u2]) (st := []) h hX lk_RL_19 (c_x_simulate x.2.1 hst G σ S.1 (sT S) (sA S) (sM S) (sH S) (sV S) (sL2 S) hi u1 u2) rc_5 (by decide) rfl rfl (by first | decide | exact Nat.le_of_ble_eq_true rfl) (by decide) dL_doSimulate_3 hkx (fun r1 s2 q3 => ?_)
  obtain ⟨k0, k1, k2, k3⟩ := q3
  subst k1
  exact V.wd (by decide) (by decide) (hret _ _ (wx_ok k0 rfl k2) 6 _ dL_doSimulate_6)

