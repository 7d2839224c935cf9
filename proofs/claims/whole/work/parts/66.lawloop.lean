/-! THE CLAIM OUT OF ONE WALK OF THE LAW'S BODY. Your part is whole_start (and what it stands on); all else here is the same for every law, but numbers. -/
def R_law : String := "RuleListsLaw"
def lw_P (b : Addr) (xs : List Int32) (args : Array Value) (s : State) : Prop := args = #[.ref b] ∧ s.IntsAt b xs ∧ xs.length ≤ 2048 ∧ (Jvm.Cond.and given_1 narrow_1).before args s = true
def lw_Q (_ : Array Value) (s : State) (o : Outcome) (t : State) : Prop := o = .returned (some (.int 1)) ∧ Framed s o t [] 601024 7293034
def lw_Z (below : List Frame) (a : Array Value) (s : State) : State → Prop := fun t => ∃ o, t.status = .running ∧ Ended t below o ∧ lw_Q a s o t
/-- the law's own end, with 1 on the stack, nothing written that was there before, its room as the claim has it -/
theorem lw_ret {p : Program} {l : Launch} {e : Env} {s : State} {m : MethodId} {below : List Frame} {meth : Method} {c : Code} {b : Nat} (hx : p.tables.exec = Jvm.exec) (hb : c.code = code) (hr : meth.sig.returnType = ret) (hlocks : meth.locks = false) {pc : Nat} {H : Heap} {ls : Array Slot} (hdg : decode code pc = .ok (.ireturn, 1)) : W p l e room_1 s m #[Value.ref b] below meth c H [] 601024 7293034 (lw_Z below #[Value.ref b] s) (F0 m pc ls [.int 1]) := by
  intro T hT X
  obtain ⟨fs, hret, hrun, hended, hW, hframe⟩ := X.leave (v := some (.int 1)) (hlocks := hlocks) (fun h => by rw [hr] at h; cases h)
  have hmeth' : T.vm.method? m = some meth := X.method'
  refine ⟨T.setFrames fs, ?_, .returned (some (.int 1)), hrun, hended, rfl, ⟨_, rfl⟩, hW, hframe⟩
  jvm_step X.here [X.here.top, hx, hb, hdg, hmeth', hr, ret, narrow_b1]
  (try refine ⟨rfl, ?_⟩); (try refine ⟨rfl, ?_⟩)
  first | (intro acts; rw [hret _ acts rfl rfl rfl]) | rw [hret _ _ rfl rfl rfl]
  exact Steps.refl _
/-- what holds at the law's entry: the machine, the code, the tables' words (any of lw_tbl by 'hts w (by decide +kernel)'), the script of L ints xs at the cell b, what the Statement gives of the start (any of its parts by flat_of_before) -/
def lw_At (p : Program) (s : State) (m : MethodId) (meth : Method) (c : Code) (b L : Nat) (xs : Nat → Int32) : Prop :=
  p.tables.exec = Jvm.exec ∧ c.code = code ∧ meth.sig.returnType = ret ∧ c.maxLocals = 7 ∧ s.vm.findClass R_law = some m.cls ∧ (∀ w ∈ lw_tbl, w.before #[Value.ref b] s = true) ∧ va_X b L xs s s.heap ∧ b < s.heap.size ∧ meth.locks = false ∧ (Jvm.Cond.and given_1 narrow_1).before #[Value.ref b] s = true

theorem and63 (u : Int32) : ∃ v, v < 64 ∧ u &&& nI 63 = nI v := by
  refine ⟨(u &&& nI 63).toBitVec.toNat, ?_, ?_⟩
  · have h : (u &&& nI 63).toBitVec = u.toBitVec &&& 63#32 := rfl
    rw [h, BitVec.toNat_and]
    exact Nat.lt_of_le_of_lt Nat.and_le_right (by decide)
  · apply Int32.toBitVec_inj.mp
    show (u &&& nI 63).toBitVec = BitVec.ofNat 32 _
    exact BitVec.eq_of_toNat_eq (by rw [BitVec.toNat_ofNat, Nat.mod_eq_of_lt (BitVec.isLt _)])
theorem neg4 : ∀ L, L < 4 → nI L - nI 4 < nI 0 := by decide
set_option maxRecDepth 100000 in
set_option maxHeartbeats 4000000 in
theorem law_loop {x : Cx} {G : Gl} {Q : State → Prop} {b L : Nat} {xs : Nat → Int32} (LAh : LA x G b L xs) (hend : ∀ (σ : Sg) (lo : List (Nat × Value)) (cells slots : Nat), cells ≤ 601024 → slots ≤ 7293034 → V x G 7 cells slots Q σ 2557 lo [.int (nI 1)]) : ∀ (fu j : Nat), 4 * j ≤ L → L - 4 * j < fu → ∀ (σ : Sg) (n : Nat) (tx : Nat → Nat) (A : Ab) (m : Nat) (H : Nat → Ab) (sv : Nat → Bool) (sl : Nat → Ab), InvC n tx A m H sv sl σ → InvM n tx A m H sv sl σ → V x G 7 (144 + 2 * j) (18188 + 12 * j) Q σ 23 [(0, .ref b), (1, .ref (G.2.1 + 0)), (2, .ref (G.2.1 + 134)), (3, .ref (G.2.1 + 143)), (4, .int (nI (4 * j)))] [] := by
  intro fu
  induction fu with
  | zero => intro j hj hfu; exact absurd hfu (Nat.not_lt_zero _)
  | succ fu ih =>
    intro j hj hfu σ n tx A m H sv sl hC hM
    obtain ⟨h, hX, hst, hS0, hbl, hbA, hL⟩ := id LAh
    refine r_iload (pc := 23) h 4 rfl dL_law_23 ?_
    refine r_aload_n (pc := 25) h 0 rfl rfl dL_law_25 ?_
    refine r_slen (pc := 26) h hS0 hbl hbA dL_law_26 ?_
    refine r_iconst (pc := 27) (v := nI 4) h (by decide) dL_law_27 ?_
    by_cases hL4 : 4 ≤ L
    · refine r_isub (pc := 28) (v := nI (L - 4)) h (pk_sub hL4) dL_law_28 ?_
      refine r_icmp_gt (pc := 29) (tgt := 2556) h (by decide) dL_law_29 (fun c => ?_) (fun c => ?_)
      · refine r_iconst (pc := 2556) (v := nI 1) h (by decide) dL_law_2556 ?_
        exact hend _ _ _ _ (by omega) (by omega)
      · rw [nI_ltI (by omega) (by omega)] at c
        have hj4 : 4 * j + 4 ≤ L := by omega
        have kk : NX x G Q b j := fun σ2 n2 tx2 A2 m2 H2 sv2 sl2 hC2 hM2 => by
          refine r_iinc (pc := 2550) (v := nI (4 * (j + 1))) (lo2 := [(4, .int (nI (4 * (j + 1)))), (0, .ref b), (1, .ref (G.2.1 + 0)), (2, .ref (G.2.1 + 134)), (3, .ref (G.2.1 + 143))]) h 4 rfl ((nI_add _ _).trans rfl) (by decide) rfl dL_law_2550 ?_
          refine r_goto (pc := 2553) (tgt := 23) h (by decide) dL_law_2553 ?_
          exact r_sub [1, 2, 3, 4, 0] rfl (ih (j + 1) (by omega) (by omega) σ2 n2 tx2 A2 m2 H2 sv2 sl2 hC2 hM2)
        refine r_aload_n (pc := 32) h 0 rfl rfl dL_law_32 ?_
        refine r_iload (pc := 33) h 4 rfl dL_law_33 ?_
        refine r_sld (pc := 35) (j := 4 * j) h hS0 hbl hbA rfl (by omega) (by omega) dL_law_35 ?_
        refine r_bipush (pc := 36) (v := nI 63) h (by decide) dL_law_36 ?_
        refine r_iand (pc := 38) (v := xs (4 * j) &&& nI 63) h rfl dL_law_38 ?_
        obtain ⟨v, hv, ev⟩ := and63 (xs (4 * j))
        refine r_topi (b := nI v) ev ?_
        by_cases h43 : v < 43
        · clear ev
          match v, h43 with
          | v + 43, q => exact absurd q (by omega)
          | 0, _ =>
            refine r_tabIn (pc := 39) (off := 185) (tgt := 224) h (by decide) (by decide) (by decide) (by decide) dL_law_39 ?_
            exact law_c0 LAh j hj4 σ n tx A m H sv sl hC hM kk
          | 1, _ =>
            refine r_tabIn (pc := 39) (off := 241) (tgt := 280) h (by decide) (by decide) (by decide) (by decide) dL_law_39 ?_
            exact law_c1 LAh j hj4 σ n tx A m H sv sl hC hM kk
          | 2, _ =>
            refine r_tabIn (pc := 39) (off := 254) (tgt := 293) h (by decide) (by decide) (by decide) (by decide) dL_law_39 ?_
            exact law_c2 LAh j hj4 σ n tx A m H sv sl hC hM kk
          | 3, _ =>
            refine r_tabIn (pc := 39) (off := 267) (tgt := 306) h (by decide) (by decide) (by decide) (by decide) dL_law_39 ?_
            exact law_c3 LAh j hj4 σ n tx A m H sv sl hC hM kk
          | 4, _ =>
            refine r_tabIn (pc := 39) (off := 311) (tgt := 350) h (by decide) (by decide) (by decide) (by decide) dL_law_39 ?_
            exact law_c4 LAh j hj4 σ n tx A m H sv sl hC hM kk
          | 5, _ =>
            refine r_tabIn (pc := 39) (off := 379) (tgt := 418) h (by decide) (by decide) (by decide) (by decide) dL_law_39 ?_
            exact law_c5 LAh j hj4 σ n tx A m H sv sl hC hM kk
          | 6, _ =>
            refine r_tabIn (pc := 39) (off := 459) (tgt := 498) h (by decide) (by decide) (by decide) (by decide) dL_law_39 ?_
            exact law_c6 LAh j hj4 σ n tx A m H sv sl hC hM kk
          | 7, _ =>
            refine r_tabIn (pc := 39) (off := 527) (tgt := 566) h (by decide) (by decide) (by decide) (by decide) dL_law_39 ?_
            exact law_c7 LAh j hj4 σ n tx A m H sv sl hC hM kk
          | 8, _ =>
            refine r_tabIn (pc := 39) (off := 595) (tgt := 634) h (by decide) (by decide) (by decide) (by decide) dL_law_39 ?_
            exact law_c8 LAh j hj4 σ n tx A m H sv sl hC hM kk
          | 9, _ =>
            refine r_tabIn (pc := 39) (off := 663) (tgt := 702) h (by decide) (by decide) (by decide) (by decide) dL_law_39 ?_
            exact law_c9 LAh j hj4 σ n tx A m H sv sl hC hM kk
          | 10, _ =>
            refine r_tabIn (pc := 39) (off := 719) (tgt := 758) h (by decide) (by decide) (by decide) (by decide) dL_law_39 ?_
            exact law_c10 LAh j hj4 σ n tx A m H sv sl hC hM kk
          | 11, _ =>
            refine r_tabIn (pc := 39) (off := 787) (tgt := 826) h (by decide) (by decide) (by decide) (by decide) dL_law_39 ?_
            exact law_c11 LAh j hj4 σ n tx A m H sv sl hC hM kk
          | 12, _ =>
            refine r_tabIn (pc := 39) (off := 843) (tgt := 882) h (by decide) (by decide) (by decide) (by decide) dL_law_39 ?_
            exact law_c12 LAh j hj4 σ n tx A m H sv sl hC hM kk
          | 13, _ =>
            refine r_tabIn (pc := 39) (off := 887) (tgt := 926) h (by decide) (by decide) (by decide) (by decide) dL_law_39 ?_
            exact law_c13 LAh j hj4 σ n tx A m H sv sl hC hM kk
          | 14, _ =>
            refine r_tabIn (pc := 39) (off := 943) (tgt := 982) h (by decide) (by decide) (by decide) (by decide) dL_law_39 ?_
            exact law_c14 LAh j hj4 σ n tx A m H sv sl hC hM kk
          | 15, _ =>
            refine r_tabIn (pc := 39) (off := 999) (tgt := 1038) h (by decide) (by decide) (by decide) (by decide) dL_law_39 ?_
            exact law_c15 LAh j hj4 σ n tx A m H sv sl hC hM kk
          | 16, _ =>
            refine r_tabIn (pc := 39) (off := 1067) (tgt := 1106) h (by decide) (by decide) (by decide) (by decide) dL_law_39 ?_
            exact law_c16 LAh j hj4 σ n tx A m H sv sl hC hM kk
          | 17, _ =>
            refine r_tabIn (pc := 39) (off := 1123) (tgt := 1162) h (by decide) (by decide) (by decide) (by decide) dL_law_39 ?_
            exact law_c17 LAh j hj4 σ n tx A m H sv sl hC hM kk
          | 18, _ =>
            refine r_tabIn (pc := 39) (off := 1179) (tgt := 1218) h (by decide) (by decide) (by decide) (by decide) dL_law_39 ?_
            exact law_c18 LAh j hj4 σ n tx A m H sv sl hC hM kk
          | 19, _ =>
            refine r_tabIn (pc := 39) (off := 1223) (tgt := 1262) h (by decide) (by decide) (by decide) (by decide) dL_law_39 ?_
            exact law_c19 LAh j hj4 σ n tx A m H sv sl hC hM kk
          | 20, _ =>
            refine r_tabIn (pc := 39) (off := 1236) (tgt := 1275) h (by decide) (by decide) (by decide) (by decide) dL_law_39 ?_
            exact law_c20 LAh j hj4 σ n tx A m H sv sl hC hM kk
          | 21, _ =>
            refine r_tabIn (pc := 39) (off := 1311) (tgt := 1350) h (by decide) (by decide) (by decide) (by decide) dL_law_39 ?_
            exact law_c21 LAh j hj4 σ n tx A m H sv sl hC hM kk
          | 22, _ =>
            refine r_tabIn (pc := 39) (off := 1379) (tgt := 1418) h (by decide) (by decide) (by decide) (by decide) dL_law_39 ?_
            exact law_c22 LAh j hj4 σ n tx A m H sv sl hC hM kk
          | 23, _ =>
            refine r_tabIn (pc := 39) (off := 1447) (tgt := 1486) h (by decide) (by decide) (by decide) (by decide) dL_law_39 ?_
            exact law_c23 LAh j hj4 σ n tx A m H sv sl hC hM kk
          | 24, _ =>
            refine r_tabIn (pc := 39) (off := 1515) (tgt := 1554) h (by decide) (by decide) (by decide) (by decide) dL_law_39 ?_
            exact law_c24 LAh j hj4 σ n tx A m H sv sl hC hM kk
          | 25, _ =>
            refine r_tabIn (pc := 39) (off := 1583) (tgt := 1622) h (by decide) (by decide) (by decide) (by decide) dL_law_39 ?_
            exact law_c25 LAh j hj4 σ n tx A m H sv sl hC hM kk
          | 26, _ =>
            refine r_tabIn (pc := 39) (off := 1639) (tgt := 1678) h (by decide) (by decide) (by decide) (by decide) dL_law_39 ?_
            exact law_c26 LAh j hj4 σ n tx A m H sv sl hC hM kk
          | 27, _ =>
            refine r_tabIn (pc := 39) (off := 1707) (tgt := 1746) h (by decide) (by decide) (by decide) (by decide) dL_law_39 ?_
            exact law_c27 LAh j hj4 σ n tx A m H sv sl hC hM kk
          | 28, _ =>
            refine r_tabIn (pc := 39) (off := 1763) (tgt := 1802) h (by decide) (by decide) (by decide) (by decide) dL_law_39 ?_
            exact law_c28 LAh j hj4 σ n tx A m H sv sl hC hM kk
          | 29, _ =>
            refine r_tabIn (pc := 39) (off := 1776) (tgt := 1815) h (by decide) (by decide) (by decide) (by decide) dL_law_39 ?_
            exact law_c29 LAh j hj4 σ n tx A m H sv sl hC hM kk
          | 30, _ =>
            refine r_tabIn (pc := 39) (off := 1832) (tgt := 1871) h (by decide) (by decide) (by decide) (by decide) dL_law_39 ?_
            exact law_c30 LAh j hj4 σ n tx A m H sv sl hC hM kk
          | 31, _ =>
            refine r_tabIn (pc := 39) (off := 1888) (tgt := 1927) h (by decide) (by decide) (by decide) (by decide) dL_law_39 ?_
            exact law_c31 LAh j hj4 σ n tx A m H sv sl hC hM kk
          | 32, _ =>
            refine r_tabIn (pc := 39) (off := 1944) (tgt := 1983) h (by decide) (by decide) (by decide) (by decide) dL_law_39 ?_
            exact law_c32 LAh j hj4 σ n tx A m H sv sl hC hM kk
          | 33, _ =>
            refine r_tabIn (pc := 39) (off := 1957) (tgt := 1996) h (by decide) (by decide) (by decide) (by decide) dL_law_39 ?_
            exact law_c33 LAh j hj4 σ n tx A m H sv sl hC hM kk
          | 34, _ =>
            refine r_tabIn (pc := 39) (off := 1970) (tgt := 2009) h (by decide) (by decide) (by decide) (by decide) dL_law_39 ?_
            exact law_c34 LAh j hj4 σ n tx A m H sv sl hC hM kk
          | 35, _ =>
            refine r_tabIn (pc := 39) (off := 2026) (tgt := 2065) h (by decide) (by decide) (by decide) (by decide) dL_law_39 ?_
            exact law_c35 LAh j hj4 σ n tx A m H sv sl hC hM kk
          | 36, _ =>
            refine r_tabIn (pc := 39) (off := 2082) (tgt := 2121) h (by decide) (by decide) (by decide) (by decide) dL_law_39 ?_
            exact law_c36 LAh j hj4 σ n tx A m H sv sl hC hM kk
          | 37, _ =>
            refine r_tabIn (pc := 39) (off := 2150) (tgt := 2189) h (by decide) (by decide) (by decide) (by decide) dL_law_39 ?_
            exact law_c37 LAh j hj4 σ n tx A m H sv sl hC hM kk
          | 38, _ =>
            refine r_tabIn (pc := 39) (off := 2163) (tgt := 2202) h (by decide) (by decide) (by decide) (by decide) dL_law_39 ?_
            exact law_c38 LAh j hj4 σ n tx A m H sv sl hC hM kk
          | 39, _ =>
            refine r_tabIn (pc := 39) (off := 2231) (tgt := 2270) h (by decide) (by decide) (by decide) (by decide) dL_law_39 ?_
            exact law_c39 LAh j hj4 σ n tx A m H sv sl hC hM kk
          | 40, _ =>
            refine r_tabIn (pc := 39) (off := 2299) (tgt := 2338) h (by decide) (by decide) (by decide) (by decide) dL_law_39 ?_
            exact law_c40 LAh j hj4 σ n tx A m H sv sl hC hM kk
          | 41, _ =>
            refine r_tabIn (pc := 39) (off := 2399) (tgt := 2438) h (by decide) (by decide) (by decide) (by decide) dL_law_39 ?_
            exact law_c41 LAh j hj4 σ n tx A m H sv sl hC hM kk
          | 42, _ =>
            refine r_tabIn (pc := 39) (off := 2455) (tgt := 2494) h (by decide) (by decide) (by decide) (by decide) dL_law_39 ?_
            exact law_c42 LAh j hj4 σ n tx A m H sv sl hC hM kk
        · refine r_tabOut (pc := 39) (tgt := 2550) h (Or.inr (by rw [nI_toInt (by omega)]; omega)) (by decide) dL_law_39 ?_
          exact V.wd (by omega) (by omega) (kk σ n tx A m H sv sl hC hM)
    · refine r_isub (pc := 28) (v := nI L - nI 4) h rfl dL_law_28 ?_
      have hj0 : j = 0 := by omega
      subst hj0
      refine r_icmp_gt (pc := 29) (tgt := 2556) h (by decide) dL_law_29 (fun c => ?_) (fun c => absurd (neg4 L (by omega)) c)
      refine r_iconst (pc := 2556) (v := nI 1) h (by decide) dL_law_2556 ?_
      exact hend _ _ _ _ (by omega) (by omega)
