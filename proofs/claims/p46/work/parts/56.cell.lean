/-! THE LAW: cell; what rules and reads leave -/
theorem and31 (u : Int32) : ∃ v, v < 2 ^ 31 ∧ u &&& nI 2147483647 = nI v := by
  refine ⟨(u &&& nI 2147483647).toBitVec.toNat, ?_, ?_⟩
  · have h : (u &&& nI 2147483647).toBitVec = u.toBitVec &&& 2147483647#32 := rfl
    rw [h, BitVec.toNat_and]
    exact Nat.lt_of_le_of_lt Nat.and_le_right (by decide)
  · apply Int32.toBitVec_inj.mp
    show (u &&& nI 2147483647).toBitVec = BitVec.ofNat 32 _
    exact BitVec.eq_of_toNat_eq (by rw [BitVec.toNat_ofNat, Nat.mod_eq_of_lt (BitVec.isLt _)])
theorem LI_rlT {S : Cs} {n : Nat} (h : LI S) (hm : sM S ≤ 14) : LI (rlT S n) := by
  unfold rlT
  by_cases c : nLi S ≤ 8
  · rw [if_pos c]
    exact (un4 hm rfl rfl rfl rfl).2.2.2 h rfl rfl rfl rfl
  · rw [if_neg c]; exact h
theorem LI_rdT {S : Cs} {n : Nat} (h : LI S) (hm : sM S ≤ 14) : LI (rdT S n) := by
  have h20 : 2 ≤ (sA S).1 := h.1
  have g : ∀ (S1 : Cs) (A1 : Ab), S1 = pu S A1 → A1.1 = (sA S).1 → LI S1 ∧ 1 ≤ sM S1 ∧ sM S1 ≤ 14 ∧ 2 ≤ (sA S1).1 ∧ rem S1 0 = sA S := by
    intro S1 A1 e e1
    subst e
    have b := pn_b hm
    exact ⟨LI_pu h hm (by show A1.1 ≤ (sA S).1 + 1; omega) (by omega), b.1, b.2.1, (by show 2 ≤ A1.1; omega), rem_0 hm⟩
  have st : ∀ (j : Nat) (S1 S2 : Cs) (A2 : Ab), LI S1 → j + 1 ≤ sM S1 → j < 13 → sM S1 ≤ 14 → 2 ≤ (sA S1).1 → (∀ k, k < j + 1 → 2 ≤ (rem S1 k).1) → S2 = pu S1 A2 → A2.1 = (sA S1).1 → LI S2 ∧ j + 2 ≤ sM S2 ∧ sM S2 ≤ 14 ∧ 2 ≤ (sA S2).1 ∧ (∀ k, k < j + 2 → 2 ≤ (rem S2 k).1) := by
    intro j S1 S2 A2 l1 m1 j12 m14 a1 r1 e e1
    subst e
    have b := pn_b m14
    refine ⟨LI_pu l1 m14 (by show A2.1 ≤ (sA S1).1 + 1; omega) (by omega), pn_ge m1 (by omega) m14, b.2.1, (by show 2 ≤ A2.1; omega), fun k hk => ?_⟩
    cases k with
    | zero => rw [rem_0 m14]; exact a1
    | succ k => rw [rem_s m14 (by omega) (by omega)]; exact r1 k (by omega)
  unfold rdT
  by_cases c : nRd S = 4
  · rw [if_pos c]; exact h
  · rw [if_neg c]
    obtain ⟨l1, m1, m14, a1, r1⟩ := g (nK_11 S (nI (n % nLi S)) (nI 0) (nI 0)) _ rfl rfl
    have r1' : ∀ k, k < 0 + 1 → 2 ≤ (rem (nK_11 S (nI (n % nLi S)) (nI 0) (nI 0)) k).1 := fun k hk => by rw [show k = 0 by omega, r1]; exact h20
    cases e : ath (mS S (n % nLi S)) 0 with
    | none => exact LI_poN l1 1 m1 r1'
    | some v =>
      obtain ⟨l2, m2, m24, a2, r2⟩ := st 0 _ (nK_12 (nK_11 S (nI (n % nLi S)) (nI 0) (nI 0)) (nI (nRd S)) (nI 0) (nI 0)) _ l1 m1 (by omega) m14 a1 r1' rfl rfl
      dsimp only
      split
      · obtain ⟨l3, m3, m34, a3, r3⟩ := st 1 _ (nK_13 (nK_12 (nK_11 S (nI (n % nLi S)) (nI 0) (nI 0)) (nI (nRd S)) (nI 0) (nI 0)) (nI (nRd S)) (nI (max (cS (mS S (n % nLi S)) (n / 12 % 1000)) 1 - 1)) (nI 0)) _ l2 m2 (by omega) m24 a2 r2 rfl rfl
        exact LI_poN l3 (1 + 1 + 1) m3 r3
      · exact LI_poN l2 (1 + 1) m2 r2
section
variable {x : Cx} {A : Nat → Prop} {cc : ByteArray} {nL : Nat} {rm : Room} {u : Nat} {Q : State → Prop} {P : Heap → Prop} {pc : Nat} {lo : List (Nat × Value)} {st : List Value}
theorem vl_slen (h : CL x cc nL rm) {b L : Nat} {xs : Nat → Int32} (hS0 : va_X b L xs x.2.2.2.2.1 x.2.2.2.2.1.heap) (hbl : b < x.2.2.2.2.1.heap.size) (hbA : ¬ A b) (d : decode cc pc = .ok (.arraylength, 1)) (k : VP x A nL u Q P (pc + 1) lo (.int (nI L) :: st)) : VP x A nL u Q P pc lo (.ref b :: st) := fun H lc ls hP hS hl => va_slen h.1 h.2.1 hS0 hbl hbA hS d (k H lc ls hP hS hl)
theorem vl_sld (h : CL x cc nL rm) {b L j : Nat} {i : Int32} {xs : Nat → Int32} (hS0 : va_X b L xs x.2.2.2.2.1 x.2.2.2.2.1.heap) (hbl : b < x.2.2.2.2.1.heap.size) (hbA : ¬ A b) (hi : i = nI j) (hj : j < L) (hL : L < 2 ^ 31) (d : decode cc pc = .ok (.iaload, 1)) (k : VP x A nL u Q P (pc + 1) lo (.int (xs j) :: st)) : VP x A nL u Q P pc lo (.int i :: .ref b :: st) := by
  subst hi
  intro H lc ls hP hS hl
  refine va_sld h.1 h.2.1 hS0 hbl hbA hS (vp_in_nI hj hL) d ?_
  rw [nI_clamp (Nat.lt_trans hj hL)]
  exact k H lc ls hP hS hl
end
/-- the script's cell j, or a number for it: never below 0 -/
def KC (l : Launch) (b L : Nat) (xs : Nat → Int32) (j : Nat) : Prop :=
  Met l yL_cell (.code yL_cell cL_cell 2 (some .int) :: wsL_law) ({ frames := 0, cells := 0, slots := 0, locals := 0 } : Room) (va_Pc [.ref b, .int (nI j)] (fun U => va_X b L xs U U.heap)) (va_Qi (fun r (_ : Unit) => ∃ v, v < 2 ^ 31 ∧ r = nI v) (fun _ _ => True) (fun _ => False)) 0 0 (fun _ => False)
set_option maxRecDepth 100000 in
set_option maxHeartbeats 800000 in
theorem c_cell (l : Launch) (b L : Nat) (hL : L < 2 ^ 31) (xs : Nat → Int32) (j : Nat) (hj : j < 1000) : KC l b L xs j := by
  refine Met.ofW (cc := cL_cell) (maxL := 2) (ret := some .int) (by decide +kernel) rfl ?_
  intro p e s m args below meth c s₁ B hml hv
  obtain ⟨rfl, hX0⟩ := hv
  have hts := atoms_spec (ws := .code yL_cell cL_cell 2 (some .int) :: wsL_law) B.pre
  have hl := lv_entry ([.ref b, .int (nI j)]) (n := 2) (Nat.le_of_ble_eq_true rfl)
  rw [lg_entry_eq]
  have hr := B.returns
  have hbl : b < s.heap.size := by
    obtain ⟨scr, h1, -⟩ := hX0
    exact (Array.getElem?_eq_some_iff.mp h1).1
  have h : CL (p, l, e, ({ frames := 0, cells := 0, slots := 0, locals := 0 } : Room), s, m, ([.ref b, .int (nI j)] : List Value).toArray, below, meth, c) cL_cell 2 ({ frames := 0, cells := 0, slots := 0, locals := 0 } : Room) := ⟨B.exec, B.bytes, hml, findClass_of_methodNamed B.named, fun w hw => hts w (List.mem_cons_of_mem _ hw), rfl, B.notSynchronized, Nat.le_refl _⟩
  have body : VP (p, l, e, ({ frames := 0, cells := 0, slots := 0, locals := 0 } : Room), s, m, ([.ref b, .int (nI j)] : List Value).toArray, below, meth, c) (fun _ => False) 2 0 (MQ below (va_Qi (fun r (_ : Unit) => ∃ v, v < 2 ^ 31 ∧ r = nI v) (fun _ _ => True) (fun _ => False)) ([.ref b, .int (nI j)] : List Value).toArray s 0 0 (fun _ => False)) (fun _ => True) 0 [(0, .ref b), (1, .int (nI j))] [] := by
    have fin : ∀ w : Int32, VP (p, l, e, ({ frames := 0, cells := 0, slots := 0, locals := 0 } : Room), s, m, ([.ref b, .int (nI j)] : List Value).toArray, below, meth, c) (fun _ => False) 2 0 (MQ below (va_Qi (fun r (_ : Unit) => ∃ v, v < 2 ^ 31 ∧ r = nI v) (fun _ _ => True) (fun _ => False)) ([.ref b, .int (nI j)] : List Value).toArray s 0 0 (fun _ => False)) (fun _ => True) 22 [(0, .ref b), (1, .int (nI j))] [.int w] := by
      intro w
      refine vl_ldc (pc := 22) (v := nI 2147483647) h mw_3_18 dL_cell_22 ?_
      refine vl_iand (pc := 24) (v := w &&& nI 2147483647) h rfl dL_cell_24 ?_
      intro H locs ls hP hS hl'
      exact W.zret (v := w &&& nI 2147483647) B.exec B.bytes hr rfl (fun t ht hW => ⟨⟨_, (), rfl, and31 w, trivial⟩, hS.F ht⟩) hS.2.2 dL_cell_25 B.notSynchronized
    refine vl_iload_n (pc := 0) h 1 rfl rfl dL_cell_0 ?_
    refine vl_aload_n (pc := 1) h 0 rfl rfl dL_cell_1 ?_
    refine vl_slen (pc := 2) h hX0 hbl (fun z => z) dL_cell_2 ?_
    refine vl_icmp_ge (pc := 3) (tgt := 12) h (by decide) dL_cell_3 (fun c3 => ?_) (fun c3 => ?_)
    · refine vl_ldc (pc := 12) (v := nI 15520411) h mw_3_17 dL_cell_12 ?_
      refine vl_iload_n (pc := 14) h 1 rfl rfl dL_cell_14 ?_
      refine vl_iconst (pc := 15) (v := nI 3) h (by decide) dL_cell_15 ?_
      refine vl_iadd (pc := 16) h rfl dL_cell_16 ?_
      refine vl_imul (pc := 17) h rfl dL_cell_17 ?_
      refine vl_sipush (pc := 18) (v := nI 12433) h (by decide) dL_cell_18 ?_
      refine vl_iadd (pc := 21) h rfl dL_cell_21 ?_
      exact fin _
    · rw [nI_leI (by omega) (by omega)] at c3
      refine vl_aload_n (pc := 6) h 0 rfl rfl dL_cell_6 ?_
      refine vl_iload_n (pc := 7) h 1 rfl rfl dL_cell_7 ?_
      refine vl_sld (pc := 8) (j := j) h hX0 hbl (fun z => z) rfl (by omega) hL dL_cell_8 ?_
      refine vl_goto (pc := 9) (tgt := 22) h (by decide) dL_cell_9 ?_
      exact fin _
  exact body s.heap [] _ trivial va_S.rf hl
theorem vl_cell {x : Cx} {A : Nat → Prop} {cc : ByteArray} {nL : Nat} {rm : Room} {u : Nat} {Q : State → Prop} {P : Heap → Prop} {pc : Nat} {lo : List (Nat × Value)} {st : List Value} {idx b L j : Nat} {xs : Nat → Int32} (h : CL x cc nL rm) (hS0 : va_X b L xs x.2.2.2.2.1 x.2.2.2.2.1.heap) (hbl : b < x.2.2.2.2.1.heap.size) (hbA : ¬ A b) (hL : L < 2 ^ 31) (hj : j < 1000) (wi : ∀ H H1 : Heap, P H → (∀ q : Nat, q < H.size → H1[q]? = H[q]?) → P H1) (lk : LKS RL idx yL_cell cL_cell 2 (some .int) 2) (hR : 0 + 1 ≤ rm.frames ∧ 8 + (2 + 11) + 0 ≤ rm.locals) (hu : u ≤ rm.cells) (hW : (st.map fun v => v.category).sum ≤ 8) (d : decode cc pc = .ok (.invokestatic idx, 3))
    (k : ∀ v, v < 2 ^ 31 → VP x A nL u Q P (pc + 3) lo (.int (nI v) :: st)) : VP x A nL u Q P pc lo (.int (nI j) :: .ref b :: st) := by
  intro H lc ls hP hS hl
  obtain ⟨hx, hb, hml, hown, hts, hrm, hlk, h6⟩ := id h
  have hM := c_cell x.2.1 b L hL xs j hj
  refine va_calli (va_runS (Ts := wsL_law) (As := [.ref b, .int (nI j)]) (rest := st) ⟨hx, hb, hml, hown, hts⟩ hM ⟨lk.1.cb hts (by rw [hrm]; exact hR), hts _ lk.2⟩ ⟨(fun a U g mk z => ⟨z.1, va_X.moved (u := U) (U := U.calling g mk a) (Vm.Alike.refl U.vm) z.2⟩), fun U hU hW => ⟨rfl, by show va_X b L xs U U.heap; rw [hU]; exact (hS0.moved hW.alike).kept (hS.2.1 b hbl hbA)⟩⟩ rfl rfl hl.1 rfl (lv_room hW) d (by rw [hrm]; exact ⟨hu, by have := h6; omega⟩)) hS (fun q _ z => z.elim) (fun q z => z.elim) (fun r9 u9 t H1 locs ht hvm hp hB hz1 hk1 hS1 => ?_)
  obtain ⟨v, hv, e⟩ := hp
  rw [e]
  exact k v hv H1 locs ls (wi H H1 hP (fun q hq => hk1 q hq (fun z => z))) hS1 hl
