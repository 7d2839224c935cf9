/-! THE LAW: its start -/
theorem inv0C : InvC 0 (fun _ => 0) emptyA 0 (fun _ => emptyA) (fun _ => false) (fun _ => emptyA) ((fun _ => z32), (fun _ => z64)) :=
  ⟨⟨⟨by omega, rfl⟩, fun i hi => absurd hi (Nat.not_lt_zero i)⟩, relC_empty _ _ _ _, his_0 (o := 0) _ rfl (by decide) rfl, fun j hj => ⟨rfl, fun q => by cases q⟩⟩
theorem inv0M : InvM 0 (fun _ => 0) emptyA 0 (fun _ => emptyA) (fun _ => false) (fun _ => emptyA) ((fun _ => z32), (fun _ => z64)) :=
  ⟨⟨⟨by omega, fun i hi => absurd hi (Nat.not_lt_zero i)⟩, rfl⟩, ⟨relM_empty (fun j hj => rfl), okA_empty⟩, ⟨by omega, rfl, fun k hk => absurd hk (Nat.not_lt_zero k)⟩, kpM_none rfl rfl⟩
set_option maxRecDepth 100000 in
set_option maxHeartbeats 4000000 in
/-- the law makes both, then its loop begins -/
theorem law_make {x : Cx} {G : Gl} {Q : State → Prop} {b : Nat} (w : Nat → va_E) (h : CXN x G cL_law 7 RL room_1 0) (hst : x.2.1.stackTraces = false) (kk : V x G 7 144 18188 Q ((fun _ => z32), (fun _ => z64)) 23 [(4, .int (nI 0)), (3, .ref (G.2.1 + 143)), (2, .ref (G.2.1 + 134)), (1, .ref (G.2.1 + 0)), (0, .ref b)] []) : VN x G 7 0 0 0 Q w 0 [(0, .ref b)] [] := by
  refine n_new (pc := 0) (ci := 5) (fs := [.null, .null, .null, .null, .null, .null]) h (by omega) tyX5 tyX5_ok rfl inlX5 mw_1_0 mw_1_1 mw_1_2 (fun j hj => by rcases (show j = 0 ∨ j = 1 ∨ j = 2 ∨ j = 3 ∨ j = 4 ∨ j = 5 by omega) with rfl | rfl | rfl | rfl | rfl | rfl <;> rfl) ⟨by decide, by decide⟩ dL_law_0 ?_
  refine n_dup (pc := 3) h rfl dL_law_3 ?_
  refine n_callI (pc := 4) (N1 := 134) (c := 0) (st := [.ref (G.2.1 + 0)]) h ⟨by omega, by omega⟩ ⟨mw_1_8, mw_1_2, mw_1_10, ⟨by decide +kernel, by decide +kernel⟩, by decide +kernel⟩ mw_1_9 rfl (k_RuleLists x.2.1 G _ (va_s _ _ _)) (by decide) (by first | decide | exact Nat.le_of_ble_eq_true rfl) ⟨by decide, by decide⟩ rfl (by omega) dL_law_4 (fun w1 m1 => ?_)
  refine n_astore_n (pc := 7) (lo2 := [(1, .ref (G.2.1 + 0)), (0, .ref b)]) h rfl (by decide) rfl dL_law_7 ?_
  refine n_new (pc := 8) (ci := 6) (fs := [.int 0, .null, .int 0, .null, .null, .null, .int 0, .null, .null, .null, .null, .int 0, .int 0]) h (by omega) tyX6 tyX6_ok rfl inlX6 mw_1_3 mw_1_4 mw_1_5 (fun j hj => by rcases (show j = 0 ∨ j = 1 ∨ j = 2 ∨ j = 3 ∨ j = 4 ∨ j = 5 ∨ j = 6 ∨ j = 7 ∨ j = 8 ∨ j = 9 ∨ j = 10 ∨ j = 11 ∨ j = 12 by omega) with rfl | rfl | rfl | rfl | rfl | rfl | rfl | rfl | rfl | rfl | rfl | rfl | rfl <;> rfl) ⟨by decide, by decide⟩ dL_law_8 ?_
  refine n_dup (pc := 11) h rfl dL_law_11 ?_
  refine n_callI (pc := 12) (N1 := 143) (c := 134) (st := [.ref (G.2.1 + 134)]) h ⟨by omega, by omega⟩ ⟨mw_3_16, mw_1_5, mw_3_18, ⟨by decide +kernel, by decide +kernel⟩, by decide +kernel⟩ mw_3_17 rfl (k_Model x.2.1 G _ (va_s _ _ _)) (by decide) (by first | decide | exact Nat.le_of_ble_eq_true rfl) ⟨by decide, by decide⟩ rfl (by omega) dL_law_12 (fun w2 m2 => ?_)
  refine n_astore_n (pc := 15) (lo2 := [(2, .ref (G.2.1 + 134)), (1, .ref (G.2.1 + 0)), (0, .ref b)]) h rfl (by decide) rfl dL_law_15 ?_
  refine n_iconst (pc := 16) (v := nI 1) h (by decide) dL_law_16 ?_
  refine n_newa (pc := 17) (t := 1) (n := 1) (ty := .long) (a0 := (1, .inr (.inl z64))) h (by omega) rfl rfl mw_1_6 (fun _ => rfl) (by decide) (Nat.le_of_ble_eq_true rfl) ⟨by decide, by decide⟩ dL_law_17 ?_
  refine n_astore_n (pc := 19) (lo2 := [(3, .ref (G.2.1 + 143)), (2, .ref (G.2.1 + 134)), (1, .ref (G.2.1 + 0)), (0, .ref b)]) h rfl (by decide) rfl dL_law_19 ?_
  refine n_iconst (pc := 20) (v := nI 0) h (by decide) dL_law_20 ?_
  intro H lc ls hP hS hl
  refine lv_istore (lv' := [(4, .int (nI 0)), (3, .ref (G.2.1 + 143)), (2, .ref (G.2.1 + 134)), (1, .ref (G.2.1 + 0)), (0, .ref b)]) h.1 h.2.1 dL_law_21 hl (by decide) rfl (fun ls2 hl2 => ?_)
  refine kk H lc ls2 ?_ hS hl2
  rw [wn_cong (w2 := fun j => cel G j z32 z64) (fun j hj => ?_)] at hP
  · exact hP
  · rcases (show j < 134 ∨ (134 ≤ j ∧ j < 143) ∨ j = 143 by omega) with hj | hj | hj
    · exact (va_n _ _ (by omega)).trans ((m2.1 j (by omega)).trans ((va_n _ _ (by omega)).trans (m1.2 j (by omega) hj)))
    · exact (va_n _ _ (by omega)).trans (m2.2 j hj.1 hj.2)
    · subst hj; exact (va_s _ _ _).trans rfl
set_option maxRecDepth 100000 in
set_option maxHeartbeats 4000000 in
/-- what holds at the law's entry: classes, links, what a throw needs -/
theorem law_env {p : Program} {s : State} {m : MethodId} {meth : Method} {c : Code} {b L : Nat} {xs : Nat → Int32} (C0 : lw_At p s m meth c b L xs) : ∃ G : Gl, G.2.1 = s.heap.size ∧ Env0 G s ∧ EnvN G s ∧ XE s := by
  obtain ⟨hx, hb, hr, hml, hown, hts, hX, hbl, hlocks, hgv⟩ := id C0
  have hw : ∀ w ∈ wsL_law, w.before #[Value.ref b] s = true := fun w h => hts w (wsL_law_in w h)
  obtain ⟨c0, i0, K0⟩ := u_known (C := RX0) (T := TX0) (N := 3) (n := 3) hw inlX0 (hw _ mw_1_23)
  obtain ⟨c1, i1, K1⟩ := u_known (C := RX1) (T := TX1) (N := 2) (n := 2) hw inlX1 (hw _ mw_2_17)
  obtain ⟨c2, i2, K2⟩ := u_known (C := RX2) (T := TX2) (N := 5) (n := 5) hw inlX2 (hw _ mw_2_21)
  obtain ⟨c3, i3, K3⟩ := u_known (C := RX3) (T := TX3) (N := 2) (n := 2) hw inlX3 (hw _ mw_1_19)
  obtain ⟨c4, i4, K4⟩ := u_known (C := RX4) (T := TX4) (N := 6) (n := 6) hw inlX4 (hw _ mw_1_15)
  obtain ⟨c5, i5, K5⟩ := u_known (C := RX5) (T := TX5) (N := 6) (n := 6) hw inlX5 (hw _ mw_1_1)
  obtain ⟨c6, i6, K6⟩ := u_known (C := RX6) (T := TX6) (N := 13) (n := 13) hw inlX6 (hw _ mw_1_4)
  obtain ⟨dC, dI, hKc⟩ : ∃ (dC : Nat → ClassId) (dI : Nat → Nat → Nat), ∀ (k : Nat) (q : vw_C), vwCl[k]? = some q → u_Kn s q.1 q.2.1 q.2.2 (dC k) (dI k) := by
    refine ⟨fun k => if k = 0 then c0 else if k = 1 then c1 else if k = 2 then c2 else if k = 3 then c3 else if k = 4 then c4 else if k = 5 then c5 else c6, fun k => if k = 0 then i0 else if k = 1 then i1 else if k = 2 then i2 else if k = 3 then i3 else if k = 4 then i4 else if k = 5 then i5 else i6, ?_⟩
    intro k q hq
    match k, hq with
    | 0, hq => cases hq; exact K0
    | 1, hq => cases hq; exact K1
    | 2, hq => cases hq; exact K2
    | 3, hq => cases hq; exact K3
    | 4, hq => cases hq; exact K4
    | 5, hq => cases hq; exact K5
    | 6, hq => cases hq; exact K6
    | k + 7, hq => simp [vwCl] at hq
  obtain ⟨a0, ka0, p0, f0, g0, e0⟩ := Cond.arrayClass_spec (hw _ mw_2_11)
  obtain ⟨a1, ka1, p1, f1, g1, e1⟩ := Cond.arrayClass_spec (hw _ mw_1_6)
  obtain ⟨a2, ka2, p2, f2, g2, e2⟩ := Cond.arrayClass_spec (hw _ mw_2_9)
  obtain ⟨a3, ka3, p3, f3, g3, e3⟩ := Cond.arrayClass_spec (hw _ mw_2_3)
  obtain ⟨p4, a4, ka4, f4, x4, g4, e4, n4⟩ := Cond.arrayOver_spec (hts (.arrayOver (.object "RuleLists$State")) (List.mem_of_getElem? (i := 166) (by decide +kernel)))
  have hK : va_K (dC, dI) vwCl [(a0, .int), (a1, .long), (a2, .char), (a3, .boolean), (a4, .object "RuleLists$State")] s := by
    refine ⟨hKc, fun k q hq => ?_⟩
    match k, hq with
    | 0, hq => cases hq; exact ⟨fun n z => ⟨fun k h => (by cases h), ka0, g0, p0, e0⟩, f0⟩
    | 1, hq => cases hq; exact ⟨fun n z => ⟨fun k h => (by cases h), ka1, g1, p1, e1⟩, f1⟩
    | 2, hq => cases hq; exact ⟨fun n z => ⟨fun k h => (by cases h), ka2, g2, p2, e2⟩, f2⟩
    | 3, hq => cases hq; exact ⟨fun n z => ⟨fun k h => (by cases h), ka3, g3, p3, e3⟩, f3⟩
    | 4, hq => cases hq; exact ⟨fun n z => ⟨fun k h => (by cases h), ka4, g4, p4, e4⟩, ka4, p4, g4, e4, f4, n4⟩
    | k + 5, hq => simp at hq
  have flat := flat_of_before _ hgv
  have hnew : ∀ a : Nat, a < s.heap.size → ¬ s.heap.size ≤ a := fun a h1 h2 => by omega
  refine ⟨((dC, dI), s.heap.size, fun t => if t = 0 then a0 else if t = 1 then a1 else if t = 2 then a2 else if t = 3 then a3 else a4), rfl, ⟨hK, ⟨va_Nw.of rfl (hts _ (List.mem_of_getElem? (i := 271) (by decide +kernel))), va_Nw.of rfl (hts _ (List.mem_of_getElem? (i := 428) (by decide +kernel)))⟩, ?_, ?_⟩, ⟨hK, va_Nw.of rfl (hts _ (List.mem_of_getElem? (i := 70) (by decide +kernel))), va_Nw.of rfl (hts _ (List.mem_of_getElem? (i := 100) (by decide +kernel))), va_Nw.of rfl (hts _ (List.mem_of_getElem? (i := 106) (by decide +kernel))), va_Nw.of rfl (hts _ (List.mem_of_getElem? (i := 122) (by decide +kernel))), va_Nw.of rfl (hts _ (List.mem_of_getElem? (i := 167) (by decide +kernel))), va_AO.of (hts (.arrayOver (.object "RuleLists$State")) (List.mem_of_getElem? (i := 166) (by decide +kernel)))⟩, ⟨fun w hw2 => ?_, ⟨va_Nw.of rfl (hts (.castable xI xI) (List.mem_of_getElem? (i := 311) (by decide +kernel))), va_Nw.of rfl (hts (.castable xS xS) (List.mem_of_getElem? (i := 379) (by decide +kernel))), va_Nw.of rfl (hts (.castable xO xO) (List.mem_of_getElem? (i := 539) (by decide +kernel))), fun y hy => va_Nw.of rfl (hts _ (dS_in y hy))⟩, fun q hq => stringRef_at (hts _ (strs_in q hq)), va_Nc.of (flat (.not (.castable xI xO)) (by decide +kernel)), va_Nc.of (flat (.not (.castable xS xO)) (by decide +kernel)), va_Nc.of (flat (.not (.castable xS xI)) (by decide +kernel))⟩⟩
  · exact vx_Zqof (hts (.laysStatic Bundle.tN "UNASSIGNED_STACK" Bundle.steD) (List.mem_of_getElem? (i := 336) (by decide +kernel))) (hts (.initialized Bundle.tN) (List.mem_of_getElem? (i := 51) (by decide +kernel))) (flat (.isRef (.static Bundle.tN "UNASSIGNED_STACK" Bundle.steD)) (by decide +kernel)) hnew
  · exact vx_Zqof (hts (.laysStatic Bundle.tN "SUPPRESSED_SENTINEL" Bundle.listD) (List.mem_of_getElem? (i := 338) (by decide +kernel))) (hts (.initialized Bundle.tN) (List.mem_of_getElem? (i := 51) (by decide +kernel))) (flat (.isRef (.static Bundle.tN "SUPPRESSED_SENTINEL" Bundle.listD)) (by decide +kernel)) hnew
  · refine word_at (State.WarmedH.refl s) (good_of_word (List.mem_filter.mp hw2).2) (hts w ?_)
    exact List.forall_mem_append.mpr ⟨xwI_in, List.forall_mem_append.mpr ⟨xwS_in, xwO_in⟩⟩ w (List.mem_filter.mp hw2).1
set_option maxRecDepth 100000 in
set_option maxHeartbeats 4000000 in
/-- THE LAW, from its entry -/
theorem whole_start {p : Program} {e : Env} {s : State} {m : MethodId} {below : List Frame} {meth : Method} {c : Code} (l : Launch) (hflags : l.flags = flags0) {b L : Nat} {xs : Nat → Int32} (hL : L ≤ 2048) (C0 : lw_At p s m meth c b L xs) : W p l e room_1 s m #[Value.ref b] below meth c s.heap [] 0 0 (lw_Z below #[Value.ref b] s) (entryFrame m ([Value.ref b] : List Value).toArray 7) := by
  obtain ⟨hx, hb, hr, hml, hown, hts, hX, hbl, hlocks, hgv⟩ := id C0
  obtain ⟨G, hG, hE0, hEN, hXE⟩ := law_env C0
  have hst : l.stackTraces = false := by unfold Launch.stackTraces; rw [hflags]; decide
  have hw : ∀ w ∈ wsL_law, w.before #[Value.ref b] s = true := fun w h => hts w (wsL_law_in w h)
  have hCX : CX (p, l, e, room_1, s, m, #[Value.ref b], below, meth, c) G cL_law 7 RL room_1 := ⟨hx, hb, hml, hown, hw, rfl, hE0, hlocks⟩
  have hCN : CXN (p, l, e, room_1, s, m, #[Value.ref b], below, meth, c) G cL_law 7 RL room_1 0 := ⟨hx, hb, hml, hown, hw, rfl, hEN, hlocks, by show s.heap.size = G.2.1 + 0; omega⟩
  have hLA : LA (p, l, e, room_1, s, m, #[Value.ref b], below, meth, c) G b L xs := ⟨hCX, hXE, hst, hX, hbl, (by show ¬ G.2.1 ≤ b; omega), hL⟩
  have hend : ∀ (σ : Sg) (lo : List (Nat × Value)) (cells slots : Nat), cells ≤ 601024 → slots ≤ 7293034 → V (p, l, e, room_1, s, m, #[Value.ref b], below, meth, c) G 7 cells slots (lw_Z below #[Value.ref b] s) σ 2557 lo [.int (nI 1)] := fun σ lo cells slots h1 h2 H lc ls hP hS hl => va_forget (fun q hq => by have h9 : G.2.1 ≤ q.base := hS.2.2 q hq; show s.heap.size ≤ q.base; omega) (W.widen h1 h2 (lw_ret hx hb hr hlocks dL_law_2557))
  have hloop := law_loop hLA hend (L + 1) 0 (Nat.zero_le _) (by omega) _ 0 _ _ 0 _ _ _ inv0C inv0M
  have hmk := law_make (b := b) (fun _ => .inr (0, [])) hCN hst (r_sub [4, 3, 2, 1, 0] rfl (V.wd (by decide) (by decide) hloop))
  have hl := lv_entry ([.ref b]) (n := 7) (Nat.le_of_ble_eq_true rfl)
  rw [lg_entry_eq]
  exact hmk s.heap [] _ (fun k q hq => by simp [wsN] at hq) va_S.rf hl
