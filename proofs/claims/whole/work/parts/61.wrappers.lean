/-! THE LAW: its wrappers -/
set_option maxRecDepth 100000 in
set_option maxHeartbeats 800000 in
theorem l_append (l : Launch) (hst : l.stackTraces = false) (G : Gl) (σ : Sg) (n : Nat) (tx : Nat → Nat) (A : Ab) (m : Nat) (H : Nat → Ab) (sv : Nat → Bool) (sl : Nat → Ab) (hi : InvC n tx A m H sv sl σ) (u1 : Int32) : Li l yL_append cL_append 4 [(0, 9, 12, 13), (0, 9, 15, 15)] ({ frames := 8, cells := 2, slots := 12, locals := 133 } : Room) G [.ref (G.2.1 + 0), .int u1, .ref (G.2.1 + 143)] σ (fun r σ2 => Lw [2, 3] (seqC (cB (inB (nI 0) (nI 255) u1) 2) (cB (decide (n < 120)) 3)) σ σ2 (InvC n tx A m H sv sl) (InvC (n + 1) (va_up tx n (toN u1)) A m H sv sl) r ((nI (n + 1)).toInt64)) := by
  refine Li_of rfl (by decide +kernel) (lo := [(0, .ref (G.2.1 + 0)), (1, .int u1), (2, .ref (G.2.1 + 143))]) rfl (Nat.le_of_ble_eq_true rfl) ?_
  intro x Q hxl h hX htab hret
  subst hxl
  refine r_aload_n (pc := 0) h 2 rfl rfl dL_append_0 ?_
  refine r_iconst (pc := 1) (v := nI 0) h (by decide) dL_append_1 ?_
  refine r_aload_n (pc := 2) h 0 rfl rfl dL_append_2 ?_
  refine r_iload_n (pc := 3) h 1 rfl rfl dL_append_3 ?_
  have hkx : ∀ (E : String) (s9 : Sg), (s9 = σ ∧ seqC (cB (inB (nI 0) (nI 255) u1) 2) (cB (decide (n < 120)) 3) ≠ 0 ∧ E = exN (seqC (cB (inB (nI 0) (nI 255) u1) 2) (cB (decide (n < 120)) 3))) → VT x G 4 2 12 Q s9 4 [(0, .ref (G.2.1 + 0)), (1, .int u1), (2, .ref (G.2.1 + 143))] [.int (nI 0), .ref (G.2.1 + 143)] E := by
    intro E s9 hp
    obtain ⟨e9, hC, hE⟩ := hp
    subst e9
    rcases (show seqC (cB (inB (nI 0) (nI 255) u1) 2) (cB (decide (n < 120)) 3) = 0 ∨ seqC (cB (inB (nI 0) (nI 255) u1) 2) (cB (decide (n < 120)) 3) = 2 ∨ seqC (cB (inB (nI 0) (nI 255) u1) 2) (cB (decide (n < 120)) 3) = 3 from r_seq _ _ _ _) with e0 | e0 | e0
    · exact absurd e0 hC
    · rw [e0] at hE
      obtain rfl : E = xI := hE
      refine VT_catch h [] ({ startPc := 0, endPc := 9, handlerPc := 12, catchType := 13 } : ExceptionTableEntry) [({ startPc := 0, endPc := 9, handlerPc := 15, catchType := 15 } : ExceptionTableEntry)] (htab.trans rfl) (fun y hy => absurd hy List.not_mem_nil) rfl (by decide) mw_4_11 hX.2.1.1 (fun q => ?_)
      refine r_astore_n (pc := 12) (lo2 := [(3, .ref q), (0, .ref (G.2.1 + 0)), (1, .int u1), (2, .ref (G.2.1 + 143))]) h rfl (by decide) rfl dL_append_12 ?_
      refine r_iconst (pc := 13) (v := nI 1) h (by decide) dL_append_13 ?_
      exact V.wd (by decide) (by decide) (hret _ _ (wl_no e0 (by decide) rfl (fun _ _ _ => rfl) hi) 14 _ dL_append_14)
    · rw [e0] at hE
      obtain rfl : E = xS := hE
      refine VT_catch h [({ startPc := 0, endPc := 9, handlerPc := 12, catchType := 13 } : ExceptionTableEntry)] ({ startPc := 0, endPc := 9, handlerPc := 15, catchType := 15 } : ExceptionTableEntry) [] (htab.trans rfl) (List.forall_mem_cons.mpr ⟨Or.inr ⟨by decide, xI, mw_4_11, hX.2.2.2.2.2⟩, (fun y hy => absurd hy List.not_mem_nil)⟩) rfl (by decide) mw_4_12 hX.2.1.2.1 (fun q => ?_)
      refine r_astore_n (pc := 15) (lo2 := [(3, .ref q), (0, .ref (G.2.1 + 0)), (1, .int u1), (2, .ref (G.2.1 + 143))]) h rfl (by decide) rfl dL_append_15 ?_
      refine r_iconst (pc := 16) (v := nI 2) h (by decide) dL_append_16 ?_
      exact V.wd (by decide) (by decide) (hret _ _ (wl_no e0 (by decide) rfl (fun _ _ _ => rfl) hi) 17 _ dL_append_17)
  refine r_xVi (pc := 4) (As := [.int u1]) (st := [.int (nI 0), .ref (G.2.1 + 143)]) h hX lk_RL_7 (c_x_append x.2.1 hst G σ n tx A m H sv sl hi u1) rc_5 (by decide) rfl rfl (by first | decide | exact Nat.le_of_ble_eq_true rfl) (by decide) dL_append_4 hkx (fun r1 s2 q3 => ?_)
  obtain ⟨k0, k1, k2, k3⟩ := q3
  subst k1
  refine r_i2l (pc := 7) (v := (nI (n + 1)).toInt64) h rfl dL_append_7 ?_
  refine r_last (pc := 8) h a_out 0 rfl (by omega) dL_append_8 ?_
  refine r_goto (pc := 9) (tgt := 18) h (by decide) dL_append_9 ?_
  refine r_iconst (pc := 18) (v := nI 0) h (by decide) dL_append_18 ?_
  exact V.wd (by decide) (by decide) (hret _ _ (wl_ok (σ2 := sL s2 143 0 ((nI (n + 1)).toInt64)) k0 rfl (show ∀ q, 134 ≤ q → q < 143 → s2.1 q = σ.1 q from keepO k3 (by decide)) (sL_s _ _ _ _) (k2.o (out_sL _ 143 0 _) (by omega))) 19 _ dL_append_19)

set_option maxRecDepth 100000 in
set_option maxHeartbeats 800000 in
theorem l_load (l : Launch) (hst : l.stackTraces = false) (G : Gl) (σ : Sg) (n : Nat) (tx : Nat → Nat) (A : Ab) (m : Nat) (H : Nat → Ab) (sv : Nat → Bool) (sl : Nat → Ab) (hi : InvC n tx A m H sv sl σ) : Li l yL_load cL_load 3 [(0, 8, 11, 15)] ({ frames := 8, cells := 1, slots := 6, locals := 186 } : Room) G [.ref (G.2.1 + 0), .ref (G.2.1 + 143)] σ (fun r σ2 => Lw [3] (cB (decide ((runA tx n).1 = none)) 3) σ σ2 (InvC n tx A m H sv sl) (InvC n tx ((runA tx n).2.1) 0 H (fun _ => false) sl) r ((nI (runA tx n).2.2).toInt64)) := by
  refine Li_of rfl (by decide +kernel) (lo := [(0, .ref (G.2.1 + 0)), (1, .ref (G.2.1 + 143))]) rfl (Nat.le_of_ble_eq_true rfl) ?_
  intro x Q hxl h hX htab hret
  subst hxl
  refine r_aload_n (pc := 0) h 1 rfl rfl dL_load_0 ?_
  refine r_iconst (pc := 1) (v := nI 0) h (by decide) dL_load_1 ?_
  refine r_aload_n (pc := 2) h 0 rfl rfl dL_load_2 ?_
  have hkx : ∀ (E : String) (s9 : Sg), ((Out 1 4 σ s9 ∧ TextC n tx s9) ∧ cB (decide ((runA tx n).1 = none)) 3 ≠ 0 ∧ E = exN (cB (decide ((runA tx n).1 = none)) 3)) → VT x G 3 1 6 Q s9 3 [(0, .ref (G.2.1 + 0)), (1, .ref (G.2.1 + 143))] [.int (nI 0), .ref (G.2.1 + 143)] E := by
    intro E s9 hp
    obtain ⟨e9, hC, hE⟩ := hp
    have i9 : InvC n tx A m H sv sl s9 := ⟨e9.2, hi.2.1.o e9.1 (by omega), hi.2.2.1.o e9.1 (by omega), hi.2.2.2.o e9.1 (by omega)⟩
    have k9 := keepO e9.1 (by decide)
    rcases (show cB (decide ((runA tx n).1 = none)) 3 = 0 ∨ cB (decide ((runA tx n).1 = none)) 3 = 3 from r_cB _ _) with e0 | e0
    · exact absurd e0 hC
    · rw [e0] at hE
      obtain rfl : E = xS := hE
      refine VT_catch h [] ({ startPc := 0, endPc := 8, handlerPc := 11, catchType := 15 } : ExceptionTableEntry) [] (htab.trans rfl) (fun y hy => absurd hy List.not_mem_nil) rfl (by decide) mw_4_12 hX.2.1.2.1 (fun q => ?_)
      refine r_astore_n (pc := 11) (lo2 := [(2, .ref q), (0, .ref (G.2.1 + 0)), (1, .ref (G.2.1 + 143))]) h rfl (by decide) rfl dL_load_11 ?_
      refine r_iconst (pc := 12) (v := nI 1) h (by decide) dL_load_12 ?_
      exact V.wd (by decide) (by decide) (hret _ _ (wl_no e0 (by decide) rfl k9 i9) 13 _ dL_load_13)
  refine r_xVi (pc := 3) (As := []) (st := [.int (nI 0), .ref (G.2.1 + 143)]) h hX lk_RL_17 (c_x_load x.2.1 hst G σ n tx A m H sv sl hi) rc_5 (by decide) rfl rfl (by first | decide | exact Nat.le_of_ble_eq_true rfl) (by decide) dL_load_3 hkx (fun r1 s2 q3 => ?_)
  obtain ⟨k0, k1, k2, k3⟩ := q3
  subst k1
  refine r_i2l (pc := 6) (v := (nI (runA tx n).2.2).toInt64) h rfl dL_load_6 ?_
  refine r_last (pc := 7) h a_out 0 rfl (by omega) dL_load_7 ?_
  refine r_goto (pc := 8) (tgt := 14) h (by decide) dL_load_8 ?_
  refine r_iconst (pc := 14) (v := nI 0) h (by decide) dL_load_14 ?_
  exact V.wd (by decide) (by decide) (hret _ _ (wl_ok (σ2 := sL s2 143 0 ((nI (runA tx n).2.2).toInt64)) k0 rfl (show ∀ q, 134 ≤ q → q < 143 → s2.1 q = σ.1 q from keepO k3 (by decide)) (sL_s _ _ _ _) (k2.o (out_sL _ 143 0 _) (by omega))) 15 _ dL_load_15)

set_option maxRecDepth 100000 in
set_option maxHeartbeats 800000 in
theorem l_makeSteps (l : Launch) (hst : l.stackTraces = false) (G : Gl) (σ : Sg) (n : Nat) (tx : Nat → Nat) (A : Ab) (m : Nat) (H : Nat → Ab) (sv : Nat → Bool) (sl : Nat → Ab) (hi : InvC n tx A m H sv sl σ) (u1 : Int32) (u2 : Int32) : Li l yL_makeSteps cL_makeSteps 5 [(0, 10, 13, 13), (0, 10, 17, 15)] ({ frames := 9, cells := 1, slots := 6, locals := 169 } : Room) G [.ref (G.2.1 + 0), .int u1, .int u2, .ref (G.2.1 + 143)] σ (fun r σ2 => Lw [2, 3] (ob A 115 u1 u2 (nI 0)) σ σ2 (InvC n tx A m H sv sl) (InvC n tx ((co A 115 u1 u2 (nI 0)).2) (pushN m) (pushH m H A) sv sl) r (((co A 115 u1 u2 (nI 0)).1).toInt64)) := by
  refine Li_of rfl (by decide +kernel) (lo := [(0, .ref (G.2.1 + 0)), (1, .int u1), (2, .int u2), (3, .ref (G.2.1 + 143))]) rfl (Nat.le_of_ble_eq_true rfl) ?_
  intro x Q hxl h hX htab hret
  subst hxl
  refine r_aload_n (pc := 0) h 3 rfl rfl dL_makeSteps_0 ?_
  refine r_iconst (pc := 1) (v := nI 0) h (by decide) dL_makeSteps_1 ?_
  refine r_aload_n (pc := 2) h 0 rfl rfl dL_makeSteps_2 ?_
  refine r_iload_n (pc := 3) h 1 rfl rfl dL_makeSteps_3 ?_
  refine r_iload_n (pc := 4) h 2 rfl rfl dL_makeSteps_4 ?_
  have hkx : ∀ (E : String) (s9 : Sg), (s9 = σ ∧ ob A 115 u1 u2 (nI 0) ≠ 0 ∧ E = exN (ob A 115 u1 u2 (nI 0))) → VT x G 5 1 6 Q s9 5 [(0, .ref (G.2.1 + 0)), (1, .int u1), (2, .int u2), (3, .ref (G.2.1 + 143))] [.int (nI 0), .ref (G.2.1 + 143)] E := by
    intro E s9 hp
    obtain ⟨e9, hC, hE⟩ := hp
    subst e9
    rcases (show ob A 115 u1 u2 (nI 0) = 0 ∨ ob A 115 u1 u2 (nI 0) = 2 ∨ ob A 115 u1 u2 (nI 0) = 3 from r_f23 _ _) with e0 | e0 | e0
    · exact absurd e0 hC
    · rw [e0] at hE
      obtain rfl : E = xI := hE
      refine VT_catch h [] ({ startPc := 0, endPc := 10, handlerPc := 13, catchType := 13 } : ExceptionTableEntry) [({ startPc := 0, endPc := 10, handlerPc := 17, catchType := 15 } : ExceptionTableEntry)] (htab.trans rfl) (fun y hy => absurd hy List.not_mem_nil) rfl (by decide) mw_4_11 hX.2.1.1 (fun q => ?_)
      refine r_astore (pc := 13) (lo2 := [(4, .ref q), (0, .ref (G.2.1 + 0)), (1, .int u1), (2, .int u2), (3, .ref (G.2.1 + 143))]) h (by decide) rfl dL_makeSteps_13 ?_
      refine r_iconst (pc := 15) (v := nI 1) h (by decide) dL_makeSteps_15 ?_
      exact V.wd (by decide) (by decide) (hret _ _ (wl_no e0 (by decide) rfl (fun _ _ _ => rfl) hi) 16 _ dL_makeSteps_16)
    · rw [e0] at hE
      obtain rfl : E = xS := hE
      refine VT_catch h [({ startPc := 0, endPc := 10, handlerPc := 13, catchType := 13 } : ExceptionTableEntry)] ({ startPc := 0, endPc := 10, handlerPc := 17, catchType := 15 } : ExceptionTableEntry) [] (htab.trans rfl) (List.forall_mem_cons.mpr ⟨Or.inr ⟨by decide, xI, mw_4_11, hX.2.2.2.2.2⟩, (fun y hy => absurd hy List.not_mem_nil)⟩) rfl (by decide) mw_4_12 hX.2.1.2.1 (fun q => ?_)
      refine r_astore (pc := 17) (lo2 := [(4, .ref q), (0, .ref (G.2.1 + 0)), (1, .int u1), (2, .int u2), (3, .ref (G.2.1 + 143))]) h (by decide) rfl dL_makeSteps_17 ?_
      refine r_iconst (pc := 19) (v := nI 2) h (by decide) dL_makeSteps_19 ?_
      exact V.wd (by decide) (by decide) (hret _ _ (wl_no e0 (by decide) rfl (fun _ _ _ => rfl) hi) 20 _ dL_makeSteps_20)
  refine r_xVi (pc := 5) (As := [.int u1, .int u2]) (st := [.int (nI 0), .ref (G.2.1 + 143)]) h hX lk_RL_21 (c_x_makeSteps x.2.1 hst G σ n tx A m H sv sl hi u1 u2) rc_5 (by decide) rfl rfl (by first | decide | exact Nat.le_of_ble_eq_true rfl) (by decide) dL_makeSteps_5 hkx (fun r1 s2 q3 => ?_)
  obtain ⟨k0, k1, k2, k3⟩ := q3
  subst k1
  refine r_i2l (pc := 8) (v := ((co A 115 u1 u2 (nI 0)).1).toInt64) h rfl dL_makeSteps_8 ?_
  refine r_last (pc := 9) h a_out 0 rfl (by omega) dL_makeSteps_9 ?_
  refine r_goto (pc := 10) (tgt := 21) h (by decide) dL_makeSteps_10 ?_
  refine r_iconst (pc := 21) (v := nI 0) h (by decide) dL_makeSteps_21 ?_
  exact V.wd (by decide) (by decide) (hret _ _ (wl_ok (σ2 := sL s2 143 0 (((co A 115 u1 u2 (nI 0)).1).toInt64)) k0 rfl (show ∀ q, 134 ≤ q → q < 143 → s2.1 q = σ.1 q from keepO k3 (by decide)) (sL_s _ _ _ _) (k2.o (out_sL _ 143 0 _) (by omega))) 22 _ dL_makeSteps_22)

set_option maxRecDepth 100000 in
set_option maxHeartbeats 800000 in
theorem l_makeScaled (l : Launch) (hst : l.stackTraces = false) (G : Gl) (σ : Sg) (n : Nat) (tx : Nat → Nat) (A : Ab) (m : Nat) (H : Nat → Ab) (sv : Nat → Bool) (sl : Nat → Ab) (hi : InvC n tx A m H sv sl σ) (u1 : Int32) (u2 : Int32) (u3 : Int32) : Li l yL_makeScaled cL_makeScaled 6 [(0, 12, 15, 29), (0, 12, 19, 13), (0, 12, 23, 15)] ({ frames := 9, cells := 1, slots := 6, locals := 170 } : Room) G [.ref (G.2.1 + 0), .int u1, .int u2, .int u3, .ref (G.2.1 + 143)] σ (fun r σ2 => Lw [1, 2, 3] (ob A 120 u1 u2 u3) σ σ2 (InvC n tx A m H sv sl) (InvC n tx ((co A 120 u1 u2 u3).2) (pushN m) (pushH m H A) sv sl) r (((co A 120 u1 u2 u3).1).toInt64)) := by
  refine Li_of rfl (by decide +kernel) (lo := [(0, .ref (G.2.1 + 0)), (1, .int u1), (2, .int u2), (3, .int u3), (4, .ref (G.2.1 + 143))]) rfl (Nat.le_of_ble_eq_true rfl) ?_
  intro x Q hxl h hX htab hret
  subst hxl
  refine r_aload (pc := 0) h 4 rfl dL_makeScaled_0 ?_
  refine r_iconst (pc := 2) (v := nI 0) h (by decide) dL_makeScaled_2 ?_
  refine r_aload_n (pc := 3) h 0 rfl rfl dL_makeScaled_3 ?_
  refine r_iload_n (pc := 4) h 1 rfl rfl dL_makeScaled_4 ?_
  refine r_iload_n (pc := 5) h 2 rfl rfl dL_makeScaled_5 ?_
  refine r_iload_n (pc := 6) h 3 rfl rfl dL_makeScaled_6 ?_
  have hkx : ∀ (E : String) (s9 : Sg), (s9 = σ ∧ ob A 120 u1 u2 u3 ≠ 0 ∧ E = exN (ob A 120 u1 u2 u3)) → VT x G 6 1 6 Q s9 7 [(0, .ref (G.2.1 + 0)), (1, .int u1), (2, .int u2), (3, .int u3), (4, .ref (G.2.1 + 143))] [.int (nI 0), .ref (G.2.1 + 143)] E := by
    intro E s9 hp
    obtain ⟨e9, hC, hE⟩ := hp
    subst e9
    rcases (show ob A 120 u1 u2 u3 = 0 ∨ ob A 120 u1 u2 u3 = 1 ∨ ob A 120 u1 u2 u3 = 2 ∨ ob A 120 u1 u2 u3 = 3 from r_f123 _ _ _) with e0 | e0 | e0 | e0
    · exact absurd e0 hC
    · rw [e0] at hE
      obtain rfl : E = xO := hE
      refine VT_catch h [] ({ startPc := 0, endPc := 12, handlerPc := 15, catchType := 29 } : ExceptionTableEntry) [({ startPc := 0, endPc := 12, handlerPc := 19, catchType := 13 } : ExceptionTableEntry), ({ startPc := 0, endPc := 12, handlerPc := 23, catchType := 15 } : ExceptionTableEntry)] (htab.trans rfl) (fun y hy => absurd hy List.not_mem_nil) rfl (by decide) mw_22_19 hX.2.1.2.2.1 (fun q => ?_)
      refine r_astore (pc := 15) (lo2 := [(5, .ref q), (0, .ref (G.2.1 + 0)), (1, .int u1), (2, .int u2), (3, .int u3), (4, .ref (G.2.1 + 143))]) h (by decide) rfl dL_makeScaled_15 ?_
      refine r_iconst (pc := 17) (v := nI 1) h (by decide) dL_makeScaled_17 ?_
      exact V.wd (by decide) (by decide) (hret _ _ (wl_no e0 (by decide) rfl (fun _ _ _ => rfl) hi) 18 _ dL_makeScaled_18)
    · rw [e0] at hE
      obtain rfl : E = xI := hE
      refine VT_catch h [({ startPc := 0, endPc := 12, handlerPc := 15, catchType := 29 } : ExceptionTableEntry)] ({ startPc := 0, endPc := 12, handlerPc := 19, catchType := 13 } : ExceptionTableEntry) [({ startPc := 0, endPc := 12, handlerPc := 23, catchType := 15 } : ExceptionTableEntry)] (htab.trans rfl) (List.forall_mem_cons.mpr ⟨Or.inr ⟨by decide, xO, mw_22_19, hX.2.2.2.1⟩, (fun y hy => absurd hy List.not_mem_nil)⟩) rfl (by decide) mw_4_11 hX.2.1.1 (fun q => ?_)
      refine r_astore (pc := 19) (lo2 := [(5, .ref q), (0, .ref (G.2.1 + 0)), (1, .int u1), (2, .int u2), (3, .int u3), (4, .ref (G.2.1 + 143))]) h (by decide) rfl dL_makeScaled_19 ?_
      refine r_iconst (pc := 21) (v := nI 2) h (by decide) dL_makeScaled_21 ?_
      exact V.wd (by decide) (by decide) (hret _ _ (wl_no e0 (by decide) rfl (fun _ _ _ => rfl) hi) 22 _ dL_makeScaled_22)
    · rw [e0] at hE
      obtain rfl : E = xS := hE
      refine VT_catch h [({ startPc := 0, endPc := 12, handlerPc := 15, catchType := 29 } : ExceptionTableEntry), ({ startPc := 0, endPc := 12, handlerPc := 19, catchType := 13 } : ExceptionTableEntry)] ({ startPc := 0, endPc := 12, handlerPc := 23, catchType := 15 } : ExceptionTableEntry) [] (htab.trans rfl) (List.forall_mem_cons.mpr ⟨Or.inr ⟨by decide, xO, mw_22_19, hX.2.2.2.2.1⟩, (List.forall_mem_cons.mpr ⟨Or.inr ⟨by decide, xI, mw_4_11, hX.2.2.2.2.2⟩, (fun y hy => absurd hy List.not_mem_nil)⟩)⟩) rfl (by decide) mw_4_12 hX.2.1.2.1 (fun q => ?_)
      refine r_astore (pc := 23) (lo2 := [(5, .ref q), (0, .ref (G.2.1 + 0)), (1, .int u1), (2, .int u2), (3, .int u3), (4, .ref (G.2.1 + 143))]) h (by decide) rfl dL_makeScaled_23 ?_
      refine r_iconst (pc := 25) (v := nI 3) h (by decide) dL_makeScaled_25 ?_
      exact V.wd (by decide) (by decide) (hret _ _ (wl_no e0 (by decide) rfl (fun _ _ _ => rfl) hi) 26 _ dL_makeScaled_26)
  refine r_xVi (pc := 7) (As := [.int u1, .int u2, .int u3]) (st := [.int (nI 0), .ref (G.2.1 + 143)]) h hX lk_RL_25 (c_x_makeScaled x.2.1 hst G σ n tx A m H sv sl hi u1 u2 u3) rc_5 (by decide) rfl rfl (by first | decide | exact Nat.le_of_ble_eq_true rfl) (by decide) dL_makeScaled_7 hkx (fun r1 s2 q3 => ?_)
  obtain ⟨k0, k1, k2, k3⟩ := q3
  subst k1
  refine r_i2l (pc := 10) (v := ((co A 120 u1 u2 u3).1).toInt64) h rfl dL_makeScaled_10 ?_
  refine r_last (pc := 11) h a_out 0 rfl (by omega) dL_makeScaled_11 ?_
  refine r_goto (pc := 12) (tgt := 27) h (by decide) dL_makeScaled_12 ?_
  refine r_iconst (pc := 27) (v := nI 0) h (by decide) dL_makeScaled_27 ?_
  exact V.wd (by decide) (by decide) (hret _ _ (wl_ok (σ2 := sL s2 143 0 (((co A 120 u1 u2 u3).1).toInt64)) k0 rfl (show ∀ q, 134 ≤ q → q < 143 → s2.1 q = σ.1 q from keepO k3 (by decide)) (sL_s _ _ _ _) (k2.o (out_sL _ 143 0 _) (by omega))) 28 _ dL_makeScaled_28)

set_option maxRecDepth 100000 in
set_option maxHeartbeats 800000 in
theorem l_makeJoined (l : Launch) (hst : l.stackTraces = false) (G : Gl) (σ : Sg) (n : Nat) (tx : Nat → Nat) (A : Ab) (m : Nat) (H : Nat → Ab) (sv : Nat → Bool) (sl : Nat → Ab) (hi : InvC n tx A m H sv sl σ) (u1 : Int32) (u2 : Int32) : Li l yL_makeJoined cL_makeJoined 5 [(0, 10, 13, 29), (0, 10, 17, 15)] ({ frames := 9, cells := 1, slots := 6, locals := 169 } : Room) G [.ref (G.2.1 + 0), .int u1, .int u2, .ref (G.2.1 + 143)] σ (fun r σ2 => Lw [1, 3] (ob A 106 u1 u2 (nI 0)) σ σ2 (InvC n tx A m H sv sl) (InvC n tx ((co A 106 u1 u2 (nI 0)).2) (pushN m) (pushH m H A) sv sl) r (((co A 106 u1 u2 (nI 0)).1).toInt64)) := by
  refine Li_of rfl (by decide +kernel) (lo := [(0, .ref (G.2.1 + 0)), (1, .int u1), (2, .int u2), (3, .ref (G.2.1 + 143))]) rfl (Nat.le_of_ble_eq_true rfl) ?_
  intro x Q hxl h hX htab hret
  subst hxl
  refine r_aload_n (pc := 0) h 3 rfl rfl dL_makeJoined_0 ?_
  refine r_iconst (pc := 1) (v := nI 0) h (by decide) dL_makeJoined_1 ?_
  refine r_aload_n (pc := 2) h 0 rfl rfl dL_makeJoined_2 ?_
  refine r_iload_n (pc := 3) h 1 rfl rfl dL_makeJoined_3 ?_
  refine r_iload_n (pc := 4) h 2 rfl rfl dL_makeJoined_4 ?_
  have hkx : ∀ (E : String) (s9 : Sg), (s9 = σ ∧ ob A 106 u1 u2 (nI 0) ≠ 0 ∧ E = exN (ob A 106 u1 u2 (nI 0))) → VT x G 5 1 6 Q s9 5 [(0, .ref (G.2.1 + 0)), (1, .int u1), (2, .int u2), (3, .ref (G.2.1 + 143))] [.int (nI 0), .ref (G.2.1 + 143)] E := by
    intro E s9 hp
    obtain ⟨e9, hC, hE⟩ := hp
    subst e9
    rcases (show ob A 106 u1 u2 (nI 0) = 0 ∨ ob A 106 u1 u2 (nI 0) = 1 ∨ ob A 106 u1 u2 (nI 0) = 3 from r_f13 _ _) with e0 | e0 | e0
    · exact absurd e0 hC
    · rw [e0] at hE
      obtain rfl : E = xO := hE
      refine VT_catch h [] ({ startPc := 0, endPc := 10, handlerPc := 13, catchType := 29 } : ExceptionTableEntry) [({ startPc := 0, endPc := 10, handlerPc := 17, catchType := 15 } : ExceptionTableEntry)] (htab.trans rfl) (fun y hy => absurd hy List.not_mem_nil) rfl (by decide) mw_22_19 hX.2.1.2.2.1 (fun q => ?_)
      refine r_astore (pc := 13) (lo2 := [(4, .ref q), (0, .ref (G.2.1 + 0)), (1, .int u1), (2, .int u2), (3, .ref (G.2.1 + 143))]) h (by decide) rfl dL_makeJoined_13 ?_
      refine r_iconst (pc := 15) (v := nI 1) h (by decide) dL_makeJoined_15 ?_
      exact V.wd (by decide) (by decide) (hret _ _ (wl_no e0 (by decide) rfl (fun _ _ _ => rfl) hi) 16 _ dL_makeJoined_16)
    · rw [e0] at hE
      obtain rfl : E = xS := hE
      refine VT_catch h [({ startPc := 0, endPc := 10, handlerPc := 13, catchType := 29 } : ExceptionTableEntry)] ({ startPc := 0, endPc := 10, handlerPc := 17, catchType := 15 } : ExceptionTableEntry) [] (htab.trans rfl) (List.forall_mem_cons.mpr ⟨Or.inr ⟨by decide, xO, mw_22_19, hX.2.2.2.2.1⟩, (fun y hy => absurd hy List.not_mem_nil)⟩) rfl (by decide) mw_4_12 hX.2.1.2.1 (fun q => ?_)
      refine r_astore (pc := 17) (lo2 := [(4, .ref q), (0, .ref (G.2.1 + 0)), (1, .int u1), (2, .int u2), (3, .ref (G.2.1 + 143))]) h (by decide) rfl dL_makeJoined_17 ?_
      refine r_iconst (pc := 19) (v := nI 2) h (by decide) dL_makeJoined_19 ?_
      exact V.wd (by decide) (by decide) (hret _ _ (wl_no e0 (by decide) rfl (fun _ _ _ => rfl) hi) 20 _ dL_makeJoined_20)
  refine r_xVi (pc := 5) (As := [.int u1, .int u2]) (st := [.int (nI 0), .ref (G.2.1 + 143)]) h hX lk_RL_31 (c_x_makeJoined x.2.1 hst G σ n tx A m H sv sl hi u1 u2) rc_5 (by decide) rfl rfl (by first | decide | exact Nat.le_of_ble_eq_true rfl) (by decide) dL_makeJoined_5 hkx (fun r1 s2 q3 => ?_)
  obtain ⟨k0, k1, k2, k3⟩ := q3
  subst k1
  refine r_i2l (pc := 8) (v := ((co A 106 u1 u2 (nI 0)).1).toInt64) h rfl dL_makeJoined_8 ?_
  refine r_last (pc := 9) h a_out 0 rfl (by omega) dL_makeJoined_9 ?_
  refine r_goto (pc := 10) (tgt := 21) h (by decide) dL_makeJoined_10 ?_
  refine r_iconst (pc := 21) (v := nI 0) h (by decide) dL_makeJoined_21 ?_
  exact V.wd (by decide) (by decide) (hret _ _ (wl_ok (σ2 := sL s2 143 0 (((co A 106 u1 u2 (nI 0)).1).toInt64)) k0 rfl (show ∀ q, 134 ≤ q → q < 143 → s2.1 q = σ.1 q from keepO k3 (by decide)) (sL_s _ _ _ _) (k2.o (out_sL _ 143 0 _) (by omega))) 22 _ dL_makeJoined_22)

set_option maxRecDepth 100000 in
set_option maxHeartbeats 800000 in
theorem l_makeShared (l : Launch) (hst : l.stackTraces = false) (G : Gl) (σ : Sg) (n : Nat) (tx : Nat → Nat) (A : Ab) (m : Nat) (H : Nat → Ab) (sv : Nat → Bool) (sl : Nat → Ab) (hi : InvC n tx A m H sv sl σ) (u1 : Int32) (u2 : Int32) : Li l yL_makeShared cL_makeShared 5 [(0, 10, 13, 29), (0, 10, 17, 15)] ({ frames := 9, cells := 1, slots := 6, locals := 169 } : Room) G [.ref (G.2.1 + 0), .int u1, .int u2, .ref (G.2.1 + 143)] σ (fun r σ2 => Lw [1, 3] (ob A 104 u1 u2 (nI 0)) σ σ2 (InvC n tx A m H sv sl) (InvC n tx ((co A 104 u1 u2 (nI 0)).2) (pushN m) (pushH m H A) sv sl) r (((co A 104 u1 u2 (nI 0)).1).toInt64)) := by
  refine Li_of rfl (by decide +kernel) (lo := [(0, .ref (G.2.1 + 0)), (1, .int u1), (2, .int u2), (3, .ref (G.2.1 + 143))]) rfl (Nat.le_of_ble_eq_true rfl) ?_
  intro x Q hxl h hX htab hret
  subst hxl
  refine r_aload_n (pc := 0) h 3 rfl rfl dL_makeShared_0 ?_
  refine r_iconst (pc := 1) (v := nI 0) h (by decide) dL_makeShared_1 ?_
  refine r_aload_n (pc := 2) h 0 rfl rfl dL_makeShared_2 ?_
  refine r_iload_n (pc := 3) h 1 rfl rfl dL_makeShared_3 ?_
  refine r_iload_n (pc := 4) h 2 rfl rfl dL_makeShared_4 ?_
  have hkx : ∀ (E : String) (s9 : Sg), (s9 = σ ∧ ob A 104 u1 u2 (nI 0) ≠ 0 ∧ E = exN (ob A 104 u1 u2 (nI 0))) → VT x G 5 1 6 Q s9 5 [(0, .ref (G.2.1 + 0)), (1, .int u1), (2, .int u2), (3, .ref (G.2.1 + 143))] [.int (nI 0), .ref (G.2.1 + 143)] E := by
    intro E s9 hp
    obtain ⟨e9, hC, hE⟩ := hp
    subst e9
    rcases (show ob A 104 u1 u2 (nI 0) = 0 ∨ ob A 104 u1 u2 (nI 0) = 1 ∨ ob A 104 u1 u2 (nI 0) = 3 from r_f13 _ _) with e0 | e0 | e0
    · exact absurd e0 hC
    · rw [e0] at hE
      obtain rfl : E = xO := hE
      refine VT_catch h [] ({ startPc := 0, endPc := 10, handlerPc := 13, catchType := 29 } : ExceptionTableEntry) [({ startPc := 0, endPc := 10, handlerPc := 17, catchType := 15 } : ExceptionTableEntry)] (htab.trans rfl) (fun y hy => absurd hy List.not_mem_nil) rfl (by decide) mw_22_19 hX.2.1.2.2.1 (fun q => ?_)
      refine r_astore (pc := 13) (lo2 := [(4, .ref q), (0, .ref (G.2.1 + 0)), (1, .int u1), (2, .int u2), (3, .ref (G.2.1 + 143))]) h (by decide) rfl dL_makeShared_13 ?_
      refine r_iconst (pc := 15) (v := nI 1) h (by decide) dL_makeShared_15 ?_
      exact V.wd (by decide) (by decide) (hret _ _ (wl_no e0 (by decide) rfl (fun _ _ _ => rfl) hi) 16 _ dL_makeShared_16)
    · rw [e0] at hE
      obtain rfl : E = xS := hE
      refine VT_catch h [({ startPc := 0, endPc := 10, handlerPc := 13, catchType := 29 } : ExceptionTableEntry)] ({ startPc := 0, endPc := 10, handlerPc := 17, catchType := 15 } : ExceptionTableEntry) [] (htab.trans rfl) (List.forall_mem_cons.mpr ⟨Or.inr ⟨by decide, xO, mw_22_19, hX.2.2.2.2.1⟩, (fun y hy => absurd hy List.not_mem_nil)⟩) rfl (by decide) mw_4_12 hX.2.1.2.1 (fun q => ?_)
      refine r_astore (pc := 17) (lo2 := [(4, .ref q), (0, .ref (G.2.1 + 0)), (1, .int u1), (2, .int u2), (3, .ref (G.2.1 + 143))]) h (by decide) rfl dL_makeShared_17 ?_
      refine r_iconst (pc := 19) (v := nI 2) h (by decide) dL_makeShared_19 ?_
      exact V.wd (by decide) (by decide) (hret _ _ (wl_no e0 (by decide) rfl (fun _ _ _ => rfl) hi) 20 _ dL_makeShared_20)
  refine r_xVi (pc := 5) (As := [.int u1, .int u2]) (st := [.int (nI 0), .ref (G.2.1 + 143)]) h hX lk_RL_34 (c_x_makeShared x.2.1 hst G σ n tx A m H sv sl hi u1 u2) rc_5 (by decide) rfl rfl (by first | decide | exact Nat.le_of_ble_eq_true rfl) (by decide) dL_makeShared_5 hkx (fun r1 s2 q3 => ?_)
  obtain ⟨k0, k1, k2, k3⟩ := q3
  subst k1
  refine r_i2l (pc := 8) (v := ((co A 104 u1 u2 (nI 0)).1).toInt64) h rfl dL_makeShared_8 ?_
  refine r_last (pc := 9) h a_out 0 rfl (by omega) dL_makeShared_9 ?_
  refine r_goto (pc := 10) (tgt := 21) h (by decide) dL_makeShared_10 ?_
  refine r_iconst (pc := 21) (v := nI 0) h (by decide) dL_makeShared_21 ?_
  exact V.wd (by decide) (by decide) (hret _ _ (wl_ok (σ2 := sL s2 143 0 (((co A 104 u1 u2 (nI 0)).1).toInt64)) k0 rfl (show ∀ q, 134 ≤ q → q < 143 → s2.1 q = σ.1 q from keepO k3 (by decide)) (sL_s _ _ _ _) (k2.o (out_sL _ 143 0 _) (by omega))) 22 _ dL_makeShared_22)

set_option maxRecDepth 100000 in
set_option maxHeartbeats 800000 in
theorem l_makeWithout (l : Launch) (hst : l.stackTraces = false) (G : Gl) (σ : Sg) (n : Nat) (tx : Nat → Nat) (A : Ab) (m : Nat) (H : Nat → Ab) (sv : Nat → Bool) (sl : Nat → Ab) (hi : InvC n tx A m H sv sl σ) (u1 : Int32) (u2 : Int32) : Li l yL_makeWithout cL_makeWithout 5 [(0, 10, 13, 29), (0, 10, 17, 15)] ({ frames := 9, cells := 1, slots := 6, locals := 169 } : Room) G [.ref (G.2.1 + 0), .int u1, .int u2, .ref (G.2.1 + 143)] σ (fun r σ2 => Lw [1, 3] (ob A 119 u1 u2 (nI 0)) σ σ2 (InvC n tx A m H sv sl) (InvC n tx ((co A 119 u1 u2 (nI 0)).2) (pushN m) (pushH m H A) sv sl) r (((co A 119 u1 u2 (nI 0)).1).toInt64)) := by
  refine Li_of rfl (by decide +kernel) (lo := [(0, .ref (G.2.1 + 0)), (1, .int u1), (2, .int u2), (3, .ref (G.2.1 + 143))]) rfl (Nat.le_of_ble_eq_true rfl) ?_
  intro x Q hxl h hX htab hret
  subst hxl
  refine r_aload_n (pc := 0) h 3 rfl rfl dL_makeWithout_0 ?_
  refine r_iconst (pc := 1) (v := nI 0) h (by decide) dL_makeWithout_1 ?_
  refine r_aload_n (pc := 2) h 0 rfl rfl dL_makeWithout_2 ?_
  refine r_iload_n (pc := 3) h 1 rfl rfl dL_makeWithout_3 ?_
  refine r_iload_n (pc := 4) h 2 rfl rfl dL_makeWithout_4 ?_
  have hkx : ∀ (E : String) (s9 : Sg), (s9 = σ ∧ ob A 119 u1 u2 (nI 0) ≠ 0 ∧ E = exN (ob A 119 u1 u2 (nI 0))) → VT x G 5 1 6 Q s9 5 [(0, .ref (G.2.1 + 0)), (1, .int u1), (2, .int u2), (3, .ref (G.2.1 + 143))] [.int (nI 0), .ref (G.2.1 + 143)] E := by
    intro E s9 hp
    obtain ⟨e9, hC, hE⟩ := hp
    subst e9
    rcases (show ob A 119 u1 u2 (nI 0) = 0 ∨ ob A 119 u1 u2 (nI 0) = 1 ∨ ob A 119 u1 u2 (nI 0) = 3 from r_f13 _ _) with e0 | e0 | e0
    · exact absurd e0 hC
    · rw [e0] at hE
      obtain rfl : E = xO := hE
      refine VT_catch h [] ({ startPc := 0, endPc := 10, handlerPc := 13, catchType := 29 } : ExceptionTableEntry) [({ startPc := 0, endPc := 10, handlerPc := 17, catchType := 15 } : ExceptionTableEntry)] (htab.trans rfl) (fun y hy => absurd hy List.not_mem_nil) rfl (by decide) mw_22_19 hX.2.1.2.2.1 (fun q => ?_)
      refine r_astore (pc := 13) (lo2 := [(4, .ref q), (0, .ref (G.2.1 + 0)), (1, .int u1), (2, .int u2), (3, .ref (G.2.1 + 143))]) h (by decide) rfl dL_makeWithout_13 ?_
      refine r_iconst (pc := 15) (v := nI 1) h (by decide) dL_makeWithout_15 ?_
      exact V.wd (by decide) (by decide) (hret _ _ (wl_no e0 (by decide) rfl (fun _ _ _ => rfl) hi) 16 _ dL_makeWithout_16)
    · rw [e0] at hE
      obtain rfl : E = xS := hE
      refine VT_catch h [({ startPc := 0, endPc := 10, handlerPc := 13, catchType := 29 } : ExceptionTableEntry)] ({ startPc := 0, endPc := 10, handlerPc := 17, catchType := 15 } : ExceptionTableEntry) [] (htab.trans rfl) (List.forall_mem_cons.mpr ⟨Or.inr ⟨by decide, xO, mw_22_19, hX.2.2.2.2.1⟩, (fun y hy => absurd hy List.not_mem_nil)⟩) rfl (by decide) mw_4_12 hX.2.1.2.1 (fun q => ?_)
      refine r_astore (pc := 17) (lo2 := [(4, .ref q), (0, .ref (G.2.1 + 0)), (1, .int u1), (2, .int u2), (3, .ref (G.2.1 + 143))]) h (by decide) rfl dL_makeWithout_17 ?_
      refine r_iconst (pc := 19) (v := nI 2) h (by decide) dL_makeWithout_19 ?_
      exact V.wd (by decide) (by decide) (hret _ _ (wl_no e0 (by decide) rfl (fun _ _ _ => rfl) hi) 20 _ dL_makeWithout_20)
  refine r_xVi (pc := 5) (As := [.int u1, .int u2]) (st := [.int (nI 0), .ref (G.2.1 + 143)]) h hX lk_RL_37 (c_x_makeWithout x.2.1 hst G σ n tx A m H sv sl hi u1 u2) rc_5 (by decide) rfl rfl (by first | decide | exact Nat.le_of_ble_eq_true rfl) (by decide) dL_makeWithout_5 hkx (fun r1 s2 q3 => ?_)
  obtain ⟨k0, k1, k2, k3⟩ := q3
  subst k1
  refine r_i2l (pc := 8) (v := ((co A 119 u1 u2 (nI 0)).1).toInt64) h rfl dL_makeWithout_8 ?_
  refine r_last (pc := 9) h a_out 0 rfl (by omega) dL_makeWithout_9 ?_
  refine r_goto (pc := 10) (tgt := 21) h (by decide) dL_makeWithout_10 ?_
  refine r_iconst (pc := 21) (v := nI 0) h (by decide) dL_makeWithout_21 ?_
  exact V.wd (by decide) (by decide) (hret _ _ (wl_ok (σ2 := sL s2 143 0 (((co A 119 u1 u2 (nI 0)).1).toInt64)) k0 rfl (show ∀ q, 134 ≤ q → q < 143 → s2.1 q = σ.1 q from keepO k3 (by decide)) (sL_s _ _ _ _) (k2.o (out_sL _ 143 0 _) (by omega))) 22 _ dL_makeWithout_22)

set_option maxRecDepth 100000 in
set_option maxHeartbeats 800000 in
theorem l_makeSieved (l : Launch) (hst : l.stackTraces = false) (G : Gl) (σ : Sg) (n : Nat) (tx : Nat → Nat) (A : Ab) (m : Nat) (H : Nat → Ab) (sv : Nat → Bool) (sl : Nat → Ab) (hi : InvC n tx A m H sv sl σ) (u1 : Int32) : Li l yL_makeSieved cL_makeSieved 4 [(0, 9, 12, 29), (0, 9, 15, 15)] ({ frames := 9, cells := 1, slots := 6, locals := 168 } : Room) G [.ref (G.2.1 + 0), .int u1, .ref (G.2.1 + 143)] σ (fun r σ2 => Lw [1, 3] (ob A 118 u1 (nI 0) (nI 0)) σ σ2 (InvC n tx A m H sv sl) (InvC n tx ((co A 118 u1 (nI 0) (nI 0)).2) (pushN m) (pushH m H A) sv sl) r (((co A 118 u1 (nI 0) (nI 0)).1).toInt64)) := by
  refine Li_of rfl (by decide +kernel) (lo := [(0, .ref (G.2.1 + 0)), (1, .int u1), (2, .ref (G.2.1 + 143))]) rfl (Nat.le_of_ble_eq_true rfl) ?_
  intro x Q hxl h hX htab hret
  subst hxl
  refine r_aload_n (pc := 0) h 2 rfl rfl dL_makeSieved_0 ?_
  refine r_iconst (pc := 1) (v := nI 0) h (by decide) dL_makeSieved_1 ?_
  refine r_aload_n (pc := 2) h 0 rfl rfl dL_makeSieved_2 ?_
  refine r_iload_n (pc := 3) h 1 rfl rfl dL_makeSieved_3 ?_
  have hkx : ∀ (E : String) (s9 : Sg), (s9 = σ ∧ ob A 118 u1 (nI 0) (nI 0) ≠ 0 ∧ E = exN (ob A 118 u1 (nI 0) (nI 0))) → VT x G 4 1 6 Q s9 4 [(0, .ref (G.2.1 + 0)), (1, .int u1), (2, .ref (G.2.1 + 143))] [.int (nI 0), .ref (G.2.1 + 143)] E := by
    intro E s9 hp
    obtain ⟨e9, hC, hE⟩ := hp
    subst e9
    rcases (show ob A 118 u1 (nI 0) (nI 0) = 0 ∨ ob A 118 u1 (nI 0) (nI 0) = 1 ∨ ob A 118 u1 (nI 0) (nI 0) = 3 from r_f13 _ _) with e0 | e0 | e0
    · exact absurd e0 hC
    · rw [e0] at hE
      obtain rfl : E = xO := hE
      refine VT_catch h [] ({ startPc := 0, endPc := 9, handlerPc := 12, catchType := 29 } : ExceptionTableEntry) [({ startPc := 0, endPc := 9, handlerPc := 15, catchType := 15 } : ExceptionTableEntry)] (htab.trans rfl) (fun y hy => absurd hy List.not_mem_nil) rfl (by decide) mw_22_19 hX.2.1.2.2.1 (fun q => ?_)
      refine r_astore_n (pc := 12) (lo2 := [(3, .ref q), (0, .ref (G.2.1 + 0)), (1, .int u1), (2, .ref (G.2.1 + 143))]) h rfl (by decide) rfl dL_makeSieved_12 ?_
      refine r_iconst (pc := 13) (v := nI 1) h (by decide) dL_makeSieved_13 ?_
      exact V.wd (by decide) (by decide) (hret _ _ (wl_no e0 (by decide) rfl (fun _ _ _ => rfl) hi) 14 _ dL_makeSieved_14)
    · rw [e0] at hE
      obtain rfl : E = xS := hE
      refine VT_catch h [({ startPc := 0, endPc := 9, handlerPc := 12, catchType := 29 } : ExceptionTableEntry)] ({ startPc := 0, endPc := 9, handlerPc := 15, catchType := 15 } : ExceptionTableEntry) [] (htab.trans rfl) (List.forall_mem_cons.mpr ⟨Or.inr ⟨by decide, xO, mw_22_19, hX.2.2.2.2.1⟩, (fun y hy => absurd hy List.not_mem_nil)⟩) rfl (by decide) mw_4_12 hX.2.1.2.1 (fun q => ?_)
      refine r_astore_n (pc := 15) (lo2 := [(3, .ref q), (0, .ref (G.2.1 + 0)), (1, .int u1), (2, .ref (G.2.1 + 143))]) h rfl (by decide) rfl dL_makeSieved_15 ?_
      refine r_iconst (pc := 16) (v := nI 2) h (by decide) dL_makeSieved_16 ?_
      exact V.wd (by decide) (by decide) (hret _ _ (wl_no e0 (by decide) rfl (fun _ _ _ => rfl) hi) 17 _ dL_makeSieved_17)
  refine r_xVi (pc := 4) (As := [.int u1]) (st := [.int (nI 0), .ref (G.2.1 + 143)]) h hX lk_RL_40 (c_x_makeSieved x.2.1 hst G σ n tx A m H sv sl hi u1) rc_5 (by decide) rfl rfl (by first | decide | exact Nat.le_of_ble_eq_true rfl) (by decide) dL_makeSieved_4 hkx (fun r1 s2 q3 => ?_)
  obtain ⟨k0, k1, k2, k3⟩ := q3
  subst k1
  refine r_i2l (pc := 7) (v := ((co A 118 u1 (nI 0) (nI 0)).1).toInt64) h rfl dL_makeSieved_7 ?_
  refine r_last (pc := 8) h a_out 0 rfl (by omega) dL_makeSieved_8 ?_
  refine r_goto (pc := 9) (tgt := 18) h (by decide) dL_makeSieved_9 ?_
  refine r_iconst (pc := 18) (v := nI 0) h (by decide) dL_makeSieved_18 ?_
  exact V.wd (by decide) (by decide) (hret _ _ (wl_ok (σ2 := sL s2 143 0 (((co A 118 u1 (nI 0) (nI 0)).1).toInt64)) k0 rfl (show ∀ q, 134 ≤ q → q < 143 → s2.1 q = σ.1 q from keepO k3 (by decide)) (sL_s _ _ _ _) (k2.o (out_sL _ 143 0 _) (by omega))) 19 _ dL_makeSieved_19)

set_option maxRecDepth 100000 in
set_option maxHeartbeats 800000 in
theorem l_makeThinned (l : Launch) (hst : l.stackTraces = false) (G : Gl) (σ : Sg) (n : Nat) (tx : Nat → Nat) (A : Ab) (m : Nat) (H : Nat → Ab) (sv : Nat → Bool) (sl : Nat → Ab) (hi : InvC n tx A m H sv sl σ) (u1 : Int32) (u2 : Int32) : Li l yL_makeThinned cL_makeThinned 5 [(0, 10, 13, 29), (0, 10, 17, 13), (0, 10, 21, 15)] ({ frames := 9, cells := 1, slots := 6, locals := 169 } : Room) G [.ref (G.2.1 + 0), .int u1, .int u2, .ref (G.2.1 + 143)] σ (fun r σ2 => Lw [1, 2, 3] (ob A 101 u1 u2 (nI 0)) σ σ2 (InvC n tx A m H sv sl) (InvC n tx ((co A 101 u1 u2 (nI 0)).2) (pushN m) (pushH m H A) sv sl) r (((co A 101 u1 u2 (nI 0)).1).toInt64)) := by
  refine Li_of rfl (by decide +kernel) (lo := [(0, .ref (G.2.1 + 0)), (1, .int u1), (2, .int u2), (3, .ref (G.2.1 + 143))]) rfl (Nat.le_of_ble_eq_true rfl) ?_
  intro x Q hxl h hX htab hret
  subst hxl
  refine r_aload_n (pc := 0) h 3 rfl rfl dL_makeThinned_0 ?_
  refine r_iconst (pc := 1) (v := nI 0) h (by decide) dL_makeThinned_1 ?_
  refine r_aload_n (pc := 2) h 0 rfl rfl dL_makeThinned_2 ?_
  refine r_iload_n (pc := 3) h 1 rfl rfl dL_makeThinned_3 ?_
  refine r_iload_n (pc := 4) h 2 rfl rfl dL_makeThinned_4 ?_
  have hkx : ∀ (E : String) (s9 : Sg), (s9 = σ ∧ ob A 101 u1 u2 (nI 0) ≠ 0 ∧ E = exN (ob A 101 u1 u2 (nI 0))) → VT x G 5 1 6 Q s9 5 [(0, .ref (G.2.1 + 0)), (1, .int u1), (2, .int u2), (3, .ref (G.2.1 + 143))] [.int (nI 0), .ref (G.2.1 + 143)] E := by
    intro E s9 hp
    obtain ⟨e9, hC, hE⟩ := hp
    subst e9
    rcases (show ob A 101 u1 u2 (nI 0) = 0 ∨ ob A 101 u1 u2 (nI 0) = 1 ∨ ob A 101 u1 u2 (nI 0) = 2 ∨ ob A 101 u1 u2 (nI 0) = 3 from r_f123 _ _ _) with e0 | e0 | e0 | e0
    · exact absurd e0 hC
    · rw [e0] at hE
      obtain rfl : E = xO := hE
      refine VT_catch h [] ({ startPc := 0, endPc := 10, handlerPc := 13, catchType := 29 } : ExceptionTableEntry) [({ startPc := 0, endPc := 10, handlerPc := 17, catchType := 13 } : ExceptionTableEntry), ({ startPc := 0, endPc := 10, handlerPc := 21, catchType := 15 } : ExceptionTableEntry)] (htab.trans rfl) (fun y hy => absurd hy List.not_mem_nil) rfl (by decide) mw_22_19 hX.2.1.2.2.1 (fun q => ?_)
      refine r_astore (pc := 13) (lo2 := [(4, .ref q), (0, .ref (G.2.1 + 0)), (1, .int u1), (2, .int u2), (3, .ref (G.2.1 + 143))]) h (by decide) rfl dL_makeThinned_13 ?_
      refine r_iconst (pc := 15) (v := nI 1) h (by decide) dL_makeThinned_15 ?_
      exact V.wd (by decide) (by decide) (hret _ _ (wl_no e0 (by decide) rfl (fun _ _ _ => rfl) hi) 16 _ dL_makeThinned_16)
    · rw [e0] at hE
      obtain rfl : E = xI := hE
      refine VT_catch h [({ startPc := 0, endPc := 10, handlerPc := 13, catchType := 29 } : ExceptionTableEntry)] ({ startPc := 0, endPc := 10, handlerPc := 17, catchType := 13 } : ExceptionTableEntry) [({ startPc := 0, endPc := 10, handlerPc := 21, catchType := 15 } : ExceptionTableEntry)] (htab.trans rfl) (List.forall_mem_cons.mpr ⟨Or.inr ⟨by decide, xO, mw_22_19, hX.2.2.2.1⟩, (fun y hy => absurd hy List.not_mem_nil)⟩) rfl (by decide) mw_4_11 hX.2.1.1 (fun q => ?_)
      refine r_astore (pc := 17) (lo2 := [(4, .ref q), (0, .ref (G.2.1 + 0)), (1, .int u1), (2, .int u2), (3, .ref (G.2.1 + 143))]) h (by decide) rfl dL_makeThinned_17 ?_
      refine r_iconst (pc := 19) (v := nI 2) h (by decide) dL_makeThinned_19 ?_
      exact V.wd (by decide) (by decide) (hret _ _ (wl_no e0 (by decide) rfl (fun _ _ _ => rfl) hi) 20 _ dL_makeThinned_20)
    · rw [e0] at hE
      obtain rfl : E = xS := hE
      refine VT_catch h [({ startPc := 0, endPc := 10, handlerPc := 13, catchType := 29 } : ExceptionTableEntry), ({ startPc := 0, endPc := 10, handlerPc := 17, catchType := 13 } : ExceptionTableEntry)] ({ startPc := 0, endPc := 10, handlerPc := 21, catchType := 15 } : ExceptionTableEntry) [] (htab.trans rfl) (List.forall_mem_cons.mpr ⟨Or.inr ⟨by decide, xO, mw_22_19, hX.2.2.2.2.1⟩, (List.forall_mem_cons.mpr ⟨Or.inr ⟨by decide, xI, mw_4_11, hX.2.2.2.2.2⟩, (fun y hy => absurd hy List.not_mem_nil)⟩)⟩) rfl (by decide) mw_4_12 hX.2.1.2.1 (fun q => ?_)
      refine r_astore (pc := 21) (lo2 := [(4, .ref q), (0, .ref (G.2.1 + 0)), (1, .int u1), (2, .int u2), (3, .ref (G.2.1 + 143))]) h (by decide) rfl dL_makeThinned_21 ?_
      refine r_iconst (pc := 23) (v := nI 3) h (by decide) dL_makeThinned_23 ?_
      exact V.wd (by decide) (by decide) (hret _ _ (wl_no e0 (by decide) rfl (fun _ _ _ => rfl) hi) 24 _ dL_makeThinned_24)
  refine r_xVi (pc := 5) (As := [.int u1, .int u2]) (st := [.int (nI 0), .ref (G.2.1 + 143)]) h hX lk_RL_43 (c_x_makeThinned x.2.1 hst G σ n tx A m H sv sl hi u1 u2) rc_5 (by decide) rfl rfl (by first | decide | exact Nat.le_of_ble_eq_true rfl) (by decide) dL_makeThinned_5 hkx (fun r1 s2 q3 => ?_)
  obtain ⟨k0, k1, k2, k3⟩ := q3
  subst k1
  refine r_i2l (pc := 8) (v := ((co A 101 u1 u2 (nI 0)).1).toInt64) h rfl dL_makeThinned_8 ?_
  refine r_last (pc := 9) h a_out 0 rfl (by omega) dL_makeThinned_9 ?_
  refine r_goto (pc := 10) (tgt := 25) h (by decide) dL_makeThinned_10 ?_
  refine r_iconst (pc := 25) (v := nI 0) h (by decide) dL_makeThinned_25 ?_
  exact V.wd (by decide) (by decide) (hret _ _ (wl_ok (σ2 := sL s2 143 0 (((co A 101 u1 u2 (nI 0)).1).toInt64)) k0 rfl (show ∀ q, 134 ≤ q → q < 143 → s2.1 q = σ.1 q from keepO k3 (by decide)) (sL_s _ _ _ _) (k2.o (out_sL _ 143 0 _) (by omega))) 26 _ dL_makeThinned_26)

set_option maxRecDepth 100000 in
set_option maxHeartbeats 800000 in
theorem l_makeAddedUp (l : Launch) (hst : l.stackTraces = false) (G : Gl) (σ : Sg) (n : Nat) (tx : Nat → Nat) (A : Ab) (m : Nat) (H : Nat → Ab) (sv : Nat → Bool) (sl : Nat → Ab) (hi : InvC n tx A m H sv sl σ) (u1 : Int32) : Li l yL_makeAddedUp cL_makeAddedUp 4 [(0, 9, 12, 29), (0, 9, 15, 15)] ({ frames := 9, cells := 1, slots := 6, locals := 168 } : Room) G [.ref (G.2.1 + 0), .int u1, .ref (G.2.1 + 143)] σ (fun r σ2 => Lw [1, 3] (ob A 117 u1 (nI 0) (nI 0)) σ σ2 (InvC n tx A m H sv sl) (InvC n tx ((co A 117 u1 (nI 0) (nI 0)).2) (pushN m) (pushH m H A) sv sl) r (((co A 117 u1 (nI 0) (nI 0)).1).toInt64)) := by
  refine Li_of rfl (by decide +kernel) (lo := [(0, .ref (G.2.1 + 0)), (1, .int u1), (2, .ref (G.2.1 + 143))]) rfl (Nat.le_of_ble_eq_true rfl) ?_
  intro x Q hxl h hX htab hret
  subst hxl
  refine r_aload_n (pc := 0) h 2 rfl rfl dL_makeAddedUp_0 ?_
  refine r_iconst (pc := 1) (v := nI 0) h (by decide) dL_makeAddedUp_1 ?_
  refine r_aload_n (pc := 2) h 0 rfl rfl dL_makeAddedUp_2 ?_
  refine r_iload_n (pc := 3) h 1 rfl rfl dL_makeAddedUp_3 ?_
  have hkx : ∀ (E : String) (s9 : Sg), (s9 = σ ∧ ob A 117 u1 (nI 0) (nI 0) ≠ 0 ∧ E = exN (ob A 117 u1 (nI 0) (nI 0))) → VT x G 4 1 6 Q s9 4 [(0, .ref (G.2.1 + 0)), (1, .int u1), (2, .ref (G.2.1 + 143))] [.int (nI 0), .ref (G.2.1 + 143)] E := by
    intro E s9 hp
    obtain ⟨e9, hC, hE⟩ := hp
    subst e9
    rcases (show ob A 117 u1 (nI 0) (nI 0) = 0 ∨ ob A 117 u1 (nI 0) (nI 0) = 1 ∨ ob A 117 u1 (nI 0) (nI 0) = 3 from r_f13 _ _) with e0 | e0 | e0
    · exact absurd e0 hC
    · rw [e0] at hE
      obtain rfl : E = xO := hE
      refine VT_catch h [] ({ startPc := 0, endPc := 9, handlerPc := 12, catchType := 29 } : ExceptionTableEntry) [({ startPc := 0, endPc := 9, handlerPc := 15, catchType := 15 } : ExceptionTableEntry)] (htab.trans rfl) (fun y hy => absurd hy List.not_mem_nil) rfl (by decide) mw_22_19 hX.2.1.2.2.1 (fun q => ?_)
      refine r_astore_n (pc := 12) (lo2 := [(3, .ref q), (0, .ref (G.2.1 + 0)), (1, .int u1), (2, .ref (G.2.1 + 143))]) h rfl (by decide) rfl dL_makeAddedUp_12 ?_
      refine r_iconst (pc := 13) (v := nI 1) h (by decide) dL_makeAddedUp_13 ?_
      exact V.wd (by decide) (by decide) (hret _ _ (wl_no e0 (by decide) rfl (fun _ _ _ => rfl) hi) 14 _ dL_makeAddedUp_14)
    · rw [e0] at hE
      obtain rfl : E = xS := hE
      refine VT_catch h [({ startPc := 0, endPc := 9, handlerPc := 12, catchType := 29 } : ExceptionTableEntry)] ({ startPc := 0, endPc := 9, handlerPc := 15, catchType := 15 } : ExceptionTableEntry) [] (htab.trans rfl) (List.forall_mem_cons.mpr ⟨Or.inr ⟨by decide, xO, mw_22_19, hX.2.2.2.2.1⟩, (fun y hy => absurd hy List.not_mem_nil)⟩) rfl (by decide) mw_4_12 hX.2.1.2.1 (fun q => ?_)
      refine r_astore_n (pc := 15) (lo2 := [(3, .ref q), (0, .ref (G.2.1 + 0)), (1, .int u1), (2, .ref (G.2.1 + 143))]) h rfl (by decide) rfl dL_makeAddedUp_15 ?_
      refine r_iconst (pc := 16) (v := nI 2) h (by decide) dL_makeAddedUp_16 ?_
      exact V.wd (by decide) (by decide) (hret _ _ (wl_no e0 (by decide) rfl (fun _ _ _ => rfl) hi) 17 _ dL_makeAddedUp_17)
  refine r_xVi (pc := 4) (As := [.int u1]) (st := [.int (nI 0), .ref (G.2.1 + 143)]) h hX lk_RL_46 (c_x_makeAddedUp x.2.1 hst G σ n tx A m H sv sl hi u1) rc_5 (by decide) rfl rfl (by first | decide | exact Nat.le_of_ble_eq_true rfl) (by decide) dL_makeAddedUp_4 hkx (fun r1 s2 q3 => ?_)
  obtain ⟨k0, k1, k2, k3⟩ := q3
  subst k1
  refine r_i2l (pc := 7) (v := ((co A 117 u1 (nI 0) (nI 0)).1).toInt64) h rfl dL_makeAddedUp_7 ?_
  refine r_last (pc := 8) h a_out 0 rfl (by omega) dL_makeAddedUp_8 ?_
  refine r_goto (pc := 9) (tgt := 18) h (by decide) dL_makeAddedUp_9 ?_
  refine r_iconst (pc := 18) (v := nI 0) h (by decide) dL_makeAddedUp_18 ?_
  exact V.wd (by decide) (by decide) (hret _ _ (wl_ok (σ2 := sL s2 143 0 (((co A 117 u1 (nI 0) (nI 0)).1).toInt64)) k0 rfl (show ∀ q, 134 ≤ q → q < 143 → s2.1 q = σ.1 q from keepO k3 (by decide)) (sL_s _ _ _ _) (k2.o (out_sL _ 143 0 _) (by omega))) 19 _ dL_makeAddedUp_19)

set_option maxRecDepth 100000 in
set_option maxHeartbeats 800000 in
theorem l_dropLast (l : Launch) (hst : l.stackTraces = false) (G : Gl) (σ : Sg) (n : Nat) (tx : Nat → Nat) (A : Ab) (m : Nat) (H : Nat → Ab) (sv : Nat → Bool) (sl : Nat → Ab) (hi : InvC n tx A m H sv sl σ) : Li l yL_dropLast cL_dropLast 3 [(0, 8, 11, 15)] ({ frames := 9, cells := 1, slots := 6, locals := 167 } : Room) G [.ref (G.2.1 + 0), .ref (G.2.1 + 143)] σ (fun r σ2 => Lw [3] (ob A 100 (nI 0) (nI 0) (nI 0)) σ σ2 (InvC n tx A m H sv sl) (InvC n tx ((co A 100 (nI 0) (nI 0) (nI 0)).2) (pushN m) (pushH m H A) sv sl) r (((co A 100 (nI 0) (nI 0) (nI 0)).1).toInt64)) := by
  refine Li_of rfl (by decide +kernel) (lo := [(0, .ref (G.2.1 + 0)), (1, .ref (G.2.1 + 143))]) rfl (Nat.le_of_ble_eq_true rfl) ?_
  intro x Q hxl h hX htab hret
  subst hxl
  refine r_aload_n (pc := 0) h 1 rfl rfl dL_dropLast_0 ?_
  refine r_iconst (pc := 1) (v := nI 0) h (by decide) dL_dropLast_1 ?_
  refine r_aload_n (pc := 2) h 0 rfl rfl dL_dropLast_2 ?_
  have hkx : ∀ (E : String) (s9 : Sg), (s9 = σ ∧ ob A 100 (nI 0) (nI 0) (nI 0) ≠ 0 ∧ E = exN (ob A 100 (nI 0) (nI 0) (nI 0))) → VT x G 3 1 6 Q s9 3 [(0, .ref (G.2.1 + 0)), (1, .ref (G.2.1 + 143))] [.int (nI 0), .ref (G.2.1 + 143)] E := by
    intro E s9 hp
    obtain ⟨e9, hC, hE⟩ := hp
    subst e9
    rcases (show ob A 100 (nI 0) (nI 0) (nI 0) = 0 ∨ ob A 100 (nI 0) (nI 0) (nI 0) = 3 from r_f3 _) with e0 | e0
    · exact absurd e0 hC
    · rw [e0] at hE
      obtain rfl : E = xS := hE
      refine VT_catch h [] ({ startPc := 0, endPc := 8, handlerPc := 11, catchType := 15 } : ExceptionTableEntry) [] (htab.trans rfl) (fun y hy => absurd hy List.not_mem_nil) rfl (by decide) mw_4_12 hX.2.1.2.1 (fun q => ?_)
      refine r_astore_n (pc := 11) (lo2 := [(2, .ref q), (0, .ref (G.2.1 + 0)), (1, .ref (G.2.1 + 143))]) h rfl (by decide) rfl dL_dropLast_11 ?_
      refine r_iconst (pc := 12) (v := nI 1) h (by decide) dL_dropLast_12 ?_
      exact V.wd (by decide) (by decide) (hret _ _ (wl_no e0 (by decide) rfl (fun _ _ _ => rfl) hi) 13 _ dL_dropLast_13)
  refine r_xVi (pc := 3) (As := []) (st := [.int (nI 0), .ref (G.2.1 + 143)]) h hX lk_RL_49 (c_x_dropLast x.2.1 hst G σ n tx A m H sv sl hi) rc_5 (by decide) rfl rfl (by first | decide | exact Nat.le_of_ble_eq_true rfl) (by decide) dL_dropLast_3 hkx (fun r1 s2 q3 => ?_)
  obtain ⟨k0, k1, k2, k3⟩ := q3
  subst k1
  refine r_i2l (pc := 6) (v := ((co A 100 (nI 0) (nI 0) (nI 0)).1).toInt64) h rfl dL_dropLast_6 ?_
  refine r_last (pc := 7) h a_out 0 rfl (by omega) dL_dropLast_7 ?_
  refine r_goto (pc := 8) (tgt := 14) h (by decide) dL_dropLast_8 ?_
  refine r_iconst (pc := 14) (v := nI 0) h (by decide) dL_dropLast_14 ?_
  exact V.wd (by decide) (by decide) (hret _ _ (wl_ok (σ2 := sL s2 143 0 (((co A 100 (nI 0) (nI 0) (nI 0)).1).toInt64)) k0 rfl (show ∀ q, 134 ≤ q → q < 143 → s2.1 q = σ.1 q from keepO k3 (by decide)) (sL_s _ _ _ _) (k2.o (out_sL _ 143 0 _) (by omega))) 15 _ dL_dropLast_15)

set_option maxRecDepth 100000 in
set_option maxHeartbeats 800000 in
theorem l_beginReading (l : Launch) (hst : l.stackTraces = false) (G : Gl) (σ : Sg) (n : Nat) (tx : Nat → Nat) (A : Ab) (m : Nat) (H : Nat → Ab) (sv : Nat → Bool) (sl : Nat → Ab) (hi : InvC n tx A m H sv sl σ) (u1 : Int32) : Li l yL_beginReading cL_beginReading 4 [(0, 9, 12, 29), (0, 9, 15, 15)] ({ frames := 9, cells := 1, slots := 6, locals := 168 } : Room) G [.ref (G.2.1 + 0), .int u1, .ref (G.2.1 + 143)] σ (fun r σ2 => Lw [1, 3] (ob A 114 u1 (nI 0) (nI 0)) σ σ2 (InvC n tx A m H sv sl) (InvC n tx ((co A 114 u1 (nI 0) (nI 0)).2) (pushN m) (pushH m H A) sv sl) r (((co A 114 u1 (nI 0) (nI 0)).1).toInt64)) := by
  refine Li_of rfl (by decide +kernel) (lo := [(0, .ref (G.2.1 + 0)), (1, .int u1), (2, .ref (G.2.1 + 143))]) rfl (Nat.le_of_ble_eq_true rfl) ?_
  intro x Q hxl h hX htab hret
  subst hxl
  refine r_aload_n (pc := 0) h 2 rfl rfl dL_beginReading_0 ?_
  refine r_iconst (pc := 1) (v := nI 0) h (by decide) dL_beginReading_1 ?_
  refine r_aload_n (pc := 2) h 0 rfl rfl dL_beginReading_2 ?_
  refine r_iload_n (pc := 3) h 1 rfl rfl dL_beginReading_3 ?_
  have hkx : ∀ (E : String) (s9 : Sg), (s9 = σ ∧ ob A 114 u1 (nI 0) (nI 0) ≠ 0 ∧ E = exN (ob A 114 u1 (nI 0) (nI 0))) → VT x G 4 1 6 Q s9 4 [(0, .ref (G.2.1 + 0)), (1, .int u1), (2, .ref (G.2.1 + 143))] [.int (nI 0), .ref (G.2.1 + 143)] E := by
    intro E s9 hp
    obtain ⟨e9, hC, hE⟩ := hp
    subst e9
    rcases (show ob A 114 u1 (nI 0) (nI 0) = 0 ∨ ob A 114 u1 (nI 0) (nI 0) = 1 ∨ ob A 114 u1 (nI 0) (nI 0) = 3 from r_f13 _ _) with e0 | e0 | e0
    · exact absurd e0 hC
    · rw [e0] at hE
      obtain rfl : E = xO := hE
      refine VT_catch h [] ({ startPc := 0, endPc := 9, handlerPc := 12, catchType := 29 } : ExceptionTableEntry) [({ startPc := 0, endPc := 9, handlerPc := 15, catchType := 15 } : ExceptionTableEntry)] (htab.trans rfl) (fun y hy => absurd hy List.not_mem_nil) rfl (by decide) mw_22_19 hX.2.1.2.2.1 (fun q => ?_)
      refine r_astore_n (pc := 12) (lo2 := [(3, .ref q), (0, .ref (G.2.1 + 0)), (1, .int u1), (2, .ref (G.2.1 + 143))]) h rfl (by decide) rfl dL_beginReading_12 ?_
      refine r_iconst (pc := 13) (v := nI 1) h (by decide) dL_beginReading_13 ?_
      exact V.wd (by decide) (by decide) (hret _ _ (wl_no e0 (by decide) rfl (fun _ _ _ => rfl) hi) 14 _ dL_beginReading_14)
    · rw [e0] at hE
      obtain rfl : E = xS := hE
      refine VT_catch h [({ startPc := 0, endPc := 9, handlerPc := 12, catchType := 29 } : ExceptionTableEntry)] ({ startPc := 0, endPc := 9, handlerPc := 15, catchType := 15 } : ExceptionTableEntry) [] (htab.trans rfl) (List.forall_mem_cons.mpr ⟨Or.inr ⟨by decide, xO, mw_22_19, hX.2.2.2.2.1⟩, (fun y hy => absurd hy List.not_mem_nil)⟩) rfl (by decide) mw_4_12 hX.2.1.2.1 (fun q => ?_)
      refine r_astore_n (pc := 15) (lo2 := [(3, .ref q), (0, .ref (G.2.1 + 0)), (1, .int u1), (2, .ref (G.2.1 + 143))]) h rfl (by decide) rfl dL_beginReading_15 ?_
      refine r_iconst (pc := 16) (v := nI 2) h (by decide) dL_beginReading_16 ?_
      exact V.wd (by decide) (by decide) (hret _ _ (wl_no e0 (by decide) rfl (fun _ _ _ => rfl) hi) 17 _ dL_beginReading_17)
  refine r_xVi (pc := 4) (As := [.int u1]) (st := [.int (nI 0), .ref (G.2.1 + 143)]) h hX lk_RL_52 (c_x_beginReading x.2.1 hst G σ n tx A m H sv sl hi u1) rc_5 (by decide) rfl rfl (by first | decide | exact Nat.le_of_ble_eq_true rfl) (by decide) dL_beginReading_4 hkx (fun r1 s2 q3 => ?_)
  obtain ⟨k0, k1, k2, k3⟩ := q3
  subst k1
  refine r_i2l (pc := 7) (v := ((co A 114 u1 (nI 0) (nI 0)).1).toInt64) h rfl dL_beginReading_7 ?_
  refine r_last (pc := 8) h a_out 0 rfl (by omega) dL_beginReading_8 ?_
  refine r_goto (pc := 9) (tgt := 18) h (by decide) dL_beginReading_9 ?_
  refine r_iconst (pc := 18) (v := nI 0) h (by decide) dL_beginReading_18 ?_
  exact V.wd (by decide) (by decide) (hret _ _ (wl_ok (σ2 := sL s2 143 0 (((co A 114 u1 (nI 0) (nI 0)).1).toInt64)) k0 rfl (show ∀ q, 134 ≤ q → q < 143 → s2.1 q = σ.1 q from keepO k3 (by decide)) (sL_s _ _ _ _) (k2.o (out_sL _ 143 0 _) (by omega))) 19 _ dL_beginReading_19)

set_option maxRecDepth 100000 in
set_option maxHeartbeats 800000 in
theorem l_read (l : Launch) (hst : l.stackTraces = false) (G : Gl) (σ : Sg) (n : Nat) (tx : Nat → Nat) (A : Ab) (m : Nat) (H : Nat → Ab) (sv : Nat → Bool) (sl : Nat → Ab) (hi : InvC n tx A m H sv sl σ) (u1 : Int32) : Li l yL_read cL_read 4 [(0, 9, 12, 29), (0, 9, 15, 15)] ({ frames := 9, cells := 1, slots := 6, locals := 168 } : Room) G [.ref (G.2.1 + 0), .int u1, .ref (G.2.1 + 143)] σ (fun r σ2 => Lw [1, 3] (ob A 110 u1 (nI 0) (nI 0)) σ σ2 (InvC n tx A m H sv sl) (InvC n tx ((co A 110 u1 (nI 0) (nI 0)).2) (pushN m) (pushH m H A) sv sl) r (((co A 110 u1 (nI 0) (nI 0)).1).toInt64)) := by
  refine Li_of rfl (by decide +kernel) (lo := [(0, .ref (G.2.1 + 0)), (1, .int u1), (2, .ref (G.2.1 + 143))]) rfl (Nat.le_of_ble_eq_true rfl) ?_
  intro x Q hxl h hX htab hret
  subst hxl
  refine r_aload_n (pc := 0) h 2 rfl rfl dL_read_0 ?_
  refine r_iconst (pc := 1) (v := nI 0) h (by decide) dL_read_1 ?_
  refine r_aload_n (pc := 2) h 0 rfl rfl dL_read_2 ?_
  refine r_iload_n (pc := 3) h 1 rfl rfl dL_read_3 ?_
  have hkx : ∀ (E : String) (s9 : Sg), (s9 = σ ∧ ob A 110 u1 (nI 0) (nI 0) ≠ 0 ∧ E = exN (ob A 110 u1 (nI 0) (nI 0))) → VT x G 4 1 6 Q s9 4 [(0, .ref (G.2.1 + 0)), (1, .int u1), (2, .ref (G.2.1 + 143))] [.int (nI 0), .ref (G.2.1 + 143)] E := by
    intro E s9 hp
    obtain ⟨e9, hC, hE⟩ := hp
    subst e9
    rcases (show ob A 110 u1 (nI 0) (nI 0) = 0 ∨ ob A 110 u1 (nI 0) (nI 0) = 1 ∨ ob A 110 u1 (nI 0) (nI 0) = 3 from r_f13 _ _) with e0 | e0 | e0
    · exact absurd e0 hC
    · rw [e0] at hE
      obtain rfl : E = xO := hE
      refine VT_catch h [] ({ startPc := 0, endPc := 9, handlerPc := 12, catchType := 29 } : ExceptionTableEntry) [({ startPc := 0, endPc := 9, handlerPc := 15, catchType := 15 } : ExceptionTableEntry)] (htab.trans rfl) (fun y hy => absurd hy List.not_mem_nil) rfl (by decide) mw_22_19 hX.2.1.2.2.1 (fun q => ?_)
      refine r_astore_n (pc := 12) (lo2 := [(3, .ref q), (0, .ref (G.2.1 + 0)), (1, .int u1), (2, .ref (G.2.1 + 143))]) h rfl (by decide) rfl dL_read_12 ?_
      refine r_iconst (pc := 13) (v := nI 1) h (by decide) dL_read_13 ?_
      exact V.wd (by decide) (by decide) (hret _ _ (wl_no e0 (by decide) rfl (fun _ _ _ => rfl) hi) 14 _ dL_read_14)
    · rw [e0] at hE
      obtain rfl : E = xS := hE
      refine VT_catch h [({ startPc := 0, endPc := 9, handlerPc := 12, catchType := 29 } : ExceptionTableEntry)] ({ startPc := 0, endPc := 9, handlerPc := 15, catchType := 15 } : ExceptionTableEntry) [] (htab.trans rfl) (List.forall_mem_cons.mpr ⟨Or.inr ⟨by decide, xO, mw_22_19, hX.2.2.2.2.1⟩, (fun y hy => absurd hy List.not_mem_nil)⟩) rfl (by decide) mw_4_12 hX.2.1.2.1 (fun q => ?_)
      refine r_astore_n (pc := 15) (lo2 := [(3, .ref q), (0, .ref (G.2.1 + 0)), (1, .int u1), (2, .ref (G.2.1 + 143))]) h rfl (by decide) rfl dL_read_15 ?_
      refine r_iconst (pc := 16) (v := nI 2) h (by decide) dL_read_16 ?_
      exact V.wd (by decide) (by decide) (hret _ _ (wl_no e0 (by decide) rfl (fun _ _ _ => rfl) hi) 17 _ dL_read_17)
  refine r_xVi (pc := 4) (As := [.int u1]) (st := [.int (nI 0), .ref (G.2.1 + 143)]) h hX lk_RL_55 (c_x_read x.2.1 hst G σ n tx A m H sv sl hi u1) rc_5 (by decide) rfl rfl (by first | decide | exact Nat.le_of_ble_eq_true rfl) (by decide) dL_read_4 hkx (fun r1 s2 q3 => ?_)
  obtain ⟨k0, k1, k2, k3⟩ := q3
  subst k1
  refine r_i2l (pc := 7) (v := ((co A 110 u1 (nI 0) (nI 0)).1).toInt64) h rfl dL_read_7 ?_
  refine r_last (pc := 8) h a_out 0 rfl (by omega) dL_read_8 ?_
  refine r_goto (pc := 9) (tgt := 18) h (by decide) dL_read_9 ?_
  refine r_iconst (pc := 18) (v := nI 0) h (by decide) dL_read_18 ?_
  exact V.wd (by decide) (by decide) (hret _ _ (wl_ok (σ2 := sL s2 143 0 (((co A 110 u1 (nI 0) (nI 0)).1).toInt64)) k0 rfl (show ∀ q, 134 ≤ q → q < 143 → s2.1 q = σ.1 q from keepO k3 (by decide)) (sL_s _ _ _ _) (k2.o (out_sL _ 143 0 _) (by omega))) 19 _ dL_read_19)

set_option maxRecDepth 100000 in
set_option maxHeartbeats 800000 in
theorem l_skip (l : Launch) (hst : l.stackTraces = false) (G : Gl) (σ : Sg) (n : Nat) (tx : Nat → Nat) (A : Ab) (m : Nat) (H : Nat → Ab) (sv : Nat → Bool) (sl : Nat → Ab) (hi : InvC n tx A m H sv sl σ) (u1 : Int32) (u2 : Int32) : Li l yL_skip cL_skip 5 [(0, 10, 13, 29), (0, 10, 17, 13)] ({ frames := 9, cells := 1, slots := 6, locals := 169 } : Room) G [.ref (G.2.1 + 0), .int u1, .int u2, .ref (G.2.1 + 143)] σ (fun r σ2 => Lw [1, 2] (ob A 107 u1 u2 (nI 0)) σ σ2 (InvC n tx A m H sv sl) (InvC n tx ((co A 107 u1 u2 (nI 0)).2) (pushN m) (pushH m H A) sv sl) r (((co A 107 u1 u2 (nI 0)).1).toInt64)) := by
  refine Li_of rfl (by decide +kernel) (lo := [(0, .ref (G.2.1 + 0)), (1, .int u1), (2, .int u2), (3, .ref (G.2.1 + 143))]) rfl (Nat.le_of_ble_eq_true rfl) ?_
  intro x Q hxl h hX htab hret
  subst hxl
  refine r_aload_n (pc := 0) h 3 rfl rfl dL_skip_0 ?_
  refine r_iconst (pc := 1) (v := nI 0) h (by decide) dL_skip_1 ?_
  refine r_aload_n (pc := 2) h 0 rfl rfl dL_skip_2 ?_
  refine r_iload_n (pc := 3) h 1 rfl rfl dL_skip_3 ?_
  refine r_iload_n (pc := 4) h 2 rfl rfl dL_skip_4 ?_
  have hkx : ∀ (E : String) (s9 : Sg), (s9 = σ ∧ ob A 107 u1 u2 (nI 0) ≠ 0 ∧ E = exN (ob A 107 u1 u2 (nI 0))) → VT x G 5 1 6 Q s9 5 [(0, .ref (G.2.1 + 0)), (1, .int u1), (2, .int u2), (3, .ref (G.2.1 + 143))] [.int (nI 0), .ref (G.2.1 + 143)] E := by
    intro E s9 hp
    obtain ⟨e9, hC, hE⟩ := hp
    subst e9
    rcases (show ob A 107 u1 u2 (nI 0) = 0 ∨ ob A 107 u1 u2 (nI 0) = 1 ∨ ob A 107 u1 u2 (nI 0) = 2 from r_f12 _ _) with e0 | e0 | e0
    · exact absurd e0 hC
    · rw [e0] at hE
      obtain rfl : E = xO := hE
      refine VT_catch h [] ({ startPc := 0, endPc := 10, handlerPc := 13, catchType := 29 } : ExceptionTableEntry) [({ startPc := 0, endPc := 10, handlerPc := 17, catchType := 13 } : ExceptionTableEntry)] (htab.trans rfl) (fun y hy => absurd hy List.not_mem_nil) rfl (by decide) mw_22_19 hX.2.1.2.2.1 (fun q => ?_)
      refine r_astore (pc := 13) (lo2 := [(4, .ref q), (0, .ref (G.2.1 + 0)), (1, .int u1), (2, .int u2), (3, .ref (G.2.1 + 143))]) h (by decide) rfl dL_skip_13 ?_
      refine r_iconst (pc := 15) (v := nI 1) h (by decide) dL_skip_15 ?_
      exact V.wd (by decide) (by decide) (hret _ _ (wl_no e0 (by decide) rfl (fun _ _ _ => rfl) hi) 16 _ dL_skip_16)
    · rw [e0] at hE
      obtain rfl : E = xI := hE
      refine VT_catch h [({ startPc := 0, endPc := 10, handlerPc := 13, catchType := 29 } : ExceptionTableEntry)] ({ startPc := 0, endPc := 10, handlerPc := 17, catchType := 13 } : ExceptionTableEntry) [] (htab.trans rfl) (List.forall_mem_cons.mpr ⟨Or.inr ⟨by decide, xO, mw_22_19, hX.2.2.2.1⟩, (fun y hy => absurd hy List.not_mem_nil)⟩) rfl (by decide) mw_4_11 hX.2.1.1 (fun q => ?_)
      refine r_astore (pc := 17) (lo2 := [(4, .ref q), (0, .ref (G.2.1 + 0)), (1, .int u1), (2, .int u2), (3, .ref (G.2.1 + 143))]) h (by decide) rfl dL_skip_17 ?_
      refine r_iconst (pc := 19) (v := nI 2) h (by decide) dL_skip_19 ?_
      exact V.wd (by decide) (by decide) (hret _ _ (wl_no e0 (by decide) rfl (fun _ _ _ => rfl) hi) 20 _ dL_skip_20)
  refine r_xVi (pc := 5) (As := [.int u1, .int u2]) (st := [.int (nI 0), .ref (G.2.1 + 143)]) h hX lk_RL_58 (c_x_skip x.2.1 hst G σ n tx A m H sv sl hi u1 u2) rc_5 (by decide) rfl rfl (by first | decide | exact Nat.le_of_ble_eq_true rfl) (by decide) dL_skip_5 hkx (fun r1 s2 q3 => ?_)
  obtain ⟨k0, k1, k2, k3⟩ := q3
  subst k1
  refine r_i2l (pc := 8) (v := ((co A 107 u1 u2 (nI 0)).1).toInt64) h rfl dL_skip_8 ?_
  refine r_last (pc := 9) h a_out 0 rfl (by omega) dL_skip_9 ?_
  refine r_goto (pc := 10) (tgt := 21) h (by decide) dL_skip_10 ?_
  refine r_iconst (pc := 21) (v := nI 0) h (by decide) dL_skip_21 ?_
  exact V.wd (by decide) (by decide) (hret _ _ (wl_ok (σ2 := sL s2 143 0 (((co A 107 u1 u2 (nI 0)).1).toInt64)) k0 rfl (show ∀ q, 134 ≤ q → q < 143 → s2.1 q = σ.1 q from keepO k3 (by decide)) (sL_s _ _ _ _) (k2.o (out_sL _ 143 0 _) (by omega))) 22 _ dL_skip_22)

set_option maxRecDepth 100000 in
set_option maxHeartbeats 800000 in
theorem l_goBack (l : Launch) (hst : l.stackTraces = false) (G : Gl) (σ : Sg) (n : Nat) (tx : Nat → Nat) (A : Ab) (m : Nat) (H : Nat → Ab) (sv : Nat → Bool) (sl : Nat → Ab) (hi : InvC n tx A m H sv sl σ) (u1 : Int32) : Li l yL_goBack cL_goBack 4 [(0, 9, 12, 29)] ({ frames := 9, cells := 1, slots := 6, locals := 168 } : Room) G [.ref (G.2.1 + 0), .int u1, .ref (G.2.1 + 143)] σ (fun r σ2 => Lw [1] (ob A 122 u1 (nI 0) (nI 0)) σ σ2 (InvC n tx A m H sv sl) (InvC n tx ((co A 122 u1 (nI 0) (nI 0)).2) (pushN m) (pushH m H A) sv sl) r (((co A 122 u1 (nI 0) (nI 0)).1).toInt64)) := by
  refine Li_of rfl (by decide +kernel) (lo := [(0, .ref (G.2.1 + 0)), (1, .int u1), (2, .ref (G.2.1 + 143))]) rfl (Nat.le_of_ble_eq_true rfl) ?_
  intro x Q hxl h hX htab hret
  subst hxl
  refine r_aload_n (pc := 0) h 2 rfl rfl dL_goBack_0 ?_
  refine r_iconst (pc := 1) (v := nI 0) h (by decide) dL_goBack_1 ?_
  refine r_aload_n (pc := 2) h 0 rfl rfl dL_goBack_2 ?_
  refine r_iload_n (pc := 3) h 1 rfl rfl dL_goBack_3 ?_
  have hkx : ∀ (E : String) (s9 : Sg), (s9 = σ ∧ ob A 122 u1 (nI 0) (nI 0) ≠ 0 ∧ E = exN (ob A 122 u1 (nI 0) (nI 0))) → VT x G 4 1 6 Q s9 4 [(0, .ref (G.2.1 + 0)), (1, .int u1), (2, .ref (G.2.1 + 143))] [.int (nI 0), .ref (G.2.1 + 143)] E := by
    intro E s9 hp
    obtain ⟨e9, hC, hE⟩ := hp
    subst e9
    rcases (show ob A 122 u1 (nI 0) (nI 0) = 0 ∨ ob A 122 u1 (nI 0) (nI 0) = 1 from r_f1 _) with e0 | e0
    · exact absurd e0 hC
    · rw [e0] at hE
      obtain rfl : E = xO := hE
      refine VT_catch h [] ({ startPc := 0, endPc := 9, handlerPc := 12, catchType := 29 } : ExceptionTableEntry) [] (htab.trans rfl) (fun y hy => absurd hy List.not_mem_nil) rfl (by decide) mw_22_19 hX.2.1.2.2.1 (fun q => ?_)
      refine r_astore_n (pc := 12) (lo2 := [(3, .ref q), (0, .ref (G.2.1 + 0)), (1, .int u1), (2, .ref (G.2.1 + 143))]) h rfl (by decide) rfl dL_goBack_12 ?_
      refine r_iconst (pc := 13) (v := nI 1) h (by decide) dL_goBack_13 ?_
      exact V.wd (by decide) (by decide) (hret _ _ (wl_no e0 (by decide) rfl (fun _ _ _ => rfl) hi) 14 _ dL_goBack_14)
  refine r_xVi (pc := 4) (As := [.int u1]) (st := [.int (nI 0), .ref (G.2.1 + 143)]) h hX lk_RL_61 (c_x_goBack x.2.1 hst G σ n tx A m H sv sl hi u1) rc_5 (by decide) rfl rfl (by first | decide | exact Nat.le_of_ble_eq_true rfl) (by decide) dL_goBack_4 hkx (fun r1 s2 q3 => ?_)
  obtain ⟨k0, k1, k2, k3⟩ := q3
  subst k1
  refine r_i2l (pc := 7) (v := ((co A 122 u1 (nI 0) (nI 0)).1).toInt64) h rfl dL_goBack_7 ?_
  refine r_last (pc := 8) h a_out 0 rfl (by omega) dL_goBack_8 ?_
  refine r_goto (pc := 9) (tgt := 15) h (by decide) dL_goBack_9 ?_
  refine r_iconst (pc := 15) (v := nI 0) h (by decide) dL_goBack_15 ?_
  exact V.wd (by decide) (by decide) (hret _ _ (wl_ok (σ2 := sL s2 143 0 (((co A 122 u1 (nI 0) (nI 0)).1).toInt64)) k0 rfl (show ∀ q, 134 ≤ q → q < 143 → s2.1 q = σ.1 q from keepO k3 (by decide)) (sL_s _ _ _ _) (k2.o (out_sL _ 143 0 _) (by omega))) 16 _ dL_goBack_16)

set_option maxRecDepth 100000 in
set_option maxHeartbeats 800000 in
theorem l_stopReading (l : Launch) (hst : l.stackTraces = false) (G : Gl) (σ : Sg) (n : Nat) (tx : Nat → Nat) (A : Ab) (m : Nat) (H : Nat → Ab) (sv : Nat → Bool) (sl : Nat → Ab) (hi : InvC n tx A m H sv sl σ) (u1 : Int32) : Li l yL_stopReading cL_stopReading 4 [(0, 9, 12, 29)] ({ frames := 9, cells := 1, slots := 6, locals := 168 } : Room) G [.ref (G.2.1 + 0), .int u1, .ref (G.2.1 + 143)] σ (fun r σ2 => Lw [1] (ob A 113 u1 (nI 0) (nI 0)) σ σ2 (InvC n tx A m H sv sl) (InvC n tx ((co A 113 u1 (nI 0) (nI 0)).2) (pushN m) (pushH m H A) sv sl) r (((co A 113 u1 (nI 0) (nI 0)).1).toInt64)) := by
  refine Li_of rfl (by decide +kernel) (lo := [(0, .ref (G.2.1 + 0)), (1, .int u1), (2, .ref (G.2.1 + 143))]) rfl (Nat.le_of_ble_eq_true rfl) ?_
  intro x Q hxl h hX htab hret
  subst hxl
  refine r_aload_n (pc := 0) h 2 rfl rfl dL_stopReading_0 ?_
  refine r_iconst (pc := 1) (v := nI 0) h (by decide) dL_stopReading_1 ?_
  refine r_aload_n (pc := 2) h 0 rfl rfl dL_stopReading_2 ?_
  refine r_iload_n (pc := 3) h 1 rfl rfl dL_stopReading_3 ?_
  have hkx : ∀ (E : String) (s9 : Sg), (s9 = σ ∧ ob A 113 u1 (nI 0) (nI 0) ≠ 0 ∧ E = exN (ob A 113 u1 (nI 0) (nI 0))) → VT x G 4 1 6 Q s9 4 [(0, .ref (G.2.1 + 0)), (1, .int u1), (2, .ref (G.2.1 + 143))] [.int (nI 0), .ref (G.2.1 + 143)] E := by
    intro E s9 hp
    obtain ⟨e9, hC, hE⟩ := hp
    subst e9
    rcases (show ob A 113 u1 (nI 0) (nI 0) = 0 ∨ ob A 113 u1 (nI 0) (nI 0) = 1 from r_f1 _) with e0 | e0
    · exact absurd e0 hC
    · rw [e0] at hE
      obtain rfl : E = xO := hE
      refine VT_catch h [] ({ startPc := 0, endPc := 9, handlerPc := 12, catchType := 29 } : ExceptionTableEntry) [] (htab.trans rfl) (fun y hy => absurd hy List.not_mem_nil) rfl (by decide) mw_22_19 hX.2.1.2.2.1 (fun q => ?_)
      refine r_astore_n (pc := 12) (lo2 := [(3, .ref q), (0, .ref (G.2.1 + 0)), (1, .int u1), (2, .ref (G.2.1 + 143))]) h rfl (by decide) rfl dL_stopReading_12 ?_
      refine r_iconst (pc := 13) (v := nI 1) h (by decide) dL_stopReading_13 ?_
      exact V.wd (by decide) (by decide) (hret _ _ (wl_no e0 (by decide) rfl (fun _ _ _ => rfl) hi) 14 _ dL_stopReading_14)
  refine r_xVi (pc := 4) (As := [.int u1]) (st := [.int (nI 0), .ref (G.2.1 + 143)]) h hX lk_RL_64 (c_x_stopReading x.2.1 hst G σ n tx A m H sv sl hi u1) rc_5 (by decide) rfl rfl (by first | decide | exact Nat.le_of_ble_eq_true rfl) (by decide) dL_stopReading_4 hkx (fun r1 s2 q3 => ?_)
  obtain ⟨k0, k1, k2, k3⟩ := q3
  subst k1
  refine r_i2l (pc := 7) (v := ((co A 113 u1 (nI 0) (nI 0)).1).toInt64) h rfl dL_stopReading_7 ?_
  refine r_last (pc := 8) h a_out 0 rfl (by omega) dL_stopReading_8 ?_
  refine r_goto (pc := 9) (tgt := 15) h (by decide) dL_stopReading_9 ?_
  refine r_iconst (pc := 15) (v := nI 0) h (by decide) dL_stopReading_15 ?_
  exact V.wd (by decide) (by decide) (hret _ _ (wl_ok (σ2 := sL s2 143 0 (((co A 113 u1 (nI 0) (nI 0)).1).toInt64)) k0 rfl (show ∀ q, 134 ≤ q → q < 143 → s2.1 q = σ.1 q from keepO k3 (by decide)) (sL_s _ _ _ _) (k2.o (out_sL _ 143 0 _) (by omega))) 16 _ dL_stopReading_16)

set_option maxRecDepth 100000 in
set_option maxHeartbeats 800000 in
theorem l_undo (l : Launch) (hst : l.stackTraces = false) (G : Gl) (σ : Sg) (n : Nat) (tx : Nat → Nat) (A : Ab) (m : Nat) (H : Nat → Ab) (sv : Nat → Bool) (sl : Nat → Ab) (hi : InvC n tx A m H sv sl σ) : Li l yL_undo cL_undo 3 [(0, 8, 11, 15)] ({ frames := 7, cells := 1, slots := 6, locals := 143 } : Room) G [.ref (G.2.1 + 0), .ref (G.2.1 + 143)] σ (fun r σ2 => Lw [3] (cB (decide (m ≠ 0)) 3) σ σ2 (InvC n tx A m H sv sl) (InvC n tx (H (m - 1)) (m - 1) H sv sl) r ((nI (m - 1)).toInt64)) := by
  refine Li_of rfl (by decide +kernel) (lo := [(0, .ref (G.2.1 + 0)), (1, .ref (G.2.1 + 143))]) rfl (Nat.le_of_ble_eq_true rfl) ?_
  intro x Q hxl h hX htab hret
  subst hxl
  refine r_aload_n (pc := 0) h 1 rfl rfl dL_undo_0 ?_
  refine r_iconst (pc := 1) (v := nI 0) h (by decide) dL_undo_1 ?_
  refine r_aload_n (pc := 2) h 0 rfl rfl dL_undo_2 ?_
  have hkx : ∀ (E : String) (s9 : Sg), (s9 = σ ∧ cB (decide (m ≠ 0)) 3 ≠ 0 ∧ E = exN (cB (decide (m ≠ 0)) 3)) → VT x G 3 1 6 Q s9 3 [(0, .ref (G.2.1 + 0)), (1, .ref (G.2.1 + 143))] [.int (nI 0), .ref (G.2.1 + 143)] E := by
    intro E s9 hp
    obtain ⟨e9, hC, hE⟩ := hp
    subst e9
    rcases (show cB (decide (m ≠ 0)) 3 = 0 ∨ cB (decide (m ≠ 0)) 3 = 3 from r_cB _ _) with e0 | e0
    · exact absurd e0 hC
    · rw [e0] at hE
      obtain rfl : E = xS := hE
      refine VT_catch h [] ({ startPc := 0, endPc := 8, handlerPc := 11, catchType := 15 } : ExceptionTableEntry) [] (htab.trans rfl) (fun y hy => absurd hy List.not_mem_nil) rfl (by decide) mw_4_12 hX.2.1.2.1 (fun q => ?_)
      refine r_astore_n (pc := 11) (lo2 := [(2, .ref q), (0, .ref (G.2.1 + 0)), (1, .ref (G.2.1 + 143))]) h rfl (by decide) rfl dL_undo_11 ?_
      refine r_iconst (pc := 12) (v := nI 1) h (by decide) dL_undo_12 ?_
      exact V.wd (by decide) (by decide) (hret _ _ (wl_no e0 (by decide) rfl (fun _ _ _ => rfl) hi) 13 _ dL_undo_13)
  refine r_xVi (pc := 3) (As := []) (st := [.int (nI 0), .ref (G.2.1 + 143)]) h hX lk_RL_67 (c_x_undo x.2.1 hst G σ n tx A m H sv sl hi) rc_5 (by decide) rfl rfl (by first | decide | exact Nat.le_of_ble_eq_true rfl) (by decide) dL_undo_3 hkx (fun r1 s2 q3 => ?_)
  obtain ⟨k0, k1, k2, k3⟩ := q3
  subst k1
  refine r_i2l (pc := 6) (v := (nI (m - 1)).toInt64) h rfl dL_undo_6 ?_
  refine r_last (pc := 7) h a_out 0 rfl (by omega) dL_undo_7 ?_
  refine r_goto (pc := 8) (tgt := 14) h (by decide) dL_undo_8 ?_
  refine r_iconst (pc := 14) (v := nI 0) h (by decide) dL_undo_14 ?_
  exact V.wd (by decide) (by decide) (hret _ _ (wl_ok (σ2 := sL s2 143 0 ((nI (m - 1)).toInt64)) k0 rfl (show ∀ q, 134 ≤ q → q < 143 → s2.1 q = σ.1 q from keepO k3 (by decide)) (sL_s _ _ _ _) (k2.o (out_sL _ 143 0 _) (by omega))) 15 _ dL_undo_15)

set_option maxRecDepth 100000 in
set_option maxHeartbeats 800000 in
theorem l_isMember (l : Launch) (hst : l.stackTraces = false) (G : Gl) (σ : Sg) (n : Nat) (tx : Nat → Nat) (A : Ab) (m : Nat) (H : Nat → Ab) (sv : Nat → Bool) (sl : Nat → Ab) (hi : InvC n tx A m H sv sl σ) (u1 : Int32) (u2 : Int32) : Li l yL_isMember cL_isMember 5 [(0, 17, 20, 29), (0, 17, 24, 13)] ({ frames := 8, cells := 2, slots := 12, locals := 134 } : Room) G [.ref (G.2.1 + 0), .int u1, .int u2, .ref (G.2.1 + 143)] σ (fun r σ2 => Lw [1, 2] (seqC (cB (liB A u1) 1) (cB (inB (nI 0) (nI 999) u2) 2)) σ σ2 (InvC n tx A m H sv sl) (InvC n tx A m H sv sl) r (bL (mem (aU A) (toN u1) (toN u2)))) := by
  refine Li_of rfl (by decide +kernel) (lo := [(0, .ref (G.2.1 + 0)), (1, .int u1), (2, .int u2), (3, .ref (G.2.1 + 143))]) rfl (Nat.le_of_ble_eq_true rfl) ?_
  intro x Q hxl h hX htab hret
  subst hxl
  refine r_aload_n (pc := 0) h 3 rfl rfl dL_isMember_0 ?_
  refine r_iconst (pc := 1) (v := nI 0) h (by decide) dL_isMember_1 ?_
  refine r_aload_n (pc := 2) h 0 rfl rfl dL_isMember_2 ?_
  refine r_iload_n (pc := 3) h 1 rfl rfl dL_isMember_3 ?_
  refine r_iload_n (pc := 4) h 2 rfl rfl dL_isMember_4 ?_
  have hkx : ∀ (E : String) (s9 : Sg), (s9 = σ ∧ seqC (cB (liB A u1) 1) (cB (inB (nI 0) (nI 999) u2) 2) ≠ 0 ∧ E = exN (seqC (cB (liB A u1) 1) (cB (inB (nI 0) (nI 999) u2) 2))) → VT x G 5 2 12 Q s9 5 [(0, .ref (G.2.1 + 0)), (1, .int u1), (2, .int u2), (3, .ref (G.2.1 + 143))] [.int (nI 0), .ref (G.2.1 + 143)] E := by
    intro E s9 hp
    obtain ⟨e9, hC, hE⟩ := hp
    subst e9
    rcases (show seqC (cB (liB A u1) 1) (cB (inB (nI 0) (nI 999) u2) 2) = 0 ∨ seqC (cB (liB A u1) 1) (cB (inB (nI 0) (nI 999) u2) 2) = 1 ∨ seqC (cB (liB A u1) 1) (cB (inB (nI 0) (nI 999) u2) 2) = 2 from r_seq _ _ _ _) with e0 | e0 | e0
    · exact absurd e0 hC
    · rw [e0] at hE
      obtain rfl : E = xO := hE
      refine VT_catch h [] ({ startPc := 0, endPc := 17, handlerPc := 20, catchType := 29 } : ExceptionTableEntry) [({ startPc := 0, endPc := 17, handlerPc := 24, catchType := 13 } : ExceptionTableEntry)] (htab.trans rfl) (fun y hy => absurd hy List.not_mem_nil) rfl (by decide) mw_22_19 hX.2.1.2.2.1 (fun q => ?_)
      refine r_astore (pc := 20) (lo2 := [(4, .ref q), (0, .ref (G.2.1 + 0)), (1, .int u1), (2, .int u2), (3, .ref (G.2.1 + 143))]) h (by decide) rfl dL_isMember_20 ?_
      refine r_iconst (pc := 22) (v := nI 1) h (by decide) dL_isMember_22 ?_
      exact V.wd (by decide) (by decide) (hret _ _ (wl_no e0 (by decide) rfl (fun _ _ _ => rfl) hi) 23 _ dL_isMember_23)
    · rw [e0] at hE
      obtain rfl : E = xI := hE
      refine VT_catch h [({ startPc := 0, endPc := 17, handlerPc := 20, catchType := 29 } : ExceptionTableEntry)] ({ startPc := 0, endPc := 17, handlerPc := 24, catchType := 13 } : ExceptionTableEntry) [] (htab.trans rfl) (List.forall_mem_cons.mpr ⟨Or.inr ⟨by decide, xO, mw_22_19, hX.2.2.2.1⟩, (fun y hy => absurd hy List.not_mem_nil)⟩) rfl (by decide) mw_4_11 hX.2.1.1 (fun q => ?_)
      refine r_astore (pc := 24) (lo2 := [(4, .ref q), (0, .ref (G.2.1 + 0)), (1, .int u1), (2, .int u2), (3, .ref (G.2.1 + 143))]) h (by decide) rfl dL_isMember_24 ?_
      refine r_iconst (pc := 26) (v := nI 2) h (by decide) dL_isMember_26 ?_
      exact V.wd (by decide) (by decide) (hret _ _ (wl_no e0 (by decide) rfl (fun _ _ _ => rfl) hi) 27 _ dL_isMember_27)
  refine r_xVi (pc := 5) (As := [.int u1, .int u2]) (st := [.int (nI 0), .ref (G.2.1 + 143)]) h hX lk_RL_70 (c_x_isMember x.2.1 hst G σ A hi.2.1 u1 u2) rc_5 (by decide) rfl rfl (by first | decide | exact Nat.le_of_ble_eq_true rfl) (by decide) dL_isMember_5 hkx (fun r1 s2 q3 => ?_)
  obtain ⟨k0, k1, k2⟩ := q3
  rw [k1, k2]
  refine r_if_eq (pc := 8) (tgt := 15) h (by decide) dL_isMember_8 (fun c8 => ?_) (fun c8 => ?_)
  · skip
    replace c8 := zB_0.mp c8
    refine r_lconst (pc := 15) (v := 0) h (by decide) dL_isMember_15 ?_
    refine r_last (pc := 16) h a_out 0 rfl (by omega) dL_isMember_16 ?_
    refine r_goto (pc := 17) (tgt := 28) h (by decide) dL_isMember_17 ?_
    refine r_iconst (pc := 28) (v := nI 0) h (by decide) dL_isMember_28 ?_
    exact V.wd (by decide) (by decide) (hret _ _ (wl_ok (σ2 := sL σ 143 0 0) k0 rfl (fun _ _ _ => rfl) ((sL_s _ _ _ _).trans (by rw [c8]; rfl)) (hi.o (out_sL _ 143 0 _) (by omega))) 29 _ dL_isMember_29)
  · skip
    replace c8 := zB_n0.mp c8
    refine r_lconst (pc := 11) (v := 1) h (by decide) dL_isMember_11 ?_
    refine r_goto (pc := 12) (tgt := 16) h (by decide) dL_isMember_12 ?_
    refine r_last (pc := 16) h a_out 0 rfl (by omega) dL_isMember_16 ?_
    refine r_goto (pc := 17) (tgt := 28) h (by decide) dL_isMember_17 ?_
    refine r_iconst (pc := 28) (v := nI 0) h (by decide) dL_isMember_28 ?_
    exact V.wd (by decide) (by decide) (hret _ _ (wl_ok (σ2 := sL σ 143 0 1) k0 rfl (fun _ _ _ => rfl) ((sL_s _ _ _ _).trans (by rw [c8]; rfl)) (hi.o (out_sL _ 143 0 _) (by omega))) 29 _ dL_isMember_29)

set_option maxRecDepth 100000 in
set_option maxHeartbeats 800000 in
theorem l_memberByReading (l : Launch) (hst : l.stackTraces = false) (G : Gl) (σ : Sg) (n : Nat) (tx : Nat → Nat) (A : Ab) (m : Nat) (H : Nat → Ab) (sv : Nat → Bool) (sl : Nat → Ab) (hi : InvC n tx A m H sv sl σ) (u1 : Int32) (u2 : Int32) : Li l yL_memberByReading cL_memberByReading 5 [(0, 10, 13, 29)] ({ frames := 8, cells := 2, slots := 12, locals := 133 } : Room) G [.ref (G.2.1 + 0), .int u1, .int u2, .ref (G.2.1 + 143)] σ (fun r σ2 => Lw [1] (seqC (cB (liB A u1) 1) (cB (decide (0 ≤ u2)) 1)) σ σ2 (InvC n tx A m H sv sl) (InvC n tx A m H sv sl) r ((oI (ath (mem (aU A) (toN u1)) (toN u2))).toInt64)) := by
  refine Li_of rfl (by decide +kernel) (lo := [(0, .ref (G.2.1 + 0)), (1, .int u1), (2, .int u2), (3, .ref (G.2.1 + 143))]) rfl (Nat.le_of_ble_eq_true rfl) ?_
  intro x Q hxl h hX htab hret
  subst hxl
  refine r_aload_n (pc := 0) h 3 rfl rfl dL_memberByReading_0 ?_
  refine r_iconst (pc := 1) (v := nI 0) h (by decide) dL_memberByReading_1 ?_
  refine r_aload_n (pc := 2) h 0 rfl rfl dL_memberByReading_2 ?_
  refine r_iload_n (pc := 3) h 1 rfl rfl dL_memberByReading_3 ?_
  refine r_iload_n (pc := 4) h 2 rfl rfl dL_memberByReading_4 ?_
  have hkx : ∀ (E : String) (s9 : Sg), (s9 = σ ∧ seqC (cB (liB A u1) 1) (cB (decide (0 ≤ u2)) 1) ≠ 0 ∧ E = exN (seqC (cB (liB A u1) 1) (cB (decide (0 ≤ u2)) 1))) → VT x G 5 2 12 Q s9 5 [(0, .ref (G.2.1 + 0)), (1, .int u1), (2, .int u2), (3, .ref (G.2.1 + 143))] [.int (nI 0), .ref (G.2.1 + 143)] E := by
    intro E s9 hp
    obtain ⟨e9, hC, hE⟩ := hp
    subst e9
    rcases (show seqC (cB (liB A u1) 1) (cB (decide (0 ≤ u2)) 1) = 0 ∨ seqC (cB (liB A u1) 1) (cB (decide (0 ≤ u2)) 1) = 1 from r_seq1 _ _ _) with e0 | e0
    · exact absurd e0 hC
    · rw [e0] at hE
      obtain rfl : E = xO := hE
      refine VT_catch h [] ({ startPc := 0, endPc := 10, handlerPc := 13, catchType := 29 } : ExceptionTableEntry) [] (htab.trans rfl) (fun y hy => absurd hy List.not_mem_nil) rfl (by decide) mw_22_19 hX.2.1.2.2.1 (fun q => ?_)
      refine r_astore (pc := 13) (lo2 := [(4, .ref q), (0, .ref (G.2.1 + 0)), (1, .int u1), (2, .int u2), (3, .ref (G.2.1 + 143))]) h (by decide) rfl dL_memberByReading_13 ?_
      refine r_iconst (pc := 15) (v := nI 1) h (by decide) dL_memberByReading_15 ?_
      exact V.wd (by decide) (by decide) (hret _ _ (wl_no e0 (by decide) rfl (fun _ _ _ => rfl) hi) 16 _ dL_memberByReading_16)
  refine r_xVi (pc := 5) (As := [.int u1, .int u2]) (st := [.int (nI 0), .ref (G.2.1 + 143)]) h hX lk_RL_74 (c_x_memberByReading x.2.1 hst G σ A hi.2.1 u1 u2) rc_5 (by decide) rfl rfl (by first | decide | exact Nat.le_of_ble_eq_true rfl) (by decide) dL_memberByReading_5 hkx (fun r1 s2 q3 => ?_)
  obtain ⟨k0, k1, k2⟩ := q3
  rw [k1, k2]
  refine r_i2l (pc := 8) (v := (oI (ath (mem (aU A) (toN u1)) (toN u2))).toInt64) h rfl dL_memberByReading_8 ?_
  refine r_last (pc := 9) h a_out 0 rfl (by omega) dL_memberByReading_9 ?_
  refine r_goto (pc := 10) (tgt := 17) h (by decide) dL_memberByReading_10 ?_
  refine r_iconst (pc := 17) (v := nI 0) h (by decide) dL_memberByReading_17 ?_
  exact V.wd (by decide) (by decide) (hret _ _ (wl_ok (σ2 := sL σ 143 0 ((oI (ath (mem (aU A) (toN u1)) (toN u2))).toInt64)) k0 rfl (fun _ _ _ => rfl) (sL_s _ _ _ _) (hi.o (out_sL _ 143 0 _) (by omega))) 18 _ dL_memberByReading_18)

set_option maxRecDepth 100000 in
set_option maxHeartbeats 800000 in
theorem l_memberByTesting (l : Launch) (hst : l.stackTraces = false) (G : Gl) (σ : Sg) (n : Nat) (tx : Nat → Nat) (A : Ab) (m : Nat) (H : Nat → Ab) (sv : Nat → Bool) (sl : Nat → Ab) (hi : InvC n tx A m H sv sl σ) (u1 : Int32) (u2 : Int32) : Li l yL_memberByTesting cL_memberByTesting 5 [(0, 10, 13, 29)] ({ frames := 8, cells := 2, slots := 12, locals := 133 } : Room) G [.ref (G.2.1 + 0), .int u1, .int u2, .ref (G.2.1 + 143)] σ (fun r σ2 => Lw [1] (seqC (cB (liB A u1) 1) (cB (decide (0 ≤ u2)) 1)) σ σ2 (InvC n tx A m H sv sl) (InvC n tx A m H sv sl) r ((oI (ath (mem (aU A) (toN u1)) (toN u2))).toInt64)) := by
  refine Li_of rfl (by decide +kernel) (lo := [(0, .ref (G.2.1 + 0)), (1, .int u1), (2, .int u2), (3, .ref (G.2.1 + 143))]) rfl (Nat.le_of_ble_eq_true rfl) ?_
  intro x Q hxl h hX htab hret
  subst hxl
  refine r_aload_n (pc := 0) h 3 rfl rfl dL_memberByTesting_0 ?_
  refine r_iconst (pc := 1) (v := nI 0) h (by decide) dL_memberByTesting_1 ?_
  refine r_aload_n (pc := 2) h 0 rfl rfl dL_memberByTesting_2 ?_
  refine r_iload_n (pc := 3) h 1 rfl rfl dL_memberByTesting_3 ?_
  refine r_iload_n (pc := 4) h 2 rfl rfl dL_memberByTesting_4 ?_
  have hkx : ∀ (E : String) (s9 : Sg), (s9 = σ ∧ seqC (cB (liB A u1) 1) (cB (decide (0 ≤ u2)) 1) ≠ 0 ∧ E = exN (seqC (cB (liB A u1) 1) (cB (decide (0 ≤ u2)) 1))) → VT x G 5 2 12 Q s9 5 [(0, .ref (G.2.1 + 0)), (1, .int u1), (2, .int u2), (3, .ref (G.2.1 + 143))] [.int (nI 0), .ref (G.2.1 + 143)] E := by
    intro E s9 hp
    obtain ⟨e9, hC, hE⟩ := hp
    subst e9
    rcases (show seqC (cB (liB A u1) 1) (cB (decide (0 ≤ u2)) 1) = 0 ∨ seqC (cB (liB A u1) 1) (cB (decide (0 ≤ u2)) 1) = 1 from r_seq1 _ _ _) with e0 | e0
    · exact absurd e0 hC
    · rw [e0] at hE
      obtain rfl : E = xO := hE
      refine VT_catch h [] ({ startPc := 0, endPc := 10, handlerPc := 13, catchType := 29 } : ExceptionTableEntry) [] (htab.trans rfl) (fun y hy => absurd hy List.not_mem_nil) rfl (by decide) mw_22_19 hX.2.1.2.2.1 (fun q => ?_)
      refine r_astore (pc := 13) (lo2 := [(4, .ref q), (0, .ref (G.2.1 + 0)), (1, .int u1), (2, .int u2), (3, .ref (G.2.1 + 143))]) h (by decide) rfl dL_memberByTesting_13 ?_
      refine r_iconst (pc := 15) (v := nI 1) h (by decide) dL_memberByTesting_15 ?_
      exact V.wd (by decide) (by decide) (hret _ _ (wl_no e0 (by decide) rfl (fun _ _ _ => rfl) hi) 16 _ dL_memberByTesting_16)
  refine r_xVi (pc := 5) (As := [.int u1, .int u2]) (st := [.int (nI 0), .ref (G.2.1 + 143)]) h hX lk_RL_77 (c_x_memberByTesting x.2.1 hst G σ A hi.2.1 u1 u2) rc_5 (by decide) rfl rfl (by first | decide | exact Nat.le_of_ble_eq_true rfl) (by decide) dL_memberByTesting_5 hkx (fun r1 s2 q3 => ?_)
  obtain ⟨k0, k1, k2⟩ := q3
  rw [k1, k2]
  refine r_i2l (pc := 8) (v := (oI (ath (mem (aU A) (toN u1)) (toN u2))).toInt64) h rfl dL_memberByTesting_8 ?_
  refine r_last (pc := 9) h a_out 0 rfl (by omega) dL_memberByTesting_9 ?_
  refine r_goto (pc := 10) (tgt := 17) h (by decide) dL_memberByTesting_10 ?_
  refine r_iconst (pc := 17) (v := nI 0) h (by decide) dL_memberByTesting_17 ?_
  exact V.wd (by decide) (by decide) (hret _ _ (wl_ok (σ2 := sL σ 143 0 ((oI (ath (mem (aU A) (toN u1)) (toN u2))).toInt64)) k0 rfl (fun _ _ _ => rfl) (sL_s _ _ _ _) (hi.o (out_sL _ 143 0 _) (by omega))) 18 _ dL_memberByTesting_18)

set_option maxRecDepth 100000 in
set_option maxHeartbeats 800000 in
theorem l_placeOf (l : Launch) (hst : l.stackTraces = false) (G : Gl) (σ : Sg) (n : Nat) (tx : Nat → Nat) (A : Ab) (m : Nat) (H : Nat → Ab) (sv : Nat → Bool) (sl : Nat → Ab) (hi : InvC n tx A m H sv sl σ) (u1 : Int32) (u2 : Int32) : Li l yL_placeOf cL_placeOf 5 [(0, 10, 13, 29), (0, 10, 17, 13)] ({ frames := 8, cells := 2, slots := 12, locals := 134 } : Room) G [.ref (G.2.1 + 0), .int u1, .int u2, .ref (G.2.1 + 143)] σ (fun r σ2 => Lw [1, 2] (seqC (cB (liB A u1) 1) (cB (inB (nI 0) (nI 999) u2) 2)) σ σ2 (InvC n tx A m H sv sl) (InvC n tx A m H sv sl) r ((if mem (aU A) (toN u1) (toN u2) then nI (cS (mem (aU A) (toN u1)) ((toN u2) + 1) - 1) else -1).toInt64)) := by
  refine Li_of rfl (by decide +kernel) (lo := [(0, .ref (G.2.1 + 0)), (1, .int u1), (2, .int u2), (3, .ref (G.2.1 + 143))]) rfl (Nat.le_of_ble_eq_true rfl) ?_
  intro x Q hxl h hX htab hret
  subst hxl
  refine r_aload_n (pc := 0) h 3 rfl rfl dL_placeOf_0 ?_
  refine r_iconst (pc := 1) (v := nI 0) h (by decide) dL_placeOf_1 ?_
  refine r_aload_n (pc := 2) h 0 rfl rfl dL_placeOf_2 ?_
  refine r_iload_n (pc := 3) h 1 rfl rfl dL_placeOf_3 ?_
  refine r_iload_n (pc := 4) h 2 rfl rfl dL_placeOf_4 ?_
  have hkx : ∀ (E : String) (s9 : Sg), (s9 = σ ∧ seqC (cB (liB A u1) 1) (cB (inB (nI 0) (nI 999) u2) 2) ≠ 0 ∧ E = exN (seqC (cB (liB A u1) 1) (cB (inB (nI 0) (nI 999) u2) 2))) → VT x G 5 2 12 Q s9 5 [(0, .ref (G.2.1 + 0)), (1, .int u1), (2, .int u2), (3, .ref (G.2.1 + 143))] [.int (nI 0), .ref (G.2.1 + 143)] E := by
    intro E s9 hp
    obtain ⟨e9, hC, hE⟩ := hp
    subst e9
    rcases (show seqC (cB (liB A u1) 1) (cB (inB (nI 0) (nI 999) u2) 2) = 0 ∨ seqC (cB (liB A u1) 1) (cB (inB (nI 0) (nI 999) u2) 2) = 1 ∨ seqC (cB (liB A u1) 1) (cB (inB (nI 0) (nI 999) u2) 2) = 2 from r_seq _ _ _ _) with e0 | e0 | e0
    · exact absurd e0 hC
    · rw [e0] at hE
      obtain rfl : E = xO := hE
      refine VT_catch h [] ({ startPc := 0, endPc := 10, handlerPc := 13, catchType := 29 } : ExceptionTableEntry) [({ startPc := 0, endPc := 10, handlerPc := 17, catchType := 13 } : ExceptionTableEntry)] (htab.trans rfl) (fun y hy => absurd hy List.not_mem_nil) rfl (by decide) mw_22_19 hX.2.1.2.2.1 (fun q => ?_)
      refine r_astore (pc := 13) (lo2 := [(4, .ref q), (0, .ref (G.2.1 + 0)), (1, .int u1), (2, .int u2), (3, .ref (G.2.1 + 143))]) h (by decide) rfl dL_placeOf_13 ?_
      refine r_iconst (pc := 15) (v := nI 1) h (by decide) dL_placeOf_15 ?_
      exact V.wd (by decide) (by decide) (hret _ _ (wl_no e0 (by decide) rfl (fun _ _ _ => rfl) hi) 16 _ dL_placeOf_16)
    · rw [e0] at hE
      obtain rfl : E = xI := hE
      refine VT_catch h [({ startPc := 0, endPc := 10, handlerPc := 13, catchType := 29 } : ExceptionTableEntry)] ({ startPc := 0, endPc := 10, handlerPc := 17, catchType := 13 } : ExceptionTableEntry) [] (htab.trans rfl) (List.forall_mem_cons.mpr ⟨Or.inr ⟨by decide, xO, mw_22_19, hX.2.2.2.1⟩, (fun y hy => absurd hy List.not_mem_nil)⟩) rfl (by decide) mw_4_11 hX.2.1.1 (fun q => ?_)
      refine r_astore (pc := 17) (lo2 := [(4, .ref q), (0, .ref (G.2.1 + 0)), (1, .int u1), (2, .int u2), (3, .ref (G.2.1 + 143))]) h (by decide) rfl dL_placeOf_17 ?_
      refine r_iconst (pc := 19) (v := nI 2) h (by decide) dL_placeOf_19 ?_
      exact V.wd (by decide) (by decide) (hret _ _ (wl_no e0 (by decide) rfl (fun _ _ _ => rfl) hi) 20 _ dL_placeOf_20)
  refine r_xVi (pc := 5) (As := [.int u1, .int u2]) (st := [.int (nI 0), .ref (G.2.1 + 143)]) h hX lk_RL_80 (c_x_placeOf x.2.1 hst G σ A hi.2.1 u1 u2) rc_5 (by decide) rfl rfl (by first | decide | exact Nat.le_of_ble_eq_true rfl) (by decide) dL_placeOf_5 hkx (fun r1 s2 q3 => ?_)
  obtain ⟨k0, k1, k2⟩ := q3
  rw [k1, k2]
  refine r_i2l (pc := 8) (v := (if mem (aU A) (toN u1) (toN u2) then nI (cS (mem (aU A) (toN u1)) ((toN u2) + 1) - 1) else -1).toInt64) h rfl dL_placeOf_8 ?_
  refine r_last (pc := 9) h a_out 0 rfl (by omega) dL_placeOf_9 ?_
  refine r_goto (pc := 10) (tgt := 21) h (by decide) dL_placeOf_10 ?_
  refine r_iconst (pc := 21) (v := nI 0) h (by decide) dL_placeOf_21 ?_
  exact V.wd (by decide) (by decide) (hret _ _ (wl_ok (σ2 := sL σ 143 0 ((if mem (aU A) (toN u1) (toN u2) then nI (cS (mem (aU A) (toN u1)) ((toN u2) + 1) - 1) else -1).toInt64)) k0 rfl (fun _ _ _ => rfl) (sL_s _ _ _ _) (hi.o (out_sL _ 143 0 _) (by omega))) 22 _ dL_placeOf_22)

set_option maxRecDepth 100000 in
set_option maxHeartbeats 800000 in
theorem l_membersUpTo (l : Launch) (hst : l.stackTraces = false) (G : Gl) (σ : Sg) (n : Nat) (tx : Nat → Nat) (A : Ab) (m : Nat) (H : Nat → Ab) (sv : Nat → Bool) (sl : Nat → Ab) (hi : InvC n tx A m H sv sl σ) (u1 : Int32) (u2 : Int32) : Li l yL_membersUpTo cL_membersUpTo 5 [(0, 10, 13, 29), (0, 10, 17, 13)] ({ frames := 8, cells := 2, slots := 12, locals := 134 } : Room) G [.ref (G.2.1 + 0), .int u1, .int u2, .ref (G.2.1 + 143)] σ (fun r σ2 => Lw [1, 2] (seqC (cB (liB A u1) 1) (cB (inB (nI 0) (nI 999) u2) 2)) σ σ2 (InvC n tx A m H sv sl) (InvC n tx A m H sv sl) r ((nI (cS (mem (aU A) (toN u1)) ((toN u2) + 1))).toInt64)) := by
  refine Li_of rfl (by decide +kernel) (lo := [(0, .ref (G.2.1 + 0)), (1, .int u1), (2, .int u2), (3, .ref (G.2.1 + 143))]) rfl (Nat.le_of_ble_eq_true rfl) ?_
  intro x Q hxl h hX htab hret
  subst hxl
  refine r_aload_n (pc := 0) h 3 rfl rfl dL_membersUpTo_0 ?_
  refine r_iconst (pc := 1) (v := nI 0) h (by decide) dL_membersUpTo_1 ?_
  refine r_aload_n (pc := 2) h 0 rfl rfl dL_membersUpTo_2 ?_
  refine r_iload_n (pc := 3) h 1 rfl rfl dL_membersUpTo_3 ?_
  refine r_iload_n (pc := 4) h 2 rfl rfl dL_membersUpTo_4 ?_
  have hkx : ∀ (E : String) (s9 : Sg), (s9 = σ ∧ seqC (cB (liB A u1) 1) (cB (inB (nI 0) (nI 999) u2) 2) ≠ 0 ∧ E = exN (seqC (cB (liB A u1) 1) (cB (inB (nI 0) (nI 999) u2) 2))) → VT x G 5 2 12 Q s9 5 [(0, .ref (G.2.1 + 0)), (1, .int u1), (2, .int u2), (3, .ref (G.2.1 + 143))] [.int (nI 0), .ref (G.2.1 + 143)] E := by
    intro E s9 hp
    obtain ⟨e9, hC, hE⟩ := hp
    subst e9
    rcases (show seqC (cB (liB A u1) 1) (cB (inB (nI 0) (nI 999) u2) 2) = 0 ∨ seqC (cB (liB A u1) 1) (cB (inB (nI 0) (nI 999) u2) 2) = 1 ∨ seqC (cB (liB A u1) 1) (cB (inB (nI 0) (nI 999) u2) 2) = 2 from r_seq _ _ _ _) with e0 | e0 | e0
    · exact absurd e0 hC
    · rw [e0] at hE
      obtain rfl : E = xO := hE
      refine VT_catch h [] ({ startPc := 0, endPc := 10, handlerPc := 13, catchType := 29 } : ExceptionTableEntry) [({ startPc := 0, endPc := 10, handlerPc := 17, catchType := 13 } : ExceptionTableEntry)] (htab.trans rfl) (fun y hy => absurd hy List.not_mem_nil) rfl (by decide) mw_22_19 hX.2.1.2.2.1 (fun q => ?_)
      refine r_astore (pc := 13) (lo2 := [(4, .ref q), (0, .ref (G.2.1 + 0)), (1, .int u1), (2, .int u2), (3, .ref (G.2.1 + 143))]) h (by decide) rfl dL_membersUpTo_13 ?_
      refine r_iconst (pc := 15) (v := nI 1) h (by decide) dL_membersUpTo_15 ?_
      exact V.wd (by decide) (by decide) (hret _ _ (wl_no e0 (by decide) rfl (fun _ _ _ => rfl) hi) 16 _ dL_membersUpTo_16)
    · rw [e0] at hE
      obtain rfl : E = xI := hE
      refine VT_catch h [({ startPc := 0, endPc := 10, handlerPc := 13, catchType := 29 } : ExceptionTableEntry)] ({ startPc := 0, endPc := 10, handlerPc := 17, catchType := 13 } : ExceptionTableEntry) [] (htab.trans rfl) (List.forall_mem_cons.mpr ⟨Or.inr ⟨by decide, xO, mw_22_19, hX.2.2.2.1⟩, (fun y hy => absurd hy List.not_mem_nil)⟩) rfl (by decide) mw_4_11 hX.2.1.1 (fun q => ?_)
      refine r_astore (pc := 17) (lo2 := [(4, .ref q), (0, .ref (G.2.1 + 0)), (1, .int u1), (2, .int u2), (3, .ref (G.2.1 + 143))]) h (by decide) rfl dL_membersUpTo_17 ?_
      refine r_iconst (pc := 19) (v := nI 2) h (by decide) dL_membersUpTo_19 ?_
      exact V.wd (by decide) (by decide) (hret _ _ (wl_no e0 (by decide) rfl (fun _ _ _ => rfl) hi) 20 _ dL_membersUpTo_20)
  refine r_xVi (pc := 5) (As := [.int u1, .int u2]) (st := [.int (nI 0), .ref (G.2.1 + 143)]) h hX lk_RL_83 (c_x_membersUpTo x.2.1 hst G σ A hi.2.1 u1 u2) rc_5 (by decide) rfl rfl (by first | decide | exact Nat.le_of_ble_eq_true rfl) (by decide) dL_membersUpTo_5 hkx (fun r1 s2 q3 => ?_)
  obtain ⟨k0, k1, k2⟩ := q3
  rw [k1, k2]
  refine r_i2l (pc := 8) (v := (nI (cS (mem (aU A) (toN u1)) ((toN u2) + 1))).toInt64) h rfl dL_membersUpTo_8 ?_
  refine r_last (pc := 9) h a_out 0 rfl (by omega) dL_membersUpTo_9 ?_
  refine r_goto (pc := 10) (tgt := 21) h (by decide) dL_membersUpTo_10 ?_
  refine r_iconst (pc := 21) (v := nI 0) h (by decide) dL_membersUpTo_21 ?_
  exact V.wd (by decide) (by decide) (hret _ _ (wl_ok (σ2 := sL σ 143 0 ((nI (cS (mem (aU A) (toN u1)) ((toN u2) + 1))).toInt64)) k0 rfl (fun _ _ _ => rfl) (sL_s _ _ _ _) (hi.o (out_sL _ 143 0 _) (by omega))) 22 _ dL_membersUpTo_22)

set_option maxRecDepth 100000 in
set_option maxHeartbeats 800000 in
theorem l_lastMember (l : Launch) (hst : l.stackTraces = false) (G : Gl) (σ : Sg) (n : Nat) (tx : Nat → Nat) (A : Ab) (m : Nat) (H : Nat → Ab) (sv : Nat → Bool) (sl : Nat → Ab) (hi : InvC n tx A m H sv sl σ) (u1 : Int32) : Li l yL_lastMember cL_lastMember 4 [(0, 9, 12, 29)] ({ frames := 8, cells := 1, slots := 6, locals := 132 } : Room) G [.ref (G.2.1 + 0), .int u1, .ref (G.2.1 + 143)] σ (fun r σ2 => Lw [1] (cB (liB A u1) 1) σ σ2 (InvC n tx A m H sv sl) (InvC n tx A m H sv sl) r ((oI (lstB (mem (aU A) (toN u1)) 1000)).toInt64)) := by
  refine Li_of rfl (by decide +kernel) (lo := [(0, .ref (G.2.1 + 0)), (1, .int u1), (2, .ref (G.2.1 + 143))]) rfl (Nat.le_of_ble_eq_true rfl) ?_
  intro x Q hxl h hX htab hret
  subst hxl
  refine r_aload_n (pc := 0) h 2 rfl rfl dL_lastMember_0 ?_
  refine r_iconst (pc := 1) (v := nI 0) h (by decide) dL_lastMember_1 ?_
  refine r_aload_n (pc := 2) h 0 rfl rfl dL_lastMember_2 ?_
  refine r_iload_n (pc := 3) h 1 rfl rfl dL_lastMember_3 ?_
  have hkx : ∀ (E : String) (s9 : Sg), (s9 = σ ∧ cB (liB A u1) 1 ≠ 0 ∧ E = exN (cB (liB A u1) 1)) → VT x G 4 1 6 Q s9 4 [(0, .ref (G.2.1 + 0)), (1, .int u1), (2, .ref (G.2.1 + 143))] [.int (nI 0), .ref (G.2.1 + 143)] E := by
    intro E s9 hp
    obtain ⟨e9, hC, hE⟩ := hp
    subst e9
    rcases (show cB (liB A u1) 1 = 0 ∨ cB (liB A u1) 1 = 1 from r_cB _ _) with e0 | e0
    · exact absurd e0 hC
    · rw [e0] at hE
      obtain rfl : E = xO := hE
      refine VT_catch h [] ({ startPc := 0, endPc := 9, handlerPc := 12, catchType := 29 } : ExceptionTableEntry) [] (htab.trans rfl) (fun y hy => absurd hy List.not_mem_nil) rfl (by decide) mw_22_19 hX.2.1.2.2.1 (fun q => ?_)
      refine r_astore_n (pc := 12) (lo2 := [(3, .ref q), (0, .ref (G.2.1 + 0)), (1, .int u1), (2, .ref (G.2.1 + 143))]) h rfl (by decide) rfl dL_lastMember_12 ?_
      refine r_iconst (pc := 13) (v := nI 1) h (by decide) dL_lastMember_13 ?_
      exact V.wd (by decide) (by decide) (hret _ _ (wl_no e0 (by decide) rfl (fun _ _ _ => rfl) hi) 14 _ dL_lastMember_14)
  refine r_xVi (pc := 4) (As := [.int u1]) (st := [.int (nI 0), .ref (G.2.1 + 143)]) h hX lk_RL_86 (c_x_lastMember x.2.1 hst G σ A hi.2.1 u1) rc_5 (by decide) rfl rfl (by first | decide | exact Nat.le_of_ble_eq_true rfl) (by decide) dL_lastMember_4 hkx (fun r1 s2 q3 => ?_)
  obtain ⟨k0, k1, k2⟩ := q3
  rw [k1, k2]
  refine r_i2l (pc := 7) (v := (oI (lstB (mem (aU A) (toN u1)) 1000)).toInt64) h rfl dL_lastMember_7 ?_
  refine r_last (pc := 8) h a_out 0 rfl (by omega) dL_lastMember_8 ?_
  refine r_goto (pc := 9) (tgt := 15) h (by decide) dL_lastMember_9 ?_
  refine r_iconst (pc := 15) (v := nI 0) h (by decide) dL_lastMember_15 ?_
  exact V.wd (by decide) (by decide) (hret _ _ (wl_ok (σ2 := sL σ 143 0 ((oI (lstB (mem (aU A) (toN u1)) 1000)).toInt64)) k0 rfl (fun _ _ _ => rfl) (sL_s _ _ _ _) (hi.o (out_sL _ 143 0 _) (by omega))) 16 _ dL_lastMember_16)

set_option maxRecDepth 100000 in
set_option maxHeartbeats 800000 in
theorem l_firstShared (l : Launch) (hst : l.stackTraces = false) (G : Gl) (σ : Sg) (n : Nat) (tx : Nat → Nat) (A : Ab) (m : Nat) (H : Nat → Ab) (sv : Nat → Bool) (sl : Nat → Ab) (hi : InvC n tx A m H sv sl σ) (u1 : Int32) (u2 : Int32) : Li l yL_firstShared cL_firstShared 5 [(0, 10, 13, 29)] ({ frames := 8, cells := 2, slots := 12, locals := 133 } : Room) G [.ref (G.2.1 + 0), .int u1, .int u2, .ref (G.2.1 + 143)] σ (fun r σ2 => Lw [1] (seqC (cB (liB A u1) 1) (cB (liB A u2) 1)) σ σ2 (InvC n tx A m H sv sl) (InvC n tx A m H sv sl) r ((oI (nxt (fun v => mem (aU A) (toN u1) v && mem (aU A) (toN u2) v) 0)).toInt64)) := by
  refine Li_of rfl (by decide +kernel) (lo := [(0, .ref (G.2.1 + 0)), (1, .int u1), (2, .int u2), (3, .ref (G.2.1 + 143))]) rfl (Nat.le_of_ble_eq_true rfl) ?_
  intro x Q hxl h hX htab hret
  subst hxl
  refine r_aload_n (pc := 0) h 3 rfl rfl dL_firstShared_0 ?_
  refine r_iconst (pc := 1) (v := nI 0) h (by decide) dL_firstShared_1 ?_
  refine r_aload_n (pc := 2) h 0 rfl rfl dL_firstShared_2 ?_
  refine r_iload_n (pc := 3) h 1 rfl rfl dL_firstShared_3 ?_
  refine r_iload_n (pc := 4) h 2 rfl rfl dL_firstShared_4 ?_
  have hkx : ∀ (E : String) (s9 : Sg), (s9 = σ ∧ seqC (cB (liB A u1) 1) (cB (liB A u2) 1) ≠ 0 ∧ E = exN (seqC (cB (liB A u1) 1) (cB (liB A u2) 1))) → VT x G 5 2 12 Q s9 5 [(0, .ref (G.2.1 + 0)), (1, .int u1), (2, .int u2), (3, .ref (G.2.1 + 143))] [.int (nI 0), .ref (G.2.1 + 143)] E := by
    intro E s9 hp
    obtain ⟨e9, hC, hE⟩ := hp
    subst e9
    rcases (show seqC (cB (liB A u1) 1) (cB (liB A u2) 1) = 0 ∨ seqC (cB (liB A u1) 1) (cB (liB A u2) 1) = 1 from r_seq1 _ _ _) with e0 | e0
    · exact absurd e0 hC
    · rw [e0] at hE
      obtain rfl : E = xO := hE
      refine VT_catch h [] ({ startPc := 0, endPc := 10, handlerPc := 13, catchType := 29 } : ExceptionTableEntry) [] (htab.trans rfl) (fun y hy => absurd hy List.not_mem_nil) rfl (by decide) mw_22_19 hX.2.1.2.2.1 (fun q => ?_)
      refine r_astore (pc := 13) (lo2 := [(4, .ref q), (0, .ref (G.2.1 + 0)), (1, .int u1), (2, .int u2), (3, .ref (G.2.1 + 143))]) h (by decide) rfl dL_firstShared_13 ?_
      refine r_iconst (pc := 15) (v := nI 1) h (by decide) dL_firstShared_15 ?_
      exact V.wd (by decide) (by decide) (hret _ _ (wl_no e0 (by decide) rfl (fun _ _ _ => rfl) hi) 16 _ dL_firstShared_16)
  refine r_xVi (pc := 5) (As := [.int u1, .int u2]) (st := [.int (nI 0), .ref (G.2.1 + 143)]) h hX lk_RL_89 (c_x_firstShared x.2.1 hst G σ A hi.2.1 u1 u2) rc_5 (by decide) rfl rfl (by first | decide | exact Nat.le_of_ble_eq_true rfl) (by decide) dL_firstShared_5 hkx (fun r1 s2 q3 => ?_)
  obtain ⟨k0, k1, k2⟩ := q3
  rw [k1, k2]
  refine r_i2l (pc := 8) (v := (oI (nxt (fun v => mem (aU A) (toN u1) v && mem (aU A) (toN u2) v) 0)).toInt64) h rfl dL_firstShared_8 ?_
  refine r_last (pc := 9) h a_out 0 rfl (by omega) dL_firstShared_9 ?_
  refine r_goto (pc := 10) (tgt := 17) h (by decide) dL_firstShared_10 ?_
  refine r_iconst (pc := 17) (v := nI 0) h (by decide) dL_firstShared_17 ?_
  exact V.wd (by decide) (by decide) (hret _ _ (wl_ok (σ2 := sL σ 143 0 ((oI (nxt (fun v => mem (aU A) (toN u1) v && mem (aU A) (toN u2) v) 0)).toInt64)) k0 rfl (fun _ _ _ => rfl) (sL_s _ _ _ _) (hi.o (out_sL _ 143 0 _) (by omega))) 18 _ dL_firstShared_18)

set_option maxRecDepth 100000 in
set_option maxHeartbeats 800000 in
theorem l_widestGap (l : Launch) (hst : l.stackTraces = false) (G : Gl) (σ : Sg) (n : Nat) (tx : Nat → Nat) (A : Ab) (m : Nat) (H : Nat → Ab) (sv : Nat → Bool) (sl : Nat → Ab) (hi : InvC n tx A m H sv sl σ) (u1 : Int32) : Li l yL_widestGap cL_widestGap 4 [(0, 9, 12, 29)] ({ frames := 8, cells := 1, slots := 6, locals := 132 } : Room) G [.ref (G.2.1 + 0), .int u1, .ref (G.2.1 + 143)] σ (fun r σ2 => Lw [1] (cB (liB A u1) 1) σ σ2 (InvC n tx A m H sv sl) (InvC n tx A m H sv sl) r ((nI (gp (mem (aU A) (toN u1)) 1000).2).toInt64)) := by
  refine Li_of rfl (by decide +kernel) (lo := [(0, .ref (G.2.1 + 0)), (1, .int u1), (2, .ref (G.2.1 + 143))]) rfl (Nat.le_of_ble_eq_true rfl) ?_
  intro x Q hxl h hX htab hret
  subst hxl
  refine r_aload_n (pc := 0) h 2 rfl rfl dL_widestGap_0 ?_
  refine r_iconst (pc := 1) (v := nI 0) h (by decide) dL_widestGap_1 ?_
  refine r_aload_n (pc := 2) h 0 rfl rfl dL_widestGap_2 ?_
  refine r_iload_n (pc := 3) h 1 rfl rfl dL_widestGap_3 ?_
  have hkx : ∀ (E : String) (s9 : Sg), (s9 = σ ∧ cB (liB A u1) 1 ≠ 0 ∧ E = exN (cB (liB A u1) 1)) → VT x G 4 1 6 Q s9 4 [(0, .ref (G.2.1 + 0)), (1, .int u1), (2, .ref (G.2.1 + 143))] [.int (nI 0), .ref (G.2.1 + 143)] E := by
    intro E s9 hp
    obtain ⟨e9, hC, hE⟩ := hp
    subst e9
    rcases (show cB (liB A u1) 1 = 0 ∨ cB (liB A u1) 1 = 1 from r_cB _ _) with e0 | e0
    · exact absurd e0 hC
    · rw [e0] at hE
      obtain rfl : E = xO := hE
      refine VT_catch h [] ({ startPc := 0, endPc := 9, handlerPc := 12, catchType := 29 } : ExceptionTableEntry) [] (htab.trans rfl) (fun y hy => absurd hy List.not_mem_nil) rfl (by decide) mw_22_19 hX.2.1.2.2.1 (fun q => ?_)
      refine r_astore_n (pc := 12) (lo2 := [(3, .ref q), (0, .ref (G.2.1 + 0)), (1, .int u1), (2, .ref (G.2.1 + 143))]) h rfl (by decide) rfl dL_widestGap_12 ?_
      refine r_iconst (pc := 13) (v := nI 1) h (by decide) dL_widestGap_13 ?_
      exact V.wd (by decide) (by decide) (hret _ _ (wl_no e0 (by decide) rfl (fun _ _ _ => rfl) hi) 14 _ dL_widestGap_14)
  refine r_xVi (pc := 4) (As := [.int u1]) (st := [.int (nI 0), .ref (G.2.1 + 143)]) h hX lk_RL_92 (c_x_widestGap x.2.1 hst G σ A hi.2.1 u1) rc_5 (by decide) rfl rfl (by first | decide | exact Nat.le_of_ble_eq_true rfl) (by decide) dL_widestGap_4 hkx (fun r1 s2 q3 => ?_)
  obtain ⟨k0, k1, k2⟩ := q3
  rw [k1, k2]
  refine r_i2l (pc := 7) (v := (nI (gp (mem (aU A) (toN u1)) 1000).2).toInt64) h rfl dL_widestGap_7 ?_
  refine r_last (pc := 8) h a_out 0 rfl (by omega) dL_widestGap_8 ?_
  refine r_goto (pc := 9) (tgt := 15) h (by decide) dL_widestGap_9 ?_
  refine r_iconst (pc := 15) (v := nI 0) h (by decide) dL_widestGap_15 ?_
  exact V.wd (by decide) (by decide) (hret _ _ (wl_ok (σ2 := sL σ 143 0 ((nI (gp (mem (aU A) (toN u1)) 1000).2).toInt64)) k0 rfl (fun _ _ _ => rfl) (sL_s _ _ _ _) (hi.o (out_sL _ 143 0 _) (by omega))) 16 _ dL_widestGap_16)

set_option maxRecDepth 100000 in
set_option maxHeartbeats 800000 in
theorem l_listOf (l : Launch) (hst : l.stackTraces = false) (G : Gl) (σ : Sg) (n : Nat) (tx : Nat → Nat) (A : Ab) (m : Nat) (H : Nat → Ab) (sv : Nat → Bool) (sl : Nat → Ab) (hi : InvC n tx A m H sv sl σ) (u1 : Int32) : Li l yL_listOf cL_listOf 4 [(0, 9, 12, 29)] ({ frames := 8, cells := 1, slots := 6, locals := 132 } : Room) G [.ref (G.2.1 + 0), .int u1, .ref (G.2.1 + 143)] σ (fun r σ2 => Lw [1] (cB (rdB A u1) 1) σ σ2 (InvC n tx A m H sv sl) (InvC n tx A m H sv sl) r ((nI (aL A (toN u1))).toInt64)) := by
  refine Li_of rfl (by decide +kernel) (lo := [(0, .ref (G.2.1 + 0)), (1, .int u1), (2, .ref (G.2.1 + 143))]) rfl (Nat.le_of_ble_eq_true rfl) ?_
  intro x Q hxl h hX htab hret
  subst hxl
  refine r_aload_n (pc := 0) h 2 rfl rfl dL_listOf_0 ?_
  refine r_iconst (pc := 1) (v := nI 0) h (by decide) dL_listOf_1 ?_
  refine r_aload_n (pc := 2) h 0 rfl rfl dL_listOf_2 ?_
  refine r_iload_n (pc := 3) h 1 rfl rfl dL_listOf_3 ?_
  have hkx : ∀ (E : String) (s9 : Sg), (s9 = σ ∧ cB (rdB A u1) 1 ≠ 0 ∧ E = exN (cB (rdB A u1) 1)) → VT x G 4 1 6 Q s9 4 [(0, .ref (G.2.1 + 0)), (1, .int u1), (2, .ref (G.2.1 + 143))] [.int (nI 0), .ref (G.2.1 + 143)] E := by
    intro E s9 hp
    obtain ⟨e9, hC, hE⟩ := hp
    subst e9
    rcases (show cB (rdB A u1) 1 = 0 ∨ cB (rdB A u1) 1 = 1 from r_cB _ _) with e0 | e0
    · exact absurd e0 hC
    · rw [e0] at hE
      obtain rfl : E = xO := hE
      refine VT_catch h [] ({ startPc := 0, endPc := 9, handlerPc := 12, catchType := 29 } : ExceptionTableEntry) [] (htab.trans rfl) (fun y hy => absurd hy List.not_mem_nil) rfl (by decide) mw_22_19 hX.2.1.2.2.1 (fun q => ?_)
      refine r_astore_n (pc := 12) (lo2 := [(3, .ref q), (0, .ref (G.2.1 + 0)), (1, .int u1), (2, .ref (G.2.1 + 143))]) h rfl (by decide) rfl dL_listOf_12 ?_
      refine r_iconst (pc := 13) (v := nI 1) h (by decide) dL_listOf_13 ?_
      exact V.wd (by decide) (by decide) (hret _ _ (wl_no e0 (by decide) rfl (fun _ _ _ => rfl) hi) 14 _ dL_listOf_14)
  refine r_xVi (pc := 4) (As := [.int u1]) (st := [.int (nI 0), .ref (G.2.1 + 143)]) h hX lk_RL_95 (c_x_listOf x.2.1 hst G σ A hi.2.1 u1) rc_5 (by decide) rfl rfl (by first | decide | exact Nat.le_of_ble_eq_true rfl) (by decide) dL_listOf_4 hkx (fun r1 s2 q3 => ?_)
  obtain ⟨k0, k1, k2⟩ := q3
  rw [k1, k2]
  refine r_i2l (pc := 7) (v := (nI (aL A (toN u1))).toInt64) h rfl dL_listOf_7 ?_
  refine r_last (pc := 8) h a_out 0 rfl (by omega) dL_listOf_8 ?_
  refine r_goto (pc := 9) (tgt := 15) h (by decide) dL_listOf_9 ?_
  refine r_iconst (pc := 15) (v := nI 0) h (by decide) dL_listOf_15 ?_
  exact V.wd (by decide) (by decide) (hret _ _ (wl_ok (σ2 := sL σ 143 0 ((nI (aL A (toN u1))).toInt64)) k0 rfl (fun _ _ _ => rfl) (sL_s _ _ _ _) (hi.o (out_sL _ 143 0 _) (by omega))) 16 _ dL_listOf_16)

set_option maxRecDepth 100000 in
set_option maxHeartbeats 800000 in
theorem l_readSoFar (l : Launch) (hst : l.stackTraces = false) (G : Gl) (σ : Sg) (n : Nat) (tx : Nat → Nat) (A : Ab) (m : Nat) (H : Nat → Ab) (sv : Nat → Bool) (sl : Nat → Ab) (hi : InvC n tx A m H sv sl σ) (u1 : Int32) : Li l yL_readSoFar cL_readSoFar 4 [(0, 9, 12, 29)] ({ frames := 8, cells := 1, slots := 6, locals := 132 } : Room) G [.ref (G.2.1 + 0), .int u1, .ref (G.2.1 + 143)] σ (fun r σ2 => Lw [1] (cB (rdB A u1) 1) σ σ2 (InvC n tx A m H sv sl) (InvC n tx A m H sv sl) r ((nI (aP A (toN u1))).toInt64)) := by
  refine Li_of rfl (by decide +kernel) (lo := [(0, .ref (G.2.1 + 0)), (1, .int u1), (2, .ref (G.2.1 + 143))]) rfl (Nat.le_of_ble_eq_true rfl) ?_
  intro x Q hxl h hX htab hret
  subst hxl
  refine r_aload_n (pc := 0) h 2 rfl rfl dL_readSoFar_0 ?_
  refine r_iconst (pc := 1) (v := nI 0) h (by decide) dL_readSoFar_1 ?_
  refine r_aload_n (pc := 2) h 0 rfl rfl dL_readSoFar_2 ?_
  refine r_iload_n (pc := 3) h 1 rfl rfl dL_readSoFar_3 ?_
  have hkx : ∀ (E : String) (s9 : Sg), (s9 = σ ∧ cB (rdB A u1) 1 ≠ 0 ∧ E = exN (cB (rdB A u1) 1)) → VT x G 4 1 6 Q s9 4 [(0, .ref (G.2.1 + 0)), (1, .int u1), (2, .ref (G.2.1 + 143))] [.int (nI 0), .ref (G.2.1 + 143)] E := by
    intro E s9 hp
    obtain ⟨e9, hC, hE⟩ := hp
    subst e9
    rcases (show cB (rdB A u1) 1 = 0 ∨ cB (rdB A u1) 1 = 1 from r_cB _ _) with e0 | e0
    · exact absurd e0 hC
    · rw [e0] at hE
      obtain rfl : E = xO := hE
      refine VT_catch h [] ({ startPc := 0, endPc := 9, handlerPc := 12, catchType := 29 } : ExceptionTableEntry) [] (htab.trans rfl) (fun y hy => absurd hy List.not_mem_nil) rfl (by decide) mw_22_19 hX.2.1.2.2.1 (fun q => ?_)
      refine r_astore_n (pc := 12) (lo2 := [(3, .ref q), (0, .ref (G.2.1 + 0)), (1, .int u1), (2, .ref (G.2.1 + 143))]) h rfl (by decide) rfl dL_readSoFar_12 ?_
      refine r_iconst (pc := 13) (v := nI 1) h (by decide) dL_readSoFar_13 ?_
      exact V.wd (by decide) (by decide) (hret _ _ (wl_no e0 (by decide) rfl (fun _ _ _ => rfl) hi) 14 _ dL_readSoFar_14)
  refine r_xVi (pc := 4) (As := [.int u1]) (st := [.int (nI 0), .ref (G.2.1 + 143)]) h hX lk_RL_98 (c_x_readSoFar x.2.1 hst G σ A hi.2.1 u1) rc_5 (by decide) rfl rfl (by first | decide | exact Nat.le_of_ble_eq_true rfl) (by decide) dL_readSoFar_4 hkx (fun r1 s2 q3 => ?_)
  obtain ⟨k0, k1, k2⟩ := q3
  rw [k1, k2]
  refine r_i2l (pc := 7) (v := (nI (aP A (toN u1))).toInt64) h rfl dL_readSoFar_7 ?_
  refine r_last (pc := 8) h a_out 0 rfl (by omega) dL_readSoFar_8 ?_
  refine r_goto (pc := 9) (tgt := 15) h (by decide) dL_readSoFar_9 ?_
  refine r_iconst (pc := 15) (v := nI 0) h (by decide) dL_readSoFar_15 ?_
  exact V.wd (by decide) (by decide) (hret _ _ (wl_ok (σ2 := sL σ 143 0 ((nI (aP A (toN u1))).toInt64)) k0 rfl (fun _ _ _ => rfl) (sL_s _ _ _ _) (hi.o (out_sL _ 143 0 _) (by omega))) 16 _ dL_readSoFar_16)

set_option maxRecDepth 100000 in
set_option maxHeartbeats 800000 in
theorem l_nextOf (l : Launch) (hst : l.stackTraces = false) (G : Gl) (σ : Sg) (n : Nat) (tx : Nat → Nat) (A : Ab) (m : Nat) (H : Nat → Ab) (sv : Nat → Bool) (sl : Nat → Ab) (hi : InvC n tx A m H sv sl σ) (u1 : Int32) : Li l yL_nextOf cL_nextOf 4 [(0, 9, 12, 29)] ({ frames := 8, cells := 1, slots := 6, locals := 132 } : Room) G [.ref (G.2.1 + 0), .int u1, .ref (G.2.1 + 143)] σ (fun r σ2 => Lw [1] (cB (rdB A u1) 1) σ σ2 (InvC n tx A m H sv sl) (InvC n tx A m H sv sl) r ((oI (nextO A (toN u1))).toInt64)) := by
  refine Li_of rfl (by decide +kernel) (lo := [(0, .ref (G.2.1 + 0)), (1, .int u1), (2, .ref (G.2.1 + 143))]) rfl (Nat.le_of_ble_eq_true rfl) ?_
  intro x Q hxl h hX htab hret
  subst hxl
  refine r_aload_n (pc := 0) h 2 rfl rfl dL_nextOf_0 ?_
  refine r_iconst (pc := 1) (v := nI 0) h (by decide) dL_nextOf_1 ?_
  refine r_aload_n (pc := 2) h 0 rfl rfl dL_nextOf_2 ?_
  refine r_iload_n (pc := 3) h 1 rfl rfl dL_nextOf_3 ?_
  have hkx : ∀ (E : String) (s9 : Sg), (s9 = σ ∧ cB (rdB A u1) 1 ≠ 0 ∧ E = exN (cB (rdB A u1) 1)) → VT x G 4 1 6 Q s9 4 [(0, .ref (G.2.1 + 0)), (1, .int u1), (2, .ref (G.2.1 + 143))] [.int (nI 0), .ref (G.2.1 + 143)] E := by
    intro E s9 hp
    obtain ⟨e9, hC, hE⟩ := hp
    subst e9
    rcases (show cB (rdB A u1) 1 = 0 ∨ cB (rdB A u1) 1 = 1 from r_cB _ _) with e0 | e0
    · exact absurd e0 hC
    · rw [e0] at hE
      obtain rfl : E = xO := hE
      refine VT_catch h [] ({ startPc := 0, endPc := 9, handlerPc := 12, catchType := 29 } : ExceptionTableEntry) [] (htab.trans rfl) (fun y hy => absurd hy List.not_mem_nil) rfl (by decide) mw_22_19 hX.2.1.2.2.1 (fun q => ?_)
      refine r_astore_n (pc := 12) (lo2 := [(3, .ref q), (0, .ref (G.2.1 + 0)), (1, .int u1), (2, .ref (G.2.1 + 143))]) h rfl (by decide) rfl dL_nextOf_12 ?_
      refine r_iconst (pc := 13) (v := nI 1) h (by decide) dL_nextOf_13 ?_
      exact V.wd (by decide) (by decide) (hret _ _ (wl_no e0 (by decide) rfl (fun _ _ _ => rfl) hi) 14 _ dL_nextOf_14)
  refine r_xVi (pc := 4) (As := [.int u1]) (st := [.int (nI 0), .ref (G.2.1 + 143)]) h hX lk_RL_101 (c_x_nextOf x.2.1 hst G σ A hi.2.1 u1) rc_5 (by decide) rfl rfl (by first | decide | exact Nat.le_of_ble_eq_true rfl) (by decide) dL_nextOf_4 hkx (fun r1 s2 q3 => ?_)
  obtain ⟨k0, k1, k2⟩ := q3
  rw [k1, k2]
  refine r_i2l (pc := 7) (v := (oI (nextO A (toN u1))).toInt64) h rfl dL_nextOf_7 ?_
  refine r_last (pc := 8) h a_out 0 rfl (by omega) dL_nextOf_8 ?_
  refine r_goto (pc := 9) (tgt := 15) h (by decide) dL_nextOf_9 ?_
  refine r_iconst (pc := 15) (v := nI 0) h (by decide) dL_nextOf_15 ?_
  exact V.wd (by decide) (by decide) (hret _ _ (wl_ok (σ2 := sL σ 143 0 ((oI (nextO A (toN u1))).toInt64)) k0 rfl (fun _ _ _ => rfl) (sL_s _ _ _ _) (hi.o (out_sL _ 143 0 _) (by omega))) 16 _ dL_nextOf_16)

set_option maxRecDepth 100000 in
set_option maxHeartbeats 800000 in
theorem l_firstOfPairByWalking (l : Launch) (hst : l.stackTraces = false) (G : Gl) (σ : Sg) (n : Nat) (tx : Nat → Nat) (A : Ab) (m : Nat) (H : Nat → Ab) (sv : Nat → Bool) (sl : Nat → Ab) (hi : InvC n tx A m H sv sl σ) (u1 : Int32) : Li l yL_firstOfPairByWalking cL_firstOfPairByWalking 4 [(0, 9, 12, 13)] ({ frames := 8, cells := 1, slots := 6, locals := 135 } : Room) G [.ref (G.2.1 + 0), .int u1, .ref (G.2.1 + 143)] σ (fun r σ2 => Lw [2] (cB (inB (nI 0) (nI 99999) u1) 2) σ σ2 (InvC n tx A m H sv sl) (InvC n tx A m H sv sl) r ((nI (fpN (toN u1))).toInt64)) := by
  refine Li_of rfl (by decide +kernel) (lo := [(0, .ref (G.2.1 + 0)), (1, .int u1), (2, .ref (G.2.1 + 143))]) rfl (Nat.le_of_ble_eq_true rfl) ?_
  intro x Q hxl h hX htab hret
  subst hxl
  refine r_aload_n (pc := 0) h 2 rfl rfl dL_firstOfPairByWalking_0 ?_
  refine r_iconst (pc := 1) (v := nI 0) h (by decide) dL_firstOfPairByWalking_1 ?_
  refine r_aload_n (pc := 2) h 0 rfl rfl dL_firstOfPairByWalking_2 ?_
  refine r_iload_n (pc := 3) h 1 rfl rfl dL_firstOfPairByWalking_3 ?_
  have hkx : ∀ (E : String) (s9 : Sg), (s9 = σ ∧ cB (inB (nI 0) (nI 99999) u1) 2 ≠ 0 ∧ E = exN (cB (inB (nI 0) (nI 99999) u1) 2)) → VT x G 4 1 6 Q s9 4 [(0, .ref (G.2.1 + 0)), (1, .int u1), (2, .ref (G.2.1 + 143))] [.int (nI 0), .ref (G.2.1 + 143)] E := by
    intro E s9 hp
    obtain ⟨e9, hC, hE⟩ := hp
    subst e9
    rcases (show cB (inB (nI 0) (nI 99999) u1) 2 = 0 ∨ cB (inB (nI 0) (nI 99999) u1) 2 = 2 from r_cB _ _) with e0 | e0
    · exact absurd e0 hC
    · rw [e0] at hE
      obtain rfl : E = xI := hE
      refine VT_catch h [] ({ startPc := 0, endPc := 9, handlerPc := 12, catchType := 13 } : ExceptionTableEntry) [] (htab.trans rfl) (fun y hy => absurd hy List.not_mem_nil) rfl (by decide) mw_4_11 hX.2.1.1 (fun q => ?_)
      refine r_astore_n (pc := 12) (lo2 := [(3, .ref q), (0, .ref (G.2.1 + 0)), (1, .int u1), (2, .ref (G.2.1 + 143))]) h rfl (by decide) rfl dL_firstOfPairByWalking_12 ?_
      refine r_iconst (pc := 13) (v := nI 1) h (by decide) dL_firstOfPairByWalking_13 ?_
      exact V.wd (by decide) (by decide) (hret _ _ (wl_no e0 (by decide) rfl (fun _ _ _ => rfl) hi) 14 _ dL_firstOfPairByWalking_14)
  refine r_xVi (pc := 4) (As := [.int u1]) (st := [.int (nI 0), .ref (G.2.1 + 143)]) h hX lk_RL_104 (c_x_firstOfPairByWalking x.2.1 hst G σ u1) rc_5 (by decide) rfl rfl (by first | decide | exact Nat.le_of_ble_eq_true rfl) (by decide) dL_firstOfPairByWalking_4 hkx (fun r1 s2 q3 => ?_)
  obtain ⟨k0, k1, k2⟩ := q3
  rw [k1, k2]
  refine r_i2l (pc := 7) (v := (nI (fpN (toN u1))).toInt64) h rfl dL_firstOfPairByWalking_7 ?_
  refine r_last (pc := 8) h a_out 0 rfl (by omega) dL_firstOfPairByWalking_8 ?_
  refine r_goto (pc := 9) (tgt := 15) h (by decide) dL_firstOfPairByWalking_9 ?_
  refine r_iconst (pc := 15) (v := nI 0) h (by decide) dL_firstOfPairByWalking_15 ?_
  exact V.wd (by decide) (by decide) (hret _ _ (wl_ok (σ2 := sL σ 143 0 ((nI (fpN (toN u1))).toInt64)) k0 rfl (fun _ _ _ => rfl) (sL_s _ _ _ _) (hi.o (out_sL _ 143 0 _) (by omega))) 16 _ dL_firstOfPairByWalking_16)

set_option maxRecDepth 100000 in
set_option maxHeartbeats 800000 in
theorem l_firstOfPairByCounting (l : Launch) (hst : l.stackTraces = false) (G : Gl) (σ : Sg) (n : Nat) (tx : Nat → Nat) (A : Ab) (m : Nat) (H : Nat → Ab) (sv : Nat → Bool) (sl : Nat → Ab) (hi : InvC n tx A m H sv sl σ) (u1 : Int32) : Li l yL_firstOfPairByCounting cL_firstOfPairByCounting 4 [(0, 9, 12, 13)] ({ frames := 8, cells := 1, slots := 6, locals := 136 } : Room) G [.ref (G.2.1 + 0), .int u1, .ref (G.2.1 + 143)] σ (fun r σ2 => Lw [2] (cB (inB (nI 0) (nI 99999) u1) 2) σ σ2 (InvC n tx A m H sv sl) (InvC n tx A m H sv sl) r ((nI (fpN (toN u1))).toInt64)) := by
  refine Li_of rfl (by decide +kernel) (lo := [(0, .ref (G.2.1 + 0)), (1, .int u1), (2, .ref (G.2.1 + 143))]) rfl (Nat.le_of_ble_eq_true rfl) ?_
  intro x Q hxl h hX htab hret
  subst hxl
  refine r_aload_n (pc := 0) h 2 rfl rfl dL_firstOfPairByCounting_0 ?_
  refine r_iconst (pc := 1) (v := nI 0) h (by decide) dL_firstOfPairByCounting_1 ?_
  refine r_aload_n (pc := 2) h 0 rfl rfl dL_firstOfPairByCounting_2 ?_
  refine r_iload_n (pc := 3) h 1 rfl rfl dL_firstOfPairByCounting_3 ?_
  have hkx : ∀ (E : String) (s9 : Sg), (s9 = σ ∧ cB (inB (nI 0) (nI 99999) u1) 2 ≠ 0 ∧ E = exN (cB (inB (nI 0) (nI 99999) u1) 2)) → VT x G 4 1 6 Q s9 4 [(0, .ref (G.2.1 + 0)), (1, .int u1), (2, .ref (G.2.1 + 143))] [.int (nI 0), .ref (G.2.1 + 143)] E := by
    intro E s9 hp
    obtain ⟨e9, hC, hE⟩ := hp
    subst e9
    rcases (show cB (inB (nI 0) (nI 99999) u1) 2 = 0 ∨ cB (inB (nI 0) (nI 99999) u1) 2 = 2 from r_cB _ _) with e0 | e0
    · exact absurd e0 hC
    · rw [e0] at hE
      obtain rfl : E = xI := hE
      refine VT_catch h [] ({ startPc := 0, endPc := 9, handlerPc := 12, catchType := 13 } : ExceptionTableEntry) [] (htab.trans rfl) (fun y hy => absurd hy List.not_mem_nil) rfl (by decide) mw_4_11 hX.2.1.1 (fun q => ?_)
      refine r_astore_n (pc := 12) (lo2 := [(3, .ref q), (0, .ref (G.2.1 + 0)), (1, .int u1), (2, .ref (G.2.1 + 143))]) h rfl (by decide) rfl dL_firstOfPairByCounting_12 ?_
      refine r_iconst (pc := 13) (v := nI 1) h (by decide) dL_firstOfPairByCounting_13 ?_
      exact V.wd (by decide) (by decide) (hret _ _ (wl_no e0 (by decide) rfl (fun _ _ _ => rfl) hi) 14 _ dL_firstOfPairByCounting_14)
  refine r_xVi (pc := 4) (As := [.int u1]) (st := [.int (nI 0), .ref (G.2.1 + 143)]) h hX lk_RL_107 (c_x_firstOfPairByCounting x.2.1 hst G σ u1) rc_5 (by decide) rfl rfl (by first | decide | exact Nat.le_of_ble_eq_true rfl) (by decide) dL_firstOfPairByCounting_4 hkx (fun r1 s2 q3 => ?_)
  obtain ⟨k0, k1, k2⟩ := q3
  rw [k1, k2]
  refine r_i2l (pc := 7) (v := (nI (fpN (toN u1))).toInt64) h rfl dL_firstOfPairByCounting_7 ?_
  refine r_last (pc := 8) h a_out 0 rfl (by omega) dL_firstOfPairByCounting_8 ?_
  refine r_goto (pc := 9) (tgt := 15) h (by decide) dL_firstOfPairByCounting_9 ?_
  refine r_iconst (pc := 15) (v := nI 0) h (by decide) dL_firstOfPairByCounting_15 ?_
  exact V.wd (by decide) (by decide) (hret _ _ (wl_ok (σ2 := sL σ 143 0 ((nI (fpN (toN u1))).toInt64)) k0 rfl (fun _ _ _ => rfl) (sL_s _ _ _ _) (hi.o (out_sL _ 143 0 _) (by omega))) 16 _ dL_firstOfPairByCounting_16)

set_option maxRecDepth 100000 in
set_option maxHeartbeats 800000 in
theorem l_numberOfPair (l : Launch) (hst : l.stackTraces = false) (G : Gl) (σ : Sg) (n : Nat) (tx : Nat → Nat) (A : Ab) (m : Nat) (H : Nat → Ab) (sv : Nat → Bool) (sl : Nat → Ab) (hi : InvC n tx A m H sv sl σ) (u1 : Int32) (u2 : Int32) : Li l yL_numberOfPair cL_numberOfPair 5 [(0, 10, 13, 13)] ({ frames := 8, cells := 2, slots := 12, locals := 134 } : Room) G [.ref (G.2.1 + 0), .int u1, .int u2, .ref (G.2.1 + 143)] σ (fun r σ2 => Lw [2] (seqC (cB (inB (nI 0) (nI 200) u1) 2) (cB (inB (nI 0) (nI 200) u2) 2)) σ σ2 (InvC n tx A m H sv sl) (InvC n tx A m H sv sl) r ((nI (triN ((toN u1) + (toN u2)) + (toN u1))).toInt64)) := by
  refine Li_of rfl (by decide +kernel) (lo := [(0, .ref (G.2.1 + 0)), (1, .int u1), (2, .int u2), (3, .ref (G.2.1 + 143))]) rfl (Nat.le_of_ble_eq_true rfl) ?_
  intro x Q hxl h hX htab hret
  subst hxl
  refine r_aload_n (pc := 0) h 3 rfl rfl dL_numberOfPair_0 ?_
  refine r_iconst (pc := 1) (v := nI 0) h (by decide) dL_numberOfPair_1 ?_
  refine r_aload_n (pc := 2) h 0 rfl rfl dL_numberOfPair_2 ?_
  refine r_iload_n (pc := 3) h 1 rfl rfl dL_numberOfPair_3 ?_
  refine r_iload_n (pc := 4) h 2 rfl rfl dL_numberOfPair_4 ?_
  have hkx : ∀ (E : String) (s9 : Sg), (s9 = σ ∧ seqC (cB (inB (nI 0) (nI 200) u1) 2) (cB (inB (nI 0) (nI 200) u2) 2) ≠ 0 ∧ E = exN (seqC (cB (inB (nI 0) (nI 200) u1) 2) (cB (inB (nI 0) (nI 200) u2) 2))) → VT x G 5 2 12 Q s9 5 [(0, .ref (G.2.1 + 0)), (1, .int u1), (2, .int u2), (3, .ref (G.2.1 + 143))] [.int (nI 0), .ref (G.2.1 + 143)] E := by
    intro E s9 hp
    obtain ⟨e9, hC, hE⟩ := hp
    subst e9
    rcases (show seqC (cB (inB (nI 0) (nI 200) u1) 2) (cB (inB (nI 0) (nI 200) u2) 2) = 0 ∨ seqC (cB (inB (nI 0) (nI 200) u1) 2) (cB (inB (nI 0) (nI 200) u2) 2) = 2 from r_seq1 _ _ _) with e0 | e0
    · exact absurd e0 hC
    · rw [e0] at hE
      obtain rfl : E = xI := hE
      refine VT_catch h [] ({ startPc := 0, endPc := 10, handlerPc := 13, catchType := 13 } : ExceptionTableEntry) [] (htab.trans rfl) (fun y hy => absurd hy List.not_mem_nil) rfl (by decide) mw_4_11 hX.2.1.1 (fun q => ?_)
      refine r_astore (pc := 13) (lo2 := [(4, .ref q), (0, .ref (G.2.1 + 0)), (1, .int u1), (2, .int u2), (3, .ref (G.2.1 + 143))]) h (by decide) rfl dL_numberOfPair_13 ?_
      refine r_iconst (pc := 15) (v := nI 1) h (by decide) dL_numberOfPair_15 ?_
      exact V.wd (by decide) (by decide) (hret _ _ (wl_no e0 (by decide) rfl (fun _ _ _ => rfl) hi) 16 _ dL_numberOfPair_16)
  refine r_xVi (pc := 5) (As := [.int u1, .int u2]) (st := [.int (nI 0), .ref (G.2.1 + 143)]) h hX lk_RL_110 (c_x_numberOfPair x.2.1 hst G σ u1 u2) rc_5 (by decide) rfl rfl (by first | decide | exact Nat.le_of_ble_eq_true rfl) (by decide) dL_numberOfPair_5 hkx (fun r1 s2 q3 => ?_)
  obtain ⟨k0, k1, k2⟩ := q3
  rw [k1, k2]
  refine r_i2l (pc := 8) (v := (nI (triN ((toN u1) + (toN u2)) + (toN u1))).toInt64) h rfl dL_numberOfPair_8 ?_
  refine r_last (pc := 9) h a_out 0 rfl (by omega) dL_numberOfPair_9 ?_
  refine r_goto (pc := 10) (tgt := 17) h (by decide) dL_numberOfPair_10 ?_
  refine r_iconst (pc := 17) (v := nI 0) h (by decide) dL_numberOfPair_17 ?_
  exact V.wd (by decide) (by decide) (hret _ _ (wl_ok (σ2 := sL σ 143 0 ((nI (triN ((toN u1) + (toN u2)) + (toN u1))).toInt64)) k0 rfl (fun _ _ _ => rfl) (sL_s _ _ _ _) (hi.o (out_sL _ 143 0 _) (by omega))) 18 _ dL_numberOfPair_18)

set_option maxRecDepth 100000 in
set_option maxHeartbeats 800000 in
theorem l_membersIfJoined (l : Launch) (hst : l.stackTraces = false) (G : Gl) (σ : Sg) (n : Nat) (tx : Nat → Nat) (A : Ab) (m : Nat) (H : Nat → Ab) (sv : Nat → Bool) (sl : Nat → Ab) (hi : InvC n tx A m H sv sl σ) (u1 : Int32) (u2 : Int32) : Li l yL_membersIfJoined cL_membersIfJoined 5 [(0, 10, 13, 29)] ({ frames := 8, cells := 2, slots := 12, locals := 133 } : Room) G [.ref (G.2.1 + 0), .int u1, .int u2, .ref (G.2.1 + 143)] σ (fun r σ2 => Lw [1] (seqC (cB (liB A u1) 1) (cB (liB A u2) 1)) σ σ2 (InvC n tx A m H sv sl) (InvC n tx A m H sv sl) r ((nI (cS (fun v => mem (aU A) (toN u1) v || mem (aU A) (toN u2) v) 1000)).toInt64)) := by
  refine Li_of rfl (by decide +kernel) (lo := [(0, .ref (G.2.1 + 0)), (1, .int u1), (2, .int u2), (3, .ref (G.2.1 + 143))]) rfl (Nat.le_of_ble_eq_true rfl) ?_
  intro x Q hxl h hX htab hret
  subst hxl
  refine r_aload_n (pc := 0) h 3 rfl rfl dL_membersIfJoined_0 ?_
  refine r_iconst (pc := 1) (v := nI 0) h (by decide) dL_membersIfJoined_1 ?_
  refine r_aload_n (pc := 2) h 0 rfl rfl dL_membersIfJoined_2 ?_
  refine r_iload_n (pc := 3) h 1 rfl rfl dL_membersIfJoined_3 ?_
  refine r_iload_n (pc := 4) h 2 rfl rfl dL_membersIfJoined_4 ?_
  have hkx : ∀ (E : String) (s9 : Sg), (s9 = σ ∧ seqC (cB (liB A u1) 1) (cB (liB A u2) 1) ≠ 0 ∧ E = exN (seqC (cB (liB A u1) 1) (cB (liB A u2) 1))) → VT x G 5 2 12 Q s9 5 [(0, .ref (G.2.1 + 0)), (1, .int u1), (2, .int u2), (3, .ref (G.2.1 + 143))] [.int (nI 0), .ref (G.2.1 + 143)] E := by
    intro E s9 hp
    obtain ⟨e9, hC, hE⟩ := hp
    subst e9
    rcases (show seqC (cB (liB A u1) 1) (cB (liB A u2) 1) = 0 ∨ seqC (cB (liB A u1) 1) (cB (liB A u2) 1) = 1 from r_seq1 _ _ _) with e0 | e0
    · exact absurd e0 hC
    · rw [e0] at hE
      obtain rfl : E = xO := hE
      refine VT_catch h [] ({ startPc := 0, endPc := 10, handlerPc := 13, catchType := 29 } : ExceptionTableEntry) [] (htab.trans rfl) (fun y hy => absurd hy List.not_mem_nil) rfl (by decide) mw_22_19 hX.2.1.2.2.1 (fun q => ?_)
      refine r_astore (pc := 13) (lo2 := [(4, .ref q), (0, .ref (G.2.1 + 0)), (1, .int u1), (2, .int u2), (3, .ref (G.2.1 + 143))]) h (by decide) rfl dL_membersIfJoined_13 ?_
      refine r_iconst (pc := 15) (v := nI 1) h (by decide) dL_membersIfJoined_15 ?_
      exact V.wd (by decide) (by decide) (hret _ _ (wl_no e0 (by decide) rfl (fun _ _ _ => rfl) hi) 16 _ dL_membersIfJoined_16)
  refine r_xVi (pc := 5) (As := [.int u1, .int u2]) (st := [.int (nI 0), .ref (G.2.1 + 143)]) h hX lk_RL_113 (c_x_membersIfJoined x.2.1 hst G σ A hi.2.1 u1 u2) rc_5 (by decide) rfl rfl (by first | decide | exact Nat.le_of_ble_eq_true rfl) (by decide) dL_membersIfJoined_5 hkx (fun r1 s2 q3 => ?_)
  obtain ⟨k0, k1, k2⟩ := q3
  rw [k1, k2]
  refine r_i2l (pc := 8) (v := (nI (cS (fun v => mem (aU A) (toN u1) v || mem (aU A) (toN u2) v) 1000)).toInt64) h rfl dL_membersIfJoined_8 ?_
  refine r_last (pc := 9) h a_out 0 rfl (by omega) dL_membersIfJoined_9 ?_
  refine r_goto (pc := 10) (tgt := 17) h (by decide) dL_membersIfJoined_10 ?_
  refine r_iconst (pc := 17) (v := nI 0) h (by decide) dL_membersIfJoined_17 ?_
  exact V.wd (by decide) (by decide) (hret _ _ (wl_ok (σ2 := sL σ 143 0 ((nI (cS (fun v => mem (aU A) (toN u1) v || mem (aU A) (toN u2) v) 1000)).toInt64)) k0 rfl (fun _ _ _ => rfl) (sL_s _ _ _ _) (hi.o (out_sL _ 143 0 _) (by omega))) 18 _ dL_membersIfJoined_18)

set_option maxRecDepth 100000 in
set_option maxHeartbeats 800000 in
theorem l_skipsTo (l : Launch) (hst : l.stackTraces = false) (G : Gl) (σ : Sg) (n : Nat) (tx : Nat → Nat) (A : Ab) (m : Nat) (H : Nat → Ab) (sv : Nat → Bool) (sl : Nat → Ab) (hi : InvC n tx A m H sv sl σ) (u1 : Int32) (u2 : Int32) : Li l yL_skipsTo cL_skipsTo 5 [(0, 10, 13, 29), (0, 10, 17, 13)] ({ frames := 8, cells := 2, slots := 12, locals := 137 } : Room) G [.ref (G.2.1 + 0), .int u1, .int u2, .ref (G.2.1 + 143)] σ (fun r σ2 => Lw [1, 2] (seqC (cB (rdB A u1) 1) (cB (inB (nI 0) (nI 999) u2) 2)) σ σ2 (InvC n tx A m H sv sl) (InvC n tx A m H sv sl) r ((skU A (toN u1) (toN u2)).toInt64)) := by
  refine Li_of rfl (by decide +kernel) (lo := [(0, .ref (G.2.1 + 0)), (1, .int u1), (2, .int u2), (3, .ref (G.2.1 + 143))]) rfl (Nat.le_of_ble_eq_true rfl) ?_
  intro x Q hxl h hX htab hret
  subst hxl
  refine r_aload_n (pc := 0) h 3 rfl rfl dL_skipsTo_0 ?_
  refine r_iconst (pc := 1) (v := nI 0) h (by decide) dL_skipsTo_1 ?_
  refine r_aload_n (pc := 2) h 0 rfl rfl dL_skipsTo_2 ?_
  refine r_iload_n (pc := 3) h 1 rfl rfl dL_skipsTo_3 ?_
  refine r_iload_n (pc := 4) h 2 rfl rfl dL_skipsTo_4 ?_
  have hkx : ∀ (E : String) (s9 : Sg), (s9 = σ ∧ seqC (cB (rdB A u1) 1) (cB (inB (nI 0) (nI 999) u2) 2) ≠ 0 ∧ E = exN (seqC (cB (rdB A u1) 1) (cB (inB (nI 0) (nI 999) u2) 2))) → VT x G 5 2 12 Q s9 5 [(0, .ref (G.2.1 + 0)), (1, .int u1), (2, .int u2), (3, .ref (G.2.1 + 143))] [.int (nI 0), .ref (G.2.1 + 143)] E := by
    intro E s9 hp
    obtain ⟨e9, hC, hE⟩ := hp
    subst e9
    rcases (show seqC (cB (rdB A u1) 1) (cB (inB (nI 0) (nI 999) u2) 2) = 0 ∨ seqC (cB (rdB A u1) 1) (cB (inB (nI 0) (nI 999) u2) 2) = 1 ∨ seqC (cB (rdB A u1) 1) (cB (inB (nI 0) (nI 999) u2) 2) = 2 from r_seq _ _ _ _) with e0 | e0 | e0
    · exact absurd e0 hC
    · rw [e0] at hE
      obtain rfl : E = xO := hE
      refine VT_catch h [] ({ startPc := 0, endPc := 10, handlerPc := 13, catchType := 29 } : ExceptionTableEntry) [({ startPc := 0, endPc := 10, handlerPc := 17, catchType := 13 } : ExceptionTableEntry)] (htab.trans rfl) (fun y hy => absurd hy List.not_mem_nil) rfl (by decide) mw_22_19 hX.2.1.2.2.1 (fun q => ?_)
      refine r_astore (pc := 13) (lo2 := [(4, .ref q), (0, .ref (G.2.1 + 0)), (1, .int u1), (2, .int u2), (3, .ref (G.2.1 + 143))]) h (by decide) rfl dL_skipsTo_13 ?_
      refine r_iconst (pc := 15) (v := nI 1) h (by decide) dL_skipsTo_15 ?_
      exact V.wd (by decide) (by decide) (hret _ _ (wl_no e0 (by decide) rfl (fun _ _ _ => rfl) hi) 16 _ dL_skipsTo_16)
    · rw [e0] at hE
      obtain rfl : E = xI := hE
      refine VT_catch h [({ startPc := 0, endPc := 10, handlerPc := 13, catchType := 29 } : ExceptionTableEntry)] ({ startPc := 0, endPc := 10, handlerPc := 17, catchType := 13 } : ExceptionTableEntry) [] (htab.trans rfl) (List.forall_mem_cons.mpr ⟨Or.inr ⟨by decide, xO, mw_22_19, hX.2.2.2.1⟩, (fun y hy => absurd hy List.not_mem_nil)⟩) rfl (by decide) mw_4_11 hX.2.1.1 (fun q => ?_)
      refine r_astore (pc := 17) (lo2 := [(4, .ref q), (0, .ref (G.2.1 + 0)), (1, .int u1), (2, .int u2), (3, .ref (G.2.1 + 143))]) h (by decide) rfl dL_skipsTo_17 ?_
      refine r_iconst (pc := 19) (v := nI 2) h (by decide) dL_skipsTo_19 ?_
      exact V.wd (by decide) (by decide) (hret _ _ (wl_no e0 (by decide) rfl (fun _ _ _ => rfl) hi) 20 _ dL_skipsTo_20)
  refine r_xVi (pc := 5) (As := [.int u1, .int u2]) (st := [.int (nI 0), .ref (G.2.1 + 143)]) h hX lk_RL_116 (c_x_skipsTo x.2.1 hst G σ A hi.2.1 u1 u2) rc_5 (by decide) rfl rfl (by first | decide | exact Nat.le_of_ble_eq_true rfl) (by decide) dL_skipsTo_5 hkx (fun r1 s2 q3 => ?_)
  obtain ⟨k0, k1, k2⟩ := q3
  rw [k1, k2]
  refine r_i2l (pc := 8) (v := (skU A (toN u1) (toN u2)).toInt64) h rfl dL_skipsTo_8 ?_
  refine r_last (pc := 9) h a_out 0 rfl (by omega) dL_skipsTo_9 ?_
  refine r_goto (pc := 10) (tgt := 21) h (by decide) dL_skipsTo_10 ?_
  refine r_iconst (pc := 21) (v := nI 0) h (by decide) dL_skipsTo_21 ?_
  exact V.wd (by decide) (by decide) (hret _ _ (wl_ok (σ2 := sL σ 143 0 ((skU A (toN u1) (toN u2)).toInt64)) k0 rfl (fun _ _ _ => rfl) (sL_s _ _ _ _) (hi.o (out_sL _ 143 0 _) (by omega))) 22 _ dL_skipsTo_22)

set_option maxRecDepth 100000 in
set_option maxHeartbeats 800000 in
theorem l_simulate (l : Launch) (hst : l.stackTraces = false) (G : Gl) (σ : Sg) (n : Nat) (tx : Nat → Nat) (A : Ab) (m : Nat) (H : Nat → Ab) (sv : Nat → Bool) (sl : Nat → Ab) (hi : InvC n tx A m H sv sl σ) (u1 : Int64) (u2 : Int32) : Li l yL_simulate cL_simulate 6 [(0, 11, 14, 13)] ({ frames := 8, cells := 1, slots := 6, locals := 194 } : Room) G [.ref (G.2.1 + 0), .long u1, .int u2, .ref (G.2.1 + 143)] σ (fun r σ2 => Lw [2] (cB (inB (nI 1) (nI 60) u2) 2) σ σ2 (InvC n tx A m H sv sl) (InvC n tx A m H sv sl) r ((simV A u1 (toN u2)).toInt64)) := by
  refine Li_of rfl (by decide +kernel) (lo := [(0, .ref (G.2.1 + 0)), (1, .long u1), (3, .int u2), (4, .ref (G.2.1 + 143))]) rfl (Nat.le_of_ble_eq_true rfl) ?_
  intro x Q hxl h hX htab hret
  subst hxl
  refine r_aload (pc := 0) h 3 rfl dL_simulate_0 ?_
  refine r_iconst (pc := 2) (v := nI 0) h (by decide) dL_simulate_2 ?_
  refine r_aload_n (pc := 3) h 0 rfl rfl dL_simulate_3 ?_
  refine r_lload_n (pc := 4) h 1 rfl rfl dL_simulate_4 ?_
  refine r_iload_n (pc := 5) h 2 rfl rfl dL_simulate_5 ?_
  have hkx : ∀ (E : String) (s9 : Sg), (s9 = σ ∧ cB (inB (nI 1) (nI 60) u2) 2 ≠ 0 ∧ E = exN (cB (inB (nI 1) (nI 60) u2) 2)) → VT x G 6 1 6 Q s9 6 [(0, .ref (G.2.1 + 0)), (1, .long u1), (3, .int u2), (4, .ref (G.2.1 + 143))] [.int (nI 0), .ref (G.2.1 + 143)] E := by
    intro E s9 hp
    obtain ⟨e9, hC, hE⟩ := hp
    subst e9
    rcases (show cB (inB (nI 1) (nI 60) u2) 2 = 0 ∨ cB (inB (nI 1) (nI 60) u2) 2 = 2 from r_cB _ _) with e0 | e0
    · exact absurd e0 hC
    · rw [e0] at hE
      obtain rfl : E = xI := hE
      refine VT_catch h [] ({ startPc := 0, endPc := 11, handlerPc := 14, catchType := 13 } : ExceptionTableEntry) [] (htab.trans rfl) (fun y hy => absurd hy List.not_mem_nil) rfl (by decide) mw_4_11 hX.2.1.1 (fun q => ?_)
      refine r_astore (pc := 14) (lo2 := [(5, .ref q), (0, .ref (G.2.1 + 0)), (1, .long u1), (3, .int u2), (4, .ref (G.2.1 + 143))]) h (by decide) rfl dL_simulate_14 ?_
      refine r_iconst (pc := 16) (v := nI 1) h (by decide) dL_simulate_16 ?_
      exact V.wd (by decide) (by decide) (hret _ _ (wl_no e0 (by decide) rfl (fun _ _ _ => rfl) hi) 17 _ dL_simulate_17)
  refine r_xVi (pc := 6) (As := [.long u1, .int u2]) (st := [.int (nI 0), .ref (G.2.1 + 143)]) h hX lk_RL_119 (c_x_simulate x.2.1 hst G σ n tx A m H sv sl hi u1 u2) rc_5 (by decide) rfl rfl (by first | decide | exact Nat.le_of_ble_eq_true rfl) (by decide) dL_simulate_6 hkx (fun r1 s2 q3 => ?_)
  obtain ⟨k0, k1, k2, k3⟩ := q3
  subst k1
  refine r_i2l (pc := 9) (v := (simV A u1 (toN u2)).toInt64) h rfl dL_simulate_9 ?_
  refine r_last (pc := 10) h a_out 0 rfl (by omega) dL_simulate_10 ?_
  refine r_goto (pc := 11) (tgt := 18) h (by decide) dL_simulate_11 ?_
  refine r_iconst (pc := 18) (v := nI 0) h (by decide) dL_simulate_18 ?_
  exact V.wd (by decide) (by decide) (hret _ _ (wl_ok (σ2 := sL s2 143 0 ((simV A u1 (toN u2)).toInt64)) k0 rfl (show ∀ q, 134 ≤ q → q < 143 → s2.1 q = σ.1 q from keepO k3 (by decide)) (sL_s _ _ _ _) (k2.o (out_sL _ 143 0 _) (by omega))) 19 _ dL_simulate_19)

set_option maxRecDepth 100000 in
set_option maxHeartbeats 800000 in
theorem l_save (l : Launch) (hst : l.stackTraces = false) (G : Gl) (σ : Sg) (n : Nat) (tx : Nat → Nat) (A : Ab) (m : Nat) (H : Nat → Ab) (sv : Nat → Bool) (sl : Nat → Ab) (hi : InvC n tx A m H sv sl σ) (u1 : Int32) : Li l yL_save cL_save 4 [(0, 9, 12, 29)] ({ frames := 8, cells := 1, slots := 6, locals := 131 } : Room) G [.ref (G.2.1 + 0), .int u1, .ref (G.2.1 + 143)] σ (fun r σ2 => Lw [1] (cB (inB (nI 0) (nI 1) u1) 1) σ σ2 (InvC n tx A m H sv sl) (InvC n tx A m H (va_up sv (toN u1) true) (va_up sl (toN u1) A)) r ((nI A.1).toInt64)) := by
  refine Li_of rfl (by decide +kernel) (lo := [(0, .ref (G.2.1 + 0)), (1, .int u1), (2, .ref (G.2.1 + 143))]) rfl (Nat.le_of_ble_eq_true rfl) ?_
  intro x Q hxl h hX htab hret
  subst hxl
  refine r_aload_n (pc := 0) h 2 rfl rfl dL_save_0 ?_
  refine r_iconst (pc := 1) (v := nI 0) h (by decide) dL_save_1 ?_
  refine r_aload_n (pc := 2) h 0 rfl rfl dL_save_2 ?_
  refine r_iload_n (pc := 3) h 1 rfl rfl dL_save_3 ?_
  have hkx : ∀ (E : String) (s9 : Sg), (s9 = σ ∧ cB (inB (nI 0) (nI 1) u1) 1 ≠ 0 ∧ E = exN (cB (inB (nI 0) (nI 1) u1) 1)) → VT x G 4 1 6 Q s9 4 [(0, .ref (G.2.1 + 0)), (1, .int u1), (2, .ref (G.2.1 + 143))] [.int (nI 0), .ref (G.2.1 + 143)] E := by
    intro E s9 hp
    obtain ⟨e9, hC, hE⟩ := hp
    subst e9
    rcases (show cB (inB (nI 0) (nI 1) u1) 1 = 0 ∨ cB (inB (nI 0) (nI 1) u1) 1 = 1 from r_cB _ _) with e0 | e0
    · exact absurd e0 hC
    · rw [e0] at hE
      obtain rfl : E = xO := hE
      refine VT_catch h [] ({ startPc := 0, endPc := 9, handlerPc := 12, catchType := 29 } : ExceptionTableEntry) [] (htab.trans rfl) (fun y hy => absurd hy List.not_mem_nil) rfl (by decide) mw_22_19 hX.2.1.2.2.1 (fun q => ?_)
      refine r_astore_n (pc := 12) (lo2 := [(3, .ref q), (0, .ref (G.2.1 + 0)), (1, .int u1), (2, .ref (G.2.1 + 143))]) h rfl (by decide) rfl dL_save_12 ?_
      refine r_iconst (pc := 13) (v := nI 1) h (by decide) dL_save_13 ?_
      exact V.wd (by decide) (by decide) (hret _ _ (wl_no e0 (by decide) rfl (fun _ _ _ => rfl) hi) 14 _ dL_save_14)
  refine r_xVi (pc := 4) (As := [.int u1]) (st := [.int (nI 0), .ref (G.2.1 + 143)]) h hX lk_RL_123 (c_x_save x.2.1 hst G σ n tx A m H sv sl hi u1) rc_5 (by decide) rfl rfl (by first | decide | exact Nat.le_of_ble_eq_true rfl) (by decide) dL_save_4 hkx (fun r1 s2 q3 => ?_)
  obtain ⟨k0, k1, k2, k3⟩ := q3
  subst k1
  refine r_i2l (pc := 7) (v := (nI A.1).toInt64) h rfl dL_save_7 ?_
  refine r_last (pc := 8) h a_out 0 rfl (by omega) dL_save_8 ?_
  refine r_goto (pc := 9) (tgt := 15) h (by decide) dL_save_9 ?_
  refine r_iconst (pc := 15) (v := nI 0) h (by decide) dL_save_15 ?_
  exact V.wd (by decide) (by decide) (hret _ _ (wl_ok (σ2 := sL s2 143 0 ((nI A.1).toInt64)) k0 rfl (show ∀ q, 134 ≤ q → q < 143 → s2.1 q = σ.1 q from keepO k3 (by decide)) (sL_s _ _ _ _) (k2.o (out_sL _ 143 0 _) (by omega))) 16 _ dL_save_16)

set_option maxRecDepth 100000 in
set_option maxHeartbeats 800000 in
theorem l_restore (l : Launch) (hst : l.stackTraces = false) (G : Gl) (σ : Sg) (n : Nat) (tx : Nat → Nat) (A : Ab) (m : Nat) (H : Nat → Ab) (sv : Nat → Bool) (sl : Nat → Ab) (hi : InvC n tx A m H sv sl σ) (u1 : Int32) : Li l yL_restore cL_restore 4 [(0, 9, 12, 29), (0, 9, 15, 15)] ({ frames := 8, cells := 2, slots := 12, locals := 131 } : Room) G [.ref (G.2.1 + 0), .int u1, .ref (G.2.1 + 143)] σ (fun r σ2 => Lw [1, 3] (seqC (cB (inB (nI 0) (nI 1) u1) 1) (cB (sv (toN u1)) 3)) σ σ2 (InvC n tx A m H sv sl) (InvC n tx (sl (toN u1)) 0 H sv sl) r ((nI (sl (toN u1)).1).toInt64)) := by
  refine Li_of rfl (by decide +kernel) (lo := [(0, .ref (G.2.1 + 0)), (1, .int u1), (2, .ref (G.2.1 + 143))]) rfl (Nat.le_of_ble_eq_true rfl) ?_
  intro x Q hxl h hX htab hret
  subst hxl
  refine r_aload_n (pc := 0) h 2 rfl rfl dL_restore_0 ?_
  refine r_iconst (pc := 1) (v := nI 0) h (by decide) dL_restore_1 ?_
  refine r_aload_n (pc := 2) h 0 rfl rfl dL_restore_2 ?_
  refine r_iload_n (pc := 3) h 1 rfl rfl dL_restore_3 ?_
  have hkx : ∀ (E : String) (s9 : Sg), (s9 = σ ∧ seqC (cB (inB (nI 0) (nI 1) u1) 1) (cB (sv (toN u1)) 3) ≠ 0 ∧ E = exN (seqC (cB (inB (nI 0) (nI 1) u1) 1) (cB (sv (toN u1)) 3))) → VT x G 4 2 12 Q s9 4 [(0, .ref (G.2.1 + 0)), (1, .int u1), (2, .ref (G.2.1 + 143))] [.int (nI 0), .ref (G.2.1 + 143)] E := by
    intro E s9 hp
    obtain ⟨e9, hC, hE⟩ := hp
    subst e9
    rcases (show seqC (cB (inB (nI 0) (nI 1) u1) 1) (cB (sv (toN u1)) 3) = 0 ∨ seqC (cB (inB (nI 0) (nI 1) u1) 1) (cB (sv (toN u1)) 3) = 1 ∨ seqC (cB (inB (nI 0) (nI 1) u1) 1) (cB (sv (toN u1)) 3) = 3 from r_seq _ _ _ _) with e0 | e0 | e0
    · exact absurd e0 hC
    · rw [e0] at hE
      obtain rfl : E = xO := hE
      refine VT_catch h [] ({ startPc := 0, endPc := 9, handlerPc := 12, catchType := 29 } : ExceptionTableEntry) [({ startPc := 0, endPc := 9, handlerPc := 15, catchType := 15 } : ExceptionTableEntry)] (htab.trans rfl) (fun y hy => absurd hy List.not_mem_nil) rfl (by decide) mw_22_19 hX.2.1.2.2.1 (fun q => ?_)
      refine r_astore_n (pc := 12) (lo2 := [(3, .ref q), (0, .ref (G.2.1 + 0)), (1, .int u1), (2, .ref (G.2.1 + 143))]) h rfl (by decide) rfl dL_restore_12 ?_
      refine r_iconst (pc := 13) (v := nI 1) h (by decide) dL_restore_13 ?_
      exact V.wd (by decide) (by decide) (hret _ _ (wl_no e0 (by decide) rfl (fun _ _ _ => rfl) hi) 14 _ dL_restore_14)
    · rw [e0] at hE
      obtain rfl : E = xS := hE
      refine VT_catch h [({ startPc := 0, endPc := 9, handlerPc := 12, catchType := 29 } : ExceptionTableEntry)] ({ startPc := 0, endPc := 9, handlerPc := 15, catchType := 15 } : ExceptionTableEntry) [] (htab.trans rfl) (List.forall_mem_cons.mpr ⟨Or.inr ⟨by decide, xO, mw_22_19, hX.2.2.2.2.1⟩, (fun y hy => absurd hy List.not_mem_nil)⟩) rfl (by decide) mw_4_12 hX.2.1.2.1 (fun q => ?_)
      refine r_astore_n (pc := 15) (lo2 := [(3, .ref q), (0, .ref (G.2.1 + 0)), (1, .int u1), (2, .ref (G.2.1 + 143))]) h rfl (by decide) rfl dL_restore_15 ?_
      refine r_iconst (pc := 16) (v := nI 2) h (by decide) dL_restore_16 ?_
      exact V.wd (by decide) (by decide) (hret _ _ (wl_no e0 (by decide) rfl (fun _ _ _ => rfl) hi) 17 _ dL_restore_17)
  refine r_xVi (pc := 4) (As := [.int u1]) (st := [.int (nI 0), .ref (G.2.1 + 143)]) h hX lk_RL_126 (c_x_restore x.2.1 hst G σ n tx A m H sv sl hi u1) rc_5 (by decide) rfl rfl (by first | decide | exact Nat.le_of_ble_eq_true rfl) (by decide) dL_restore_4 hkx (fun r1 s2 q3 => ?_)
  obtain ⟨k0, k1, k2, k3⟩ := q3
  subst k1
  refine r_i2l (pc := 7) (v := (nI (sl (toN u1)).1).toInt64) h rfl dL_restore_7 ?_
  refine r_last (pc := 8) h a_out 0 rfl (by omega) dL_restore_8 ?_
  refine r_goto (pc := 9) (tgt := 18) h (by decide) dL_restore_9 ?_
  refine r_iconst (pc := 18) (v := nI 0) h (by decide) dL_restore_18 ?_
  exact V.wd (by decide) (by decide) (hret _ _ (wl_ok (σ2 := sL s2 143 0 ((nI (sl (toN u1)).1).toInt64)) k0 rfl (show ∀ q, 134 ≤ q → q < 143 → s2.1 q = σ.1 q from keepO k3 (by decide)) (sL_s _ _ _ _) (k2.o (out_sL _ 143 0 _) (by omega))) 19 _ dL_restore_19)

