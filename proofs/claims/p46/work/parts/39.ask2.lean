/-! THE CLASS: its questions -/
set_option maxRecDepth 100000 in
set_option maxHeartbeats 800000 in
theorem c_x_isMember (l : Launch) (hst : l.stackTraces = false) (G : Gl) (σ : Sg) (A : Ab) (hr : RelB A σ 4) (u1 : Int32) (u2 : Int32) : Xi l yX5_isMember cX5_isMember 3 .boolean ({ frames := 7, cells := 2, slots := 12, locals := 112 } : Room) G [.ref (G.2.1 + 0), .int u1, .int u2] σ (fun r σ2 => seqC (cB (liB A u1) 1) (cB (inB (nI 0) (nI 999) u2) 2) = 0 ∧ r = zB (mem (aU A) (toN u1) (toN u2)) ∧ σ2 = σ) (fun E σ2 => σ2 = σ ∧ seqC (cB (liB A u1) 1) (cB (inB (nI 0) (nI 999) u2) 2) ≠ 0 ∧ E = exN (seqC (cB (liB A u1) 1) (cB (inB (nI 0) (nI 999) u2) 2))) := by
  refine Xi_of hst rfl (by decide +kernel) (lo := [(0, .ref (G.2.1 + 0)), (1, .int u1), (2, .int u2)]) rfl (Nat.le_of_ble_eq_true rfl) (fun r s hp => by obtain ⟨_, rfl, _⟩ := hp; exact zB_nar _) ?_
  intro x Q hxl h hX hret thI thS thO hout
  subst hxl
  have hN12 := hr.1.1
  have hR4 := hr.2.1.1
  have hwy := whyN_le A
  refine r_aload_n (pc := 0) h 0 rfl rfl dX5_isMember_0 ?_
  refine r_iload_n (pc := 1) h 1 rfl rfl dX5_isMember_1 ?_
  refine r_xVv (pc := 2) (As := [.int u1]) (st := []) h hX lk_RX5_95 (c_checkList x.2.1 hst G σ A hr u1) rc_5 (by decide) rfl rfl (by first | decide | exact Nat.le_of_ble_eq_true rfl) (by decide) dX5_isMember_2 (fun E s9 hp => hout E s9 (⟨hp.1, pe_1 hp.2⟩) 2 _ _ _ _ ⟨by decide, by decide⟩) (fun s2 q3 => ?_)
  obtain ⟨z2, e2⟩ := q3
  rw [e2]
  obtain ⟨L, rfl, hL⟩ := liB_nI hN12 z2
  obtain ⟨oL, cL, mL⟩ := hr.2.2.2.1 L hL
  refine r_iload_n (pc := 5) h 2 rfl rfl dX5_isMember_5 ?_
  refine r_iconst (pc := 6) (v := nI 0) h (by decide) dX5_isMember_6 ?_
  refine r_sipush (pc := 7) (v := nI 999) h (by decide) dX5_isMember_7 ?_
  refine r_xSv (pc := 10) (As := [.int u2, .int (nI 0), .int (nI 999)]) (st := []) h hX lk_RX5_41 (c_checkRange x.2.1 hst G σ u2 (nI 0) (nI 999)) (by decide) rfl rfl (by first | decide | exact Nat.le_of_ble_eq_true rfl) (by decide) dX5_isMember_10 (fun E s9 hp => hout E s9 (⟨hp.1, pe_2 (cB_t z2) hp.2⟩) 10 _ _ _ _ ⟨by decide, by decide⟩) (fun s5 q6 => ?_)
  obtain ⟨z10, e10⟩ := q6
  rw [e10]
  obtain ⟨v, rfl, lv, hv⟩ := inB_nI (by omega) (by omega) z10
  refine r_aload_n (pc := 13) h 0 rfl rfl dX5_isMember_13 ?_
  refine g_5_state (pc := 14) h mw_1_17 dX5_isMember_14 ?_
  refine g_3_lists (pc := 17) blk_4 h mw_19_15 dX5_isMember_17 ?_
  refine r_iload_n (pc := 20) h 1 rfl rfl dX5_isMember_20 ?_
  refine r_iload_n (pc := 21) h 2 rfl rfl dX5_isMember_21 ?_
  refine r_cVi (pc := 22) (As := [.int (nI L), .int (nI v)]) (st := []) h lk_RX5_99 (c_has x.2.1 G σ 4 blk_4 L v (by omega) (by omega)) (rc_1 blk_4) (by decide) rfl rfl (by first | decide | exact Nat.le_of_ble_eq_true rfl) (by decide) dX5_isMember_22 (fun r7 s8 q9 => ?_)
  rw [q9.1, q9.2]
  refine r_topi (b := zB (mem (aU A) L v)) (congrArg zB (mL _ (by omega))) ?_
  exact V.wd (by decide) (by decide) (hret _ _ (⟨seq_0 (cB_t z2) (cB_t z10), by rw [toN_nI (show L < 2 ^ 31 by omega), toN_nI (show v < 2 ^ 31 by omega)], rfl⟩) 25 _ dX5_isMember_25)

set_option maxRecDepth 100000 in
set_option maxHeartbeats 800000 in
theorem c_x_memberByReading (l : Launch) (hst : l.stackTraces = false) (G : Gl) (σ : Sg) (A : Ab) (hr : RelB A σ 4) (u1 : Int32) (u2 : Int32) : Xi l yX5_memberByReading cX5_memberByReading 3 .int ({ frames := 7, cells := 2, slots := 12, locals := 111 } : Room) G [.ref (G.2.1 + 0), .int u1, .int u2] σ (fun r σ2 => seqC (cB (liB A u1) 1) (cB (decide (0 ≤ u2)) 1) = 0 ∧ r = oI (ath (mem (aU A) (toN u1)) (toN u2)) ∧ σ2 = σ) (fun E σ2 => σ2 = σ ∧ seqC (cB (liB A u1) 1) (cB (decide (0 ≤ u2)) 1) ≠ 0 ∧ E = exN (seqC (cB (liB A u1) 1) (cB (decide (0 ≤ u2)) 1))) := by
  refine Xi_of hst rfl (by decide +kernel) (lo := [(0, .ref (G.2.1 + 0)), (1, .int u1), (2, .int u2)]) rfl (Nat.le_of_ble_eq_true rfl) (fun r s hp => by obtain ⟨_, rfl, _⟩ := hp; rfl) ?_
  intro x Q hxl h hX hret thI thS thO hout
  subst hxl
  have hN12 := hr.1.1
  have hR4 := hr.2.1.1
  have hwy := whyN_le A
  refine r_aload_n (pc := 0) h 0 rfl rfl dX5_memberByReading_0 ?_
  refine r_iload_n (pc := 1) h 1 rfl rfl dX5_memberByReading_1 ?_
  refine r_xVv (pc := 2) (As := [.int u1]) (st := []) h hX lk_RX5_95 (c_checkList x.2.1 hst G σ A hr u1) rc_5 (by decide) rfl rfl (by first | decide | exact Nat.le_of_ble_eq_true rfl) (by decide) dX5_memberByReading_2 (fun E s9 hp => hout E s9 (⟨hp.1, pe_1 hp.2⟩) 2 _ _ _ _ ⟨by decide, by decide⟩) (fun s2 q3 => ?_)
  obtain ⟨z2, e2⟩ := q3
  rw [e2]
  obtain ⟨L, rfl, hL⟩ := liB_nI hN12 z2
  obtain ⟨oL, cL, mL⟩ := hr.2.2.2.1 L hL
  refine r_iload_n (pc := 5) h 2 rfl rfl dX5_memberByReading_5 ?_
  refine r_xSv (pc := 6) (As := [.int u2]) (st := []) h hX lk_RX5_103 (c_checkPlace x.2.1 hst G σ u2) (by decide) rfl rfl (by first | decide | exact Nat.le_of_ble_eq_true rfl) (by decide) dX5_memberByReading_6 (fun E s9 hp => hout E s9 (⟨hp.1, pe_2 (cB_t z2) hp.2⟩) 6 _ _ _ _ ⟨by decide, by decide⟩) (fun s5 q6 => ?_)
  obtain ⟨z6, e6⟩ := q6
  rw [e6]
  obtain ⟨q, hq, rfl⟩ := wk_nat (of_decide_eq_true z6)
  refine r_aload_n (pc := 9) h 0 rfl rfl dX5_memberByReading_9 ?_
  refine g_5_state (pc := 10) h mw_1_17 dX5_memberByReading_10 ?_
  refine g_3_lists (pc := 13) blk_4 h mw_19_15 dX5_memberByReading_13 ?_
  refine r_iload_n (pc := 16) h 1 rfl rfl dX5_memberByReading_16 ?_
  refine r_iload_n (pc := 17) h 2 rfl rfl dX5_memberByReading_17 ?_
  refine r_cVi (pc := 18) (As := [.int (nI L), .int (nI q)]) (st := []) h lk_RX5_106 (c_memberReadAt x.2.1 G σ 4 blk_4 L q (by omega) (by omega) cL) (rc_1 blk_4) (by decide) rfl rfl (by first | decide | exact Nat.le_of_ble_eq_true rfl) (by decide) dX5_memberByReading_18 (fun r7 s8 q9 => ?_)
  rw [q9.1, q9.2]
  refine r_topi (b := oI (ath (mem (aU A) L) q)) (congrArg oI (ath_cong mL _)) ?_
  exact V.wd (by decide) (by decide) (hret _ _ (⟨seq_0 (cB_t z2) (cB_t z6), by rw [toN_nI (show L < 2 ^ 31 by omega), toN_nI (show q < 2 ^ 31 by omega)], rfl⟩) 21 _ dX5_memberByReading_21)

set_option maxRecDepth 100000 in
set_option maxHeartbeats 800000 in
theorem c_x_memberByTesting (l : Launch) (hst : l.stackTraces = false) (G : Gl) (σ : Sg) (A : Ab) (hr : RelB A σ 4) (u1 : Int32) (u2 : Int32) : Xi l yX5_memberByTesting cX5_memberByTesting 3 .int ({ frames := 7, cells := 2, slots := 12, locals := 111 } : Room) G [.ref (G.2.1 + 0), .int u1, .int u2] σ (fun r σ2 => seqC (cB (liB A u1) 1) (cB (decide (0 ≤ u2)) 1) = 0 ∧ r = oI (ath (mem (aU A) (toN u1)) (toN u2)) ∧ σ2 = σ) (fun E σ2 => σ2 = σ ∧ seqC (cB (liB A u1) 1) (cB (decide (0 ≤ u2)) 1) ≠ 0 ∧ E = exN (seqC (cB (liB A u1) 1) (cB (decide (0 ≤ u2)) 1))) := by
  refine Xi_of hst rfl (by decide +kernel) (lo := [(0, .ref (G.2.1 + 0)), (1, .int u1), (2, .int u2)]) rfl (Nat.le_of_ble_eq_true rfl) (fun r s hp => by obtain ⟨_, rfl, _⟩ := hp; rfl) ?_
  intro x Q hxl h hX hret thI thS thO hout
  subst hxl
  have hN12 := hr.1.1
  have hR4 := hr.2.1.1
  have hwy := whyN_le A
  refine r_aload_n (pc := 0) h 0 rfl rfl dX5_memberByTesting_0 ?_
  refine r_iload_n (pc := 1) h 1 rfl rfl dX5_memberByTesting_1 ?_
  refine r_xVv (pc := 2) (As := [.int u1]) (st := []) h hX lk_RX5_95 (c_checkList x.2.1 hst G σ A hr u1) rc_5 (by decide) rfl rfl (by first | decide | exact Nat.le_of_ble_eq_true rfl) (by decide) dX5_memberByTesting_2 (fun E s9 hp => hout E s9 (⟨hp.1, pe_1 hp.2⟩) 2 _ _ _ _ ⟨by decide, by decide⟩) (fun s2 q3 => ?_)
  obtain ⟨z2, e2⟩ := q3
  rw [e2]
  obtain ⟨L, rfl, hL⟩ := liB_nI hN12 z2
  obtain ⟨oL, cL, mL⟩ := hr.2.2.2.1 L hL
  refine r_iload_n (pc := 5) h 2 rfl rfl dX5_memberByTesting_5 ?_
  refine r_xSv (pc := 6) (As := [.int u2]) (st := []) h hX lk_RX5_103 (c_checkPlace x.2.1 hst G σ u2) (by decide) rfl rfl (by first | decide | exact Nat.le_of_ble_eq_true rfl) (by decide) dX5_memberByTesting_6 (fun E s9 hp => hout E s9 (⟨hp.1, pe_2 (cB_t z2) hp.2⟩) 6 _ _ _ _ ⟨by decide, by decide⟩) (fun s5 q6 => ?_)
  obtain ⟨z6, e6⟩ := q6
  rw [e6]
  obtain ⟨q, hq, rfl⟩ := wk_nat (of_decide_eq_true z6)
  refine r_aload_n (pc := 9) h 0 rfl rfl dX5_memberByTesting_9 ?_
  refine g_5_state (pc := 10) h mw_1_17 dX5_memberByTesting_10 ?_
  refine g_3_lists (pc := 13) blk_4 h mw_19_15 dX5_memberByTesting_13 ?_
  refine r_iload_n (pc := 16) h 1 rfl rfl dX5_memberByTesting_16 ?_
  refine r_iload_n (pc := 17) h 2 rfl rfl dX5_memberByTesting_17 ?_
  refine r_cVi (pc := 18) (As := [.int (nI L), .int (nI q)]) (st := []) h lk_RX5_110 (c_memberTestedAt x.2.1 G σ 4 blk_4 L q (by omega) (by omega)) (rc_1 blk_4) (by decide) rfl rfl (by first | decide | exact Nat.le_of_ble_eq_true rfl) (by decide) dX5_memberByTesting_18 (fun r7 s8 q9 => ?_)
  rw [q9.1, q9.2]
  refine r_topi (b := oI (ath (mem (aU A) L) q)) (congrArg oI (ath_cong mL _)) ?_
  exact V.wd (by decide) (by decide) (hret _ _ (⟨seq_0 (cB_t z2) (cB_t z6), by rw [toN_nI (show L < 2 ^ 31 by omega), toN_nI (show q < 2 ^ 31 by omega)], rfl⟩) 21 _ dX5_memberByTesting_21)

set_option maxRecDepth 100000 in
set_option maxHeartbeats 800000 in
theorem c_x_placeOf (l : Launch) (hst : l.stackTraces = false) (G : Gl) (σ : Sg) (A : Ab) (hr : RelB A σ 4) (u1 : Int32) (u2 : Int32) : Xi l yX5_placeOf cX5_placeOf 3 .int ({ frames := 7, cells := 2, slots := 12, locals := 112 } : Room) G [.ref (G.2.1 + 0), .int u1, .int u2] σ (fun r σ2 => seqC (cB (liB A u1) 1) (cB (inB (nI 0) (nI 999) u2) 2) = 0 ∧ r = (if mem (aU A) (toN u1) (toN u2) then nI (cS (mem (aU A) (toN u1)) ((toN u2) + 1) - 1) else -1) ∧ σ2 = σ) (fun E σ2 => σ2 = σ ∧ seqC (cB (liB A u1) 1) (cB (inB (nI 0) (nI 999) u2) 2) ≠ 0 ∧ E = exN (seqC (cB (liB A u1) 1) (cB (inB (nI 0) (nI 999) u2) 2))) := by
  refine Xi_of hst rfl (by decide +kernel) (lo := [(0, .ref (G.2.1 + 0)), (1, .int u1), (2, .int u2)]) rfl (Nat.le_of_ble_eq_true rfl) (fun r s hp => by obtain ⟨_, rfl, _⟩ := hp; rfl) ?_
  intro x Q hxl h hX hret thI thS thO hout
  subst hxl
  have hN12 := hr.1.1
  have hR4 := hr.2.1.1
  have hwy := whyN_le A
  refine r_aload_n (pc := 0) h 0 rfl rfl dX5_placeOf_0 ?_
  refine r_iload_n (pc := 1) h 1 rfl rfl dX5_placeOf_1 ?_
  refine r_xVv (pc := 2) (As := [.int u1]) (st := []) h hX lk_RX5_95 (c_checkList x.2.1 hst G σ A hr u1) rc_5 (by decide) rfl rfl (by first | decide | exact Nat.le_of_ble_eq_true rfl) (by decide) dX5_placeOf_2 (fun E s9 hp => hout E s9 (⟨hp.1, pe_1 hp.2⟩) 2 _ _ _ _ ⟨by decide, by decide⟩) (fun s2 q3 => ?_)
  obtain ⟨z2, e2⟩ := q3
  rw [e2]
  obtain ⟨L, rfl, hL⟩ := liB_nI hN12 z2
  obtain ⟨oL, cL, mL⟩ := hr.2.2.2.1 L hL
  refine r_iload_n (pc := 5) h 2 rfl rfl dX5_placeOf_5 ?_
  refine r_iconst (pc := 6) (v := nI 0) h (by decide) dX5_placeOf_6 ?_
  refine r_sipush (pc := 7) (v := nI 999) h (by decide) dX5_placeOf_7 ?_
  refine r_xSv (pc := 10) (As := [.int u2, .int (nI 0), .int (nI 999)]) (st := []) h hX lk_RX5_41 (c_checkRange x.2.1 hst G σ u2 (nI 0) (nI 999)) (by decide) rfl rfl (by first | decide | exact Nat.le_of_ble_eq_true rfl) (by decide) dX5_placeOf_10 (fun E s9 hp => hout E s9 (⟨hp.1, pe_2 (cB_t z2) hp.2⟩) 10 _ _ _ _ ⟨by decide, by decide⟩) (fun s5 q6 => ?_)
  obtain ⟨z10, e10⟩ := q6
  rw [e10]
  obtain ⟨v, rfl, lv, hv⟩ := inB_nI (by omega) (by omega) z10
  refine r_aload_n (pc := 13) h 0 rfl rfl dX5_placeOf_13 ?_
  refine g_5_state (pc := 14) h mw_1_17 dX5_placeOf_14 ?_
  refine g_3_lists (pc := 17) blk_4 h mw_19_15 dX5_placeOf_17 ?_
  refine r_iload_n (pc := 20) h 1 rfl rfl dX5_placeOf_20 ?_
  refine r_iload_n (pc := 21) h 2 rfl rfl dX5_placeOf_21 ?_
  refine r_cVi (pc := 22) (As := [.int (nI L), .int (nI v)]) (st := []) h lk_RX5_99 (c_has x.2.1 G σ 4 blk_4 L v (by omega) (by omega)) (rc_1 blk_4) (by decide) rfl rfl (by first | decide | exact Nat.le_of_ble_eq_true rfl) (by decide) dX5_placeOf_22 (fun r7 s8 q9 => ?_)
  rw [q9.1, q9.2]
  refine r_topi (b := zB (mem (aU A) L v)) (congrArg zB (mL _ (by omega))) ?_
  refine r_if_eq (pc := 25) (tgt := 45) h (by decide) dX5_placeOf_25 (fun c25 => ?_) (fun c25 => ?_)
  · skip
    replace c25 := zB_0.mp c25
    refine r_iconst (pc := 45) (v := (-1)) h (by decide) dX5_placeOf_45 ?_
    exact V.wd (by decide) (by decide) (hret _ _ (⟨seq_0 (cB_t z2) (cB_t z10), by rw [toN_nI (show L < 2 ^ 31 by omega), toN_nI (show v < 2 ^ 31 by omega)]; simp [c25], rfl⟩) 46 _ dX5_placeOf_46)
  · skip
    replace c25 := zB_n0.mp c25
    have hcs : 1 ≤ cS (mem (aU A) L) (v + 1) := by rw [cS, if_pos c25]; omega
    refine r_aload_n (pc := 28) h 0 rfl rfl dX5_placeOf_28 ?_
    refine g_5_state (pc := 29) h mw_1_17 dX5_placeOf_29 ?_
    refine g_3_lists (pc := 32) blk_4 h mw_19_15 dX5_placeOf_32 ?_
    refine r_iload_n (pc := 35) h 1 rfl rfl dX5_placeOf_35 ?_
    refine r_iload_n (pc := 36) h 2 rfl rfl dX5_placeOf_36 ?_
    refine r_cVi (pc := 37) (As := [.int (nI L), .int (nI v)]) (st := []) h lk_RX5_113 (c_countUpTo x.2.1 G σ 4 blk_4 L v (by omega) (by omega)) (rc_1 blk_4) (by decide) rfl rfl (by first | decide | exact Nat.le_of_ble_eq_true rfl) (by decide) dX5_placeOf_37 (fun r10 s11 q12 => ?_)
    rw [q12.1, q12.2]
    refine r_topi (b := nI (cS (mem (aU A) L) (v + 1))) (congrArg nI (cS_cong (fun k hk => mL k (by omega)))) ?_
    refine r_iconst (pc := 40) (v := nI 1) h (by decide) dX5_placeOf_40 ?_
    refine r_isub (pc := 41) (v := nI ((cS (mem (aU A) L) (v + 1)) - 1)) h (pk_sub (by omega)) dX5_placeOf_41 ?_
    refine r_goto (pc := 42) (tgt := 46) h (by decide) dX5_placeOf_42 ?_
    exact V.wd (by decide) (by decide) (hret _ _ (⟨seq_0 (cB_t z2) (cB_t z10), by rw [toN_nI (show L < 2 ^ 31 by omega), toN_nI (show v < 2 ^ 31 by omega)]; simp [c25], rfl⟩) 46 _ dX5_placeOf_46)

set_option maxRecDepth 100000 in
set_option maxHeartbeats 800000 in
theorem c_x_membersUpTo (l : Launch) (hst : l.stackTraces = false) (G : Gl) (σ : Sg) (A : Ab) (hr : RelB A σ 4) (u1 : Int32) (u2 : Int32) : Xi l yX5_membersUpTo cX5_membersUpTo 3 .int ({ frames := 7, cells := 2, slots := 12, locals := 112 } : Room) G [.ref (G.2.1 + 0), .int u1, .int u2] σ (fun r σ2 => seqC (cB (liB A u1) 1) (cB (inB (nI 0) (nI 999) u2) 2) = 0 ∧ r = nI (cS (mem (aU A) (toN u1)) ((toN u2) + 1)) ∧ σ2 = σ) (fun E σ2 => σ2 = σ ∧ seqC (cB (liB A u1) 1) (cB (inB (nI 0) (nI 999) u2) 2) ≠ 0 ∧ E = exN (seqC (cB (liB A u1) 1) (cB (inB (nI 0) (nI 999) u2) 2))) := by
  refine Xi_of hst rfl (by decide +kernel) (lo := [(0, .ref (G.2.1 + 0)), (1, .int u1), (2, .int u2)]) rfl (Nat.le_of_ble_eq_true rfl) (fun r s hp => by obtain ⟨_, rfl, _⟩ := hp; rfl) ?_
  intro x Q hxl h hX hret thI thS thO hout
  subst hxl
  have hN12 := hr.1.1
  have hR4 := hr.2.1.1
  have hwy := whyN_le A
  refine r_aload_n (pc := 0) h 0 rfl rfl dX5_membersUpTo_0 ?_
  refine r_iload_n (pc := 1) h 1 rfl rfl dX5_membersUpTo_1 ?_
  refine r_xVv (pc := 2) (As := [.int u1]) (st := []) h hX lk_RX5_95 (c_checkList x.2.1 hst G σ A hr u1) rc_5 (by decide) rfl rfl (by first | decide | exact Nat.le_of_ble_eq_true rfl) (by decide) dX5_membersUpTo_2 (fun E s9 hp => hout E s9 (⟨hp.1, pe_1 hp.2⟩) 2 _ _ _ _ ⟨by decide, by decide⟩) (fun s2 q3 => ?_)
  obtain ⟨z2, e2⟩ := q3
  rw [e2]
  obtain ⟨L, rfl, hL⟩ := liB_nI hN12 z2
  obtain ⟨oL, cL, mL⟩ := hr.2.2.2.1 L hL
  refine r_iload_n (pc := 5) h 2 rfl rfl dX5_membersUpTo_5 ?_
  refine r_iconst (pc := 6) (v := nI 0) h (by decide) dX5_membersUpTo_6 ?_
  refine r_sipush (pc := 7) (v := nI 999) h (by decide) dX5_membersUpTo_7 ?_
  refine r_xSv (pc := 10) (As := [.int u2, .int (nI 0), .int (nI 999)]) (st := []) h hX lk_RX5_41 (c_checkRange x.2.1 hst G σ u2 (nI 0) (nI 999)) (by decide) rfl rfl (by first | decide | exact Nat.le_of_ble_eq_true rfl) (by decide) dX5_membersUpTo_10 (fun E s9 hp => hout E s9 (⟨hp.1, pe_2 (cB_t z2) hp.2⟩) 10 _ _ _ _ ⟨by decide, by decide⟩) (fun s5 q6 => ?_)
  obtain ⟨z10, e10⟩ := q6
  rw [e10]
  obtain ⟨v, rfl, lv, hv⟩ := inB_nI (by omega) (by omega) z10
  refine r_aload_n (pc := 13) h 0 rfl rfl dX5_membersUpTo_13 ?_
  refine g_5_state (pc := 14) h mw_1_17 dX5_membersUpTo_14 ?_
  refine g_3_lists (pc := 17) blk_4 h mw_19_15 dX5_membersUpTo_17 ?_
  refine r_iload_n (pc := 20) h 1 rfl rfl dX5_membersUpTo_20 ?_
  refine r_iload_n (pc := 21) h 2 rfl rfl dX5_membersUpTo_21 ?_
  refine r_cVi (pc := 22) (As := [.int (nI L), .int (nI v)]) (st := []) h lk_RX5_113 (c_countUpTo x.2.1 G σ 4 blk_4 L v (by omega) (by omega)) (rc_1 blk_4) (by decide) rfl rfl (by first | decide | exact Nat.le_of_ble_eq_true rfl) (by decide) dX5_membersUpTo_22 (fun r7 s8 q9 => ?_)
  rw [q9.1, q9.2]
  refine r_topi (b := nI (cS (mem (aU A) L) (v + 1))) (congrArg nI (cS_cong (fun k hk => mL k (by omega)))) ?_
  exact V.wd (by decide) (by decide) (hret _ _ (⟨seq_0 (cB_t z2) (cB_t z10), by rw [toN_nI (show L < 2 ^ 31 by omega), toN_nI (show v < 2 ^ 31 by omega)], rfl⟩) 25 _ dX5_membersUpTo_25)

set_option maxRecDepth 100000 in
set_option maxHeartbeats 800000 in
theorem c_x_lastMember (l : Launch) (hst : l.stackTraces = false) (G : Gl) (σ : Sg) (A : Ab) (hr : RelB A σ 4) (u1 : Int32) : Xi l yX5_lastMember cX5_lastMember 2 .int ({ frames := 7, cells := 1, slots := 6, locals := 111 } : Room) G [.ref (G.2.1 + 0), .int u1] σ (fun r σ2 => cB (liB A u1) 1 = 0 ∧ r = oI (lstB (mem (aU A) (toN u1)) 1000) ∧ σ2 = σ) (fun E σ2 => σ2 = σ ∧ cB (liB A u1) 1 ≠ 0 ∧ E = exN (cB (liB A u1) 1)) := by
  refine Xi_of hst rfl (by decide +kernel) (lo := [(0, .ref (G.2.1 + 0)), (1, .int u1)]) rfl (Nat.le_of_ble_eq_true rfl) (fun r s hp => by obtain ⟨_, rfl, _⟩ := hp; rfl) ?_
  intro x Q hxl h hX hret thI thS thO hout
  subst hxl
  have hN12 := hr.1.1
  have hR4 := hr.2.1.1
  have hwy := whyN_le A
  refine r_aload_n (pc := 0) h 0 rfl rfl dX5_lastMember_0 ?_
  refine r_iload_n (pc := 1) h 1 rfl rfl dX5_lastMember_1 ?_
  refine r_xVv (pc := 2) (As := [.int u1]) (st := []) h hX lk_RX5_95 (c_checkList x.2.1 hst G σ A hr u1) rc_5 (by decide) rfl rfl (by first | decide | exact Nat.le_of_ble_eq_true rfl) (by decide) dX5_lastMember_2 (fun E s9 hp => hout E s9 (⟨hp.1, hp.2⟩) 2 _ _ _ _ ⟨by decide, by decide⟩) (fun s2 q3 => ?_)
  obtain ⟨z2, e2⟩ := q3
  rw [e2]
  obtain ⟨L, rfl, hL⟩ := liB_nI hN12 z2
  obtain ⟨oL, cL, mL⟩ := hr.2.2.2.1 L hL
  refine r_aload_n (pc := 5) h 0 rfl rfl dX5_lastMember_5 ?_
  refine g_5_state (pc := 6) h mw_1_17 dX5_lastMember_6 ?_
  refine g_3_lists (pc := 9) blk_4 h mw_19_15 dX5_lastMember_9 ?_
  refine r_iload_n (pc := 12) h 1 rfl rfl dX5_lastMember_12 ?_
  refine r_cVi (pc := 13) (As := [.int (nI L)]) (st := []) h lk_RX5_116 (c_greatestOf x.2.1 G σ 4 blk_4 L (by omega)) (rc_1 blk_4) (by decide) rfl rfl (by first | decide | exact Nat.le_of_ble_eq_true rfl) (by decide) dX5_lastMember_13 (fun r4 s5 q6 => ?_)
  rw [q6.1, q6.2]
  refine r_topi (b := oI (lstB (mem (aU A) L) 1000)) (congrArg oI (lstB_cong mL)) ?_
  exact V.wd (by decide) (by decide) (hret _ _ (⟨cB_t z2, by rw [toN_nI (show L < 2 ^ 31 by omega)], rfl⟩) 16 _ dX5_lastMember_16)

set_option maxRecDepth 100000 in
set_option maxHeartbeats 800000 in
theorem c_x_firstShared (l : Launch) (hst : l.stackTraces = false) (G : Gl) (σ : Sg) (A : Ab) (hr : RelB A σ 4) (u1 : Int32) (u2 : Int32) : Xi l yX5_firstShared cX5_firstShared 3 .int ({ frames := 7, cells := 2, slots := 12, locals := 111 } : Room) G [.ref (G.2.1 + 0), .int u1, .int u2] σ (fun r σ2 => seqC (cB (liB A u1) 1) (cB (liB A u2) 1) = 0 ∧ r = oI (nxt (fun v => mem (aU A) (toN u1) v && mem (aU A) (toN u2) v) 0) ∧ σ2 = σ) (fun E σ2 => σ2 = σ ∧ seqC (cB (liB A u1) 1) (cB (liB A u2) 1) ≠ 0 ∧ E = exN (seqC (cB (liB A u1) 1) (cB (liB A u2) 1))) := by
  refine Xi_of hst rfl (by decide +kernel) (lo := [(0, .ref (G.2.1 + 0)), (1, .int u1), (2, .int u2)]) rfl (Nat.le_of_ble_eq_true rfl) (fun r s hp => by obtain ⟨_, rfl, _⟩ := hp; rfl) ?_
  intro x Q hxl h hX hret thI thS thO hout
  subst hxl
  have hN12 := hr.1.1
  have hR4 := hr.2.1.1
  have hwy := whyN_le A
  refine r_aload_n (pc := 0) h 0 rfl rfl dX5_firstShared_0 ?_
  refine r_iload_n (pc := 1) h 1 rfl rfl dX5_firstShared_1 ?_
  refine r_xVv (pc := 2) (As := [.int u1]) (st := []) h hX lk_RX5_95 (c_checkList x.2.1 hst G σ A hr u1) rc_5 (by decide) rfl rfl (by first | decide | exact Nat.le_of_ble_eq_true rfl) (by decide) dX5_firstShared_2 (fun E s9 hp => hout E s9 (⟨hp.1, pe_1 hp.2⟩) 2 _ _ _ _ ⟨by decide, by decide⟩) (fun s2 q3 => ?_)
  obtain ⟨z2, e2⟩ := q3
  rw [e2]
  obtain ⟨L, rfl, hL⟩ := liB_nI hN12 z2
  obtain ⟨oL, cL, mL⟩ := hr.2.2.2.1 L hL
  refine r_aload_n (pc := 5) h 0 rfl rfl dX5_firstShared_5 ?_
  refine r_iload_n (pc := 6) h 2 rfl rfl dX5_firstShared_6 ?_
  refine r_xVv (pc := 7) (As := [.int u2]) (st := []) h hX lk_RX5_95 (c_checkList x.2.1 hst G σ A hr u2) rc_5 (by decide) rfl rfl (by first | decide | exact Nat.le_of_ble_eq_true rfl) (by decide) dX5_firstShared_7 (fun E s9 hp => hout E s9 (⟨hp.1, pe_2 (cB_t z2) hp.2⟩) 7 _ _ _ _ ⟨by decide, by decide⟩) (fun s5 q6 => ?_)
  obtain ⟨z7, e7⟩ := q6
  rw [e7]
  obtain ⟨M, rfl, hM⟩ := liB_nI hN12 z7
  obtain ⟨oM, cM, mM⟩ := hr.2.2.2.1 M hM
  refine r_aload_n (pc := 10) h 0 rfl rfl dX5_firstShared_10 ?_
  refine g_5_state (pc := 11) h mw_1_17 dX5_firstShared_11 ?_
  refine g_3_lists (pc := 14) blk_4 h mw_19_15 dX5_firstShared_14 ?_
  refine r_iload_n (pc := 17) h 1 rfl rfl dX5_firstShared_17 ?_
  refine r_iload_n (pc := 18) h 2 rfl rfl dX5_firstShared_18 ?_
  refine r_cVi (pc := 19) (As := [.int (nI L), .int (nI M)]) (st := []) h lk_RX5_120 (c_leastOfBoth x.2.1 G σ 4 blk_4 L M (by omega) (by omega) cL) (rc_1 blk_4) (by decide) rfl rfl (by first | decide | exact Nat.le_of_ble_eq_true rfl) (by decide) dX5_firstShared_19 (fun r7 s8 q9 => ?_)
  rw [q9.1, q9.2]
  refine r_topi (b := oI (nxt (fun v => mem (aU A) L v && mem (aU A) M v) 0)) (congrArg oI (nxt_cong (fun v hv => by rw [mL v hv, mM v hv]))) ?_
  exact V.wd (by decide) (by decide) (hret _ _ (⟨seq_0 (cB_t z2) (cB_t z7), by rw [toN_nI (show L < 2 ^ 31 by omega), toN_nI (show M < 2 ^ 31 by omega)], rfl⟩) 22 _ dX5_firstShared_22)

set_option maxRecDepth 100000 in
set_option maxHeartbeats 800000 in
theorem c_x_widestGap (l : Launch) (hst : l.stackTraces = false) (G : Gl) (σ : Sg) (A : Ab) (hr : RelB A σ 4) (u1 : Int32) : Xi l yX5_widestGap cX5_widestGap 2 .int ({ frames := 7, cells := 1, slots := 6, locals := 111 } : Room) G [.ref (G.2.1 + 0), .int u1] σ (fun r σ2 => cB (liB A u1) 1 = 0 ∧ r = nI (gp (mem (aU A) (toN u1)) 1000).2 ∧ σ2 = σ) (fun E σ2 => σ2 = σ ∧ cB (liB A u1) 1 ≠ 0 ∧ E = exN (cB (liB A u1) 1)) := by
  refine Xi_of hst rfl (by decide +kernel) (lo := [(0, .ref (G.2.1 + 0)), (1, .int u1)]) rfl (Nat.le_of_ble_eq_true rfl) (fun r s hp => by obtain ⟨_, rfl, _⟩ := hp; rfl) ?_
  intro x Q hxl h hX hret thI thS thO hout
  subst hxl
  have hN12 := hr.1.1
  have hR4 := hr.2.1.1
  have hwy := whyN_le A
  refine r_aload_n (pc := 0) h 0 rfl rfl dX5_widestGap_0 ?_
  refine r_iload_n (pc := 1) h 1 rfl rfl dX5_widestGap_1 ?_
  refine r_xVv (pc := 2) (As := [.int u1]) (st := []) h hX lk_RX5_95 (c_checkList x.2.1 hst G σ A hr u1) rc_5 (by decide) rfl rfl (by first | decide | exact Nat.le_of_ble_eq_true rfl) (by decide) dX5_widestGap_2 (fun E s9 hp => hout E s9 (⟨hp.1, hp.2⟩) 2 _ _ _ _ ⟨by decide, by decide⟩) (fun s2 q3 => ?_)
  obtain ⟨z2, e2⟩ := q3
  rw [e2]
  obtain ⟨L, rfl, hL⟩ := liB_nI hN12 z2
  obtain ⟨oL, cL, mL⟩ := hr.2.2.2.1 L hL
  refine r_aload_n (pc := 5) h 0 rfl rfl dX5_widestGap_5 ?_
  refine g_5_state (pc := 6) h mw_1_17 dX5_widestGap_6 ?_
  refine g_3_lists (pc := 9) blk_4 h mw_19_15 dX5_widestGap_9 ?_
  refine r_iload_n (pc := 12) h 1 rfl rfl dX5_widestGap_12 ?_
  refine r_cVi (pc := 13) (As := [.int (nI L)]) (st := []) h lk_RX5_123 (c_greatestGap x.2.1 G σ 4 blk_4 L (by omega) cL) (rc_1 blk_4) (by decide) rfl rfl (by first | decide | exact Nat.le_of_ble_eq_true rfl) (by decide) dX5_widestGap_13 (fun r4 s5 q6 => ?_)
  rw [q6.1, q6.2]
  refine r_topi (b := nI (gp (mem (aU A) L) 1000).2) (congrArg (fun z => nI z.2) (gp_cong mL)) ?_
  exact V.wd (by decide) (by decide) (hret _ _ (⟨cB_t z2, by rw [toN_nI (show L < 2 ^ 31 by omega)], rfl⟩) 16 _ dX5_widestGap_16)

set_option maxRecDepth 100000 in
set_option maxHeartbeats 800000 in
theorem c_x_listOf (l : Launch) (hst : l.stackTraces = false) (G : Gl) (σ : Sg) (A : Ab) (hr : RelB A σ 4) (u1 : Int32) : Xi l yX5_listOf cX5_listOf 2 .int ({ frames := 7, cells := 1, slots := 6, locals := 111 } : Room) G [.ref (G.2.1 + 0), .int u1] σ (fun r σ2 => cB (rdB A u1) 1 = 0 ∧ r = nI (aL A (toN u1)) ∧ σ2 = σ) (fun E σ2 => σ2 = σ ∧ cB (rdB A u1) 1 ≠ 0 ∧ E = exN (cB (rdB A u1) 1)) := by
  refine Xi_of hst rfl (by decide +kernel) (lo := [(0, .ref (G.2.1 + 0)), (1, .int u1)]) rfl (Nat.le_of_ble_eq_true rfl) (fun r s hp => by obtain ⟨_, rfl, _⟩ := hp; rfl) ?_
  intro x Q hxl h hX hret thI thS thO hout
  subst hxl
  have hN12 := hr.1.1
  have hR4 := hr.2.1.1
  have hwy := whyN_le A
  refine r_aload_n (pc := 0) h 0 rfl rfl dX5_listOf_0 ?_
  refine r_iload_n (pc := 1) h 1 rfl rfl dX5_listOf_1 ?_
  refine r_xVv (pc := 2) (As := [.int u1]) (st := []) h hX lk_RX5_133 (c_checkReader x.2.1 hst G σ A hr u1) rc_5 (by decide) rfl rfl (by first | decide | exact Nat.le_of_ble_eq_true rfl) (by decide) dX5_listOf_2 (fun E s9 hp => hout E s9 (⟨hp.1, hp.2⟩) 2 _ _ _ _ ⟨by decide, by decide⟩) (fun s2 q3 => ?_)
  obtain ⟨z2, e2⟩ := q3
  rw [e2]
  obtain ⟨i, rfl, hi⟩ := rdB_nI hR4 z2
  obtain ⟨p1, p2, p3, g, hg, p4, p5⟩ := hr.2.2.2.2 i hi
  refine r_aload_n (pc := 5) h 0 rfl rfl dX5_listOf_5 ?_
  refine g_5_state (pc := 6) h mw_1_17 dX5_listOf_6 ?_
  refine g_3_readers (pc := 9) blk_4 h mw_23_13 dX5_listOf_9 ?_
  refine g_2_list (pc := 12) blk_4 h mw_23_14 dX5_listOf_12 ?_
  refine r_iload_n (pc := 15) h 1 rfl rfl dX5_listOf_15 ?_
  refine r_iald (pc := 16) h (a_li blk_4) i rfl (by omega) dX5_listOf_16 ?_
  refine r_topi (b := nI (aL A i)) p2 ?_
  exact V.wd (by decide) (by decide) (hret _ _ (⟨cB_t z2, by rw [toN_nI (show i < 2 ^ 31 by omega)], rfl⟩) 17 _ dX5_listOf_17)

set_option maxRecDepth 100000 in
set_option maxHeartbeats 800000 in
theorem c_x_readSoFar (l : Launch) (hst : l.stackTraces = false) (G : Gl) (σ : Sg) (A : Ab) (hr : RelB A σ 4) (u1 : Int32) : Xi l yX5_readSoFar cX5_readSoFar 2 .int ({ frames := 7, cells := 1, slots := 6, locals := 111 } : Room) G [.ref (G.2.1 + 0), .int u1] σ (fun r σ2 => cB (rdB A u1) 1 = 0 ∧ r = nI (aP A (toN u1)) ∧ σ2 = σ) (fun E σ2 => σ2 = σ ∧ cB (rdB A u1) 1 ≠ 0 ∧ E = exN (cB (rdB A u1) 1)) := by
  refine Xi_of hst rfl (by decide +kernel) (lo := [(0, .ref (G.2.1 + 0)), (1, .int u1)]) rfl (Nat.le_of_ble_eq_true rfl) (fun r s hp => by obtain ⟨_, rfl, _⟩ := hp; rfl) ?_
  intro x Q hxl h hX hret thI thS thO hout
  subst hxl
  have hN12 := hr.1.1
  have hR4 := hr.2.1.1
  have hwy := whyN_le A
  refine r_aload_n (pc := 0) h 0 rfl rfl dX5_readSoFar_0 ?_
  refine r_iload_n (pc := 1) h 1 rfl rfl dX5_readSoFar_1 ?_
  refine r_xVv (pc := 2) (As := [.int u1]) (st := []) h hX lk_RX5_133 (c_checkReader x.2.1 hst G σ A hr u1) rc_5 (by decide) rfl rfl (by first | decide | exact Nat.le_of_ble_eq_true rfl) (by decide) dX5_readSoFar_2 (fun E s9 hp => hout E s9 (⟨hp.1, hp.2⟩) 2 _ _ _ _ ⟨by decide, by decide⟩) (fun s2 q3 => ?_)
  obtain ⟨z2, e2⟩ := q3
  rw [e2]
  obtain ⟨i, rfl, hi⟩ := rdB_nI hR4 z2
  obtain ⟨p1, p2, p3, g, hg, p4, p5⟩ := hr.2.2.2.2 i hi
  refine r_aload_n (pc := 5) h 0 rfl rfl dX5_readSoFar_5 ?_
  refine g_5_state (pc := 6) h mw_1_17 dX5_readSoFar_6 ?_
  refine g_3_readers (pc := 9) blk_4 h mw_23_13 dX5_readSoFar_9 ?_
  refine g_2_passed (pc := 12) blk_4 h mw_24_3 dX5_readSoFar_12 ?_
  refine r_iload_n (pc := 15) h 1 rfl rfl dX5_readSoFar_15 ?_
  refine r_iald (pc := 16) h (a_pa blk_4) i rfl (by omega) dX5_readSoFar_16 ?_
  refine r_topi (b := nI (aP A i)) p3 ?_
  exact V.wd (by decide) (by decide) (hret _ _ (⟨cB_t z2, by rw [toN_nI (show i < 2 ^ 31 by omega)], rfl⟩) 17 _ dX5_readSoFar_17)

set_option maxRecDepth 100000 in
set_option maxHeartbeats 800000 in
theorem c_x_nextOf (l : Launch) (hst : l.stackTraces = false) (G : Gl) (σ : Sg) (A : Ab) (hr : RelB A σ 4) (u1 : Int32) : Xi l yX5_nextOf cX5_nextOf 2 .int ({ frames := 7, cells := 1, slots := 6, locals := 111 } : Room) G [.ref (G.2.1 + 0), .int u1] σ (fun r σ2 => cB (rdB A u1) 1 = 0 ∧ r = oI (nextO A (toN u1)) ∧ σ2 = σ) (fun E σ2 => σ2 = σ ∧ cB (rdB A u1) 1 ≠ 0 ∧ E = exN (cB (rdB A u1) 1)) := by
  refine Xi_of hst rfl (by decide +kernel) (lo := [(0, .ref (G.2.1 + 0)), (1, .int u1)]) rfl (Nat.le_of_ble_eq_true rfl) (fun r s hp => by obtain ⟨_, rfl, _⟩ := hp; rfl) ?_
  intro x Q hxl h hX hret thI thS thO hout
  subst hxl
  have hN12 := hr.1.1
  have hR4 := hr.2.1.1
  have hwy := whyN_le A
  refine r_aload_n (pc := 0) h 0 rfl rfl dX5_nextOf_0 ?_
  refine r_iload_n (pc := 1) h 1 rfl rfl dX5_nextOf_1 ?_
  refine r_xVv (pc := 2) (As := [.int u1]) (st := []) h hX lk_RX5_133 (c_checkReader x.2.1 hst G σ A hr u1) rc_5 (by decide) rfl rfl (by first | decide | exact Nat.le_of_ble_eq_true rfl) (by decide) dX5_nextOf_2 (fun E s9 hp => hout E s9 (⟨hp.1, hp.2⟩) 2 _ _ _ _ ⟨by decide, by decide⟩) (fun s2 q3 => ?_)
  obtain ⟨z2, e2⟩ := q3
  rw [e2]
  obtain ⟨i, rfl, hi⟩ := rdB_nI hR4 z2
  obtain ⟨p1, p2, p3, g, hg, p4, p5⟩ := hr.2.2.2.2 i hi
  refine r_aload_n (pc := 5) h 0 rfl rfl dX5_nextOf_5 ?_
  refine g_5_state (pc := 6) h mw_1_17 dX5_nextOf_6 ?_
  refine r_iload_n (pc := 9) h 1 rfl rfl dX5_nextOf_9 ?_
  refine r_cVi (pc := 10) (As := [.int (nI i)]) (st := []) h lk_RX5_143 (c_upcoming x.2.1 G σ 4 blk_4 A hr (nI i)) (rc_3 blk_4) (by decide) rfl rfl (by first | decide | exact Nat.le_of_ble_eq_true rfl) (by decide) dX5_nextOf_10 (fun r4 s5 q6 => ?_)
  rw [q6.1, q6.2, upV_N hR4 (by omega)]
  exact V.wd (by decide) (by decide) (hret _ _ (⟨cB_t z2, by rw [toN_nI (show i < 2 ^ 31 by omega)], rfl⟩) 13 _ dX5_nextOf_13)

set_option maxRecDepth 100000 in
set_option maxHeartbeats 800000 in
theorem c_x_membersIfJoined (l : Launch) (hst : l.stackTraces = false) (G : Gl) (σ : Sg) (A : Ab) (hr : RelB A σ 4) (u1 : Int32) (u2 : Int32) : Xi l yX5_membersIfJoined cX5_membersIfJoined 3 .int ({ frames := 7, cells := 2, slots := 12, locals := 111 } : Room) G [.ref (G.2.1 + 0), .int u1, .int u2] σ (fun r σ2 => seqC (cB (liB A u1) 1) (cB (liB A u2) 1) = 0 ∧ r = nI (cS (fun v => mem (aU A) (toN u1) v || mem (aU A) (toN u2) v) 1000) ∧ σ2 = σ) (fun E σ2 => σ2 = σ ∧ seqC (cB (liB A u1) 1) (cB (liB A u2) 1) ≠ 0 ∧ E = exN (seqC (cB (liB A u1) 1) (cB (liB A u2) 1))) := by
  refine Xi_of hst rfl (by decide +kernel) (lo := [(0, .ref (G.2.1 + 0)), (1, .int u1), (2, .int u2)]) rfl (Nat.le_of_ble_eq_true rfl) (fun r s hp => by obtain ⟨_, rfl, _⟩ := hp; rfl) ?_
  intro x Q hxl h hX hret thI thS thO hout
  subst hxl
  have hN12 := hr.1.1
  have hR4 := hr.2.1.1
  have hwy := whyN_le A
  refine r_aload_n (pc := 0) h 0 rfl rfl dX5_membersIfJoined_0 ?_
  refine r_iload_n (pc := 1) h 1 rfl rfl dX5_membersIfJoined_1 ?_
  refine r_xVv (pc := 2) (As := [.int u1]) (st := []) h hX lk_RX5_95 (c_checkList x.2.1 hst G σ A hr u1) rc_5 (by decide) rfl rfl (by first | decide | exact Nat.le_of_ble_eq_true rfl) (by decide) dX5_membersIfJoined_2 (fun E s9 hp => hout E s9 (⟨hp.1, pe_1 hp.2⟩) 2 _ _ _ _ ⟨by decide, by decide⟩) (fun s2 q3 => ?_)
  obtain ⟨z2, e2⟩ := q3
  rw [e2]
  obtain ⟨L, rfl, hL⟩ := liB_nI hN12 z2
  obtain ⟨oL, cL, mL⟩ := hr.2.2.2.1 L hL
  refine r_aload_n (pc := 5) h 0 rfl rfl dX5_membersIfJoined_5 ?_
  refine r_iload_n (pc := 6) h 2 rfl rfl dX5_membersIfJoined_6 ?_
  refine r_xVv (pc := 7) (As := [.int u2]) (st := []) h hX lk_RX5_95 (c_checkList x.2.1 hst G σ A hr u2) rc_5 (by decide) rfl rfl (by first | decide | exact Nat.le_of_ble_eq_true rfl) (by decide) dX5_membersIfJoined_7 (fun E s9 hp => hout E s9 (⟨hp.1, pe_2 (cB_t z2) hp.2⟩) 7 _ _ _ _ ⟨by decide, by decide⟩) (fun s5 q6 => ?_)
  obtain ⟨z7, e7⟩ := q6
  rw [e7]
  obtain ⟨M, rfl, hM⟩ := liB_nI hN12 z7
  obtain ⟨oM, cM, mM⟩ := hr.2.2.2.1 M hM
  refine r_aload_n (pc := 10) h 0 rfl rfl dX5_membersIfJoined_10 ?_
  refine g_5_state (pc := 11) h mw_1_17 dX5_membersIfJoined_11 ?_
  refine g_3_lists (pc := 14) blk_4 h mw_19_15 dX5_membersIfJoined_14 ?_
  refine r_iload_n (pc := 17) h 1 rfl rfl dX5_membersIfJoined_17 ?_
  refine r_iload_n (pc := 18) h 2 rfl rfl dX5_membersIfJoined_18 ?_
  refine r_cVi (pc := 19) (As := [.int (nI L), .int (nI M)]) (st := []) h lk_RX5_159 (c_countOfEither x.2.1 G σ 4 blk_4 L M (by omega) (by omega) cL cM) (rc_1 blk_4) (by decide) rfl rfl (by first | decide | exact Nat.le_of_ble_eq_true rfl) (by decide) dX5_membersIfJoined_19 (fun r7 s8 q9 => ?_)
  rw [q9.1, q9.2]
  refine r_topi (b := nI (cS (fun v => mem (aU A) L v || mem (aU A) M v) 1000)) (congrArg nI (cS_cong (fun v hv => by rw [mL v hv, mM v hv]))) ?_
  exact V.wd (by decide) (by decide) (hret _ _ (⟨seq_0 (cB_t z2) (cB_t z7), by rw [toN_nI (show L < 2 ^ 31 by omega), toN_nI (show M < 2 ^ 31 by omega)], rfl⟩) 22 _ dX5_membersIfJoined_22)

set_option maxRecDepth 100000 in
set_option maxHeartbeats 800000 in
theorem c_x_skipsTo (l : Launch) (hst : l.stackTraces = false) (G : Gl) (σ : Sg) (A : Ab) (hr : RelB A σ 4) (u1 : Int32) (u2 : Int32) : Xi l yX5_skipsTo cX5_skipsTo 3 .int ({ frames := 7, cells := 2, slots := 12, locals := 115 } : Room) G [.ref (G.2.1 + 0), .int u1, .int u2] σ (fun r σ2 => seqC (cB (rdB A u1) 1) (cB (inB (nI 0) (nI 999) u2) 2) = 0 ∧ r = skU A (toN u1) (toN u2) ∧ σ2 = σ) (fun E σ2 => σ2 = σ ∧ seqC (cB (rdB A u1) 1) (cB (inB (nI 0) (nI 999) u2) 2) ≠ 0 ∧ E = exN (seqC (cB (rdB A u1) 1) (cB (inB (nI 0) (nI 999) u2) 2))) := by
  refine Xi_of hst rfl (by decide +kernel) (lo := [(0, .ref (G.2.1 + 0)), (1, .int u1), (2, .int u2)]) rfl (Nat.le_of_ble_eq_true rfl) (fun r s hp => by obtain ⟨_, rfl, _⟩ := hp; rfl) ?_
  intro x Q hxl h hX hret thI thS thO hout
  subst hxl
  have hN12 := hr.1.1
  have hR4 := hr.2.1.1
  have hwy := whyN_le A
  refine r_aload_n (pc := 0) h 0 rfl rfl dX5_skipsTo_0 ?_
  refine r_iload_n (pc := 1) h 1 rfl rfl dX5_skipsTo_1 ?_
  refine r_xVv (pc := 2) (As := [.int u1]) (st := []) h hX lk_RX5_133 (c_checkReader x.2.1 hst G σ A hr u1) rc_5 (by decide) rfl rfl (by first | decide | exact Nat.le_of_ble_eq_true rfl) (by decide) dX5_skipsTo_2 (fun E s9 hp => hout E s9 (⟨hp.1, pe_1 hp.2⟩) 2 _ _ _ _ ⟨by decide, by decide⟩) (fun s2 q3 => ?_)
  obtain ⟨z2, e2⟩ := q3
  rw [e2]
  obtain ⟨i, rfl, hi⟩ := rdB_nI hR4 z2
  obtain ⟨p1, p2, p3, g, hg, p4, p5⟩ := hr.2.2.2.2 i hi
  refine r_iload_n (pc := 5) h 2 rfl rfl dX5_skipsTo_5 ?_
  refine r_iconst (pc := 6) (v := nI 0) h (by decide) dX5_skipsTo_6 ?_
  refine r_sipush (pc := 7) (v := nI 999) h (by decide) dX5_skipsTo_7 ?_
  refine r_xSv (pc := 10) (As := [.int u2, .int (nI 0), .int (nI 999)]) (st := []) h hX lk_RX5_41 (c_checkRange x.2.1 hst G σ u2 (nI 0) (nI 999)) (by decide) rfl rfl (by first | decide | exact Nat.le_of_ble_eq_true rfl) (by decide) dX5_skipsTo_10 (fun E s9 hp => hout E s9 (⟨hp.1, pe_2 (cB_t z2) hp.2⟩) 10 _ _ _ _ ⟨by decide, by decide⟩) (fun s5 q6 => ?_)
  obtain ⟨z10, e10⟩ := q6
  rw [e10]
  obtain ⟨v, rfl, lv, hv⟩ := inB_nI (by omega) (by omega) z10
  refine r_aload_n (pc := 13) h 0 rfl rfl dX5_skipsTo_13 ?_
  refine g_5_state (pc := 14) h mw_1_17 dX5_skipsTo_14 ?_
  refine r_iload_n (pc := 17) h 1 rfl rfl dX5_skipsTo_17 ?_
  refine r_iload_n (pc := 18) h 2 rfl rfl dX5_skipsTo_18 ?_
  refine r_cVi (pc := 19) (As := [.int (nI i), .int (nI v)]) (st := []) h lk_RX5_162 (c_skipsUntil x.2.1 G σ 4 blk_4 A hr i v (by omega) (by omega)) (rc_3 blk_4) (by decide) rfl rfl (by first | decide | exact Nat.le_of_ble_eq_true rfl) (by decide) dX5_skipsTo_19 (fun r7 s8 q9 => ?_)
  rw [q9.1, q9.2]
  exact V.wd (by decide) (by decide) (hret _ _ (⟨seq_0 (cB_t z2) (cB_t z10), by rw [toN_nI (show i < 2 ^ 31 by omega), toN_nI (show v < 2 ^ 31 by omega)], rfl⟩) 22 _ dX5_skipsTo_22)

set_option maxRecDepth 100000 in
set_option maxHeartbeats 800000 in
theorem c_x_lists (l : Launch) (G : Gl) (σ : Sg) (A : Ab) (hr : RelB A σ 4) : Ci l yX5_lists cX5_lists 1 .int ({ frames := 0, cells := 0, slots := 0, locals := 0 } : Room) G [.ref (G.2.1 + 0)] σ (fun r σ2 => r = nI A.1 ∧ σ2 = σ) := by
  refine Ci_of (own := RX5) rfl (by decide +kernel) (lo := [(0, .ref (G.2.1 + 0))]) rfl (Nat.le_of_ble_eq_true rfl) (fun r s hp => by obtain ⟨rfl, _⟩ := hp; rfl) ?_
  intro x Q hxl h hret
  subst hxl
  have hN12 := hr.1.1
  have hR4 := hr.2.1.1
  have hwy := whyN_le A
  refine r_aload_n (pc := 0) h 0 rfl rfl dX5_lists_0 ?_
  refine g_5_state (pc := 1) h mw_1_17 dX5_lists_1 ?_
  refine g_3_lists (pc := 4) blk_4 h mw_19_15 dX5_lists_4 ?_
  refine g_1_count (pc := 7) blk_4 h mw_26_18 dX5_lists_7 ?_
  refine r_topi (b := nI A.1) hr.1.2 ?_
  exact hret _ _ (⟨rfl, rfl⟩) 10 _ dX5_lists_10

set_option maxRecDepth 100000 in
set_option maxHeartbeats 800000 in
theorem c_x_readers (l : Launch) (G : Gl) (σ : Sg) (A : Ab) (hr : RelB A σ 4) : Ci l yX5_readers cX5_readers 1 .int ({ frames := 0, cells := 0, slots := 0, locals := 0 } : Room) G [.ref (G.2.1 + 0)] σ (fun r σ2 => r = nI A.2.1 ∧ σ2 = σ) := by
  refine Ci_of (own := RX5) rfl (by decide +kernel) (lo := [(0, .ref (G.2.1 + 0))]) rfl (Nat.le_of_ble_eq_true rfl) (fun r s hp => by obtain ⟨rfl, _⟩ := hp; rfl) ?_
  intro x Q hxl h hret
  subst hxl
  have hN12 := hr.1.1
  have hR4 := hr.2.1.1
  have hwy := whyN_le A
  refine r_aload_n (pc := 0) h 0 rfl rfl dX5_readers_0 ?_
  refine g_5_state (pc := 1) h mw_1_17 dX5_readers_1 ?_
  refine g_3_readers (pc := 4) blk_4 h mw_23_13 dX5_readers_4 ?_
  refine g_2_count (pc := 7) blk_4 h mw_27_17 dX5_readers_7 ?_
  refine r_topi (b := nI A.2.1) hr.2.1.2 ?_
  exact hret _ _ (⟨rfl, rfl⟩) 10 _ dX5_readers_10

set_option maxRecDepth 100000 in
set_option maxHeartbeats 800000 in
theorem c_x_readings (l : Launch) (G : Gl) (σ : Sg) (A : Ab) (hr : RelB A σ 4) : Ci l yX5_readings cX5_readings 1 .int ({ frames := 0, cells := 0, slots := 0, locals := 0 } : Room) G [.ref (G.2.1 + 0)] σ (fun r σ2 => r = A.2.2.1 ∧ σ2 = σ) := by
  refine Ci_of (own := RX5) rfl (by decide +kernel) (lo := [(0, .ref (G.2.1 + 0))]) rfl (Nat.le_of_ble_eq_true rfl) (fun r s hp => by obtain ⟨rfl, _⟩ := hp; rfl) ?_
  intro x Q hxl h hret
  subst hxl
  have hN12 := hr.1.1
  have hR4 := hr.2.1.1
  have hwy := whyN_le A
  refine r_aload_n (pc := 0) h 0 rfl rfl dX5_readings_0 ?_
  refine g_5_state (pc := 1) h mw_1_17 dX5_readings_1 ?_
  refine g_3_readers (pc := 4) blk_4 h mw_23_13 dX5_readings_4 ?_
  refine g_2_readings (pc := 7) blk_4 h mw_29_6 dX5_readings_7 ?_
  refine r_topi (b := A.2.2.1) hr.2.2.1 ?_
  exact hret _ _ (⟨rfl, rfl⟩) 10 _ dX5_readings_10

set_option maxRecDepth 100000 in
set_option maxHeartbeats 800000 in
theorem c_x_leastNext (l : Launch) (G : Gl) (σ : Sg) (A : Ab) (hr : RelB A σ 4) : Ci l yX5_leastNext cX5_leastNext 1 .int ({ frames := 5, cells := 0, slots := 0, locals := 114 } : Room) G [.ref (G.2.1 + 0)] σ (fun r σ2 => r = oI (lstN A A.2.1).1 ∧ σ2 = σ) := by
  refine Ci_of (own := RX5) rfl (by decide +kernel) (lo := [(0, .ref (G.2.1 + 0))]) rfl (Nat.le_of_ble_eq_true rfl) (fun r s hp => by obtain ⟨rfl, _⟩ := hp; rfl) ?_
  intro x Q hxl h hret
  subst hxl
  have hN12 := hr.1.1
  have hR4 := hr.2.1.1
  have hwy := whyN_le A
  refine r_aload_n (pc := 0) h 0 rfl rfl dX5_leastNext_0 ?_
  refine g_5_state (pc := 1) h mw_1_17 dX5_leastNext_1 ?_
  refine r_cVi (pc := 4) (As := []) (st := []) h lk_RX5_149 (c_readerOfLeast x.2.1 G σ 4 blk_4 A hr) (rc_3 blk_4) (by decide) rfl rfl (by first | decide | exact Nat.le_of_ble_eq_true rfl) (by decide) dX5_leastNext_4 (fun r1 s2 q3 => ?_)
  rw [q3.1, q3.2]
  exact hret _ _ (⟨rfl, rfl⟩) 7 _ dX5_leastNext_7

set_option maxRecDepth 100000 in
set_option maxHeartbeats 800000 in
theorem c_x_whyNoDrop (l : Launch) (G : Gl) (σ : Sg) (A : Ab) (hr : RelB A σ 4) : Ci l yX5_whyNoDrop cX5_whyNoDrop 1 .int ({ frames := 2, cells := 0, slots := 0, locals := 42 } : Room) G [.ref (G.2.1 + 0)] σ (fun r σ2 => r = nI (whyN A) ∧ σ2 = σ) := by
  refine Ci_of (own := RX5) rfl (by decide +kernel) (lo := [(0, .ref (G.2.1 + 0))]) rfl (Nat.le_of_ble_eq_true rfl) (fun r s hp => by obtain ⟨rfl, _⟩ := hp; rfl) ?_
  intro x Q hxl h hret
  subst hxl
  have hN12 := hr.1.1
  have hR4 := hr.2.1.1
  have hwy := whyN_le A
  refine r_aload_n (pc := 0) h 0 rfl rfl dX5_whyNoDrop_0 ?_
  refine g_5_state (pc := 1) h mw_1_17 dX5_whyNoDrop_1 ?_
  refine r_cVi (pc := 4) (As := []) (st := []) h lk_RX5_156 (c_reasonAgainstDrop x.2.1 G σ 4 blk_4 A hr) (rc_3 blk_4) (by decide) rfl rfl (by first | decide | exact Nat.le_of_ble_eq_true rfl) (by decide) dX5_whyNoDrop_4 (fun r1 s2 q3 => ?_)
  rw [q3.1, q3.2]
  exact hret _ _ (⟨rfl, rfl⟩) 7 _ dX5_whyNoDrop_7

