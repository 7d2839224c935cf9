/-! THE REFERENCE: its actions -/
theorem pm_mk {A : Ab} {lst : List Nat} {C rm : Nat} {σ σ2 : Sg} {I0 I1 : Sg → Prop} {r a : Int32} (q1 : σ2.1 134 0 = nI (if A.1 < 12 then 0 else rm)) (q2 : Out 134 143 σ σ2) (q3 : ¬ A.1 < 12 → I0 σ2) (q4 : A.1 < 12 → r = a ∧ I1 σ2) (hC0 : A.1 < 12 → C = 0) (hC3 : ¬ A.1 < 12 → C = 3) (hk : kq lst 3 = rm) : Pm lst C σ σ2 I0 I1 r a := by
  by_cases h : A.1 < 12
  · exact pm_ok (hC0 h) (by rw [q1, if_pos h]) q2 (q4 h).1 (q4 h).2
  · exact pm_no (hC3 h) (by decide) hk (by rw [q1, if_neg h]) q2 (q3 h)
set_option maxRecDepth 100000 in
set_option maxHeartbeats 800000 in
theorem c_makesR (l : Launch) (G : Gl) (σ : Sg) (s hh xx mm : Nat → Int32) (A : Ab) (hM : RelM A s) (hA : okA A) (k rm : Nat) (hk : 1 ≤ k ∧ k ≤ 3) (a1 a2 a3 a4 : Int32) : Ci l yX6_makes cX6_makes 7 .int ({ frames := 1, cells := 0, slots := 0, locals := 21 } : Room) G [.ref (G.2.1 + 134), .int (nI k), .int (nI rm), .int a1, .int a2, .int a3, .int a4] (mB σ 136 s hh xx mm) (fun r σ2 => r = nI 0 ∧ σ2 = mB σ 136 s hh xx (upd mm 0 (nI k))) := by
  refine Ci_of (own := RX6) rfl (by decide +kernel) (lo := [(0, .ref (G.2.1 + 134)), (1, .int (nI k)), (2, .int (nI rm)), (3, .int a1), (4, .int a2), (5, .int a3), (6, .int a4)]) rfl (Nat.le_of_ble_eq_true rfl) (fun r s hp => by obtain ⟨rfl, _⟩ := hp; rfl) ?_
  intro x Q hxl h hret
  subst hxl
  have hc := rc136
  have h12 := hA.1
  have h4 := hA.2.1
  refine r_aload_n (pc := 0) h 0 rfl rfl dX6_makes_0 ?_
  refine r_iload_n (pc := 1) h 1 rfl rfl dX6_makes_1 ?_
  refine r_if_le (pc := 2) (tgt := 9) h (by decide) dX6_makes_2 (fun c2 => ?_) (fun c2 => ?_)
  · skip
    rw [zI0, nI_leI (by omega) (by omega)] at c2
    exact absurd c2 (by omega)
  · skip
    rw [zI0, nI_leI (by omega) (by omega)] at c2
    refine r_iload_n (pc := 5) h 1 rfl rfl dX6_makes_5 ?_
    refine r_goto (pc := 6) (tgt := 24) h (by decide) dX6_makes_6 ?_
    refine r_cVi (pc := 24) (As := [.int (nI k)]) (st := []) h lk_RX6_95 (c_refused x.2.1 G σ 136 hc s hh xx mm k (by omega)) rc_6 (by decide) rfl rfl (by first | decide | exact Nat.le_of_ble_eq_true rfl) (by decide) dX6_makes_24 (fun r1 s2 q3 => ?_)
    rw [q3.1, q3.2]
    refine r_topi (b := nI 1) (by rw [decide_eq_true (show 0 < k by omega)]; rfl) ?_
    refine r_if_eq (pc := 27) (tgt := 32) h (by decide) dX6_makes_27 (fun c27 => absurd c27 (by decide)) (fun _ => ?_)
    refine r_iconst (pc := 30) (v := nI 0) h (by decide) dX6_makes_30 ?_
    exact hret _ _ (⟨rfl, rfl⟩) 31 _ dX6_makes_31

set_option maxRecDepth 100000 in
set_option maxHeartbeats 800000 in
theorem c_makes0 (l : Launch) (G : Gl) (σ : Sg) (n : Nat) (tx : Nat → Nat) (A : Ab) (m : Nat) (H : Nat → Ab) (sv : Nat → Bool) (sl : Nat → Ab) (hi : InvM n tx A m H sv sl σ) (rm : Nat) (hrm : 1 ≤ rm ∧ rm ≤ 3) (u : Rul) (x2 x3 : Int32) (hu : okR u A.1) (e2 : u.1 ≠ 5 → u.1 ≠ 7 → x2 = nI u.2.2.1) (e3 : u.1 = 1 → x3 = nI u.2.2.2) : Ci l yX6_makes cX6_makes 7 .int ({ frames := 2, cells := 0, slots := 0, locals := 45 } : Room) G [.ref (G.2.1 + 134), .int (nI 0), .int (nI rm), .int (nI u.1), .int (nI u.2.1), .int x2, .int x3] σ (fun r σ2 => σ2.1 134 0 = nI (if A.1 < 12 then 0 else rm) ∧ Out 134 143 σ σ2 ∧ (¬ A.1 < 12 → InvM n tx A m H sv sl σ2) ∧ (A.1 < 12 → r = nI A.1 ∧ InvM n tx (mkA A u) (pushN m) (pushH m H A) sv sl σ2)) := by
  refine Ci_of (own := RX6) rfl (by decide +kernel) (lo := [(0, .ref (G.2.1 + 134)), (1, .int (nI 0)), (2, .int (nI rm)), (3, .int (nI u.1)), (4, .int (nI u.2.1)), (5, .int x2), (6, .int x3)]) rfl (Nat.le_of_ble_eq_true rfl) (fun r s hp => rfl) ?_
  intro x Q hxl h hret
  subst hxl
  have hc := rc136
  have hM := hi.2.1.1
  have hA := hi.2.1.2
  have h12 := hA.1
  have h4 := hA.2.1
  have hm2 := hi.1.2
  have hm6 := hi.2.2.1.2.1
  have hk14 := hi.2.2.1.1
  have hd := hi.2.2.1.2.2
  have ht := hi.1.1
  have hn9 := ht.1
  refine V.sg (show σ = mB σ 136 (σ.1 136) (σ.1 141) (σ.1 142) (σ.1 134) from (mB_self hc).symm) ?_
  refine r_aload_n (pc := 0) h 0 rfl rfl dX6_makes_0 ?_
  refine r_iload_n (pc := 1) h 1 rfl rfl dX6_makes_1 ?_
  refine r_if_le (pc := 2) (tgt := 9) h (by decide) dX6_makes_2 (fun _ => ?_) (fun c2 => absurd c2 (by decide))
  refine r_aload_n (pc := 9) h 0 rfl rfl dX6_makes_9 ?_
  refine g_6_now (pc := 10) h mw_3_21 dX6_makes_10 ?_
  refine r_cSi (pc := 13) (As := [.ref (G.2.1 + 136)]) (st := [.ref (G.2.1 + 134)]) h lk_RX6_111 (c_hasRoomM x.2.1 G (mB σ 136 (σ.1 136) (σ.1 141) (σ.1 142) (σ.1 134)) 136 hc A (by rw [mB_sF]; exact hM) (by omega)) (by decide) rfl rfl (by first | decide | exact Nat.le_of_ble_eq_true rfl) (by decide) dX6_makes_13 (fun r1 s2 q3 => ?_)
  rw [q3.1, q3.2]
  refine r_if_eq (pc := 16) (tgt := 23) h (by decide) dX6_makes_16 (fun c16 => ?_) (fun c16 => ?_)
  · skip
    replace c16 := zB_0.mp c16
    refine r_iload_n (pc := 23) h 2 rfl rfl dX6_makes_23 ?_
    refine r_cVi (pc := 24) (As := [.int (nI rm)]) (st := []) h lk_RX6_95 (c_refused x.2.1 G σ 136 hc (σ.1 136) (σ.1 141) (σ.1 142) (σ.1 134) rm (by omega)) rc_6 (by decide) rfl rfl (by first | decide | exact Nat.le_of_ble_eq_true rfl) (by decide) dX6_makes_24 (fun r4 s5 q6 => ?_)
    rw [q6.1, q6.2]
    refine r_topi (b := nI 1) (by rw [decide_eq_true (show 0 < rm by omega)]; rfl) ?_
    refine r_if_eq (pc := 27) (tgt := 32) h (by decide) dX6_makes_27 (fun c27 => absurd c27 (by decide)) (fun _ => ?_)
    refine r_iconst (pc := 30) (v := nI 0) h (by decide) dX6_makes_30 ?_
    exact hret _ _ (⟨by rw [if_neg (of_decide_eq_false c16)]; exact (mB_m hc 0).trans pk_us, mB_out hc, fun _ => inv_0 hi hM hA ((pk_un (by decide)).trans rfl) ((pk_un (by decide)).trans rfl), fun q => absurd q (of_decide_eq_false c16)⟩) 31 _ dX6_makes_31
  · skip
    replace c16 := zB_n0.mp c16
    refine r_iconst (pc := 19) (v := nI 0) h (by decide) dX6_makes_19 ?_
    refine r_goto (pc := 20) (tgt := 24) h (by decide) dX6_makes_20 ?_
    refine r_cVi (pc := 24) (As := [.int (nI 0)]) (st := []) h lk_RX6_95 (c_refused x.2.1 G σ 136 hc (σ.1 136) (σ.1 141) (σ.1 142) (σ.1 134) 0 (by omega)) rc_6 (by decide) rfl rfl (by first | decide | exact Nat.le_of_ble_eq_true rfl) (by decide) dX6_makes_24 (fun r7 s8 q9 => ?_)
    rw [q9.1, q9.2]
    refine r_topi (b := nI 0) (by decide) ?_
    refine r_if_eq (pc := 27) (tgt := 32) h (by decide) dX6_makes_27 (fun _ => ?_) (fun c27 => absurd c27 (by decide))
    refine r_aload_n (pc := 32) h 0 rfl rfl dX6_makes_32 ?_
    refine V.sg (show mB σ 136 (σ.1 136) (σ.1 141) (σ.1 142) (upd (σ.1 134) 0 (nI 0)) = mB (oB σ 138 (σ.1 138)) 136 (σ.1 136) (σ.1 141) (σ.1 142) (upd (σ.1 134) 0 (nI 0)) from by rw [oB_self]) ?_
    refine r_cVv (pc := 33) (As := []) (st := []) h lk_RX6_183 (c_rememberM x.2.1 G σ (σ.1 138) (σ.1 136) (σ.1 141) (σ.1 142) (upd (σ.1 134) 0 (nI 0)) A hM hA m H hk14 ((pk_un (by decide)).trans hm6) hd) rc_6 (by decide) rfl rfl (by first | decide | exact Nat.le_of_ble_eq_true rfl) (by decide) dX6_makes_33 (fun s11 q12 => ?_)
    obtain ⟨f2, es1, hd2⟩ := q12
    subst es1
    refine r_aload_n (pc := 36) h 0 rfl rfl dX6_makes_36 ?_
    refine g_6_now (pc := 37) h mw_3_21 dX6_makes_37 ?_
    refine r_iload_n (pc := 40) h 3 rfl rfl dX6_makes_40 ?_
    refine r_iload (pc := 41) h 4 rfl dX6_makes_41 ?_
    refine r_iload (pc := 43) h 5 rfl dX6_makes_43 ?_
    refine r_iload (pc := 45) h 6 rfl dX6_makes_45 ?_
    refine r_cSi (pc := 47) (As := [.ref (G.2.1 + 136), .int (nI u.1), .int (nI u.2.1), .int x2, .int x3]) (st := []) h lk_RX6_115 (c_makeM x.2.1 G (oB σ 138 f2) 136 hc (σ.1 136) (σ.1 141) (σ.1 142) (upd (upd (σ.1 134) 0 (nI 0)) 6 (nI (pushN m))) A hA hM u x2 x3 (of_decide_eq_true c16) e2 e3) (by decide) rfl rfl (by first | decide | exact Nat.le_of_ble_eq_true rfl) (by decide) dX6_makes_47 (fun r13 s14 q15 => ?_)
    obtain ⟨e9, s2, es, hs2⟩ := q15
    rw [e9]
    subst es
    exact hret _ _ (⟨by rw [if_pos (of_decide_eq_true c16)]; exact (mB_m hc 0).trans ((pk_un (by decide)).trans pk_us), mB_out2 f2 (by decide) hc, fun q => absurd (of_decide_eq_true c16) q, fun q => ⟨rfl, inv_1 hi hs2 (okA_make hA hu q) ((pk_un (by decide)).trans ((pk_un (by decide)).trans rfl)) (pushN_le _) pk_us hd2⟩⟩) 50 _ dX6_makes_50

set_option maxRecDepth 100000 in
set_option maxHeartbeats 800000 in
theorem c_m_makeSteps (l : Launch) (G : Gl) (σ : Sg) (n : Nat) (tx : Nat → Nat) (A : Ab) (m : Nat) (H : Nat → Ab) (sv : Nat → Bool) (sl : Nat → Ab) (hi : InvM n tx A m H sv sl σ) (u1 : Int32) (u2 : Int32) : Ci l yX6_makeSteps cX6_makeSteps 3 .int ({ frames := 3, cells := 0, slots := 0, locals := 71 } : Room) G [.ref (G.2.1 + 134), .int u1, .int u2] σ (fun r σ2 => Pm [2, 3] (ob A 115 u1 u2 (nI 0)) σ σ2 (InvM n tx A m H sv sl) (InvM n tx (co A 115 u1 u2 (nI 0)).2 (pushN m) (pushH m H A) sv sl) r (co A 115 u1 u2 (nI 0)).1) := by
  refine Ci_of (own := RX6) rfl (by decide +kernel) (lo := [(0, .ref (G.2.1 + 134)), (1, .int u1), (2, .int u2)]) rfl (Nat.le_of_ble_eq_true rfl) (fun r s hp => rfl) ?_
  intro x Q hxl h hret
  subst hxl
  have hc := rc136
  have hM := hi.2.1.1
  have hA := hi.2.1.2
  have h12 := hA.1
  have h4 := hA.2.1
  have hm2 := hi.1.2
  have hm6 := hi.2.2.1.2.1
  have hk14 := hi.2.2.1.1
  have hd := hi.2.2.1.2.2
  have ht := hi.1.1
  have hn9 := ht.1
  refine V.sg (show σ = mB σ 136 (σ.1 136) (σ.1 141) (σ.1 142) (σ.1 134) from (mB_self hc).symm) ?_
  refine r_aload_n (pc := 0) h 0 rfl rfl dX6_makeSteps_0 ?_
  refine r_iload_n (pc := 1) h 1 rfl rfl dX6_makeSteps_1 ?_
  refine r_i2l (pc := 2) (v := u1.toInt64) h rfl dX6_makeSteps_2 ?_
  refine r_lconst (pc := 3) (v := 0) h (by decide) dX6_makeSteps_3 ?_
  refine r_ldc2 (pc := 4) (v := 999) h mw_22_6 dX6_makeSteps_4 ?_
  refine r_cSi (pc := 7) (As := [.long u1.toInt64, .long 0, .long 999]) (st := [.ref (G.2.1 + 134)]) h lk_RX6_43 (c_in x.2.1 G (mB σ 136 (σ.1 136) (σ.1 141) (σ.1 142) (σ.1 134)) u1 (nI 0) (nI 999)) (by decide) rfl rfl (by first | decide | exact Nat.le_of_ble_eq_true rfl) (by decide) dX6_makeSteps_7 (fun r1 s2 q3 => ?_)
  rw [q3.1, q3.2]
  refine r_if_eq (pc := 10) (tgt := 29) h (by decide) dX6_makeSteps_10 (fun c10 => ?_) (fun c10 => ?_)
  · skip
    replace c10 := zB_0.mp c10
    refine r_iconst (pc := 29) (v := nI 1) h (by decide) dX6_makeSteps_29 ?_
    refine r_iconst (pc := 30) (v := nI 2) h (by decide) dX6_makeSteps_30 ?_
    refine r_iconst (pc := 31) (v := nI 0) h (by decide) dX6_makeSteps_31 ?_
    refine r_iload_n (pc := 32) h 1 rfl rfl dX6_makeSteps_32 ?_
    refine r_iload_n (pc := 33) h 2 rfl rfl dX6_makeSteps_33 ?_
    refine r_iconst (pc := 34) (v := nI 0) h (by decide) dX6_makeSteps_34 ?_
    refine r_cVi (pc := 35) (As := [.int (nI 1), .int (nI 2), .int (nI 0), .int u1, .int u2, .int (nI 0)]) (st := []) h lk_RX6_190 (c_makesR x.2.1 G σ (σ.1 136) (σ.1 141) (σ.1 142) (σ.1 134) A hM hA 1 2 (by decide) (nI 0) u1 u2 (nI 0)) rc_6 (by decide) rfl rfl (by first | decide | exact Nat.le_of_ble_eq_true rfl) (by decide) dX6_makeSteps_35 (fun r4 s5 q6 => ?_)
    rw [q6.1, q6.2]
    exact hret _ _ (pm_no (c0 := 2) (f3_2 rfl (and_f1 c10)) (by decide) rfl ((mB_m hc 0).trans pk_us) (mB_out hc) (inv_0 hi hM hA ((pk_un (by decide)).trans rfl) ((pk_un (by decide)).trans rfl))) 38 _ dX6_makeSteps_38
  · skip
    replace c10 := zB_n0.mp c10
    obtain ⟨v1, rfl, lv1, hv1⟩ := inB_nI (by omega) (by omega) c10
    refine r_iload_n (pc := 13) h 2 rfl rfl dX6_makeSteps_13 ?_
    refine r_i2l (pc := 14) (v := u2.toInt64) h rfl dX6_makeSteps_14 ?_
    refine r_lconst (pc := 15) (v := 1) h (by decide) dX6_makeSteps_15 ?_
    refine r_ldc2 (pc := 16) (v := 99) h mw_22_7 dX6_makeSteps_16 ?_
    refine r_cSi (pc := 19) (As := [.long u2.toInt64, .long 1, .long 99]) (st := [.ref (G.2.1 + 134)]) h lk_RX6_43 (c_in x.2.1 G (mB σ 136 (σ.1 136) (σ.1 141) (σ.1 142) (σ.1 134)) u2 (nI 1) (nI 99)) (by decide) rfl rfl (by first | decide | exact Nat.le_of_ble_eq_true rfl) (by decide) dX6_makeSteps_19 (fun r7 s8 q9 => ?_)
    rw [q9.1, q9.2]
    refine r_if_eq (pc := 22) (tgt := 29) h (by decide) dX6_makeSteps_22 (fun c22 => ?_) (fun c22 => ?_)
    · skip
      replace c22 := zB_0.mp c22
      refine r_iconst (pc := 29) (v := nI 1) h (by decide) dX6_makeSteps_29 ?_
      refine r_iconst (pc := 30) (v := nI 2) h (by decide) dX6_makeSteps_30 ?_
      refine r_iconst (pc := 31) (v := nI 0) h (by decide) dX6_makeSteps_31 ?_
      refine r_iload_n (pc := 32) h 1 rfl rfl dX6_makeSteps_32 ?_
      refine r_iload_n (pc := 33) h 2 rfl rfl dX6_makeSteps_33 ?_
      refine r_iconst (pc := 34) (v := nI 0) h (by decide) dX6_makeSteps_34 ?_
      refine r_cVi (pc := 35) (As := [.int (nI 1), .int (nI 2), .int (nI 0), .int (nI v1), .int u2, .int (nI 0)]) (st := []) h lk_RX6_190 (c_makesR x.2.1 G σ (σ.1 136) (σ.1 141) (σ.1 142) (σ.1 134) A hM hA 1 2 (by decide) (nI 0) (nI v1) u2 (nI 0)) rc_6 (by decide) rfl rfl (by first | decide | exact Nat.le_of_ble_eq_true rfl) (by decide) dX6_makeSteps_35 (fun r10 s11 q12 => ?_)
      rw [q12.1, q12.2]
      exact hret _ _ (pm_no (c0 := 2) (f3_2 rfl (and_f2 c22)) (by decide) rfl ((mB_m hc 0).trans pk_us) (mB_out hc) (inv_0 hi hM hA ((pk_un (by decide)).trans rfl) ((pk_un (by decide)).trans rfl))) 38 _ dX6_makeSteps_38
    · skip
      replace c22 := zB_n0.mp c22
      obtain ⟨v2, rfl, lv2, hv2⟩ := inB_nI (by omega) (by omega) c22
      refine r_iconst (pc := 25) (v := nI 0) h (by decide) dX6_makeSteps_25 ?_
      refine r_goto (pc := 26) (tgt := 30) h (by decide) dX6_makeSteps_26 ?_
      refine r_iconst (pc := 30) (v := nI 2) h (by decide) dX6_makeSteps_30 ?_
      refine r_iconst (pc := 31) (v := nI 0) h (by decide) dX6_makeSteps_31 ?_
      refine r_iload_n (pc := 32) h 1 rfl rfl dX6_makeSteps_32 ?_
      refine r_iload_n (pc := 33) h 2 rfl rfl dX6_makeSteps_33 ?_
      refine r_iconst (pc := 34) (v := nI 0) h (by decide) dX6_makeSteps_34 ?_
      refine V.sg (show mB σ 136 (σ.1 136) (σ.1 141) (σ.1 142) (σ.1 134) = σ from mB_self hc) ?_
      refine r_cVi (pc := 35) (As := [.int (nI 0), .int (nI 2), .int (nI 0), .int (nI v1), .int (nI v2), .int (nI 0)]) (st := []) h lk_RX6_190 (c_makes0 x.2.1 G σ n tx A m H sv sl hi 2 (by decide) (0, v1, v2, 0) (nI v2) (nI 0) ⟨by show v1 < 1000; omega, lv2, hv2⟩ (fun _ _ => rfl) (fun q => by cases q)) rc_6 (by decide) rfl rfl (by first | decide | exact Nat.le_of_ble_eq_true rfl) (by decide) dX6_makeSteps_35 (fun r13 s14 q15 => ?_)
      obtain ⟨q1, q2, q3, q4⟩ := q15
      exact hret _ _ (pm_mk q1 q2 q3 (by show A.1 < 12 → _ = nI A.1 ∧ InvM n tx (mkA A (0, toN (nI v1), toN (nI v2), 0)) _ _ sv sl _; rw [toN_nI (show v1 < 2 ^ 31 by omega), toN_nI (show v2 < 2 ^ 31 by omega)]; exact q4) (fun q => fst3_y rfl (and_t c10 c22) (decide_eq_true q)) (fun q => f3_3 rfl (and_t c10 c22) (decide_eq_false q)) rfl) 38 _ dX6_makeSteps_38

set_option maxRecDepth 100000 in
set_option maxHeartbeats 800000 in
theorem c_m_makeScaled (l : Launch) (G : Gl) (σ : Sg) (n : Nat) (tx : Nat → Nat) (A : Ab) (m : Nat) (H : Nat → Ab) (sv : Nat → Bool) (sl : Nat → Ab) (hi : InvM n tx A m H sv sl σ) (u1 : Int32) (u2 : Int32) (u3 : Int32) : Ci l yX6_makeScaled cX6_makeScaled 4 .int ({ frames := 3, cells := 0, slots := 0, locals := 71 } : Room) G [.ref (G.2.1 + 134), .int u1, .int u2, .int u3] σ (fun r σ2 => Pm [1, 2, 3] (ob A 120 u1 u2 u3) σ σ2 (InvM n tx A m H sv sl) (InvM n tx (co A 120 u1 u2 u3).2 (pushN m) (pushH m H A) sv sl) r (co A 120 u1 u2 u3).1) := by
  refine Ci_of (own := RX6) rfl (by decide +kernel) (lo := [(0, .ref (G.2.1 + 134)), (1, .int u1), (2, .int u2), (3, .int u3)]) rfl (Nat.le_of_ble_eq_true rfl) (fun r s hp => rfl) ?_
  intro x Q hxl h hret
  subst hxl
  have hc := rc136
  have hM := hi.2.1.1
  have hA := hi.2.1.2
  have h12 := hA.1
  have h4 := hA.2.1
  have hm2 := hi.1.2
  have hm6 := hi.2.2.1.2.1
  have hk14 := hi.2.2.1.1
  have hd := hi.2.2.1.2.2
  have ht := hi.1.1
  have hn9 := ht.1
  refine V.sg (show σ = mB σ 136 (σ.1 136) (σ.1 141) (σ.1 142) (σ.1 134) from (mB_self hc).symm) ?_
  refine r_aload_n (pc := 0) h 0 rfl rfl dX6_makeScaled_0 ?_
  refine r_aload_n (pc := 1) h 0 rfl rfl dX6_makeScaled_1 ?_
  refine g_6_now (pc := 2) h mw_3_21 dX6_makeScaled_2 ?_
  refine r_iload_n (pc := 5) h 1 rfl rfl dX6_makeScaled_5 ?_
  refine r_cSi (pc := 6) (As := [.ref (G.2.1 + 136), .int u1]) (st := [.ref (G.2.1 + 134)]) h lk_RX6_123 (c_isListM x.2.1 G (mB σ 136 (σ.1 136) (σ.1 141) (σ.1 142) (σ.1 134)) 136 hc A (by rw [mB_sF]; exact hM) (by omega) u1) (by decide) rfl rfl (by first | decide | exact Nat.le_of_ble_eq_true rfl) (by decide) dX6_makeScaled_6 (fun r1 s2 q3 => ?_)
  rw [q3.1, q3.2]
  refine r_if_ne (pc := 9) (tgt := 16) h (by decide) dX6_makeScaled_9 (fun c9 => ?_) (fun c9 => ?_)
  · skip
    replace c9 := zB_n0.mp c9
    obtain ⟨v1, rfl, hv1⟩ := liB_nI h12 c9
    refine r_iload_n (pc := 16) h 2 rfl rfl dX6_makeScaled_16 ?_
    refine r_i2l (pc := 17) (v := u2.toInt64) h rfl dX6_makeScaled_17 ?_
    refine r_lconst (pc := 18) (v := 1) h (by decide) dX6_makeScaled_18 ?_
    refine r_ldc2 (pc := 19) (v := 9) h mw_9_0 dX6_makeScaled_19 ?_
    refine r_cSi (pc := 22) (As := [.long u2.toInt64, .long 1, .long 9]) (st := [.ref (G.2.1 + 134)]) h lk_RX6_43 (c_in x.2.1 G (mB σ 136 (σ.1 136) (σ.1 141) (σ.1 142) (σ.1 134)) u2 (nI 1) (nI 9)) (by decide) rfl rfl (by first | decide | exact Nat.le_of_ble_eq_true rfl) (by decide) dX6_makeScaled_22 (fun r4 s5 q6 => ?_)
    rw [q6.1, q6.2]
    refine r_if_eq (pc := 25) (tgt := 44) h (by decide) dX6_makeScaled_25 (fun c25 => ?_) (fun c25 => ?_)
    · skip
      replace c25 := zB_0.mp c25
      refine r_iconst (pc := 44) (v := nI 2) h (by decide) dX6_makeScaled_44 ?_
      refine r_iconst (pc := 45) (v := nI 3) h (by decide) dX6_makeScaled_45 ?_
      refine r_iconst (pc := 46) (v := nI 1) h (by decide) dX6_makeScaled_46 ?_
      refine r_iload_n (pc := 47) h 1 rfl rfl dX6_makeScaled_47 ?_
      refine r_iload_n (pc := 48) h 2 rfl rfl dX6_makeScaled_48 ?_
      refine r_iload_n (pc := 49) h 3 rfl rfl dX6_makeScaled_49 ?_
      refine r_cVi (pc := 50) (As := [.int (nI 2), .int (nI 3), .int (nI 1), .int (nI v1), .int u2, .int u3]) (st := []) h lk_RX6_190 (c_makesR x.2.1 G σ (σ.1 136) (σ.1 141) (σ.1 142) (σ.1 134) A hM hA 2 3 (by decide) (nI 1) (nI v1) u2 u3) rc_6 (by decide) rfl rfl (by first | decide | exact Nat.le_of_ble_eq_true rfl) (by decide) dX6_makeScaled_50 (fun r7 s8 q9 => ?_)
      rw [q9.1, q9.2]
      exact hret _ _ (pm_no (c0 := 2) (f3_2 c9 (and_f1 c25)) (by decide) rfl ((mB_m hc 0).trans pk_us) (mB_out hc) (inv_0 hi hM hA ((pk_un (by decide)).trans rfl) ((pk_un (by decide)).trans rfl))) 53 _ dX6_makeScaled_53
    · skip
      replace c25 := zB_n0.mp c25
      obtain ⟨v2, rfl, lv2, hv2⟩ := inB_nI (by omega) (by omega) c25
      refine r_iload_n (pc := 28) h 3 rfl rfl dX6_makeScaled_28 ?_
      refine r_i2l (pc := 29) (v := u3.toInt64) h rfl dX6_makeScaled_29 ?_
      refine r_lconst (pc := 30) (v := 0) h (by decide) dX6_makeScaled_30 ?_
      refine r_ldc2 (pc := 31) (v := 99) h mw_22_7 dX6_makeScaled_31 ?_
      refine r_cSi (pc := 34) (As := [.long u3.toInt64, .long 0, .long 99]) (st := [.ref (G.2.1 + 134)]) h lk_RX6_43 (c_in x.2.1 G (mB σ 136 (σ.1 136) (σ.1 141) (σ.1 142) (σ.1 134)) u3 (nI 0) (nI 99)) (by decide) rfl rfl (by first | decide | exact Nat.le_of_ble_eq_true rfl) (by decide) dX6_makeScaled_34 (fun r10 s11 q12 => ?_)
      rw [q12.1, q12.2]
      refine r_if_eq (pc := 37) (tgt := 44) h (by decide) dX6_makeScaled_37 (fun c37 => ?_) (fun c37 => ?_)
      · skip
        replace c37 := zB_0.mp c37
        refine r_iconst (pc := 44) (v := nI 2) h (by decide) dX6_makeScaled_44 ?_
        refine r_iconst (pc := 45) (v := nI 3) h (by decide) dX6_makeScaled_45 ?_
        refine r_iconst (pc := 46) (v := nI 1) h (by decide) dX6_makeScaled_46 ?_
        refine r_iload_n (pc := 47) h 1 rfl rfl dX6_makeScaled_47 ?_
        refine r_iload_n (pc := 48) h 2 rfl rfl dX6_makeScaled_48 ?_
        refine r_iload_n (pc := 49) h 3 rfl rfl dX6_makeScaled_49 ?_
        refine r_cVi (pc := 50) (As := [.int (nI 2), .int (nI 3), .int (nI 1), .int (nI v1), .int (nI v2), .int u3]) (st := []) h lk_RX6_190 (c_makesR x.2.1 G σ (σ.1 136) (σ.1 141) (σ.1 142) (σ.1 134) A hM hA 2 3 (by decide) (nI 1) (nI v1) (nI v2) u3) rc_6 (by decide) rfl rfl (by first | decide | exact Nat.le_of_ble_eq_true rfl) (by decide) dX6_makeScaled_50 (fun r13 s14 q15 => ?_)
        rw [q15.1, q15.2]
        exact hret _ _ (pm_no (c0 := 2) (f3_2 c9 (and_f2 c37)) (by decide) rfl ((mB_m hc 0).trans pk_us) (mB_out hc) (inv_0 hi hM hA ((pk_un (by decide)).trans rfl) ((pk_un (by decide)).trans rfl))) 53 _ dX6_makeScaled_53
      · skip
        replace c37 := zB_n0.mp c37
        obtain ⟨v3, rfl, lv3, hv3⟩ := inB_nI (by omega) (by omega) c37
        refine r_iconst (pc := 40) (v := nI 0) h (by decide) dX6_makeScaled_40 ?_
        refine r_goto (pc := 41) (tgt := 45) h (by decide) dX6_makeScaled_41 ?_
        refine r_iconst (pc := 45) (v := nI 3) h (by decide) dX6_makeScaled_45 ?_
        refine r_iconst (pc := 46) (v := nI 1) h (by decide) dX6_makeScaled_46 ?_
        refine r_iload_n (pc := 47) h 1 rfl rfl dX6_makeScaled_47 ?_
        refine r_iload_n (pc := 48) h 2 rfl rfl dX6_makeScaled_48 ?_
        refine r_iload_n (pc := 49) h 3 rfl rfl dX6_makeScaled_49 ?_
        refine V.sg (show mB σ 136 (σ.1 136) (σ.1 141) (σ.1 142) (σ.1 134) = σ from mB_self hc) ?_
        refine r_cVi (pc := 50) (As := [.int (nI 0), .int (nI 3), .int (nI 1), .int (nI v1), .int (nI v2), .int (nI v3)]) (st := []) h lk_RX6_190 (c_makes0 x.2.1 G σ n tx A m H sv sl hi 3 (by decide) (1, v1, v2, v3) (nI v2) (nI v3) ⟨hv1, lv2, hv2, hv3⟩ (fun _ _ => rfl) (fun _ => rfl)) rc_6 (by decide) rfl rfl (by first | decide | exact Nat.le_of_ble_eq_true rfl) (by decide) dX6_makeScaled_50 (fun r16 s17 q18 => ?_)
        obtain ⟨q1, q2, q3, q4⟩ := q18
        exact hret _ _ (pm_mk q1 q2 q3 (by show A.1 < 12 → _ = nI A.1 ∧ InvM n tx (mkA A (1, toN (nI v1), toN (nI v2), toN (nI v3))) _ _ sv sl _; rw [toN_nI (show v1 < 2 ^ 31 by omega), toN_nI (show v2 < 2 ^ 31 by omega), toN_nI (show v3 < 2 ^ 31 by omega)]; exact q4) (fun q => fst3_y c9 (and_t c25 c37) (decide_eq_true q)) (fun q => f3_3 c9 (and_t c25 c37) (decide_eq_false q)) rfl) 53 _ dX6_makeScaled_53
  · skip
    replace c9 := zB_0.mp c9
    refine r_iconst (pc := 12) (v := nI 1) h (by decide) dX6_makeScaled_12 ?_
    refine r_goto (pc := 13) (tgt := 45) h (by decide) dX6_makeScaled_13 ?_
    refine r_iconst (pc := 45) (v := nI 3) h (by decide) dX6_makeScaled_45 ?_
    refine r_iconst (pc := 46) (v := nI 1) h (by decide) dX6_makeScaled_46 ?_
    refine r_iload_n (pc := 47) h 1 rfl rfl dX6_makeScaled_47 ?_
    refine r_iload_n (pc := 48) h 2 rfl rfl dX6_makeScaled_48 ?_
    refine r_iload_n (pc := 49) h 3 rfl rfl dX6_makeScaled_49 ?_
    refine r_cVi (pc := 50) (As := [.int (nI 1), .int (nI 3), .int (nI 1), .int u1, .int u2, .int u3]) (st := []) h lk_RX6_190 (c_makesR x.2.1 G σ (σ.1 136) (σ.1 141) (σ.1 142) (σ.1 134) A hM hA 1 3 (by decide) (nI 1) u1 u2 u3) rc_6 (by decide) rfl rfl (by first | decide | exact Nat.le_of_ble_eq_true rfl) (by decide) dX6_makeScaled_50 (fun r19 s20 q21 => ?_)
    rw [q21.1, q21.2]
    exact hret _ _ (pm_no (c0 := 1) (f3_1 c9) (by decide) rfl ((mB_m hc 0).trans pk_us) (mB_out hc) (inv_0 hi hM hA ((pk_un (by decide)).trans rfl) ((pk_un (by decide)).trans rfl))) 53 _ dX6_makeScaled_53

set_option maxRecDepth 100000 in
set_option maxHeartbeats 800000 in
theorem c_m_makeJoined (l : Launch) (G : Gl) (σ : Sg) (n : Nat) (tx : Nat → Nat) (A : Ab) (m : Nat) (H : Nat → Ab) (sv : Nat → Bool) (sl : Nat → Ab) (hi : InvM n tx A m H sv sl σ) (u1 : Int32) (u2 : Int32) : Ci l yX6_makeJoined cX6_makeJoined 3 .int ({ frames := 3, cells := 0, slots := 0, locals := 71 } : Room) G [.ref (G.2.1 + 134), .int u1, .int u2] σ (fun r σ2 => Pm [1, 3] (ob A 106 u1 u2 (nI 0)) σ σ2 (InvM n tx A m H sv sl) (InvM n tx (co A 106 u1 u2 (nI 0)).2 (pushN m) (pushH m H A) sv sl) r (co A 106 u1 u2 (nI 0)).1) := by
  refine Ci_of (own := RX6) rfl (by decide +kernel) (lo := [(0, .ref (G.2.1 + 134)), (1, .int u1), (2, .int u2)]) rfl (Nat.le_of_ble_eq_true rfl) (fun r s hp => rfl) ?_
  intro x Q hxl h hret
  subst hxl
  have hc := rc136
  have hM := hi.2.1.1
  have hA := hi.2.1.2
  have h12 := hA.1
  have h4 := hA.2.1
  have hm2 := hi.1.2
  have hm6 := hi.2.2.1.2.1
  have hk14 := hi.2.2.1.1
  have hd := hi.2.2.1.2.2
  have ht := hi.1.1
  have hn9 := ht.1
  refine V.sg (show σ = mB σ 136 (σ.1 136) (σ.1 141) (σ.1 142) (σ.1 134) from (mB_self hc).symm) ?_
  refine r_aload_n (pc := 0) h 0 rfl rfl dX6_makeJoined_0 ?_
  refine r_aload_n (pc := 1) h 0 rfl rfl dX6_makeJoined_1 ?_
  refine r_iload_n (pc := 2) h 1 rfl rfl dX6_makeJoined_2 ?_
  refine r_iload_n (pc := 3) h 2 rfl rfl dX6_makeJoined_3 ?_
  refine r_cVi (pc := 4) (As := [.int u1, .int u2]) (st := [.ref (G.2.1 + 134)]) h lk_RX6_194 (c_neither x.2.1 G σ (σ.1 136) (σ.1 141) (σ.1 142) (σ.1 134) A hM hA u1 u2) rc_6 (by decide) rfl rfl (by first | decide | exact Nat.le_of_ble_eq_true rfl) (by decide) dX6_makeJoined_4 (fun r1 s2 q3 => ?_)
  rw [q3.1, q3.2]
  rcases hne : (liB A u1 && liB A u2) with _ | _
  · skip
    refine r_topi (b := nI 1) (by rw [if_neg (by decide)]) ?_
    refine r_iconst (pc := 7) (v := nI 2) h (by decide) dX6_makeJoined_7 ?_
    refine r_iconst (pc := 8) (v := nI 2) h (by decide) dX6_makeJoined_8 ?_
    refine r_iload_n (pc := 9) h 1 rfl rfl dX6_makeJoined_9 ?_
    refine r_iload_n (pc := 10) h 2 rfl rfl dX6_makeJoined_10 ?_
    refine r_iconst (pc := 11) (v := nI 0) h (by decide) dX6_makeJoined_11 ?_
    refine r_cVi (pc := 12) (As := [.int (nI 1), .int (nI 2), .int (nI 2), .int u1, .int u2, .int (nI 0)]) (st := []) h lk_RX6_190 (c_makesR x.2.1 G σ (σ.1 136) (σ.1 141) (σ.1 142) (σ.1 134) A hM hA 1 2 (by decide) (nI 2) u1 u2 (nI 0)) rc_6 (by decide) rfl rfl (by first | decide | exact Nat.le_of_ble_eq_true rfl) (by decide) dX6_makeJoined_12 (fun r4 s5 q6 => ?_)
    rw [q6.1, q6.2]
    exact hret _ _ (pm_no (c0 := 1) (f3_1 hne) (by decide) rfl ((mB_m hc 0).trans pk_us) (mB_out hc) (inv_0 hi hM hA ((pk_un (by decide)).trans rfl) ((pk_un (by decide)).trans rfl))) 15 _ dX6_makeJoined_15
  · skip
    refine r_topi (b := nI 0) (by rw [if_pos rfl]) ?_
    rw [Bool.and_eq_true] at hne
    obtain ⟨hn1, hn2⟩ := hne
    obtain ⟨v1, rfl, hv1⟩ := liB_nI h12 hn1
    obtain ⟨v2, rfl, hv2⟩ := liB_nI h12 hn2
    refine r_iconst (pc := 7) (v := nI 2) h (by decide) dX6_makeJoined_7 ?_
    refine r_iconst (pc := 8) (v := nI 2) h (by decide) dX6_makeJoined_8 ?_
    refine r_iload_n (pc := 9) h 1 rfl rfl dX6_makeJoined_9 ?_
    refine r_iload_n (pc := 10) h 2 rfl rfl dX6_makeJoined_10 ?_
    refine r_iconst (pc := 11) (v := nI 0) h (by decide) dX6_makeJoined_11 ?_
    refine V.sg (show mB σ 136 (σ.1 136) (σ.1 141) (σ.1 142) (σ.1 134) = σ from mB_self hc) ?_
    refine r_cVi (pc := 12) (As := [.int (nI 0), .int (nI 2), .int (nI 2), .int (nI v1), .int (nI v2), .int (nI 0)]) (st := []) h lk_RX6_190 (c_makes0 x.2.1 G σ n tx A m H sv sl hi 2 (by decide) (2, v1, v2, 0) (nI v2) (nI 0) ⟨hv1, hv2⟩ (fun _ _ => rfl) (fun q => by cases q)) rc_6 (by decide) rfl rfl (by first | decide | exact Nat.le_of_ble_eq_true rfl) (by decide) dX6_makeJoined_12 (fun r7 s8 q9 => ?_)
    obtain ⟨q1, q2, q3, q4⟩ := q9
    exact hret _ _ (pm_mk q1 q2 q3 (by show A.1 < 12 → _ = nI A.1 ∧ InvM n tx (mkA A (2, toN (nI v1), toN (nI v2), 0)) _ _ sv sl _; rw [toN_nI (show v1 < 2 ^ 31 by omega), toN_nI (show v2 < 2 ^ 31 by omega)]; exact q4) (fun q => fst3_y (and_t hn1 hn2) rfl (decide_eq_true q)) (fun q => f3_3 (and_t hn1 hn2) rfl (decide_eq_false q)) rfl) 15 _ dX6_makeJoined_15

set_option maxRecDepth 100000 in
set_option maxHeartbeats 800000 in
theorem c_m_makeShared (l : Launch) (G : Gl) (σ : Sg) (n : Nat) (tx : Nat → Nat) (A : Ab) (m : Nat) (H : Nat → Ab) (sv : Nat → Bool) (sl : Nat → Ab) (hi : InvM n tx A m H sv sl σ) (u1 : Int32) (u2 : Int32) : Ci l yX6_makeShared cX6_makeShared 3 .int ({ frames := 3, cells := 0, slots := 0, locals := 71 } : Room) G [.ref (G.2.1 + 134), .int u1, .int u2] σ (fun r σ2 => Pm [1, 3] (ob A 104 u1 u2 (nI 0)) σ σ2 (InvM n tx A m H sv sl) (InvM n tx (co A 104 u1 u2 (nI 0)).2 (pushN m) (pushH m H A) sv sl) r (co A 104 u1 u2 (nI 0)).1) := by
  refine Ci_of (own := RX6) rfl (by decide +kernel) (lo := [(0, .ref (G.2.1 + 134)), (1, .int u1), (2, .int u2)]) rfl (Nat.le_of_ble_eq_true rfl) (fun r s hp => rfl) ?_
  intro x Q hxl h hret
  subst hxl
  have hc := rc136
  have hM := hi.2.1.1
  have hA := hi.2.1.2
  have h12 := hA.1
  have h4 := hA.2.1
  have hm2 := hi.1.2
  have hm6 := hi.2.2.1.2.1
  have hk14 := hi.2.2.1.1
  have hd := hi.2.2.1.2.2
  have ht := hi.1.1
  have hn9 := ht.1
  refine V.sg (show σ = mB σ 136 (σ.1 136) (σ.1 141) (σ.1 142) (σ.1 134) from (mB_self hc).symm) ?_
  refine r_aload_n (pc := 0) h 0 rfl rfl dX6_makeShared_0 ?_
  refine r_aload_n (pc := 1) h 0 rfl rfl dX6_makeShared_1 ?_
  refine r_iload_n (pc := 2) h 1 rfl rfl dX6_makeShared_2 ?_
  refine r_iload_n (pc := 3) h 2 rfl rfl dX6_makeShared_3 ?_
  refine r_cVi (pc := 4) (As := [.int u1, .int u2]) (st := [.ref (G.2.1 + 134)]) h lk_RX6_194 (c_neither x.2.1 G σ (σ.1 136) (σ.1 141) (σ.1 142) (σ.1 134) A hM hA u1 u2) rc_6 (by decide) rfl rfl (by first | decide | exact Nat.le_of_ble_eq_true rfl) (by decide) dX6_makeShared_4 (fun r1 s2 q3 => ?_)
  rw [q3.1, q3.2]
  rcases hne : (liB A u1 && liB A u2) with _ | _
  · skip
    refine r_topi (b := nI 1) (by rw [if_neg (by decide)]) ?_
    refine r_iconst (pc := 7) (v := nI 2) h (by decide) dX6_makeShared_7 ?_
    refine r_iconst (pc := 8) (v := nI 3) h (by decide) dX6_makeShared_8 ?_
    refine r_iload_n (pc := 9) h 1 rfl rfl dX6_makeShared_9 ?_
    refine r_iload_n (pc := 10) h 2 rfl rfl dX6_makeShared_10 ?_
    refine r_iconst (pc := 11) (v := nI 0) h (by decide) dX6_makeShared_11 ?_
    refine r_cVi (pc := 12) (As := [.int (nI 1), .int (nI 2), .int (nI 3), .int u1, .int u2, .int (nI 0)]) (st := []) h lk_RX6_190 (c_makesR x.2.1 G σ (σ.1 136) (σ.1 141) (σ.1 142) (σ.1 134) A hM hA 1 2 (by decide) (nI 3) u1 u2 (nI 0)) rc_6 (by decide) rfl rfl (by first | decide | exact Nat.le_of_ble_eq_true rfl) (by decide) dX6_makeShared_12 (fun r4 s5 q6 => ?_)
    rw [q6.1, q6.2]
    exact hret _ _ (pm_no (c0 := 1) (f3_1 hne) (by decide) rfl ((mB_m hc 0).trans pk_us) (mB_out hc) (inv_0 hi hM hA ((pk_un (by decide)).trans rfl) ((pk_un (by decide)).trans rfl))) 15 _ dX6_makeShared_15
  · skip
    refine r_topi (b := nI 0) (by rw [if_pos rfl]) ?_
    rw [Bool.and_eq_true] at hne
    obtain ⟨hn1, hn2⟩ := hne
    obtain ⟨v1, rfl, hv1⟩ := liB_nI h12 hn1
    obtain ⟨v2, rfl, hv2⟩ := liB_nI h12 hn2
    refine r_iconst (pc := 7) (v := nI 2) h (by decide) dX6_makeShared_7 ?_
    refine r_iconst (pc := 8) (v := nI 3) h (by decide) dX6_makeShared_8 ?_
    refine r_iload_n (pc := 9) h 1 rfl rfl dX6_makeShared_9 ?_
    refine r_iload_n (pc := 10) h 2 rfl rfl dX6_makeShared_10 ?_
    refine r_iconst (pc := 11) (v := nI 0) h (by decide) dX6_makeShared_11 ?_
    refine V.sg (show mB σ 136 (σ.1 136) (σ.1 141) (σ.1 142) (σ.1 134) = σ from mB_self hc) ?_
    refine r_cVi (pc := 12) (As := [.int (nI 0), .int (nI 2), .int (nI 3), .int (nI v1), .int (nI v2), .int (nI 0)]) (st := []) h lk_RX6_190 (c_makes0 x.2.1 G σ n tx A m H sv sl hi 2 (by decide) (3, v1, v2, 0) (nI v2) (nI 0) ⟨hv1, hv2⟩ (fun _ _ => rfl) (fun q => by cases q)) rc_6 (by decide) rfl rfl (by first | decide | exact Nat.le_of_ble_eq_true rfl) (by decide) dX6_makeShared_12 (fun r7 s8 q9 => ?_)
    obtain ⟨q1, q2, q3, q4⟩ := q9
    exact hret _ _ (pm_mk q1 q2 q3 (by show A.1 < 12 → _ = nI A.1 ∧ InvM n tx (mkA A (3, toN (nI v1), toN (nI v2), 0)) _ _ sv sl _; rw [toN_nI (show v1 < 2 ^ 31 by omega), toN_nI (show v2 < 2 ^ 31 by omega)]; exact q4) (fun q => fst3_y (and_t hn1 hn2) rfl (decide_eq_true q)) (fun q => f3_3 (and_t hn1 hn2) rfl (decide_eq_false q)) rfl) 15 _ dX6_makeShared_15

set_option maxRecDepth 100000 in
set_option maxHeartbeats 800000 in
theorem c_m_makeWithout (l : Launch) (G : Gl) (σ : Sg) (n : Nat) (tx : Nat → Nat) (A : Ab) (m : Nat) (H : Nat → Ab) (sv : Nat → Bool) (sl : Nat → Ab) (hi : InvM n tx A m H sv sl σ) (u1 : Int32) (u2 : Int32) : Ci l yX6_makeWithout cX6_makeWithout 3 .int ({ frames := 3, cells := 0, slots := 0, locals := 71 } : Room) G [.ref (G.2.1 + 134), .int u1, .int u2] σ (fun r σ2 => Pm [1, 3] (ob A 119 u1 u2 (nI 0)) σ σ2 (InvM n tx A m H sv sl) (InvM n tx (co A 119 u1 u2 (nI 0)).2 (pushN m) (pushH m H A) sv sl) r (co A 119 u1 u2 (nI 0)).1) := by
  refine Ci_of (own := RX6) rfl (by decide +kernel) (lo := [(0, .ref (G.2.1 + 134)), (1, .int u1), (2, .int u2)]) rfl (Nat.le_of_ble_eq_true rfl) (fun r s hp => rfl) ?_
  intro x Q hxl h hret
  subst hxl
  have hc := rc136
  have hM := hi.2.1.1
  have hA := hi.2.1.2
  have h12 := hA.1
  have h4 := hA.2.1
  have hm2 := hi.1.2
  have hm6 := hi.2.2.1.2.1
  have hk14 := hi.2.2.1.1
  have hd := hi.2.2.1.2.2
  have ht := hi.1.1
  have hn9 := ht.1
  refine V.sg (show σ = mB σ 136 (σ.1 136) (σ.1 141) (σ.1 142) (σ.1 134) from (mB_self hc).symm) ?_
  refine r_aload_n (pc := 0) h 0 rfl rfl dX6_makeWithout_0 ?_
  refine r_aload_n (pc := 1) h 0 rfl rfl dX6_makeWithout_1 ?_
  refine r_iload_n (pc := 2) h 1 rfl rfl dX6_makeWithout_2 ?_
  refine r_iload_n (pc := 3) h 2 rfl rfl dX6_makeWithout_3 ?_
  refine r_cVi (pc := 4) (As := [.int u1, .int u2]) (st := [.ref (G.2.1 + 134)]) h lk_RX6_194 (c_neither x.2.1 G σ (σ.1 136) (σ.1 141) (σ.1 142) (σ.1 134) A hM hA u1 u2) rc_6 (by decide) rfl rfl (by first | decide | exact Nat.le_of_ble_eq_true rfl) (by decide) dX6_makeWithout_4 (fun r1 s2 q3 => ?_)
  rw [q3.1, q3.2]
  rcases hne : (liB A u1 && liB A u2) with _ | _
  · skip
    refine r_topi (b := nI 1) (by rw [if_neg (by decide)]) ?_
    refine r_iconst (pc := 7) (v := nI 2) h (by decide) dX6_makeWithout_7 ?_
    refine r_iconst (pc := 8) (v := nI 4) h (by decide) dX6_makeWithout_8 ?_
    refine r_iload_n (pc := 9) h 1 rfl rfl dX6_makeWithout_9 ?_
    refine r_iload_n (pc := 10) h 2 rfl rfl dX6_makeWithout_10 ?_
    refine r_iconst (pc := 11) (v := nI 0) h (by decide) dX6_makeWithout_11 ?_
    refine r_cVi (pc := 12) (As := [.int (nI 1), .int (nI 2), .int (nI 4), .int u1, .int u2, .int (nI 0)]) (st := []) h lk_RX6_190 (c_makesR x.2.1 G σ (σ.1 136) (σ.1 141) (σ.1 142) (σ.1 134) A hM hA 1 2 (by decide) (nI 4) u1 u2 (nI 0)) rc_6 (by decide) rfl rfl (by first | decide | exact Nat.le_of_ble_eq_true rfl) (by decide) dX6_makeWithout_12 (fun r4 s5 q6 => ?_)
    rw [q6.1, q6.2]
    exact hret _ _ (pm_no (c0 := 1) (f3_1 hne) (by decide) rfl ((mB_m hc 0).trans pk_us) (mB_out hc) (inv_0 hi hM hA ((pk_un (by decide)).trans rfl) ((pk_un (by decide)).trans rfl))) 15 _ dX6_makeWithout_15
  · skip
    refine r_topi (b := nI 0) (by rw [if_pos rfl]) ?_
    rw [Bool.and_eq_true] at hne
    obtain ⟨hn1, hn2⟩ := hne
    obtain ⟨v1, rfl, hv1⟩ := liB_nI h12 hn1
    obtain ⟨v2, rfl, hv2⟩ := liB_nI h12 hn2
    refine r_iconst (pc := 7) (v := nI 2) h (by decide) dX6_makeWithout_7 ?_
    refine r_iconst (pc := 8) (v := nI 4) h (by decide) dX6_makeWithout_8 ?_
    refine r_iload_n (pc := 9) h 1 rfl rfl dX6_makeWithout_9 ?_
    refine r_iload_n (pc := 10) h 2 rfl rfl dX6_makeWithout_10 ?_
    refine r_iconst (pc := 11) (v := nI 0) h (by decide) dX6_makeWithout_11 ?_
    refine V.sg (show mB σ 136 (σ.1 136) (σ.1 141) (σ.1 142) (σ.1 134) = σ from mB_self hc) ?_
    refine r_cVi (pc := 12) (As := [.int (nI 0), .int (nI 2), .int (nI 4), .int (nI v1), .int (nI v2), .int (nI 0)]) (st := []) h lk_RX6_190 (c_makes0 x.2.1 G σ n tx A m H sv sl hi 2 (by decide) (4, v1, v2, 0) (nI v2) (nI 0) ⟨hv1, hv2⟩ (fun _ _ => rfl) (fun q => by cases q)) rc_6 (by decide) rfl rfl (by first | decide | exact Nat.le_of_ble_eq_true rfl) (by decide) dX6_makeWithout_12 (fun r7 s8 q9 => ?_)
    obtain ⟨q1, q2, q3, q4⟩ := q9
    exact hret _ _ (pm_mk q1 q2 q3 (by show A.1 < 12 → _ = nI A.1 ∧ InvM n tx (mkA A (4, toN (nI v1), toN (nI v2), 0)) _ _ sv sl _; rw [toN_nI (show v1 < 2 ^ 31 by omega), toN_nI (show v2 < 2 ^ 31 by omega)]; exact q4) (fun q => fst3_y (and_t hn1 hn2) rfl (decide_eq_true q)) (fun q => f3_3 (and_t hn1 hn2) rfl (decide_eq_false q)) rfl) 15 _ dX6_makeWithout_15

set_option maxRecDepth 100000 in
set_option maxHeartbeats 800000 in
theorem c_m_makeSieved (l : Launch) (G : Gl) (σ : Sg) (n : Nat) (tx : Nat → Nat) (A : Ab) (m : Nat) (H : Nat → Ab) (sv : Nat → Bool) (sl : Nat → Ab) (hi : InvM n tx A m H sv sl σ) (u1 : Int32) : Ci l yX6_makeSieved cX6_makeSieved 2 .int ({ frames := 3, cells := 0, slots := 0, locals := 71 } : Room) G [.ref (G.2.1 + 134), .int u1] σ (fun r σ2 => Pm [1, 3] (ob A 118 u1 (nI 0) (nI 0)) σ σ2 (InvM n tx A m H sv sl) (InvM n tx (co A 118 u1 (nI 0) (nI 0)).2 (pushN m) (pushH m H A) sv sl) r (co A 118 u1 (nI 0) (nI 0)).1) := by
  refine Ci_of (own := RX6) rfl (by decide +kernel) (lo := [(0, .ref (G.2.1 + 134)), (1, .int u1)]) rfl (Nat.le_of_ble_eq_true rfl) (fun r s hp => rfl) ?_
  intro x Q hxl h hret
  subst hxl
  have hc := rc136
  have hM := hi.2.1.1
  have hA := hi.2.1.2
  have h12 := hA.1
  have h4 := hA.2.1
  have hm2 := hi.1.2
  have hm6 := hi.2.2.1.2.1
  have hk14 := hi.2.2.1.1
  have hd := hi.2.2.1.2.2
  have ht := hi.1.1
  have hn9 := ht.1
  refine V.sg (show σ = mB σ 136 (σ.1 136) (σ.1 141) (σ.1 142) (σ.1 134) from (mB_self hc).symm) ?_
  refine r_aload_n (pc := 0) h 0 rfl rfl dX6_makeSieved_0 ?_
  refine r_aload_n (pc := 1) h 0 rfl rfl dX6_makeSieved_1 ?_
  refine g_6_now (pc := 2) h mw_3_21 dX6_makeSieved_2 ?_
  refine r_iload_n (pc := 5) h 1 rfl rfl dX6_makeSieved_5 ?_
  refine r_cSi (pc := 6) (As := [.ref (G.2.1 + 136), .int u1]) (st := [.ref (G.2.1 + 134)]) h lk_RX6_123 (c_isListM x.2.1 G (mB σ 136 (σ.1 136) (σ.1 141) (σ.1 142) (σ.1 134)) 136 hc A (by rw [mB_sF]; exact hM) (by omega) u1) (by decide) rfl rfl (by first | decide | exact Nat.le_of_ble_eq_true rfl) (by decide) dX6_makeSieved_6 (fun r1 s2 q3 => ?_)
  rw [q3.1, q3.2]
  refine r_if_eq (pc := 9) (tgt := 16) h (by decide) dX6_makeSieved_9 (fun c9 => ?_) (fun c9 => ?_)
  · skip
    replace c9 := zB_0.mp c9
    refine r_iconst (pc := 16) (v := nI 1) h (by decide) dX6_makeSieved_16 ?_
    refine r_iconst (pc := 17) (v := nI 2) h (by decide) dX6_makeSieved_17 ?_
    refine r_iconst (pc := 18) (v := nI 5) h (by decide) dX6_makeSieved_18 ?_
    refine r_iload_n (pc := 19) h 1 rfl rfl dX6_makeSieved_19 ?_
    refine r_iconst (pc := 20) (v := nI 0) h (by decide) dX6_makeSieved_20 ?_
    refine r_iconst (pc := 21) (v := nI 0) h (by decide) dX6_makeSieved_21 ?_
    refine r_cVi (pc := 22) (As := [.int (nI 1), .int (nI 2), .int (nI 5), .int u1, .int (nI 0), .int (nI 0)]) (st := []) h lk_RX6_190 (c_makesR x.2.1 G σ (σ.1 136) (σ.1 141) (σ.1 142) (σ.1 134) A hM hA 1 2 (by decide) (nI 5) u1 (nI 0) (nI 0)) rc_6 (by decide) rfl rfl (by first | decide | exact Nat.le_of_ble_eq_true rfl) (by decide) dX6_makeSieved_22 (fun r4 s5 q6 => ?_)
    rw [q6.1, q6.2]
    exact hret _ _ (pm_no (c0 := 1) (f3_1 c9) (by decide) rfl ((mB_m hc 0).trans pk_us) (mB_out hc) (inv_0 hi hM hA ((pk_un (by decide)).trans rfl) ((pk_un (by decide)).trans rfl))) 25 _ dX6_makeSieved_25
  · skip
    replace c9 := zB_n0.mp c9
    obtain ⟨v1, rfl, hv1⟩ := liB_nI h12 c9
    refine r_iconst (pc := 12) (v := nI 0) h (by decide) dX6_makeSieved_12 ?_
    refine r_goto (pc := 13) (tgt := 17) h (by decide) dX6_makeSieved_13 ?_
    refine r_iconst (pc := 17) (v := nI 2) h (by decide) dX6_makeSieved_17 ?_
    refine r_iconst (pc := 18) (v := nI 5) h (by decide) dX6_makeSieved_18 ?_
    refine r_iload_n (pc := 19) h 1 rfl rfl dX6_makeSieved_19 ?_
    refine r_iconst (pc := 20) (v := nI 0) h (by decide) dX6_makeSieved_20 ?_
    refine r_iconst (pc := 21) (v := nI 0) h (by decide) dX6_makeSieved_21 ?_
    refine V.sg (show mB σ 136 (σ.1 136) (σ.1 141) (σ.1 142) (σ.1 134) = σ from mB_self hc) ?_
    refine r_cVi (pc := 22) (As := [.int (nI 0), .int (nI 2), .int (nI 5), .int (nI v1), .int (nI 0), .int (nI 0)]) (st := []) h lk_RX6_190 (c_makes0 x.2.1 G σ n tx A m H sv sl hi 2 (by decide) (5, v1, 0, 0) (nI 0) (nI 0) hv1 (fun q _ => absurd rfl q) (fun q => by cases q)) rc_6 (by decide) rfl rfl (by first | decide | exact Nat.le_of_ble_eq_true rfl) (by decide) dX6_makeSieved_22 (fun r7 s8 q9 => ?_)
    obtain ⟨q1, q2, q3, q4⟩ := q9
    exact hret _ _ (pm_mk q1 q2 q3 (by show A.1 < 12 → _ = nI A.1 ∧ InvM n tx (mkA A (5, toN (nI v1), 0, 0)) _ _ sv sl _; rw [toN_nI (show v1 < 2 ^ 31 by omega)]; exact q4) (fun q => fst3_y c9 rfl (decide_eq_true q)) (fun q => f3_3 c9 rfl (decide_eq_false q)) rfl) 25 _ dX6_makeSieved_25

set_option maxRecDepth 100000 in
set_option maxHeartbeats 800000 in
theorem c_m_makeAddedUp (l : Launch) (G : Gl) (σ : Sg) (n : Nat) (tx : Nat → Nat) (A : Ab) (m : Nat) (H : Nat → Ab) (sv : Nat → Bool) (sl : Nat → Ab) (hi : InvM n tx A m H sv sl σ) (u1 : Int32) : Ci l yX6_makeAddedUp cX6_makeAddedUp 2 .int ({ frames := 3, cells := 0, slots := 0, locals := 71 } : Room) G [.ref (G.2.1 + 134), .int u1] σ (fun r σ2 => Pm [1, 3] (ob A 117 u1 (nI 0) (nI 0)) σ σ2 (InvM n tx A m H sv sl) (InvM n tx (co A 117 u1 (nI 0) (nI 0)).2 (pushN m) (pushH m H A) sv sl) r (co A 117 u1 (nI 0) (nI 0)).1) := by
  refine Ci_of (own := RX6) rfl (by decide +kernel) (lo := [(0, .ref (G.2.1 + 134)), (1, .int u1)]) rfl (Nat.le_of_ble_eq_true rfl) (fun r s hp => rfl) ?_
  intro x Q hxl h hret
  subst hxl
  have hc := rc136
  have hM := hi.2.1.1
  have hA := hi.2.1.2
  have h12 := hA.1
  have h4 := hA.2.1
  have hm2 := hi.1.2
  have hm6 := hi.2.2.1.2.1
  have hk14 := hi.2.2.1.1
  have hd := hi.2.2.1.2.2
  have ht := hi.1.1
  have hn9 := ht.1
  refine V.sg (show σ = mB σ 136 (σ.1 136) (σ.1 141) (σ.1 142) (σ.1 134) from (mB_self hc).symm) ?_
  refine r_aload_n (pc := 0) h 0 rfl rfl dX6_makeAddedUp_0 ?_
  refine r_aload_n (pc := 1) h 0 rfl rfl dX6_makeAddedUp_1 ?_
  refine g_6_now (pc := 2) h mw_3_21 dX6_makeAddedUp_2 ?_
  refine r_iload_n (pc := 5) h 1 rfl rfl dX6_makeAddedUp_5 ?_
  refine r_cSi (pc := 6) (As := [.ref (G.2.1 + 136), .int u1]) (st := [.ref (G.2.1 + 134)]) h lk_RX6_123 (c_isListM x.2.1 G (mB σ 136 (σ.1 136) (σ.1 141) (σ.1 142) (σ.1 134)) 136 hc A (by rw [mB_sF]; exact hM) (by omega) u1) (by decide) rfl rfl (by first | decide | exact Nat.le_of_ble_eq_true rfl) (by decide) dX6_makeAddedUp_6 (fun r1 s2 q3 => ?_)
  rw [q3.1, q3.2]
  refine r_if_eq (pc := 9) (tgt := 16) h (by decide) dX6_makeAddedUp_9 (fun c9 => ?_) (fun c9 => ?_)
  · skip
    replace c9 := zB_0.mp c9
    refine r_iconst (pc := 16) (v := nI 1) h (by decide) dX6_makeAddedUp_16 ?_
    refine r_iconst (pc := 17) (v := nI 2) h (by decide) dX6_makeAddedUp_17 ?_
    refine r_bipush (pc := 18) (v := nI 7) h (by decide) dX6_makeAddedUp_18 ?_
    refine r_iload_n (pc := 20) h 1 rfl rfl dX6_makeAddedUp_20 ?_
    refine r_iconst (pc := 21) (v := nI 0) h (by decide) dX6_makeAddedUp_21 ?_
    refine r_iconst (pc := 22) (v := nI 0) h (by decide) dX6_makeAddedUp_22 ?_
    refine r_cVi (pc := 23) (As := [.int (nI 1), .int (nI 2), .int (nI 7), .int u1, .int (nI 0), .int (nI 0)]) (st := []) h lk_RX6_190 (c_makesR x.2.1 G σ (σ.1 136) (σ.1 141) (σ.1 142) (σ.1 134) A hM hA 1 2 (by decide) (nI 7) u1 (nI 0) (nI 0)) rc_6 (by decide) rfl rfl (by first | decide | exact Nat.le_of_ble_eq_true rfl) (by decide) dX6_makeAddedUp_23 (fun r4 s5 q6 => ?_)
    rw [q6.1, q6.2]
    exact hret _ _ (pm_no (c0 := 1) (f3_1 c9) (by decide) rfl ((mB_m hc 0).trans pk_us) (mB_out hc) (inv_0 hi hM hA ((pk_un (by decide)).trans rfl) ((pk_un (by decide)).trans rfl))) 26 _ dX6_makeAddedUp_26
  · skip
    replace c9 := zB_n0.mp c9
    obtain ⟨v1, rfl, hv1⟩ := liB_nI h12 c9
    refine r_iconst (pc := 12) (v := nI 0) h (by decide) dX6_makeAddedUp_12 ?_
    refine r_goto (pc := 13) (tgt := 17) h (by decide) dX6_makeAddedUp_13 ?_
    refine r_iconst (pc := 17) (v := nI 2) h (by decide) dX6_makeAddedUp_17 ?_
    refine r_bipush (pc := 18) (v := nI 7) h (by decide) dX6_makeAddedUp_18 ?_
    refine r_iload_n (pc := 20) h 1 rfl rfl dX6_makeAddedUp_20 ?_
    refine r_iconst (pc := 21) (v := nI 0) h (by decide) dX6_makeAddedUp_21 ?_
    refine r_iconst (pc := 22) (v := nI 0) h (by decide) dX6_makeAddedUp_22 ?_
    refine V.sg (show mB σ 136 (σ.1 136) (σ.1 141) (σ.1 142) (σ.1 134) = σ from mB_self hc) ?_
    refine r_cVi (pc := 23) (As := [.int (nI 0), .int (nI 2), .int (nI 7), .int (nI v1), .int (nI 0), .int (nI 0)]) (st := []) h lk_RX6_190 (c_makes0 x.2.1 G σ n tx A m H sv sl hi 2 (by decide) (7, v1, 0, 0) (nI 0) (nI 0) hv1 (fun _ q => absurd rfl q) (fun q => by cases q)) rc_6 (by decide) rfl rfl (by first | decide | exact Nat.le_of_ble_eq_true rfl) (by decide) dX6_makeAddedUp_23 (fun r7 s8 q9 => ?_)
    obtain ⟨q1, q2, q3, q4⟩ := q9
    exact hret _ _ (pm_mk q1 q2 q3 (by show A.1 < 12 → _ = nI A.1 ∧ InvM n tx (mkA A (7, toN (nI v1), 0, 0)) _ _ sv sl _; rw [toN_nI (show v1 < 2 ^ 31 by omega)]; exact q4) (fun q => fst3_y c9 rfl (decide_eq_true q)) (fun q => f3_3 c9 rfl (decide_eq_false q)) rfl) 26 _ dX6_makeAddedUp_26

set_option maxRecDepth 100000 in
set_option maxHeartbeats 800000 in
theorem c_m_makeThinned (l : Launch) (G : Gl) (σ : Sg) (n : Nat) (tx : Nat → Nat) (A : Ab) (m : Nat) (H : Nat → Ab) (sv : Nat → Bool) (sl : Nat → Ab) (hi : InvM n tx A m H sv sl σ) (u1 : Int32) (u2 : Int32) : Ci l yX6_makeThinned cX6_makeThinned 3 .int ({ frames := 3, cells := 0, slots := 0, locals := 71 } : Room) G [.ref (G.2.1 + 134), .int u1, .int u2] σ (fun r σ2 => Pm [1, 2, 3] (ob A 101 u1 u2 (nI 0)) σ σ2 (InvM n tx A m H sv sl) (InvM n tx (co A 101 u1 u2 (nI 0)).2 (pushN m) (pushH m H A) sv sl) r (co A 101 u1 u2 (nI 0)).1) := by
  refine Ci_of (own := RX6) rfl (by decide +kernel) (lo := [(0, .ref (G.2.1 + 134)), (1, .int u1), (2, .int u2)]) rfl (Nat.le_of_ble_eq_true rfl) (fun r s hp => rfl) ?_
  intro x Q hxl h hret
  subst hxl
  have hc := rc136
  have hM := hi.2.1.1
  have hA := hi.2.1.2
  have h12 := hA.1
  have h4 := hA.2.1
  have hm2 := hi.1.2
  have hm6 := hi.2.2.1.2.1
  have hk14 := hi.2.2.1.1
  have hd := hi.2.2.1.2.2
  have ht := hi.1.1
  have hn9 := ht.1
  refine V.sg (show σ = mB σ 136 (σ.1 136) (σ.1 141) (σ.1 142) (σ.1 134) from (mB_self hc).symm) ?_
  refine r_aload_n (pc := 0) h 0 rfl rfl dX6_makeThinned_0 ?_
  refine r_aload_n (pc := 1) h 0 rfl rfl dX6_makeThinned_1 ?_
  refine g_6_now (pc := 2) h mw_3_21 dX6_makeThinned_2 ?_
  refine r_iload_n (pc := 5) h 1 rfl rfl dX6_makeThinned_5 ?_
  refine r_cSi (pc := 6) (As := [.ref (G.2.1 + 136), .int u1]) (st := [.ref (G.2.1 + 134)]) h lk_RX6_123 (c_isListM x.2.1 G (mB σ 136 (σ.1 136) (σ.1 141) (σ.1 142) (σ.1 134)) 136 hc A (by rw [mB_sF]; exact hM) (by omega) u1) (by decide) rfl rfl (by first | decide | exact Nat.le_of_ble_eq_true rfl) (by decide) dX6_makeThinned_6 (fun r1 s2 q3 => ?_)
  rw [q3.1, q3.2]
  refine r_if_ne (pc := 9) (tgt := 16) h (by decide) dX6_makeThinned_9 (fun c9 => ?_) (fun c9 => ?_)
  · skip
    replace c9 := zB_n0.mp c9
    obtain ⟨v1, rfl, hv1⟩ := liB_nI h12 c9
    refine r_iload_n (pc := 16) h 2 rfl rfl dX6_makeThinned_16 ?_
    refine r_i2l (pc := 17) (v := u2.toInt64) h rfl dX6_makeThinned_17 ?_
    refine r_lconst (pc := 18) (v := 1) h (by decide) dX6_makeThinned_18 ?_
    refine r_ldc2 (pc := 19) (v := 9) h mw_9_0 dX6_makeThinned_19 ?_
    refine r_cSi (pc := 22) (As := [.long u2.toInt64, .long 1, .long 9]) (st := [.ref (G.2.1 + 134)]) h lk_RX6_43 (c_in x.2.1 G (mB σ 136 (σ.1 136) (σ.1 141) (σ.1 142) (σ.1 134)) u2 (nI 1) (nI 9)) (by decide) rfl rfl (by first | decide | exact Nat.le_of_ble_eq_true rfl) (by decide) dX6_makeThinned_22 (fun r4 s5 q6 => ?_)
    rw [q6.1, q6.2]
    refine r_if_eq (pc := 25) (tgt := 32) h (by decide) dX6_makeThinned_25 (fun c25 => ?_) (fun c25 => ?_)
    · skip
      replace c25 := zB_0.mp c25
      refine r_iconst (pc := 32) (v := nI 2) h (by decide) dX6_makeThinned_32 ?_
      refine r_iconst (pc := 33) (v := nI 3) h (by decide) dX6_makeThinned_33 ?_
      refine r_bipush (pc := 34) (v := nI 6) h (by decide) dX6_makeThinned_34 ?_
      refine r_iload_n (pc := 36) h 1 rfl rfl dX6_makeThinned_36 ?_
      refine r_iload_n (pc := 37) h 2 rfl rfl dX6_makeThinned_37 ?_
      refine r_iconst (pc := 38) (v := nI 0) h (by decide) dX6_makeThinned_38 ?_
      refine r_cVi (pc := 39) (As := [.int (nI 2), .int (nI 3), .int (nI 6), .int (nI v1), .int u2, .int (nI 0)]) (st := []) h lk_RX6_190 (c_makesR x.2.1 G σ (σ.1 136) (σ.1 141) (σ.1 142) (σ.1 134) A hM hA 2 3 (by decide) (nI 6) (nI v1) u2 (nI 0)) rc_6 (by decide) rfl rfl (by first | decide | exact Nat.le_of_ble_eq_true rfl) (by decide) dX6_makeThinned_39 (fun r7 s8 q9 => ?_)
      rw [q9.1, q9.2]
      exact hret _ _ (pm_no (c0 := 2) (f3_2 c9 c25) (by decide) rfl ((mB_m hc 0).trans pk_us) (mB_out hc) (inv_0 hi hM hA ((pk_un (by decide)).trans rfl) ((pk_un (by decide)).trans rfl))) 42 _ dX6_makeThinned_42
    · skip
      replace c25 := zB_n0.mp c25
      obtain ⟨v2, rfl, lv2, hv2⟩ := inB_nI (by omega) (by omega) c25
      refine r_iconst (pc := 28) (v := nI 0) h (by decide) dX6_makeThinned_28 ?_
      refine r_goto (pc := 29) (tgt := 33) h (by decide) dX6_makeThinned_29 ?_
      refine r_iconst (pc := 33) (v := nI 3) h (by decide) dX6_makeThinned_33 ?_
      refine r_bipush (pc := 34) (v := nI 6) h (by decide) dX6_makeThinned_34 ?_
      refine r_iload_n (pc := 36) h 1 rfl rfl dX6_makeThinned_36 ?_
      refine r_iload_n (pc := 37) h 2 rfl rfl dX6_makeThinned_37 ?_
      refine r_iconst (pc := 38) (v := nI 0) h (by decide) dX6_makeThinned_38 ?_
      refine V.sg (show mB σ 136 (σ.1 136) (σ.1 141) (σ.1 142) (σ.1 134) = σ from mB_self hc) ?_
      refine r_cVi (pc := 39) (As := [.int (nI 0), .int (nI 3), .int (nI 6), .int (nI v1), .int (nI v2), .int (nI 0)]) (st := []) h lk_RX6_190 (c_makes0 x.2.1 G σ n tx A m H sv sl hi 3 (by decide) (6, v1, v2, 0) (nI v2) (nI 0) ⟨hv1, lv2, hv2⟩ (fun _ _ => rfl) (fun q => by cases q)) rc_6 (by decide) rfl rfl (by first | decide | exact Nat.le_of_ble_eq_true rfl) (by decide) dX6_makeThinned_39 (fun r10 s11 q12 => ?_)
      obtain ⟨q1, q2, q3, q4⟩ := q12
      exact hret _ _ (pm_mk q1 q2 q3 (by show A.1 < 12 → _ = nI A.1 ∧ InvM n tx (mkA A (6, toN (nI v1), toN (nI v2), 0)) _ _ sv sl _; rw [toN_nI (show v1 < 2 ^ 31 by omega), toN_nI (show v2 < 2 ^ 31 by omega)]; exact q4) (fun q => fst3_y c9 c25 (decide_eq_true q)) (fun q => f3_3 c9 c25 (decide_eq_false q)) rfl) 42 _ dX6_makeThinned_42
  · skip
    replace c9 := zB_0.mp c9
    refine r_iconst (pc := 12) (v := nI 1) h (by decide) dX6_makeThinned_12 ?_
    refine r_goto (pc := 13) (tgt := 33) h (by decide) dX6_makeThinned_13 ?_
    refine r_iconst (pc := 33) (v := nI 3) h (by decide) dX6_makeThinned_33 ?_
    refine r_bipush (pc := 34) (v := nI 6) h (by decide) dX6_makeThinned_34 ?_
    refine r_iload_n (pc := 36) h 1 rfl rfl dX6_makeThinned_36 ?_
    refine r_iload_n (pc := 37) h 2 rfl rfl dX6_makeThinned_37 ?_
    refine r_iconst (pc := 38) (v := nI 0) h (by decide) dX6_makeThinned_38 ?_
    refine r_cVi (pc := 39) (As := [.int (nI 1), .int (nI 3), .int (nI 6), .int u1, .int u2, .int (nI 0)]) (st := []) h lk_RX6_190 (c_makesR x.2.1 G σ (σ.1 136) (σ.1 141) (σ.1 142) (σ.1 134) A hM hA 1 3 (by decide) (nI 6) u1 u2 (nI 0)) rc_6 (by decide) rfl rfl (by first | decide | exact Nat.le_of_ble_eq_true rfl) (by decide) dX6_makeThinned_39 (fun r13 s14 q15 => ?_)
    rw [q15.1, q15.2]
    exact hret _ _ (pm_no (c0 := 1) (f3_1 c9) (by decide) rfl ((mB_m hc 0).trans pk_us) (mB_out hc) (inv_0 hi hM hA ((pk_un (by decide)).trans rfl) ((pk_un (by decide)).trans rfl))) 42 _ dX6_makeThinned_42

set_option maxRecDepth 100000 in
set_option maxHeartbeats 800000 in
theorem c_m_dropLast (l : Launch) (G : Gl) (σ : Sg) (n : Nat) (tx : Nat → Nat) (A : Ab) (m : Nat) (H : Nat → Ab) (sv : Nat → Bool) (sl : Nat → Ab) (hi : InvM n tx A m H sv sl σ) : Ci l yX6_dropLast cX6_dropLast 1 .int ({ frames := 2, cells := 0, slots := 0, locals := 45 } : Room) G [.ref (G.2.1 + 134)] σ (fun r σ2 => Pm [3] (ob A 100 (nI 0) (nI 0) (nI 0)) σ σ2 (InvM n tx A m H sv sl) (InvM n tx (co A 100 (nI 0) (nI 0) (nI 0)).2 (pushN m) (pushH m H A) sv sl) r (co A 100 (nI 0) (nI 0) (nI 0)).1) := by
  refine Ci_of (own := RX6) rfl (by decide +kernel) (lo := [(0, .ref (G.2.1 + 134))]) rfl (Nat.le_of_ble_eq_true rfl) (fun r s hp => rfl) ?_
  intro x Q hxl h hret
  subst hxl
  have hc := rc136
  have hM := hi.2.1.1
  have hA := hi.2.1.2
  have h12 := hA.1
  have h4 := hA.2.1
  have hm2 := hi.1.2
  have hm6 := hi.2.2.1.2.1
  have hk14 := hi.2.2.1.1
  have hd := hi.2.2.1.2.2
  have ht := hi.1.1
  have hn9 := ht.1
  have hwy := whyN_le A
  refine V.sg (show σ = mB σ 136 (σ.1 136) (σ.1 141) (σ.1 142) (σ.1 134) from (mB_self hc).symm) ?_
  refine r_aload_n (pc := 0) h 0 rfl rfl dX6_dropLast_0 ?_
  refine r_aload_n (pc := 1) h 0 rfl rfl dX6_dropLast_1 ?_
  refine g_6_now (pc := 2) h mw_3_21 dX6_dropLast_2 ?_
  refine r_cSi (pc := 5) (As := [.ref (G.2.1 + 136)]) (st := [.ref (G.2.1 + 134)]) h lk_RX6_163 (c_reasonM x.2.1 G (mB σ 136 (σ.1 136) (σ.1 141) (σ.1 142) (σ.1 134)) 136 hc A (by rw [mB_sF]; exact hM) hA) (by decide) rfl rfl (by first | decide | exact Nat.le_of_ble_eq_true rfl) (by decide) dX6_dropLast_5 (fun r1 s2 q3 => ?_)
  rw [q3.1, q3.2]
  refine r_if_ne (pc := 8) (tgt := 15) h (by decide) dX6_dropLast_8 (fun c8 => ?_) (fun c8 => ?_)
  · skip
    rw [zI0, nI_eq (by omega) (by omega)] at c8
    refine r_iconst (pc := 15) (v := nI 1) h (by decide) dX6_dropLast_15 ?_
    refine r_cVi (pc := 16) (As := [.int (nI 1)]) (st := []) h lk_RX6_95 (c_refused x.2.1 G σ 136 hc (σ.1 136) (σ.1 141) (σ.1 142) (σ.1 134) 1 (by omega)) rc_6 (by decide) rfl rfl (by first | decide | exact Nat.le_of_ble_eq_true rfl) (by decide) dX6_dropLast_16 (fun r4 s5 q6 => ?_)
    rw [q6.1, q6.2]
    refine r_topi (b := nI 1) (by decide) ?_
    refine r_if_eq (pc := 19) (tgt := 24) h (by decide) dX6_dropLast_19 (fun c19 => absurd c19 (by decide)) (fun _ => ?_)
    refine r_iconst (pc := 22) (v := nI 0) h (by decide) dX6_dropLast_22 ?_
    exact hret _ _ (pm_no (c0 := 3) (f3_3 rfl rfl (decide_eq_false c8)) (by decide) rfl ((mB_m hc 0).trans pk_us) (mB_out hc) (inv_0 hi hM hA ((pk_un (by decide)).trans rfl) ((pk_un (by decide)).trans rfl))) 23 _ dX6_dropLast_23
  · skip
    rw [zI0, nI_eq (by omega) (by omega)] at c8
    have hw1 := why_0 c8
    refine r_iconst (pc := 11) (v := nI 0) h (by decide) dX6_dropLast_11 ?_
    refine r_goto (pc := 12) (tgt := 16) h (by decide) dX6_dropLast_12 ?_
    refine r_cVi (pc := 16) (As := [.int (nI 0)]) (st := []) h lk_RX6_95 (c_refused x.2.1 G σ 136 hc (σ.1 136) (σ.1 141) (σ.1 142) (σ.1 134) 0 (by omega)) rc_6 (by decide) rfl rfl (by first | decide | exact Nat.le_of_ble_eq_true rfl) (by decide) dX6_dropLast_16 (fun r7 s8 q9 => ?_)
    rw [q9.1, q9.2]
    refine r_topi (b := nI 0) (by decide) ?_
    refine r_if_eq (pc := 19) (tgt := 24) h (by decide) dX6_dropLast_19 (fun _ => ?_) (fun c19 => absurd c19 (by decide))
    refine r_aload_n (pc := 24) h 0 rfl rfl dX6_dropLast_24 ?_
    refine V.sg (show mB σ 136 (σ.1 136) (σ.1 141) (σ.1 142) (upd (σ.1 134) 0 (nI 0)) = mB (oB σ 138 (σ.1 138)) 136 (σ.1 136) (σ.1 141) (σ.1 142) (upd (σ.1 134) 0 (nI 0)) from by rw [oB_self]) ?_
    refine r_cVv (pc := 25) (As := []) (st := []) h lk_RX6_183 (c_rememberM x.2.1 G σ (σ.1 138) (σ.1 136) (σ.1 141) (σ.1 142) (upd (σ.1 134) 0 (nI 0)) A hM hA m H hk14 ((pk_un (by decide)).trans hm6) hd) rc_6 (by decide) rfl rfl (by first | decide | exact Nat.le_of_ble_eq_true rfl) (by decide) dX6_dropLast_25 (fun s11 q12 => ?_)
    obtain ⟨f2, es1, hd2⟩ := q12
    subst es1
    refine r_aload_n (pc := 28) h 0 rfl rfl dX6_dropLast_28 ?_
    refine g_6_now (pc := 29) h mw_3_21 dX6_dropLast_29 ?_
    refine r_cSi (pc := 32) (As := [.ref (G.2.1 + 136)]) (st := []) h lk_RX6_167 (c_dropM x.2.1 G (oB σ 138 f2) 136 hc (σ.1 136) (σ.1 141) (σ.1 142) (upd (upd (σ.1 134) 0 (nI 0)) 6 (nI (pushN m))) A hA hM (by omega)) (by decide) rfl rfl (by first | decide | exact Nat.le_of_ble_eq_true rfl) (by decide) dX6_dropLast_32 (fun r13 s14 q15 => ?_)
    obtain ⟨e9, s2, es, hs2⟩ := q15
    rw [e9]
    subst es
    exact hret _ _ (pm_ok (fst3_y rfl rfl (decide_eq_true c8)) ((mB_m hc 0).trans ((pk_un (by decide)).trans pk_us)) (mB_out2 f2 (by decide) hc) rfl (inv_1 hi hs2 (okA_co hA (K := 100) (by decide) (fst3_y rfl rfl (decide_eq_true c8))) ((pk_un (by decide)).trans ((pk_un (by decide)).trans rfl)) (pushN_le _) pk_us hd2)) 35 _ dX6_dropLast_35

set_option maxRecDepth 100000 in
set_option maxHeartbeats 800000 in
theorem c_m_beginReading (l : Launch) (G : Gl) (σ : Sg) (n : Nat) (tx : Nat → Nat) (A : Ab) (m : Nat) (H : Nat → Ab) (sv : Nat → Bool) (sl : Nat → Ab) (hi : InvM n tx A m H sv sl σ) (u1 : Int32) : Ci l yX6_beginReading cX6_beginReading 2 .int ({ frames := 2, cells := 0, slots := 0, locals := 46 } : Room) G [.ref (G.2.1 + 134), .int u1] σ (fun r σ2 => Pm [1, 3] (ob A 114 u1 (nI 0) (nI 0)) σ σ2 (InvM n tx A m H sv sl) (InvM n tx (co A 114 u1 (nI 0) (nI 0)).2 (pushN m) (pushH m H A) sv sl) r (co A 114 u1 (nI 0) (nI 0)).1) := by
  refine Ci_of (own := RX6) rfl (by decide +kernel) (lo := [(0, .ref (G.2.1 + 134)), (1, .int u1)]) rfl (Nat.le_of_ble_eq_true rfl) (fun r s hp => rfl) ?_
  intro x Q hxl h hret
  subst hxl
  have hc := rc136
  have hM := hi.2.1.1
  have hA := hi.2.1.2
  have h12 := hA.1
  have h4 := hA.2.1
  have hm2 := hi.1.2
  have hm6 := hi.2.2.1.2.1
  have hk14 := hi.2.2.1.1
  have hd := hi.2.2.1.2.2
  have ht := hi.1.1
  have hn9 := ht.1
  refine V.sg (show σ = mB σ 136 (σ.1 136) (σ.1 141) (σ.1 142) (σ.1 134) from (mB_self hc).symm) ?_
  refine r_aload_n (pc := 0) h 0 rfl rfl dX6_beginReading_0 ?_
  refine r_aload_n (pc := 1) h 0 rfl rfl dX6_beginReading_1 ?_
  refine g_6_now (pc := 2) h mw_3_21 dX6_beginReading_2 ?_
  refine r_iload_n (pc := 5) h 1 rfl rfl dX6_beginReading_5 ?_
  refine r_cSi (pc := 6) (As := [.ref (G.2.1 + 136), .int u1]) (st := [.ref (G.2.1 + 134)]) h lk_RX6_123 (c_isListM x.2.1 G (mB σ 136 (σ.1 136) (σ.1 141) (σ.1 142) (σ.1 134)) 136 hc A (by rw [mB_sF]; exact hM) (by omega) u1) (by decide) rfl rfl (by first | decide | exact Nat.le_of_ble_eq_true rfl) (by decide) dX6_beginReading_6 (fun r1 s2 q3 => ?_)
  rw [q3.1, q3.2]
  refine r_if_ne (pc := 9) (tgt := 16) h (by decide) dX6_beginReading_9 (fun c9 => ?_) (fun c9 => ?_)
  · skip
    replace c9 := zB_n0.mp c9
    obtain ⟨v1, rfl, hv1⟩ := liB_nI h12 c9
    refine r_aload_n (pc := 16) h 0 rfl rfl dX6_beginReading_16 ?_
    refine g_6_now (pc := 17) h mw_3_21 dX6_beginReading_17 ?_
    refine r_iconst (pc := 20) (v := nI 1) h (by decide) dX6_beginReading_20 ?_
    refine r_iald (pc := 21) h (a_rc hc) 1 rfl (by omega) dX6_beginReading_21 ?_
    refine r_topi (b := (σ.1 136) 1) (mB_s _) ?_
    refine r_topi (b := nI A.2.1) hM.2.1 ?_
    refine r_iconst (pc := 22) (v := nI 4) h (by decide) dX6_beginReading_22 ?_
    refine r_icmp_ge (pc := 23) (tgt := 30) h (by decide) dX6_beginReading_23 (fun c23 => ?_) (fun c23 => ?_)
    · skip
      rw [nI_leI (by omega) (by omega)] at c23
      refine r_iconst (pc := 30) (v := nI 2) h (by decide) dX6_beginReading_30 ?_
      refine r_cVi (pc := 31) (As := [.int (nI 2)]) (st := []) h lk_RX6_95 (c_refused x.2.1 G σ 136 hc (σ.1 136) (σ.1 141) (σ.1 142) (σ.1 134) 2 (by omega)) rc_6 (by decide) rfl rfl (by first | decide | exact Nat.le_of_ble_eq_true rfl) (by decide) dX6_beginReading_31 (fun r4 s5 q6 => ?_)
      rw [q6.1, q6.2]
      refine r_topi (b := nI 1) (by decide) ?_
      refine r_if_eq (pc := 34) (tgt := 39) h (by decide) dX6_beginReading_34 (fun c34 => absurd c34 (by decide)) (fun _ => ?_)
      refine r_iconst (pc := 37) (v := nI 0) h (by decide) dX6_beginReading_37 ?_
      exact hret _ _ (pm_no (c0 := 3) (f3_3 c9 rfl (decide_eq_false (by omega))) (by decide) rfl ((mB_m hc 0).trans pk_us) (mB_out hc) (inv_0 hi hM hA ((pk_un (by decide)).trans rfl) ((pk_un (by decide)).trans rfl))) 38 _ dX6_beginReading_38
    · skip
      rw [nI_leI (by omega) (by omega)] at c23
      have c23 : A.2.1 < 4 := by omega
      refine r_iconst (pc := 26) (v := nI 0) h (by decide) dX6_beginReading_26 ?_
      refine r_goto (pc := 27) (tgt := 31) h (by decide) dX6_beginReading_27 ?_
      refine r_cVi (pc := 31) (As := [.int (nI 0)]) (st := []) h lk_RX6_95 (c_refused x.2.1 G σ 136 hc (σ.1 136) (σ.1 141) (σ.1 142) (σ.1 134) 0 (by omega)) rc_6 (by decide) rfl rfl (by first | decide | exact Nat.le_of_ble_eq_true rfl) (by decide) dX6_beginReading_31 (fun r7 s8 q9 => ?_)
      rw [q9.1, q9.2]
      refine r_topi (b := nI 0) (by decide) ?_
      refine r_if_eq (pc := 34) (tgt := 39) h (by decide) dX6_beginReading_34 (fun _ => ?_) (fun c34 => absurd c34 (by decide))
      refine r_aload_n (pc := 39) h 0 rfl rfl dX6_beginReading_39 ?_
      refine V.sg (show mB σ 136 (σ.1 136) (σ.1 141) (σ.1 142) (upd (σ.1 134) 0 (nI 0)) = mB (oB σ 138 (σ.1 138)) 136 (σ.1 136) (σ.1 141) (σ.1 142) (upd (σ.1 134) 0 (nI 0)) from by rw [oB_self]) ?_
      refine r_cVv (pc := 40) (As := []) (st := []) h lk_RX6_183 (c_rememberM x.2.1 G σ (σ.1 138) (σ.1 136) (σ.1 141) (σ.1 142) (upd (σ.1 134) 0 (nI 0)) A hM hA m H hk14 ((pk_un (by decide)).trans hm6) hd) rc_6 (by decide) rfl rfl (by first | decide | exact Nat.le_of_ble_eq_true rfl) (by decide) dX6_beginReading_40 (fun s11 q12 => ?_)
      obtain ⟨f2, es1, hd2⟩ := q12
      subst es1
      refine r_aload_n (pc := 43) h 0 rfl rfl dX6_beginReading_43 ?_
      refine g_6_now (pc := 44) h mw_3_21 dX6_beginReading_44 ?_
      refine r_iload_n (pc := 47) h 1 rfl rfl dX6_beginReading_47 ?_
      refine r_cSi (pc := 48) (As := [.ref (G.2.1 + 136), .int (nI v1)]) (st := []) h lk_RX6_157 (c_beginM x.2.1 G (oB σ 138 f2) 136 hc (σ.1 136) (σ.1 141) (σ.1 142) (upd (upd (σ.1 134) 0 (nI 0)) 6 (nI (pushN m))) A hA hM v1 (by omega)) (by decide) rfl rfl (by first | decide | exact Nat.le_of_ble_eq_true rfl) (by decide) dX6_beginReading_48 (fun r13 s14 q15 => ?_)
      obtain ⟨e9, s2, es, hs2⟩ := q15
      rw [e9]
      subst es
      exact hret _ _ (pm_ok (fst3_y c9 rfl (decide_eq_true c23)) ((mB_m hc 0).trans ((pk_un (by decide)).trans pk_us)) (mB_out2 f2 (by decide) hc) rfl (inv_1 hi (by show RelM (A.1, A.2.1 + 1, A.2.2.1, aU A, va_up (aL A) A.2.1 (toN (nI v1)), va_up (aP A) A.2.1 0) _; rw [toN_nI (show v1 < 2 ^ 31 by omega)]; exact hs2) (okA_co hA (K := 114) (by decide) (fst3_y c9 rfl (decide_eq_true c23))) ((pk_un (by decide)).trans ((pk_un (by decide)).trans rfl)) (pushN_le _) pk_us hd2)) 51 _ dX6_beginReading_51
  · skip
    replace c9 := zB_0.mp c9
    refine r_iconst (pc := 12) (v := nI 1) h (by decide) dX6_beginReading_12 ?_
    refine r_goto (pc := 13) (tgt := 31) h (by decide) dX6_beginReading_13 ?_
    refine r_cVi (pc := 31) (As := [.int (nI 1)]) (st := []) h lk_RX6_95 (c_refused x.2.1 G σ 136 hc (σ.1 136) (σ.1 141) (σ.1 142) (σ.1 134) 1 (by omega)) rc_6 (by decide) rfl rfl (by first | decide | exact Nat.le_of_ble_eq_true rfl) (by decide) dX6_beginReading_31 (fun r16 s17 q18 => ?_)
    rw [q18.1, q18.2]
    refine r_topi (b := nI 1) (by decide) ?_
    refine r_if_eq (pc := 34) (tgt := 39) h (by decide) dX6_beginReading_34 (fun c34 => absurd c34 (by decide)) (fun _ => ?_)
    refine r_iconst (pc := 37) (v := nI 0) h (by decide) dX6_beginReading_37 ?_
    exact hret _ _ (pm_no (c0 := 1) (f3_1 c9) (by decide) rfl ((mB_m hc 0).trans pk_us) (mB_out hc) (inv_0 hi hM hA ((pk_un (by decide)).trans rfl) ((pk_un (by decide)).trans rfl))) 38 _ dX6_beginReading_38

set_option maxRecDepth 100000 in
set_option maxHeartbeats 800000 in
theorem c_m_read (l : Launch) (G : Gl) (σ : Sg) (n : Nat) (tx : Nat → Nat) (A : Ab) (m : Nat) (H : Nat → Ab) (sv : Nat → Bool) (sl : Nat → Ab) (hi : InvM n tx A m H sv sl σ) (u1 : Int32) : Ci l yX6_read cX6_read 2 .int ({ frames := 4, cells := 0, slots := 0, locals := 91 } : Room) G [.ref (G.2.1 + 134), .int u1] σ (fun r σ2 => Pm [1, 3] (ob A 110 u1 (nI 0) (nI 0)) σ σ2 (InvM n tx A m H sv sl) (InvM n tx (co A 110 u1 (nI 0) (nI 0)).2 (pushN m) (pushH m H A) sv sl) r (co A 110 u1 (nI 0) (nI 0)).1) := by
  refine Ci_of (own := RX6) rfl (by decide +kernel) (lo := [(0, .ref (G.2.1 + 134)), (1, .int u1)]) rfl (Nat.le_of_ble_eq_true rfl) (fun r s hp => rfl) ?_
  intro x Q hxl h hret
  subst hxl
  have hc := rc136
  have hM := hi.2.1.1
  have hA := hi.2.1.2
  have h12 := hA.1
  have h4 := hA.2.1
  have hm2 := hi.1.2
  have hm6 := hi.2.2.1.2.1
  have hk14 := hi.2.2.1.1
  have hd := hi.2.2.1.2.2
  have ht := hi.1.1
  have hn9 := ht.1
  refine V.sg (show σ = mB σ 136 (σ.1 136) (σ.1 141) (σ.1 142) (σ.1 134) from (mB_self hc).symm) ?_
  refine r_aload_n (pc := 0) h 0 rfl rfl dX6_read_0 ?_
  refine r_aload_n (pc := 1) h 0 rfl rfl dX6_read_1 ?_
  refine g_6_now (pc := 2) h mw_3_21 dX6_read_2 ?_
  refine r_cVv (pc := 5) (As := [.ref (G.2.1 + 136)]) (st := []) h lk_RX6_127 (c_finds x.2.1 G σ 136 hc (σ.1 136) (σ.1 141) (σ.1 142) (σ.1 134) A hA hM) rc_6 (by decide) rfl rfl (by first | decide | exact Nat.le_of_ble_eq_true rfl) (by decide) dX6_read_5 (fun s2 q3 => ?_)
  obtain ⟨h2, x2, e8, hH⟩ := q3
  subst e8
  refine r_aload_n (pc := 8) h 0 rfl rfl dX6_read_8 ?_
  refine r_aload_n (pc := 9) h 0 rfl rfl dX6_read_9 ?_
  refine g_6_now (pc := 10) h mw_3_21 dX6_read_10 ?_
  refine r_iload_n (pc := 13) h 1 rfl rfl dX6_read_13 ?_
  refine r_cSi (pc := 14) (As := [.ref (G.2.1 + 136), .int u1]) (st := [.ref (G.2.1 + 134)]) h lk_RX6_130 (c_isReaderM x.2.1 G (mB σ 136 (σ.1 136) h2 x2 (σ.1 134)) 136 hc A (by rw [mB_sF]; exact hM) (by omega) u1) (by decide) rfl rfl (by first | decide | exact Nat.le_of_ble_eq_true rfl) (by decide) dX6_read_14 (fun r4 s5 q6 => ?_)
  rw [q6.1, q6.2]
  refine r_if_ne (pc := 17) (tgt := 24) h (by decide) dX6_read_17 (fun c17 => ?_) (fun c17 => ?_)
  · skip
    replace c17 := zB_n0.mp c17
    obtain ⟨v1, rfl, hv1⟩ := rdB_nI h4 c17
    refine r_aload_n (pc := 24) h 0 rfl rfl dX6_read_24 ?_
    refine r_aload_n (pc := 25) h 0 rfl rfl dX6_read_25 ?_
    refine g_6_now (pc := 26) h mw_3_21 dX6_read_26 ?_
    refine r_iload_n (pc := 29) h 1 rfl rfl dX6_read_29 ?_
    refine r_cVi (pc := 30) (As := [.ref (G.2.1 + 136), .int (nI v1)]) (st := [.ref (G.2.1 + 134)]) h lk_RX6_84 (c_next x.2.1 G (mB σ 136 (σ.1 136) h2 x2 (σ.1 134)) 136 hc A (by rw [mB_sF]; exact hM) hA v1 (by omega) (fun L hL v hv => (mB_h hc _).trans (hH L hL v hv))) rc_6 (by decide) rfl rfl (by first | decide | exact Nat.le_of_ble_eq_true rfl) (by decide) dX6_read_30 (fun r7 s8 q9 => ?_)
    rw [q9.1, q9.2]
    refine r_iconst (pc := 33) (v := (-1)) h (by decide) dX6_read_33 ?_
    refine r_icmp_eq (pc := 34) (tgt := 41) h (by decide) dX6_read_34 (fun c34 => ?_) (fun c34 => ?_)
    · skip
      rw [oI_nextO] at c34
      refine r_iconst (pc := 41) (v := nI 2) h (by decide) dX6_read_41 ?_
      refine r_cVi (pc := 42) (As := [.int (nI 2)]) (st := []) h lk_RX6_95 (c_refused x.2.1 G σ 136 hc (σ.1 136) h2 x2 (σ.1 134) 2 (by omega)) rc_6 (by decide) rfl rfl (by first | decide | exact Nat.le_of_ble_eq_true rfl) (by decide) dX6_read_42 (fun r10 s11 q12 => ?_)
      rw [q12.1, q12.2]
      refine r_topi (b := nI 1) (by decide) ?_
      refine r_if_eq (pc := 45) (tgt := 50) h (by decide) dX6_read_45 (fun c45 => absurd c45 (by decide)) (fun _ => ?_)
      refine r_iconst (pc := 48) (v := nI 0) h (by decide) dX6_read_48 ?_
      exact hret _ _ (pm_no (c0 := 3) (f3_3 c17 rfl (by rw [toN_nI (show v1 < 2 ^ 31 by omega)]; exact isSome_f c34)) (by decide) rfl ((mB_m hc 0).trans pk_us) (mB_out hc) (inv_0 hi hM hA ((pk_un (by decide)).trans rfl) ((pk_un (by decide)).trans rfl))) 49 _ dX6_read_49
    · skip
      rw [oI_nextO] at c34
      refine r_iconst (pc := 37) (v := nI 0) h (by decide) dX6_read_37 ?_
      refine r_goto (pc := 38) (tgt := 42) h (by decide) dX6_read_38 ?_
      refine r_cVi (pc := 42) (As := [.int (nI 0)]) (st := []) h lk_RX6_95 (c_refused x.2.1 G σ 136 hc (σ.1 136) h2 x2 (σ.1 134) 0 (by omega)) rc_6 (by decide) rfl rfl (by first | decide | exact Nat.le_of_ble_eq_true rfl) (by decide) dX6_read_42 (fun r13 s14 q15 => ?_)
      rw [q15.1, q15.2]
      refine r_topi (b := nI 0) (by decide) ?_
      refine r_if_eq (pc := 45) (tgt := 50) h (by decide) dX6_read_45 (fun _ => ?_) (fun c45 => absurd c45 (by decide))
      refine r_aload_n (pc := 50) h 0 rfl rfl dX6_read_50 ?_
      refine V.sg (show mB σ 136 (σ.1 136) h2 x2 (upd (σ.1 134) 0 (nI 0)) = mB (oB σ 138 (σ.1 138)) 136 (σ.1 136) h2 x2 (upd (σ.1 134) 0 (nI 0)) from by rw [oB_self]) ?_
      refine r_cVv (pc := 51) (As := []) (st := []) h lk_RX6_183 (c_rememberM x.2.1 G σ (σ.1 138) (σ.1 136) h2 x2 (upd (σ.1 134) 0 (nI 0)) A hM hA m H hk14 ((pk_un (by decide)).trans hm6) hd) rc_6 (by decide) rfl rfl (by first | decide | exact Nat.le_of_ble_eq_true rfl) (by decide) dX6_read_51 (fun s17 q18 => ?_)
      obtain ⟨f2, es1, hd2⟩ := q18
      subst es1
      refine r_aload_n (pc := 54) h 0 rfl rfl dX6_read_54 ?_
      refine r_aload_n (pc := 55) h 0 rfl rfl dX6_read_55 ?_
      refine g_6_now (pc := 56) h mw_3_21 dX6_read_56 ?_
      refine r_iload_n (pc := 59) h 1 rfl rfl dX6_read_59 ?_
      refine r_cVi (pc := 60) (As := [.ref (G.2.1 + 136), .int (nI v1)]) (st := []) h lk_RX6_133 (c_readOn x.2.1 G (oB σ 138 f2) 136 hc (σ.1 136) h2 x2 (upd (upd (σ.1 134) 0 (nI 0)) 6 (nI (pushN m))) A hA hM v1 (by omega) hH) rc_6 (by decide) rfl rfl (by first | decide | exact Nat.le_of_ble_eq_true rfl) (by decide) dX6_read_60 (fun r19 s20 q21 => ?_)
      obtain ⟨e9, s2, es, hs2⟩ := q21
      rw [e9]
      subst es
      exact hret _ _ (pm_ok (fst3_y c17 rfl (by rw [toN_nI (show v1 < 2 ^ 31 by omega)]; exact isSome_t c34)) ((mB_m hc 0).trans ((pk_un (by decide)).trans pk_us)) (mB_out2 f2 (by decide) hc) (by show _ = oI (nextO A (toN (nI v1))); rw [toN_nI (show v1 < 2 ^ 31 by omega)]) (inv_1 hi (by show RelM (A.1, A.2.1, A.2.2.1 + 1, aU A, aL A, va_up (aP A) (toN (nI v1)) (aP A (toN (nI v1)) + 1)) _; rw [toN_nI (show v1 < 2 ^ 31 by omega)]; exact hs2) (okA_co hA (K := 110) (by decide) (fst3_y c17 rfl (by rw [toN_nI (show v1 < 2 ^ 31 by omega)]; exact isSome_t c34))) ((pk_un (by decide)).trans ((pk_un (by decide)).trans rfl)) (pushN_le _) pk_us hd2)) 63 _ dX6_read_63
  · skip
    replace c17 := zB_0.mp c17
    refine r_iconst (pc := 20) (v := nI 1) h (by decide) dX6_read_20 ?_
    refine r_goto (pc := 21) (tgt := 42) h (by decide) dX6_read_21 ?_
    refine r_cVi (pc := 42) (As := [.int (nI 1)]) (st := []) h lk_RX6_95 (c_refused x.2.1 G σ 136 hc (σ.1 136) h2 x2 (σ.1 134) 1 (by omega)) rc_6 (by decide) rfl rfl (by first | decide | exact Nat.le_of_ble_eq_true rfl) (by decide) dX6_read_42 (fun r22 s23 q24 => ?_)
    rw [q24.1, q24.2]
    refine r_topi (b := nI 1) (by decide) ?_
    refine r_if_eq (pc := 45) (tgt := 50) h (by decide) dX6_read_45 (fun c45 => absurd c45 (by decide)) (fun _ => ?_)
    refine r_iconst (pc := 48) (v := nI 0) h (by decide) dX6_read_48 ?_
    exact hret _ _ (pm_no (c0 := 1) (f3_1 c17) (by decide) rfl ((mB_m hc 0).trans pk_us) (mB_out hc) (inv_0 hi hM hA ((pk_un (by decide)).trans rfl) ((pk_un (by decide)).trans rfl))) 49 _ dX6_read_49

set_option maxRecDepth 100000 in
set_option maxHeartbeats 800000 in
theorem c_m_skip (l : Launch) (G : Gl) (σ : Sg) (n : Nat) (tx : Nat → Nat) (A : Ab) (m : Nat) (H : Nat → Ab) (sv : Nat → Bool) (sl : Nat → Ab) (hi : InvM n tx A m H sv sl σ) (u1 : Int32) (u2 : Int32) : Ci l yX6_skip cX6_skip 3 .int ({ frames := 3, cells := 0, slots := 0, locals := 72 } : Room) G [.ref (G.2.1 + 134), .int u1, .int u2] σ (fun r σ2 => Pm [1, 2] (ob A 107 u1 u2 (nI 0)) σ σ2 (InvM n tx A m H sv sl) (InvM n tx (co A 107 u1 u2 (nI 0)).2 (pushN m) (pushH m H A) sv sl) r (co A 107 u1 u2 (nI 0)).1) := by
  refine Ci_of (own := RX6) rfl (by decide +kernel) (lo := [(0, .ref (G.2.1 + 134)), (1, .int u1), (2, .int u2)]) rfl (Nat.le_of_ble_eq_true rfl) (fun r s hp => rfl) ?_
  intro x Q hxl h hret
  subst hxl
  have hc := rc136
  have hM := hi.2.1.1
  have hA := hi.2.1.2
  have h12 := hA.1
  have h4 := hA.2.1
  have hm2 := hi.1.2
  have hm6 := hi.2.2.1.2.1
  have hk14 := hi.2.2.1.1
  have hd := hi.2.2.1.2.2
  have ht := hi.1.1
  have hn9 := ht.1
  refine V.sg (show σ = mB σ 136 (σ.1 136) (σ.1 141) (σ.1 142) (σ.1 134) from (mB_self hc).symm) ?_
  refine r_aload_n (pc := 0) h 0 rfl rfl dX6_skip_0 ?_
  refine r_aload_n (pc := 1) h 0 rfl rfl dX6_skip_1 ?_
  refine g_6_now (pc := 2) h mw_3_21 dX6_skip_2 ?_
  refine r_iload_n (pc := 5) h 1 rfl rfl dX6_skip_5 ?_
  refine r_cSi (pc := 6) (As := [.ref (G.2.1 + 136), .int u1]) (st := [.ref (G.2.1 + 134)]) h lk_RX6_130 (c_isReaderM x.2.1 G (mB σ 136 (σ.1 136) (σ.1 141) (σ.1 142) (σ.1 134)) 136 hc A (by rw [mB_sF]; exact hM) (by omega) u1) (by decide) rfl rfl (by first | decide | exact Nat.le_of_ble_eq_true rfl) (by decide) dX6_skip_6 (fun r1 s2 q3 => ?_)
  rw [q3.1, q3.2]
  refine r_if_ne (pc := 9) (tgt := 16) h (by decide) dX6_skip_9 (fun c9 => ?_) (fun c9 => ?_)
  · skip
    replace c9 := zB_n0.mp c9
    obtain ⟨v1, rfl, hv1⟩ := rdB_nI h4 c9
    refine r_iload_n (pc := 16) h 2 rfl rfl dX6_skip_16 ?_
    refine r_i2l (pc := 17) (v := u2.toInt64) h rfl dX6_skip_17 ?_
    refine r_lconst (pc := 18) (v := 1) h (by decide) dX6_skip_18 ?_
    refine r_ldc2 (pc := 19) (v := 99) h mw_22_7 dX6_skip_19 ?_
    refine r_cSi (pc := 22) (As := [.long u2.toInt64, .long 1, .long 99]) (st := [.ref (G.2.1 + 134)]) h lk_RX6_43 (c_in x.2.1 G (mB σ 136 (σ.1 136) (σ.1 141) (σ.1 142) (σ.1 134)) u2 (nI 1) (nI 99)) (by decide) rfl rfl (by first | decide | exact Nat.le_of_ble_eq_true rfl) (by decide) dX6_skip_22 (fun r4 s5 q6 => ?_)
    rw [q6.1, q6.2]
    refine r_if_eq (pc := 25) (tgt := 32) h (by decide) dX6_skip_25 (fun c25 => ?_) (fun c25 => ?_)
    · skip
      replace c25 := zB_0.mp c25
      refine r_iconst (pc := 32) (v := nI 2) h (by decide) dX6_skip_32 ?_
      refine r_cVi (pc := 33) (As := [.int (nI 2)]) (st := []) h lk_RX6_95 (c_refused x.2.1 G σ 136 hc (σ.1 136) (σ.1 141) (σ.1 142) (σ.1 134) 2 (by omega)) rc_6 (by decide) rfl rfl (by first | decide | exact Nat.le_of_ble_eq_true rfl) (by decide) dX6_skip_33 (fun r7 s8 q9 => ?_)
      rw [q9.1, q9.2]
      refine r_topi (b := nI 1) (by decide) ?_
      refine r_if_eq (pc := 36) (tgt := 41) h (by decide) dX6_skip_36 (fun c36 => absurd c36 (by decide)) (fun _ => ?_)
      refine r_iconst (pc := 39) (v := nI 0) h (by decide) dX6_skip_39 ?_
      exact hret _ _ (pm_no (c0 := 2) (f3_2 c9 c25) (by decide) rfl ((mB_m hc 0).trans pk_us) (mB_out hc) (inv_0 hi hM hA ((pk_un (by decide)).trans rfl) ((pk_un (by decide)).trans rfl))) 40 _ dX6_skip_40
    · skip
      replace c25 := zB_n0.mp c25
      obtain ⟨v2, rfl, lv2, hv2⟩ := inB_nI (by omega) (by omega) c25
      refine r_iconst (pc := 28) (v := nI 0) h (by decide) dX6_skip_28 ?_
      refine r_goto (pc := 29) (tgt := 33) h (by decide) dX6_skip_29 ?_
      refine r_cVi (pc := 33) (As := [.int (nI 0)]) (st := []) h lk_RX6_95 (c_refused x.2.1 G σ 136 hc (σ.1 136) (σ.1 141) (σ.1 142) (σ.1 134) 0 (by omega)) rc_6 (by decide) rfl rfl (by first | decide | exact Nat.le_of_ble_eq_true rfl) (by decide) dX6_skip_33 (fun r10 s11 q12 => ?_)
      rw [q12.1, q12.2]
      refine r_topi (b := nI 0) (by decide) ?_
      refine r_if_eq (pc := 36) (tgt := 41) h (by decide) dX6_skip_36 (fun _ => ?_) (fun c36 => absurd c36 (by decide))
      refine r_aload_n (pc := 41) h 0 rfl rfl dX6_skip_41 ?_
      refine r_aload_n (pc := 42) h 0 rfl rfl dX6_skip_42 ?_
      refine g_6_now (pc := 43) h mw_3_21 dX6_skip_43 ?_
      refine r_cVv (pc := 46) (As := [.ref (G.2.1 + 136)]) (st := []) h lk_RX6_127 (c_finds x.2.1 G σ 136 hc (σ.1 136) (σ.1 141) (σ.1 142) (upd (σ.1 134) 0 (nI 0)) A hA hM) rc_6 (by decide) rfl rfl (by first | decide | exact Nat.le_of_ble_eq_true rfl) (by decide) dX6_skip_46 (fun s14 q15 => ?_)
      obtain ⟨h2, x2, e8, hH⟩ := q15
      subst e8
      refine r_aload_n (pc := 49) h 0 rfl rfl dX6_skip_49 ?_
      refine V.sg (show mB σ 136 (σ.1 136) h2 x2 (upd (σ.1 134) 0 (nI 0)) = mB (oB σ 138 (σ.1 138)) 136 (σ.1 136) h2 x2 (upd (σ.1 134) 0 (nI 0)) from by rw [oB_self]) ?_
      refine r_cVv (pc := 50) (As := []) (st := []) h lk_RX6_183 (c_rememberM x.2.1 G σ (σ.1 138) (σ.1 136) h2 x2 (upd (σ.1 134) 0 (nI 0)) A hM hA m H hk14 ((pk_un (by decide)).trans hm6) hd) rc_6 (by decide) rfl rfl (by first | decide | exact Nat.le_of_ble_eq_true rfl) (by decide) dX6_skip_50 (fun s17 q18 => ?_)
      obtain ⟨f2, es1, hd2⟩ := q18
      subst es1
      refine r_aload_n (pc := 53) h 0 rfl rfl dX6_skip_53 ?_
      refine r_aload_n (pc := 54) h 0 rfl rfl dX6_skip_54 ?_
      refine g_6_now (pc := 55) h mw_3_21 dX6_skip_55 ?_
      refine r_iload_n (pc := 58) h 1 rfl rfl dX6_skip_58 ?_
      refine r_iload_n (pc := 59) h 2 rfl rfl dX6_skip_59 ?_
      refine r_cVi (pc := 60) (As := [.ref (G.2.1 + 136), .int (nI v1), .int (nI v2)]) (st := []) h lk_RX6_136 (c_skipOn x.2.1 G (oB σ 138 f2) 136 hc (σ.1 136) h2 x2 (upd (upd (σ.1 134) 0 (nI 0)) 6 (nI (pushN m))) A hA hM v1 v2 (by omega) (by omega) hH) rc_6 (by decide) rfl rfl (by first | decide | exact Nat.le_of_ble_eq_true rfl) (by decide) dX6_skip_60 (fun r19 s20 q21 => ?_)
      obtain ⟨e9, s2, es, hs2⟩ := q21
      rw [e9]
      subst es
      exact hret _ _ (pm_ok (fst3_y c9 c25 rfl) ((mB_m hc 0).trans ((pk_un (by decide)).trans pk_us)) (mB_out2 f2 (by decide) hc) (by show _ = nI (skN A (toN (nI v1)) (toN (nI v2))); rw [toN_nI (show v1 < 2 ^ 31 by omega), toN_nI (show v2 < 2 ^ 31 by omega)]) (inv_1 hi (by show RelM (A.1, A.2.1, A.2.2.1, aU A, aL A, va_up (aP A) (toN (nI v1)) (aP A (toN (nI v1)) + skN A (toN (nI v1)) (toN (nI v2)))) _; rw [toN_nI (show v1 < 2 ^ 31 by omega), toN_nI (show v2 < 2 ^ 31 by omega)]; exact hs2) (okA_co hA (K := 107) (by decide) (fst3_y c9 c25 rfl)) ((pk_un (by decide)).trans ((pk_un (by decide)).trans rfl)) (pushN_le _) pk_us hd2)) 63 _ dX6_skip_63
  · skip
    replace c9 := zB_0.mp c9
    refine r_iconst (pc := 12) (v := nI 1) h (by decide) dX6_skip_12 ?_
    refine r_goto (pc := 13) (tgt := 33) h (by decide) dX6_skip_13 ?_
    refine r_cVi (pc := 33) (As := [.int (nI 1)]) (st := []) h lk_RX6_95 (c_refused x.2.1 G σ 136 hc (σ.1 136) (σ.1 141) (σ.1 142) (σ.1 134) 1 (by omega)) rc_6 (by decide) rfl rfl (by first | decide | exact Nat.le_of_ble_eq_true rfl) (by decide) dX6_skip_33 (fun r22 s23 q24 => ?_)
    rw [q24.1, q24.2]
    refine r_topi (b := nI 1) (by decide) ?_
    refine r_if_eq (pc := 36) (tgt := 41) h (by decide) dX6_skip_36 (fun c36 => absurd c36 (by decide)) (fun _ => ?_)
    refine r_iconst (pc := 39) (v := nI 0) h (by decide) dX6_skip_39 ?_
    exact hret _ _ (pm_no (c0 := 1) (f3_1 c9) (by decide) rfl ((mB_m hc 0).trans pk_us) (mB_out hc) (inv_0 hi hM hA ((pk_un (by decide)).trans rfl) ((pk_un (by decide)).trans rfl))) 40 _ dX6_skip_40

set_option maxRecDepth 100000 in
set_option maxHeartbeats 800000 in
theorem c_m_goBack (l : Launch) (G : Gl) (σ : Sg) (n : Nat) (tx : Nat → Nat) (A : Ab) (m : Nat) (H : Nat → Ab) (sv : Nat → Bool) (sl : Nat → Ab) (hi : InvM n tx A m H sv sl σ) (u1 : Int32) : Ci l yX6_goBack cX6_goBack 2 .int ({ frames := 2, cells := 0, slots := 0, locals := 46 } : Room) G [.ref (G.2.1 + 134), .int u1] σ (fun r σ2 => Pm [1] (ob A 122 u1 (nI 0) (nI 0)) σ σ2 (InvM n tx A m H sv sl) (InvM n tx (co A 122 u1 (nI 0) (nI 0)).2 (pushN m) (pushH m H A) sv sl) r (co A 122 u1 (nI 0) (nI 0)).1) := by
  refine Ci_of (own := RX6) rfl (by decide +kernel) (lo := [(0, .ref (G.2.1 + 134)), (1, .int u1)]) rfl (Nat.le_of_ble_eq_true rfl) (fun r s hp => rfl) ?_
  intro x Q hxl h hret
  subst hxl
  have hc := rc136
  have hM := hi.2.1.1
  have hA := hi.2.1.2
  have h12 := hA.1
  have h4 := hA.2.1
  have hm2 := hi.1.2
  have hm6 := hi.2.2.1.2.1
  have hk14 := hi.2.2.1.1
  have hd := hi.2.2.1.2.2
  have ht := hi.1.1
  have hn9 := ht.1
  refine V.sg (show σ = mB σ 136 (σ.1 136) (σ.1 141) (σ.1 142) (σ.1 134) from (mB_self hc).symm) ?_
  refine r_aload_n (pc := 0) h 0 rfl rfl dX6_goBack_0 ?_
  refine r_aload_n (pc := 1) h 0 rfl rfl dX6_goBack_1 ?_
  refine g_6_now (pc := 2) h mw_3_21 dX6_goBack_2 ?_
  refine r_iload_n (pc := 5) h 1 rfl rfl dX6_goBack_5 ?_
  refine r_cSi (pc := 6) (As := [.ref (G.2.1 + 136), .int u1]) (st := [.ref (G.2.1 + 134)]) h lk_RX6_130 (c_isReaderM x.2.1 G (mB σ 136 (σ.1 136) (σ.1 141) (σ.1 142) (σ.1 134)) 136 hc A (by rw [mB_sF]; exact hM) (by omega) u1) (by decide) rfl rfl (by first | decide | exact Nat.le_of_ble_eq_true rfl) (by decide) dX6_goBack_6 (fun r1 s2 q3 => ?_)
  rw [q3.1, q3.2]
  refine r_if_eq (pc := 9) (tgt := 16) h (by decide) dX6_goBack_9 (fun c9 => ?_) (fun c9 => ?_)
  · skip
    replace c9 := zB_0.mp c9
    refine r_iconst (pc := 16) (v := nI 1) h (by decide) dX6_goBack_16 ?_
    refine r_cVi (pc := 17) (As := [.int (nI 1)]) (st := []) h lk_RX6_95 (c_refused x.2.1 G σ 136 hc (σ.1 136) (σ.1 141) (σ.1 142) (σ.1 134) 1 (by omega)) rc_6 (by decide) rfl rfl (by first | decide | exact Nat.le_of_ble_eq_true rfl) (by decide) dX6_goBack_17 (fun r4 s5 q6 => ?_)
    rw [q6.1, q6.2]
    refine r_topi (b := nI 1) (by decide) ?_
    refine r_if_eq (pc := 20) (tgt := 25) h (by decide) dX6_goBack_20 (fun c20 => absurd c20 (by decide)) (fun _ => ?_)
    refine r_iconst (pc := 23) (v := nI 0) h (by decide) dX6_goBack_23 ?_
    exact hret _ _ (pm_no (c0 := 1) (f3_1 c9) (by decide) rfl ((mB_m hc 0).trans pk_us) (mB_out hc) (inv_0 hi hM hA ((pk_un (by decide)).trans rfl) ((pk_un (by decide)).trans rfl))) 24 _ dX6_goBack_24
  · skip
    replace c9 := zB_n0.mp c9
    obtain ⟨v1, rfl, hv1⟩ := rdB_nI h4 c9
    refine r_iconst (pc := 12) (v := nI 0) h (by decide) dX6_goBack_12 ?_
    refine r_goto (pc := 13) (tgt := 17) h (by decide) dX6_goBack_13 ?_
    refine r_cVi (pc := 17) (As := [.int (nI 0)]) (st := []) h lk_RX6_95 (c_refused x.2.1 G σ 136 hc (σ.1 136) (σ.1 141) (σ.1 142) (σ.1 134) 0 (by omega)) rc_6 (by decide) rfl rfl (by first | decide | exact Nat.le_of_ble_eq_true rfl) (by decide) dX6_goBack_17 (fun r7 s8 q9 => ?_)
    rw [q9.1, q9.2]
    refine r_topi (b := nI 0) (by decide) ?_
    refine r_if_eq (pc := 20) (tgt := 25) h (by decide) dX6_goBack_20 (fun _ => ?_) (fun c20 => absurd c20 (by decide))
    refine r_aload_n (pc := 25) h 0 rfl rfl dX6_goBack_25 ?_
    refine V.sg (show mB σ 136 (σ.1 136) (σ.1 141) (σ.1 142) (upd (σ.1 134) 0 (nI 0)) = mB (oB σ 138 (σ.1 138)) 136 (σ.1 136) (σ.1 141) (σ.1 142) (upd (σ.1 134) 0 (nI 0)) from by rw [oB_self]) ?_
    refine r_cVv (pc := 26) (As := []) (st := []) h lk_RX6_183 (c_rememberM x.2.1 G σ (σ.1 138) (σ.1 136) (σ.1 141) (σ.1 142) (upd (σ.1 134) 0 (nI 0)) A hM hA m H hk14 ((pk_un (by decide)).trans hm6) hd) rc_6 (by decide) rfl rfl (by first | decide | exact Nat.le_of_ble_eq_true rfl) (by decide) dX6_goBack_26 (fun s11 q12 => ?_)
    obtain ⟨f2, es1, hd2⟩ := q12
    subst es1
    refine r_aload_n (pc := 29) h 0 rfl rfl dX6_goBack_29 ?_
    refine g_6_now (pc := 30) h mw_3_21 dX6_goBack_30 ?_
    refine r_iload_n (pc := 33) h 1 rfl rfl dX6_goBack_33 ?_
    refine r_cSi (pc := 34) (As := [.ref (G.2.1 + 136), .int (nI v1)]) (st := []) h lk_RX6_139 (c_backOn x.2.1 G (oB σ 138 f2) 136 hc (σ.1 136) (σ.1 141) (σ.1 142) (upd (upd (σ.1 134) 0 (nI 0)) 6 (nI (pushN m))) A hA hM v1 (by omega)) (by decide) rfl rfl (by first | decide | exact Nat.le_of_ble_eq_true rfl) (by decide) dX6_goBack_34 (fun r13 s14 q15 => ?_)
    obtain ⟨e9, s2, es, hs2⟩ := q15
    rw [e9]
    subst es
    exact hret _ _ (pm_ok (fst3_y c9 rfl rfl) ((mB_m hc 0).trans ((pk_un (by decide)).trans pk_us)) (mB_out2 f2 (by decide) hc) (by show _ = nI (aP A (toN (nI v1))); rw [toN_nI (show v1 < 2 ^ 31 by omega)]) (inv_1 hi (by show RelM (A.1, A.2.1, A.2.2.1, aU A, aL A, va_up (aP A) (toN (nI v1)) 0) _; rw [toN_nI (show v1 < 2 ^ 31 by omega)]; exact hs2) (okA_co hA (K := 122) (by decide) (fst3_y c9 rfl rfl)) ((pk_un (by decide)).trans ((pk_un (by decide)).trans rfl)) (pushN_le _) pk_us hd2)) 37 _ dX6_goBack_37

set_option maxRecDepth 100000 in
set_option maxHeartbeats 800000 in
theorem c_m_stopReading (l : Launch) (G : Gl) (σ : Sg) (n : Nat) (tx : Nat → Nat) (A : Ab) (m : Nat) (H : Nat → Ab) (sv : Nat → Bool) (sl : Nat → Ab) (hi : InvM n tx A m H sv sl σ) (u1 : Int32) : Ci l yX6_stopReading cX6_stopReading 2 .int ({ frames := 2, cells := 0, slots := 0, locals := 46 } : Room) G [.ref (G.2.1 + 134), .int u1] σ (fun r σ2 => Pm [1] (ob A 113 u1 (nI 0) (nI 0)) σ σ2 (InvM n tx A m H sv sl) (InvM n tx (co A 113 u1 (nI 0) (nI 0)).2 (pushN m) (pushH m H A) sv sl) r (co A 113 u1 (nI 0) (nI 0)).1) := by
  refine Ci_of (own := RX6) rfl (by decide +kernel) (lo := [(0, .ref (G.2.1 + 134)), (1, .int u1)]) rfl (Nat.le_of_ble_eq_true rfl) (fun r s hp => rfl) ?_
  intro x Q hxl h hret
  subst hxl
  have hc := rc136
  have hM := hi.2.1.1
  have hA := hi.2.1.2
  have h12 := hA.1
  have h4 := hA.2.1
  have hm2 := hi.1.2
  have hm6 := hi.2.2.1.2.1
  have hk14 := hi.2.2.1.1
  have hd := hi.2.2.1.2.2
  have ht := hi.1.1
  have hn9 := ht.1
  refine V.sg (show σ = mB σ 136 (σ.1 136) (σ.1 141) (σ.1 142) (σ.1 134) from (mB_self hc).symm) ?_
  refine r_aload_n (pc := 0) h 0 rfl rfl dX6_stopReading_0 ?_
  refine r_aload_n (pc := 1) h 0 rfl rfl dX6_stopReading_1 ?_
  refine g_6_now (pc := 2) h mw_3_21 dX6_stopReading_2 ?_
  refine r_iload_n (pc := 5) h 1 rfl rfl dX6_stopReading_5 ?_
  refine r_cSi (pc := 6) (As := [.ref (G.2.1 + 136), .int u1]) (st := [.ref (G.2.1 + 134)]) h lk_RX6_130 (c_isReaderM x.2.1 G (mB σ 136 (σ.1 136) (σ.1 141) (σ.1 142) (σ.1 134)) 136 hc A (by rw [mB_sF]; exact hM) (by omega) u1) (by decide) rfl rfl (by first | decide | exact Nat.le_of_ble_eq_true rfl) (by decide) dX6_stopReading_6 (fun r1 s2 q3 => ?_)
  rw [q3.1, q3.2]
  refine r_if_eq (pc := 9) (tgt := 16) h (by decide) dX6_stopReading_9 (fun c9 => ?_) (fun c9 => ?_)
  · skip
    replace c9 := zB_0.mp c9
    refine r_iconst (pc := 16) (v := nI 1) h (by decide) dX6_stopReading_16 ?_
    refine r_cVi (pc := 17) (As := [.int (nI 1)]) (st := []) h lk_RX6_95 (c_refused x.2.1 G σ 136 hc (σ.1 136) (σ.1 141) (σ.1 142) (σ.1 134) 1 (by omega)) rc_6 (by decide) rfl rfl (by first | decide | exact Nat.le_of_ble_eq_true rfl) (by decide) dX6_stopReading_17 (fun r4 s5 q6 => ?_)
    rw [q6.1, q6.2]
    refine r_topi (b := nI 1) (by decide) ?_
    refine r_if_eq (pc := 20) (tgt := 25) h (by decide) dX6_stopReading_20 (fun c20 => absurd c20 (by decide)) (fun _ => ?_)
    refine r_iconst (pc := 23) (v := nI 0) h (by decide) dX6_stopReading_23 ?_
    exact hret _ _ (pm_no (c0 := 1) (f3_1 c9) (by decide) rfl ((mB_m hc 0).trans pk_us) (mB_out hc) (inv_0 hi hM hA ((pk_un (by decide)).trans rfl) ((pk_un (by decide)).trans rfl))) 24 _ dX6_stopReading_24
  · skip
    replace c9 := zB_n0.mp c9
    obtain ⟨v1, rfl, hv1⟩ := rdB_nI h4 c9
    refine r_iconst (pc := 12) (v := nI 0) h (by decide) dX6_stopReading_12 ?_
    refine r_goto (pc := 13) (tgt := 17) h (by decide) dX6_stopReading_13 ?_
    refine r_cVi (pc := 17) (As := [.int (nI 0)]) (st := []) h lk_RX6_95 (c_refused x.2.1 G σ 136 hc (σ.1 136) (σ.1 141) (σ.1 142) (σ.1 134) 0 (by omega)) rc_6 (by decide) rfl rfl (by first | decide | exact Nat.le_of_ble_eq_true rfl) (by decide) dX6_stopReading_17 (fun r7 s8 q9 => ?_)
    rw [q9.1, q9.2]
    refine r_topi (b := nI 0) (by decide) ?_
    refine r_if_eq (pc := 20) (tgt := 25) h (by decide) dX6_stopReading_20 (fun _ => ?_) (fun c20 => absurd c20 (by decide))
    refine r_aload_n (pc := 25) h 0 rfl rfl dX6_stopReading_25 ?_
    refine V.sg (show mB σ 136 (σ.1 136) (σ.1 141) (σ.1 142) (upd (σ.1 134) 0 (nI 0)) = mB (oB σ 138 (σ.1 138)) 136 (σ.1 136) (σ.1 141) (σ.1 142) (upd (σ.1 134) 0 (nI 0)) from by rw [oB_self]) ?_
    refine r_cVv (pc := 26) (As := []) (st := []) h lk_RX6_183 (c_rememberM x.2.1 G σ (σ.1 138) (σ.1 136) (σ.1 141) (σ.1 142) (upd (σ.1 134) 0 (nI 0)) A hM hA m H hk14 ((pk_un (by decide)).trans hm6) hd) rc_6 (by decide) rfl rfl (by first | decide | exact Nat.le_of_ble_eq_true rfl) (by decide) dX6_stopReading_26 (fun s11 q12 => ?_)
    obtain ⟨f2, es1, hd2⟩ := q12
    subst es1
    refine r_aload_n (pc := 29) h 0 rfl rfl dX6_stopReading_29 ?_
    refine g_6_now (pc := 30) h mw_3_21 dX6_stopReading_30 ?_
    refine r_iload_n (pc := 33) h 1 rfl rfl dX6_stopReading_33 ?_
    refine r_cSi (pc := 34) (As := [.ref (G.2.1 + 136), .int (nI v1)]) (st := []) h lk_RX6_142 (c_stopOn x.2.1 G (oB σ 138 f2) 136 hc (σ.1 136) (σ.1 141) (σ.1 142) (upd (upd (σ.1 134) 0 (nI 0)) 6 (nI (pushN m))) A hA hM v1 (by omega)) (by decide) rfl rfl (by first | decide | exact Nat.le_of_ble_eq_true rfl) (by decide) dX6_stopReading_34 (fun r13 s14 q15 => ?_)
    obtain ⟨e9, s2, es, hs2⟩ := q15
    rw [e9]
    subst es
    exact hret _ _ (pm_ok (fst3_y c9 rfl rfl) ((mB_m hc 0).trans ((pk_un (by decide)).trans pk_us)) (mB_out2 f2 (by decide) hc) rfl (inv_1 hi (by show RelM (A.1, A.2.1 - 1, A.2.2.1, aU A, (fun j => if toN (nI v1) ≤ j then aL A (j + 1) else aL A j), (fun j => if toN (nI v1) ≤ j then aP A (j + 1) else aP A j)) _; rw [toN_nI (show v1 < 2 ^ 31 by omega)]; exact hs2) (okA_co hA (K := 113) (by decide) (fst3_y c9 rfl rfl)) ((pk_un (by decide)).trans ((pk_un (by decide)).trans rfl)) (pushN_le _) pk_us hd2)) 37 _ dX6_stopReading_37

