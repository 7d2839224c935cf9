/-! THE REFERENCE: its questions -/
theorem seq_w0 (b : Bool) : seqC (cB b 1) (cB (inB (nI 0) (nI 999) (nI 0)) 2) = cB b 1 := by
  rw [show inB (nI 0) (nI 999) (nI 0) = true from by decide]
  exact seq_r _
theorem cB_1n2 (b : Bool) : ¬ cB b 1 = 2 := by cases b <;> decide
theorem lst_0 {S : Nat → Bool} : ∀ {n : Nat}, cS S n = 0 → lstB S n = none
  | 0, _ => rfl
  | n + 1, h => by
    rw [cS] at h
    rw [lstB]
    by_cases e : S n = true
    · rw [if_pos e] at h; cases h
    · rw [if_neg e] at h ⊢; exact lst_0 h
theorem lst_s {S : Nat → Bool} : ∀ {n : Nat}, 0 < cS S n → ∃ v, lstB S n = some v ∧ S v = true ∧ v < n ∧ cS S v + 1 = cS S n
  | 0, h => absurd h (Nat.lt_irrefl 0)
  | n + 1, h => by
    rw [cS] at h
    rw [lstB, cS]
    by_cases e : S n = true
    · rw [if_pos e, if_pos e]; exact ⟨n, rfl, e, Nat.lt_succ_self n, rfl⟩
    · rw [if_neg e] at h
      rw [if_neg e, if_neg e]
      obtain ⟨v, h1, h2, h3, h4⟩ := lst_s h
      exact ⟨v, h1, h2, by omega, h4⟩
theorem lst_ath {S : Nat → Bool} (h : 0 < cS S 1000) : lstB S 1000 = ath S (cS S 1000 - 1) := by
  obtain ⟨v, h1, h2, h3, h4⟩ := lst_s h
  rw [h1, ath_some h3 h2 (by omega)]
theorem lstN_no {A : Ab} : ∀ {n : Nat}, (lstN A n).1 = none → (lstN A n).2 = 1000
  | 0, _ => rfl
  | n + 1, h => by
    cases e : nextO A n with
    | none => rw [lstN_none e] at h ⊢; exact lstN_no h
    | some v =>
      rcases Nat.lt_or_ge v (lstN A n).2 with q | q
      · rw [lstN_lt e q] at h; cases h
      · rw [lstN_ge e q] at h ⊢; exact lstN_no h
theorem lstN_lt1 {A : Ab} (hR : A.2.1 ≤ 4) : ∀ {n k : Nat}, (lstN A n).1 = some k → k < n
  | 0, k, h => by cases h
  | n + 1, k, h => by
    cases e : nextO A n with
    | none => rw [lstN_none e] at h; have := lstN_lt1 hR h; omega
    | some v =>
      rcases Nat.lt_or_ge v (lstN A n).2 with q | q
      · rw [lstN_lt e q] at h; cases h; omega
      · rw [lstN_ge e q] at h; have := lstN_lt1 hR h; omega
theorem skU_n {A : Ab} {r n : Nat} (h : ath (mem (aU A) (aL A r)) (max (cS (mem (aU A) (aL A r)) n) (aP A r)) = none) : skU A r n = -1 := by unfold skU; rw [h]
theorem skU_s {A : Ab} {r n : Nat} (h : ¬ ath (mem (aU A) (aL A r)) (max (cS (mem (aU A) (aL A r)) n) (aP A r)) = none) : skU A r n = nI (max (cS (mem (aU A) (aL A r)) n) (aP A r) - aP A r) := by
  unfold skU
  cases q : ath (mem (aU A) (aL A r)) (max (cS (mem (aU A) (aL A r)) n) (aP A r)) with
  | none => exact absurd q h
  | some v => rfl
theorem gp_y {S : Nat → Bool} {v l : Nat} (h : S v = true) (hl : (gp S v).1 = some l) : gp S (v + 1) = (some v, max (gp S v).2 (v - l)) := by rw [gp, if_pos h, hl]
theorem gp_y0 {S : Nat → Bool} {v : Nat} (h : S v = true) (hl : (gp S v).1 = none) : gp S (v + 1) = (some v, (gp S v).2) := by rw [gp, if_pos h, hl]
theorem gp_no {S : Nat → Bool} {v : Nat} (h : S v = false) : gp S (v + 1) = gp S v := by rw [gp, if_neg (by rw [h]; decide)]
theorem cS_y {S : Nat → Bool} {v : Nat} (h : S v = true) : cS S (v + 1) = cS S v + 1 := by rw [cS, if_pos h]
theorem cS_no {S : Nat → Bool} {v : Nat} (h : S v = false) : cS S (v + 1) = cS S v := by rw [cS, if_neg (by rw [h]; decide), Nat.add_zero]
set_option maxRecDepth 100000 in
set_option maxHeartbeats 800000 in
theorem c_wrong (l : Launch) (G : Gl) (σ : Sg) (s hh xx mm : Nat → Int32) (A : Ab) (hM : RelM A s) (hA : okA A) (u1 u2 : Int32) : Ci l yX6_wrong cX6_wrong 4 .boolean ({ frames := 3, cells := 0, slots := 0, locals := 72 } : Room) G [.ref (G.2.1 + 134), .int u1, .int u2] (mB σ 136 s hh xx mm) (fun r σ2 => (seqC (cB (liB A u1) 1) (cB (inB (nI 0) (nI 999) u2) 2) = 1 ∧ r = nI 1 ∧ σ2 = mB σ 136 s hh xx (upd mm 0 (nI 1))) ∨ (seqC (cB (liB A u1) 1) (cB (inB (nI 0) (nI 999) u2) 2) = 2 ∧ r = nI 1 ∧ σ2 = mB σ 136 s hh xx (upd mm 0 (nI 2))) ∨ (liB A u1 = true ∧ inB (nI 0) (nI 999) u2 = true ∧ r = nI 0 ∧ ∃ h2 x2, σ2 = mB σ 136 s h2 x2 (upd mm 0 (nI 0)) ∧ HasN (aU A) A.1 h2)) := by
  refine Ci_of (own := RX6) rfl (by decide +kernel) (lo := [(0, .ref (G.2.1 + 134)), (1, .int u1), (2, .int u2)]) rfl (Nat.le_of_ble_eq_true rfl) (fun r s hp => by rcases hp with ⟨_, rfl, _⟩ | ⟨_, rfl, _⟩ | ⟨_, _, rfl, _⟩ <;> rfl) ?_
  intro x Q hxl h hret
  subst hxl
  have hc := rc136
  have h12 := hA.1
  have h4 := hA.2.1
  refine r_aload_n (pc := 0) h 0 rfl rfl dX6_wrong_0 ?_
  refine r_aload_n (pc := 1) h 0 rfl rfl dX6_wrong_1 ?_
  refine g_6_now (pc := 2) h mw_3_21 dX6_wrong_2 ?_
  refine r_iload_n (pc := 5) h 1 rfl rfl dX6_wrong_5 ?_
  refine r_cSi (pc := 6) (As := [.ref (G.2.1 + 136), .int u1]) (st := [.ref (G.2.1 + 134)]) h lk_RX6_123 (c_isListM x.2.1 G (mB σ 136 s hh xx mm) 136 hc A (by rw [mB_sF]; exact hM) (by omega) u1) (by decide) rfl rfl (by first | decide | exact Nat.le_of_ble_eq_true rfl) (by decide) dX6_wrong_6 (fun r1 s2 q3 => ?_)
  rw [q3.1, q3.2]
  refine r_if_ne (pc := 9) (tgt := 16) h (by decide) dX6_wrong_9 (fun c9 => ?_) (fun c9 => ?_)
  · skip
    replace c9 := zB_n0.mp c9
    refine r_iload_n (pc := 16) h 2 rfl rfl dX6_wrong_16 ?_
    refine r_i2l (pc := 17) (v := u2.toInt64) h rfl dX6_wrong_17 ?_
    refine r_lconst (pc := 18) (v := 0) h (by decide) dX6_wrong_18 ?_
    refine r_ldc2 (pc := 19) (v := 999) h mw_22_6 dX6_wrong_19 ?_
    refine r_cSi (pc := 22) (As := [.long u2.toInt64, .long 0, .long 999]) (st := [.ref (G.2.1 + 134)]) h lk_RX6_43 (c_in x.2.1 G (mB σ 136 s hh xx mm) u2 (nI 0) (nI 999)) (by decide) rfl rfl (by first | decide | exact Nat.le_of_ble_eq_true rfl) (by decide) dX6_wrong_22 (fun r4 s5 q6 => ?_)
    rw [q6.1, q6.2]
    refine r_if_eq (pc := 25) (tgt := 32) h (by decide) dX6_wrong_25 (fun c25 => ?_) (fun c25 => ?_)
    · skip
      replace c25 := zB_0.mp c25
      refine r_iconst (pc := 32) (v := nI 2) h (by decide) dX6_wrong_32 ?_
      refine r_cVi (pc := 33) (As := [.int (nI 2)]) (st := []) h lk_RX6_95 (c_refused x.2.1 G σ 136 hc s hh xx mm 2 (by omega)) rc_6 (by decide) rfl rfl (by first | decide | exact Nat.le_of_ble_eq_true rfl) (by decide) dX6_wrong_33 (fun r7 s8 q9 => ?_)
      rw [q9.1, q9.2]
      refine r_topi (b := nI 1) (by decide) ?_
      refine r_istore_n (pc := 36) (lo2 := [(3, .int (nI 1)), (0, .ref (G.2.1 + 134)), (1, .int u1), (2, .int u2)]) h rfl (by decide) rfl dX6_wrong_36 ?_
      refine r_iload_n (pc := 37) h 0 rfl rfl dX6_wrong_37 ?_
      refine r_if_ne (pc := 38) (tgt := 49) h (by decide) dX6_wrong_38 (fun _ => ?_) (fun c38 => absurd c38 (by decide))
      refine r_iload_n (pc := 49) h 0 rfl rfl dX6_wrong_49 ?_
      exact hret _ _ (Or.inr (Or.inl ⟨seq_2 (cB_t c9) (cB_f c25), rfl, rfl⟩)) 50 _ dX6_wrong_50
    · skip
      replace c25 := zB_n0.mp c25
      refine r_iconst (pc := 28) (v := nI 0) h (by decide) dX6_wrong_28 ?_
      refine r_goto (pc := 29) (tgt := 33) h (by decide) dX6_wrong_29 ?_
      refine r_cVi (pc := 33) (As := [.int (nI 0)]) (st := []) h lk_RX6_95 (c_refused x.2.1 G σ 136 hc s hh xx mm 0 (by omega)) rc_6 (by decide) rfl rfl (by first | decide | exact Nat.le_of_ble_eq_true rfl) (by decide) dX6_wrong_33 (fun r10 s11 q12 => ?_)
      rw [q12.1, q12.2]
      refine r_topi (b := nI 0) (by decide) ?_
      refine r_istore_n (pc := 36) (lo2 := [(3, .int (nI 0)), (0, .ref (G.2.1 + 134)), (1, .int u1), (2, .int u2)]) h rfl (by decide) rfl dX6_wrong_36 ?_
      refine r_iload_n (pc := 37) h 0 rfl rfl dX6_wrong_37 ?_
      refine r_if_ne (pc := 38) (tgt := 49) h (by decide) dX6_wrong_38 (fun c38 => absurd c38 (by decide)) (fun _ => ?_)
      refine r_aload_n (pc := 41) h 1 rfl rfl dX6_wrong_41 ?_
      refine r_aload_n (pc := 42) h 1 rfl rfl dX6_wrong_42 ?_
      refine g_6_now (pc := 43) h mw_3_21 dX6_wrong_43 ?_
      refine r_cVv (pc := 46) (As := [.ref (G.2.1 + 136)]) (st := []) h lk_RX6_127 (c_finds x.2.1 G σ 136 hc s hh xx (upd mm 0 (nI 0)) A hA hM) rc_6 (by decide) rfl rfl (by first | decide | exact Nat.le_of_ble_eq_true rfl) (by decide) dX6_wrong_46 (fun s14 q15 => ?_)
      obtain ⟨h2, x2, e8, hH⟩ := q15
      subst e8
      refine r_iload_n (pc := 49) h 0 rfl rfl dX6_wrong_49 ?_
      exact hret _ _ (Or.inr (Or.inr ⟨c9, c25, rfl, _, _, rfl, hH⟩)) 50 _ dX6_wrong_50
  · skip
    replace c9 := zB_0.mp c9
    refine r_iconst (pc := 12) (v := nI 1) h (by decide) dX6_wrong_12 ?_
    refine r_goto (pc := 13) (tgt := 33) h (by decide) dX6_wrong_13 ?_
    refine r_cVi (pc := 33) (As := [.int (nI 1)]) (st := []) h lk_RX6_95 (c_refused x.2.1 G σ 136 hc s hh xx mm 1 (by omega)) rc_6 (by decide) rfl rfl (by first | decide | exact Nat.le_of_ble_eq_true rfl) (by decide) dX6_wrong_33 (fun r16 s17 q18 => ?_)
    rw [q18.1, q18.2]
    refine r_topi (b := nI 1) (by decide) ?_
    refine r_istore_n (pc := 36) (lo2 := [(3, .int (nI 1)), (0, .ref (G.2.1 + 134)), (1, .int u1), (2, .int u2)]) h rfl (by decide) rfl dX6_wrong_36 ?_
    refine r_iload_n (pc := 37) h 0 rfl rfl dX6_wrong_37 ?_
    refine r_if_ne (pc := 38) (tgt := 49) h (by decide) dX6_wrong_38 (fun _ => ?_) (fun c38 => absurd c38 (by decide))
    refine r_iload_n (pc := 49) h 0 rfl rfl dX6_wrong_49 ?_
    exact hret _ _ (Or.inl ⟨seq_1 (cB_f c9) (by decide), rfl, rfl⟩) 50 _ dX6_wrong_50

set_option maxRecDepth 100000 in
set_option maxHeartbeats 800000 in
theorem c_m_isMember (l : Launch) (G : Gl) (σ : Sg) (n : Nat) (tx : Nat → Nat) (A : Ab) (m : Nat) (H : Nat → Ab) (sv : Nat → Bool) (sl : Nat → Ab) (hi : InvM n tx A m H sv sl σ) (u1 : Int32) (u2 : Int32) : Ci l yX6_isMember cX6_isMember 3 .boolean ({ frames := 4, cells := 0, slots := 0, locals := 95 } : Room) G [.ref (G.2.1 + 134), .int u1, .int u2] σ (fun r σ2 => Pm [1, 2] (seqC (cB (liB A u1) 1) (cB (inB (nI 0) (nI 999) u2) 2)) σ σ2 (InvM n tx A m H sv sl) (InvM n tx A m H sv sl) r (zB (mem (aU A) (toN u1) (toN u2))) ∧ ∃ b, r = zB b) := by
  refine Ci_of (own := RX6) rfl (by decide +kernel) (lo := [(0, .ref (G.2.1 + 134)), (1, .int u1), (2, .int u2)]) rfl (Nat.le_of_ble_eq_true rfl) (fun r s hp => by obtain ⟨-, b, rfl⟩ := hp; exact zB_nar b) ?_
  intro x Q hxl h hret
  subst hxl
  have hc := rc136
  have hM := hi.2.1.1
  have hA := hi.2.1.2
  have h12 := hA.1
  have h4 := hA.2.1
  have hm2 := hi.1.2
  have hm6 := hi.2.2.1.2.1
  have hk14 := hi.2.2.1.1
  have hd := hi.2.2.1.2.2
  have ht := hi.1.1
  have hn9 := ht.1
  refine V.sg (show σ = mB σ 136 (σ.1 136) (σ.1 141) (σ.1 142) (σ.1 134) from (mB_self hc).symm) ?_
  refine r_aload_n (pc := 0) h 0 rfl rfl dX6_isMember_0 ?_
  refine r_iload_n (pc := 1) h 1 rfl rfl dX6_isMember_1 ?_
  refine r_iload_n (pc := 2) h 2 rfl rfl dX6_isMember_2 ?_
  refine r_cVi (pc := 3) (As := [.int u1, .int u2]) (st := []) h lk_RX6_197 (c_wrong x.2.1 G σ (σ.1 136) (σ.1 141) (σ.1 142) (σ.1 134) A hM hA u1 u2) rc_6 (by decide) rfl rfl (by first | decide | exact Nat.le_of_ble_eq_true rfl) (by decide) dX6_isMember_3 (fun r1 s2 q3 => ?_)
  rcases q3 with ⟨hC, e1, es⟩ | ⟨hC, e1, es⟩ | ⟨z1, z2, e1, h2, x2, es, hH⟩
  · skip
    rw [e1]
    subst es
    refine r_if_ne (pc := 6) (tgt := 22) h (by decide) dX6_isMember_6 (fun _ => ?_) (fun c6 => absurd c6 (by decide))
    refine r_iconst (pc := 22) (v := nI 0) h (by decide) dX6_isMember_22 ?_
    exact hret _ _ (⟨pm_no (c0 := 1) hC (by decide) rfl ((mB_m hc 0).trans pk_us) (mB_out hc) (inv_0 hi hM hA ((pk_un (by decide)).trans rfl) ((pk_un (by decide)).trans rfl)), false, rfl⟩) 23 _ dX6_isMember_23
  · skip
    rw [e1]
    subst es
    refine r_if_ne (pc := 6) (tgt := 22) h (by decide) dX6_isMember_6 (fun _ => ?_) (fun c6 => absurd c6 (by decide))
    refine r_iconst (pc := 22) (v := nI 0) h (by decide) dX6_isMember_22 ?_
    exact hret _ _ (⟨pm_no (c0 := 2) hC (by decide) rfl ((mB_m hc 0).trans pk_us) (mB_out hc) (inv_0 hi hM hA ((pk_un (by decide)).trans rfl) ((pk_un (by decide)).trans rfl)), false, rfl⟩) 23 _ dX6_isMember_23
  · skip
    rw [e1]
    subst es
    obtain ⟨v1, rfl, hv1⟩ := liB_nI h12 z1
    obtain ⟨v2, rfl, lv2, hv2⟩ := inB_nI (by omega) (by omega) z2
    refine r_if_ne (pc := 6) (tgt := 22) h (by decide) dX6_isMember_6 (fun c6 => absurd c6 (by decide)) (fun _ => ?_)
    refine r_aload_n (pc := 9) h 0 rfl rfl dX6_isMember_9 ?_
    refine r_iload_n (pc := 10) h 1 rfl rfl dX6_isMember_10 ?_
    refine r_iload_n (pc := 11) h 2 rfl rfl dX6_isMember_11 ?_
    refine r_cVi (pc := 12) (As := [.int (nI v1), .int (nI v2)]) (st := []) h lk_RX6_51 (c_member x.2.1 G (mB σ 136 (σ.1 136) h2 x2 (upd (σ.1 134) 0 (nI 0))) v1 v2 (mem (aU A) v1 v2) (by omega) (by omega) ((mB_h hc _).trans (hH _ (by omega) _ (by omega)))) rc_6 (by decide) rfl rfl (by first | decide | exact Nat.le_of_ble_eq_true rfl) (by decide) dX6_isMember_12 (fun r4 s5 q6 => ?_)
    rw [q6.1, q6.2]
    refine r_if_eq (pc := 15) (tgt := 22) h (by decide) dX6_isMember_15 (fun c15 => ?_) (fun c15 => ?_)
    · skip
      replace c15 := zB_0.mp c15
      refine r_iconst (pc := 22) (v := nI 0) h (by decide) dX6_isMember_22 ?_
      exact hret _ _ (⟨pm_ok (seq_0 (cB_t z1) (cB_t z2)) ((mB_m hc 0).trans pk_us) (mB_out hc) (by rw [toN_nI (show v1 < 2 ^ 31 by omega), toN_nI (show v2 < 2 ^ 31 by omega)]; rw [c15]) (inv_0 hi hM hA ((pk_un (by decide)).trans rfl) ((pk_un (by decide)).trans rfl)), false, rfl⟩) 23 _ dX6_isMember_23
    · skip
      replace c15 := zB_n0.mp c15
      refine r_iconst (pc := 18) (v := nI 1) h (by decide) dX6_isMember_18 ?_
      refine r_goto (pc := 19) (tgt := 23) h (by decide) dX6_isMember_19 ?_
      exact hret _ _ (⟨pm_ok (seq_0 (cB_t z1) (cB_t z2)) ((mB_m hc 0).trans pk_us) (mB_out hc) (by rw [toN_nI (show v1 < 2 ^ 31 by omega), toN_nI (show v2 < 2 ^ 31 by omega)]; rw [c15]) (inv_0 hi hM hA ((pk_un (by decide)).trans rfl) ((pk_un (by decide)).trans rfl)), true, rfl⟩) 23 _ dX6_isMember_23

set_option maxRecDepth 100000 in
set_option maxHeartbeats 800000 in
theorem c_m_memberAt (l : Launch) (G : Gl) (σ : Sg) (n : Nat) (tx : Nat → Nat) (A : Ab) (m : Nat) (H : Nat → Ab) (sv : Nat → Bool) (sl : Nat → Ab) (hi : InvM n tx A m H sv sl σ) (u1 : Int32) (u2 : Int32) : Ci l yX6_memberAt cX6_memberAt 3 .int ({ frames := 3, cells := 0, slots := 0, locals := 72 } : Room) G [.ref (G.2.1 + 134), .int u1, .int u2] σ (fun r σ2 => Pm [1] (seqC (cB (liB A u1) 1) (cB (decide (0 ≤ u2)) 1)) σ σ2 (InvM n tx A m H sv sl) (InvM n tx A m H sv sl) r (oI (ath (mem (aU A) (toN u1)) (toN u2)))) := by
  refine Ci_of (own := RX6) rfl (by decide +kernel) (lo := [(0, .ref (G.2.1 + 134)), (1, .int u1), (2, .int u2)]) rfl (Nat.le_of_ble_eq_true rfl) (fun r s hp => rfl) ?_
  intro x Q hxl h hret
  subst hxl
  have hc := rc136
  have hM := hi.2.1.1
  have hA := hi.2.1.2
  have h12 := hA.1
  have h4 := hA.2.1
  have hm2 := hi.1.2
  have hm6 := hi.2.2.1.2.1
  have hk14 := hi.2.2.1.1
  have hd := hi.2.2.1.2.2
  have ht := hi.1.1
  have hn9 := ht.1
  refine V.sg (show σ = mB σ 136 (σ.1 136) (σ.1 141) (σ.1 142) (σ.1 134) from (mB_self hc).symm) ?_
  refine r_aload_n (pc := 0) h 0 rfl rfl dX6_memberAt_0 ?_
  refine r_aload_n (pc := 1) h 0 rfl rfl dX6_memberAt_1 ?_
  refine g_6_now (pc := 2) h mw_3_21 dX6_memberAt_2 ?_
  refine r_iload_n (pc := 5) h 1 rfl rfl dX6_memberAt_5 ?_
  refine r_cSi (pc := 6) (As := [.ref (G.2.1 + 136), .int u1]) (st := [.ref (G.2.1 + 134)]) h lk_RX6_123 (c_isListM x.2.1 G (mB σ 136 (σ.1 136) (σ.1 141) (σ.1 142) (σ.1 134)) 136 hc A (by rw [mB_sF]; exact hM) (by omega) u1) (by decide) rfl rfl (by first | decide | exact Nat.le_of_ble_eq_true rfl) (by decide) dX6_memberAt_6 (fun r1 s2 q3 => ?_)
  rw [q3.1, q3.2]
  refine r_if_eq (pc := 9) (tgt := 20) h (by decide) dX6_memberAt_9 (fun c9 => ?_) (fun c9 => ?_)
  · skip
    replace c9 := zB_0.mp c9
    refine r_iconst (pc := 20) (v := nI 1) h (by decide) dX6_memberAt_20 ?_
    refine r_cVi (pc := 21) (As := [.int (nI 1)]) (st := []) h lk_RX6_95 (c_refused x.2.1 G σ 136 hc (σ.1 136) (σ.1 141) (σ.1 142) (σ.1 134) 1 (by omega)) rc_6 (by decide) rfl rfl (by first | decide | exact Nat.le_of_ble_eq_true rfl) (by decide) dX6_memberAt_21 (fun r4 s5 q6 => ?_)
    rw [q6.1, q6.2]
    refine r_topi (b := nI 1) (by decide) ?_
    refine r_if_eq (pc := 24) (tgt := 29) h (by decide) dX6_memberAt_24 (fun c24 => absurd c24 (by decide)) (fun _ => ?_)
    refine r_iconst (pc := 27) (v := nI 0) h (by decide) dX6_memberAt_27 ?_
    exact hret _ _ (pm_no (c0 := 1) (seq_1 (cB_f c9) (by decide)) (by decide) rfl ((mB_m hc 0).trans pk_us) (mB_out hc) (inv_0 hi hM hA ((pk_un (by decide)).trans rfl) ((pk_un (by decide)).trans rfl))) 28 _ dX6_memberAt_28
  · skip
    replace c9 := zB_n0.mp c9
    obtain ⟨v1, rfl, hv1⟩ := liB_nI h12 c9
    refine r_iload_n (pc := 12) h 2 rfl rfl dX6_memberAt_12 ?_
    refine r_if_lt (pc := 13) (tgt := 20) h (by decide) dX6_memberAt_13 (fun c13 => ?_) (fun c13 => ?_)
    · skip
      refine r_iconst (pc := 20) (v := nI 1) h (by decide) dX6_memberAt_20 ?_
      refine r_cVi (pc := 21) (As := [.int (nI 1)]) (st := []) h lk_RX6_95 (c_refused x.2.1 G σ 136 hc (σ.1 136) (σ.1 141) (σ.1 142) (σ.1 134) 1 (by omega)) rc_6 (by decide) rfl rfl (by first | decide | exact Nat.le_of_ble_eq_true rfl) (by decide) dX6_memberAt_21 (fun r7 s8 q9 => ?_)
      rw [q9.1, q9.2]
      refine r_topi (b := nI 1) (by decide) ?_
      refine r_if_eq (pc := 24) (tgt := 29) h (by decide) dX6_memberAt_24 (fun c24 => absurd c24 (by decide)) (fun _ => ?_)
      refine r_iconst (pc := 27) (v := nI 0) h (by decide) dX6_memberAt_27 ?_
      exact hret _ _ (pm_no (c0 := 1) (seq_2 (cB_t c9) (cB_f (decide_eq_false (fun q => Int32.not_lt.mpr q c13)))) (by decide) rfl ((mB_m hc 0).trans pk_us) (mB_out hc) (inv_0 hi hM hA ((pk_un (by decide)).trans rfl) ((pk_un (by decide)).trans rfl))) 28 _ dX6_memberAt_28
    · skip
      have z2 : (0 : Int32) ≤ u2 := Int32.not_lt.mp c13
      obtain ⟨v2, hv2, rfl⟩ := wk_nat z2
      refine r_iconst (pc := 16) (v := nI 0) h (by decide) dX6_memberAt_16 ?_
      refine r_goto (pc := 17) (tgt := 21) h (by decide) dX6_memberAt_17 ?_
      refine r_cVi (pc := 21) (As := [.int (nI 0)]) (st := []) h lk_RX6_95 (c_refused x.2.1 G σ 136 hc (σ.1 136) (σ.1 141) (σ.1 142) (σ.1 134) 0 (by omega)) rc_6 (by decide) rfl rfl (by first | decide | exact Nat.le_of_ble_eq_true rfl) (by decide) dX6_memberAt_21 (fun r10 s11 q12 => ?_)
      rw [q12.1, q12.2]
      refine r_topi (b := nI 0) (by decide) ?_
      refine r_if_eq (pc := 24) (tgt := 29) h (by decide) dX6_memberAt_24 (fun _ => ?_) (fun c24 => absurd c24 (by decide))
      refine r_aload_n (pc := 29) h 0 rfl rfl dX6_memberAt_29 ?_
      refine r_aload_n (pc := 30) h 0 rfl rfl dX6_memberAt_30 ?_
      refine g_6_now (pc := 31) h mw_3_21 dX6_memberAt_31 ?_
      refine r_cVv (pc := 34) (As := [.ref (G.2.1 + 136)]) (st := []) h lk_RX6_127 (c_finds x.2.1 G σ 136 hc (σ.1 136) (σ.1 141) (σ.1 142) (upd (σ.1 134) 0 (nI 0)) A hA hM) rc_6 (by decide) rfl rfl (by first | decide | exact Nat.le_of_ble_eq_true rfl) (by decide) dX6_memberAt_34 (fun s14 q15 => ?_)
      obtain ⟨h2, x2, e8, hH⟩ := q15
      subst e8
      refine r_aload_n (pc := 37) h 0 rfl rfl dX6_memberAt_37 ?_
      refine r_iload_n (pc := 38) h 1 rfl rfl dX6_memberAt_38 ?_
      refine r_iload_n (pc := 39) h 2 rfl rfl dX6_memberAt_39 ?_
      refine r_cVi (pc := 40) (As := [.int (nI v1), .int (nI v2)]) (st := []) h lk_RX6_80 (c_at x.2.1 G (mB σ 136 (σ.1 136) h2 x2 (upd (σ.1 134) 0 (nI 0))) v1 (by omega) v2 (by omega) (mem (aU A) v1) (fun v hv => (mB_h hc _).trans (hH _ (by omega) v hv))) rc_6 (by decide) rfl rfl (by first | decide | exact Nat.le_of_ble_eq_true rfl) (by decide) dX6_memberAt_40 (fun r16 s17 q18 => ?_)
      rw [q18.1, q18.2]
      exact hret _ _ (pm_ok (seq_0 (cB_t c9) (cB_t (decide_eq_true z2))) ((mB_m hc 0).trans pk_us) (mB_out hc) (by rw [toN_nI (show v1 < 2 ^ 31 by omega), toN_nI hv2]) (inv_0 hi hM hA ((pk_un (by decide)).trans rfl) ((pk_un (by decide)).trans rfl))) 43 _ dX6_memberAt_43

set_option maxRecDepth 100000 in
set_option maxHeartbeats 800000 in
theorem c_m_memberByReading (l : Launch) (G : Gl) (σ : Sg) (n : Nat) (tx : Nat → Nat) (A : Ab) (m : Nat) (H : Nat → Ab) (sv : Nat → Bool) (sl : Nat → Ab) (hi : InvM n tx A m H sv sl σ) (u1 : Int32) (u2 : Int32) : Ci l yX6_memberByReading cX6_memberByReading 3 .int ({ frames := 4, cells := 0, slots := 0, locals := 94 } : Room) G [.ref (G.2.1 + 134), .int u1, .int u2] σ (fun r σ2 => Pm [1] (seqC (cB (liB A u1) 1) (cB (decide (0 ≤ u2)) 1)) σ σ2 (InvM n tx A m H sv sl) (InvM n tx A m H sv sl) r (oI (ath (mem (aU A) (toN u1)) (toN u2)))) := by
  refine Ci_of (own := RX6) rfl (by decide +kernel) (lo := [(0, .ref (G.2.1 + 134)), (1, .int u1), (2, .int u2)]) rfl (Nat.le_of_ble_eq_true rfl) (fun r s hp => rfl) ?_
  intro x Q hxl h hret
  subst hxl
  have hc := rc136
  have hM := hi.2.1.1
  have hA := hi.2.1.2
  have h12 := hA.1
  have h4 := hA.2.1
  have hm2 := hi.1.2
  have hm6 := hi.2.2.1.2.1
  have hk14 := hi.2.2.1.1
  have hd := hi.2.2.1.2.2
  have ht := hi.1.1
  have hn9 := ht.1
  refine V.sg (show σ = mB σ 136 (σ.1 136) (σ.1 141) (σ.1 142) (σ.1 134) from (mB_self hc).symm) ?_
  refine r_aload_n (pc := 0) h 0 rfl rfl dX6_memberByReading_0 ?_
  refine r_iload_n (pc := 1) h 1 rfl rfl dX6_memberByReading_1 ?_
  refine r_iload_n (pc := 2) h 2 rfl rfl dX6_memberByReading_2 ?_
  refine V.sg (show mB σ 136 (σ.1 136) (σ.1 141) (σ.1 142) (σ.1 134) = σ from mB_self hc) ?_
  refine r_cVi (pc := 3) (As := [.int u1, .int u2]) (st := []) h lk_RX6_200 (c_m_memberAt x.2.1 G σ n tx A m H sv sl hi u1 u2) rc_6 (by decide) rfl rfl (by first | decide | exact Nat.le_of_ble_eq_true rfl) (by decide) dX6_memberByReading_3 (fun r1 s2 q3 => ?_)
  exact hret _ _ (q3) 6 _ dX6_memberByReading_6

set_option maxRecDepth 100000 in
set_option maxHeartbeats 800000 in
theorem c_m_memberByTesting (l : Launch) (G : Gl) (σ : Sg) (n : Nat) (tx : Nat → Nat) (A : Ab) (m : Nat) (H : Nat → Ab) (sv : Nat → Bool) (sl : Nat → Ab) (hi : InvM n tx A m H sv sl σ) (u1 : Int32) (u2 : Int32) : Ci l yX6_memberByTesting cX6_memberByTesting 3 .int ({ frames := 4, cells := 0, slots := 0, locals := 94 } : Room) G [.ref (G.2.1 + 134), .int u1, .int u2] σ (fun r σ2 => Pm [1] (seqC (cB (liB A u1) 1) (cB (decide (0 ≤ u2)) 1)) σ σ2 (InvM n tx A m H sv sl) (InvM n tx A m H sv sl) r (oI (ath (mem (aU A) (toN u1)) (toN u2)))) := by
  refine Ci_of (own := RX6) rfl (by decide +kernel) (lo := [(0, .ref (G.2.1 + 134)), (1, .int u1), (2, .int u2)]) rfl (Nat.le_of_ble_eq_true rfl) (fun r s hp => rfl) ?_
  intro x Q hxl h hret
  subst hxl
  have hc := rc136
  have hM := hi.2.1.1
  have hA := hi.2.1.2
  have h12 := hA.1
  have h4 := hA.2.1
  have hm2 := hi.1.2
  have hm6 := hi.2.2.1.2.1
  have hk14 := hi.2.2.1.1
  have hd := hi.2.2.1.2.2
  have ht := hi.1.1
  have hn9 := ht.1
  refine V.sg (show σ = mB σ 136 (σ.1 136) (σ.1 141) (σ.1 142) (σ.1 134) from (mB_self hc).symm) ?_
  refine r_aload_n (pc := 0) h 0 rfl rfl dX6_memberByTesting_0 ?_
  refine r_iload_n (pc := 1) h 1 rfl rfl dX6_memberByTesting_1 ?_
  refine r_iload_n (pc := 2) h 2 rfl rfl dX6_memberByTesting_2 ?_
  refine V.sg (show mB σ 136 (σ.1 136) (σ.1 141) (σ.1 142) (σ.1 134) = σ from mB_self hc) ?_
  refine r_cVi (pc := 3) (As := [.int u1, .int u2]) (st := []) h lk_RX6_200 (c_m_memberAt x.2.1 G σ n tx A m H sv sl hi u1 u2) rc_6 (by decide) rfl rfl (by first | decide | exact Nat.le_of_ble_eq_true rfl) (by decide) dX6_memberByTesting_3 (fun r1 s2 q3 => ?_)
  exact hret _ _ (q3) 6 _ dX6_memberByTesting_6

set_option maxRecDepth 100000 in
set_option maxHeartbeats 800000 in
theorem c_m_placeOf (l : Launch) (G : Gl) (σ : Sg) (n : Nat) (tx : Nat → Nat) (A : Ab) (m : Nat) (H : Nat → Ab) (sv : Nat → Bool) (sl : Nat → Ab) (hi : InvM n tx A m H sv sl σ) (u1 : Int32) (u2 : Int32) : Ci l yX6_placeOf cX6_placeOf 3 .int ({ frames := 4, cells := 0, slots := 0, locals := 95 } : Room) G [.ref (G.2.1 + 134), .int u1, .int u2] σ (fun r σ2 => Pm [1, 2] (seqC (cB (liB A u1) 1) (cB (inB (nI 0) (nI 999) u2) 2)) σ σ2 (InvM n tx A m H sv sl) (InvM n tx A m H sv sl) r (if mem (aU A) (toN u1) (toN u2) then nI (cS (mem (aU A) (toN u1)) ((toN u2) + 1) - 1) else -1)) := by
  refine Ci_of (own := RX6) rfl (by decide +kernel) (lo := [(0, .ref (G.2.1 + 134)), (1, .int u1), (2, .int u2)]) rfl (Nat.le_of_ble_eq_true rfl) (fun r s hp => rfl) ?_
  intro x Q hxl h hret
  subst hxl
  have hc := rc136
  have hM := hi.2.1.1
  have hA := hi.2.1.2
  have h12 := hA.1
  have h4 := hA.2.1
  have hm2 := hi.1.2
  have hm6 := hi.2.2.1.2.1
  have hk14 := hi.2.2.1.1
  have hd := hi.2.2.1.2.2
  have ht := hi.1.1
  have hn9 := ht.1
  refine V.sg (show σ = mB σ 136 (σ.1 136) (σ.1 141) (σ.1 142) (σ.1 134) from (mB_self hc).symm) ?_
  refine r_aload_n (pc := 0) h 0 rfl rfl dX6_placeOf_0 ?_
  refine r_iload_n (pc := 1) h 1 rfl rfl dX6_placeOf_1 ?_
  refine r_iload_n (pc := 2) h 2 rfl rfl dX6_placeOf_2 ?_
  refine r_cVi (pc := 3) (As := [.int u1, .int u2]) (st := []) h lk_RX6_197 (c_wrong x.2.1 G σ (σ.1 136) (σ.1 141) (σ.1 142) (σ.1 134) A hM hA u1 u2) rc_6 (by decide) rfl rfl (by first | decide | exact Nat.le_of_ble_eq_true rfl) (by decide) dX6_placeOf_3 (fun r1 s2 q3 => ?_)
  rcases q3 with ⟨hC, e1, es⟩ | ⟨hC, e1, es⟩ | ⟨z1, z2, e1, h2, x2, es, hH⟩
  · skip
    rw [e1]
    subst es
    refine r_if_eq (pc := 6) (tgt := 11) h (by decide) dX6_placeOf_6 (fun c6 => absurd c6 (by decide)) (fun _ => ?_)
    refine r_iconst (pc := 9) (v := nI 0) h (by decide) dX6_placeOf_9 ?_
    exact hret _ _ (pm_no (c0 := 1) hC (by decide) rfl ((mB_m hc 0).trans pk_us) (mB_out hc) (inv_0 hi hM hA ((pk_un (by decide)).trans rfl) ((pk_un (by decide)).trans rfl))) 10 _ dX6_placeOf_10
  · skip
    rw [e1]
    subst es
    refine r_if_eq (pc := 6) (tgt := 11) h (by decide) dX6_placeOf_6 (fun c6 => absurd c6 (by decide)) (fun _ => ?_)
    refine r_iconst (pc := 9) (v := nI 0) h (by decide) dX6_placeOf_9 ?_
    exact hret _ _ (pm_no (c0 := 2) hC (by decide) rfl ((mB_m hc 0).trans pk_us) (mB_out hc) (inv_0 hi hM hA ((pk_un (by decide)).trans rfl) ((pk_un (by decide)).trans rfl))) 10 _ dX6_placeOf_10
  · skip
    rw [e1]
    subst es
    obtain ⟨v1, rfl, hv1⟩ := liB_nI h12 z1
    obtain ⟨v2, rfl, lv2, hv2⟩ := inB_nI (by omega) (by omega) z2
    refine r_if_eq (pc := 6) (tgt := 11) h (by decide) dX6_placeOf_6 (fun _ => ?_) (fun c6 => absurd c6 (by decide))
    refine r_aload_n (pc := 11) h 0 rfl rfl dX6_placeOf_11 ?_
    refine r_iload_n (pc := 12) h 1 rfl rfl dX6_placeOf_12 ?_
    refine r_iload_n (pc := 13) h 2 rfl rfl dX6_placeOf_13 ?_
    refine r_cVi (pc := 14) (As := [.int (nI v1), .int (nI v2)]) (st := []) h lk_RX6_51 (c_member x.2.1 G (mB σ 136 (σ.1 136) h2 x2 (upd (σ.1 134) 0 (nI 0))) v1 v2 (mem (aU A) v1 v2) (by omega) (by omega) ((mB_h hc _).trans (hH _ (by omega) _ (by omega)))) rc_6 (by decide) rfl rfl (by first | decide | exact Nat.le_of_ble_eq_true rfl) (by decide) dX6_placeOf_14 (fun r4 s5 q6 => ?_)
    rw [q6.1, q6.2]
    refine r_if_eq (pc := 17) (tgt := 31) h (by decide) dX6_placeOf_17 (fun c17 => ?_) (fun c17 => ?_)
    · skip
      replace c17 := zB_0.mp c17
      refine r_iconst (pc := 31) (v := (-1)) h (by decide) dX6_placeOf_31 ?_
      exact hret _ _ (pm_ok (seq_0 (cB_t z1) (cB_t z2)) ((mB_m hc 0).trans pk_us) (mB_out hc) (by rw [toN_nI (show v1 < 2 ^ 31 by omega), toN_nI (show v2 < 2 ^ 31 by omega)]; simp [c17]) (inv_0 hi hM hA ((pk_un (by decide)).trans rfl) ((pk_un (by decide)).trans rfl))) 32 _ dX6_placeOf_32
    · skip
      replace c17 := zB_n0.mp c17
      have hcs := cS_y (S := mem (aU A) v1) c17
      have hcl := cS_le (mem (aU A) v1) (v2 + 1)
      refine r_aload_n (pc := 20) h 0 rfl rfl dX6_placeOf_20 ?_
      refine r_iload_n (pc := 21) h 1 rfl rfl dX6_placeOf_21 ?_
      refine r_iload_n (pc := 22) h 2 rfl rfl dX6_placeOf_22 ?_
      refine r_cVi (pc := 23) (As := [.int (nI v1), .int (nI v2)]) (st := []) h lk_RX6_87 (c_countM x.2.1 G (mB σ 136 (σ.1 136) h2 x2 (upd (σ.1 134) 0 (nI 0))) v1 v2 (by omega) (by omega) (mem (aU A) v1) (fun v hv => (mB_h hc _).trans (hH _ (by omega) v hv))) rc_6 (by decide) rfl rfl (by first | decide | exact Nat.le_of_ble_eq_true rfl) (by decide) dX6_placeOf_23 (fun r7 s8 q9 => ?_)
      rw [q9.1, q9.2]
      refine r_iconst (pc := 26) (v := nI 1) h (by decide) dX6_placeOf_26 ?_
      refine r_isub (pc := 27) (v := nI ((cS (mem (aU A) v1) (v2 + 1)) - 1)) h (pk_sub (by omega)) dX6_placeOf_27 ?_
      refine r_goto (pc := 28) (tgt := 32) h (by decide) dX6_placeOf_28 ?_
      exact hret _ _ (pm_ok (seq_0 (cB_t z1) (cB_t z2)) ((mB_m hc 0).trans pk_us) (mB_out hc) (by rw [toN_nI (show v1 < 2 ^ 31 by omega), toN_nI (show v2 < 2 ^ 31 by omega)]; simp [c17]) (inv_0 hi hM hA ((pk_un (by decide)).trans rfl) ((pk_un (by decide)).trans rfl))) 32 _ dX6_placeOf_32

set_option maxRecDepth 100000 in
set_option maxHeartbeats 800000 in
theorem c_m_membersUpTo (l : Launch) (G : Gl) (σ : Sg) (n : Nat) (tx : Nat → Nat) (A : Ab) (m : Nat) (H : Nat → Ab) (sv : Nat → Bool) (sl : Nat → Ab) (hi : InvM n tx A m H sv sl σ) (u1 : Int32) (u2 : Int32) : Ci l yX6_membersUpTo cX6_membersUpTo 3 .int ({ frames := 4, cells := 0, slots := 0, locals := 95 } : Room) G [.ref (G.2.1 + 134), .int u1, .int u2] σ (fun r σ2 => Pm [1, 2] (seqC (cB (liB A u1) 1) (cB (inB (nI 0) (nI 999) u2) 2)) σ σ2 (InvM n tx A m H sv sl) (InvM n tx A m H sv sl) r (nI (cS (mem (aU A) (toN u1)) ((toN u2) + 1)))) := by
  refine Ci_of (own := RX6) rfl (by decide +kernel) (lo := [(0, .ref (G.2.1 + 134)), (1, .int u1), (2, .int u2)]) rfl (Nat.le_of_ble_eq_true rfl) (fun r s hp => rfl) ?_
  intro x Q hxl h hret
  subst hxl
  have hc := rc136
  have hM := hi.2.1.1
  have hA := hi.2.1.2
  have h12 := hA.1
  have h4 := hA.2.1
  have hm2 := hi.1.2
  have hm6 := hi.2.2.1.2.1
  have hk14 := hi.2.2.1.1
  have hd := hi.2.2.1.2.2
  have ht := hi.1.1
  have hn9 := ht.1
  refine V.sg (show σ = mB σ 136 (σ.1 136) (σ.1 141) (σ.1 142) (σ.1 134) from (mB_self hc).symm) ?_
  refine r_aload_n (pc := 0) h 0 rfl rfl dX6_membersUpTo_0 ?_
  refine r_iload_n (pc := 1) h 1 rfl rfl dX6_membersUpTo_1 ?_
  refine r_iload_n (pc := 2) h 2 rfl rfl dX6_membersUpTo_2 ?_
  refine r_cVi (pc := 3) (As := [.int u1, .int u2]) (st := []) h lk_RX6_197 (c_wrong x.2.1 G σ (σ.1 136) (σ.1 141) (σ.1 142) (σ.1 134) A hM hA u1 u2) rc_6 (by decide) rfl rfl (by first | decide | exact Nat.le_of_ble_eq_true rfl) (by decide) dX6_membersUpTo_3 (fun r1 s2 q3 => ?_)
  rcases q3 with ⟨hC, e1, es⟩ | ⟨hC, e1, es⟩ | ⟨z1, z2, e1, h2, x2, es, hH⟩
  · skip
    rw [e1]
    subst es
    refine r_if_eq (pc := 6) (tgt := 13) h (by decide) dX6_membersUpTo_6 (fun c6 => absurd c6 (by decide)) (fun _ => ?_)
    refine r_iconst (pc := 9) (v := nI 0) h (by decide) dX6_membersUpTo_9 ?_
    refine r_goto (pc := 10) (tgt := 19) h (by decide) dX6_membersUpTo_10 ?_
    exact hret _ _ (pm_no (c0 := 1) hC (by decide) rfl ((mB_m hc 0).trans pk_us) (mB_out hc) (inv_0 hi hM hA ((pk_un (by decide)).trans rfl) ((pk_un (by decide)).trans rfl))) 19 _ dX6_membersUpTo_19
  · skip
    rw [e1]
    subst es
    refine r_if_eq (pc := 6) (tgt := 13) h (by decide) dX6_membersUpTo_6 (fun c6 => absurd c6 (by decide)) (fun _ => ?_)
    refine r_iconst (pc := 9) (v := nI 0) h (by decide) dX6_membersUpTo_9 ?_
    refine r_goto (pc := 10) (tgt := 19) h (by decide) dX6_membersUpTo_10 ?_
    exact hret _ _ (pm_no (c0 := 2) hC (by decide) rfl ((mB_m hc 0).trans pk_us) (mB_out hc) (inv_0 hi hM hA ((pk_un (by decide)).trans rfl) ((pk_un (by decide)).trans rfl))) 19 _ dX6_membersUpTo_19
  · skip
    rw [e1]
    subst es
    obtain ⟨v1, rfl, hv1⟩ := liB_nI h12 z1
    obtain ⟨v2, rfl, lv2, hv2⟩ := inB_nI (by omega) (by omega) z2
    refine r_if_eq (pc := 6) (tgt := 13) h (by decide) dX6_membersUpTo_6 (fun _ => ?_) (fun c6 => absurd c6 (by decide))
    refine r_aload_n (pc := 13) h 0 rfl rfl dX6_membersUpTo_13 ?_
    refine r_iload_n (pc := 14) h 1 rfl rfl dX6_membersUpTo_14 ?_
    refine r_iload_n (pc := 15) h 2 rfl rfl dX6_membersUpTo_15 ?_
    refine r_cVi (pc := 16) (As := [.int (nI v1), .int (nI v2)]) (st := []) h lk_RX6_87 (c_countM x.2.1 G (mB σ 136 (σ.1 136) h2 x2 (upd (σ.1 134) 0 (nI 0))) v1 v2 (by omega) (by omega) (mem (aU A) v1) (fun v hv => (mB_h hc _).trans (hH _ (by omega) v hv))) rc_6 (by decide) rfl rfl (by first | decide | exact Nat.le_of_ble_eq_true rfl) (by decide) dX6_membersUpTo_16 (fun r4 s5 q6 => ?_)
    rw [q6.1, q6.2]
    exact hret _ _ (pm_ok (seq_0 (cB_t z1) (cB_t z2)) ((mB_m hc 0).trans pk_us) (mB_out hc) (by rw [toN_nI (show v1 < 2 ^ 31 by omega), toN_nI (show v2 < 2 ^ 31 by omega)]) (inv_0 hi hM hA ((pk_un (by decide)).trans rfl) ((pk_un (by decide)).trans rfl))) 19 _ dX6_membersUpTo_19

set_option maxRecDepth 100000 in
set_option maxHeartbeats 800000 in
theorem c_m_lastMember (l : Launch) (G : Gl) (σ : Sg) (n : Nat) (tx : Nat → Nat) (A : Ab) (m : Nat) (H : Nat → Ab) (sv : Nat → Bool) (sl : Nat → Ab) (hi : InvM n tx A m H sv sl σ) (u1 : Int32) : Ci l yX6_lastMember cX6_lastMember 2 .int ({ frames := 4, cells := 0, slots := 0, locals := 95 } : Room) G [.ref (G.2.1 + 134), .int u1] σ (fun r σ2 => Pm [1] (cB (liB A u1) 1) σ σ2 (InvM n tx A m H sv sl) (InvM n tx A m H sv sl) r (oI (lstB (mem (aU A) (toN u1)) 1000))) := by
  refine Ci_of (own := RX6) rfl (by decide +kernel) (lo := [(0, .ref (G.2.1 + 134)), (1, .int u1)]) rfl (Nat.le_of_ble_eq_true rfl) (fun r s hp => rfl) ?_
  intro x Q hxl h hret
  subst hxl
  have hc := rc136
  have hM := hi.2.1.1
  have hA := hi.2.1.2
  have h12 := hA.1
  have h4 := hA.2.1
  have hm2 := hi.1.2
  have hm6 := hi.2.2.1.2.1
  have hk14 := hi.2.2.1.1
  have hd := hi.2.2.1.2.2
  have ht := hi.1.1
  have hn9 := ht.1
  refine V.sg (show σ = mB σ 136 (σ.1 136) (σ.1 141) (σ.1 142) (σ.1 134) from (mB_self hc).symm) ?_
  refine r_aload_n (pc := 0) h 0 rfl rfl dX6_lastMember_0 ?_
  refine r_iload_n (pc := 1) h 1 rfl rfl dX6_lastMember_1 ?_
  refine r_iconst (pc := 2) (v := nI 0) h (by decide) dX6_lastMember_2 ?_
  refine r_cVi (pc := 3) (As := [.int u1, .int (nI 0)]) (st := []) h lk_RX6_197 (c_wrong x.2.1 G σ (σ.1 136) (σ.1 141) (σ.1 142) (σ.1 134) A hM hA u1 (nI 0)) rc_6 (by decide) rfl rfl (by first | decide | exact Nat.le_of_ble_eq_true rfl) (by decide) dX6_lastMember_3 (fun r1 s2 q3 => ?_)
  rcases q3 with ⟨hC, e1, es⟩ | ⟨hC, e1, es⟩ | ⟨z1, z2, e1, h2, x2, es, hH⟩
  · skip
    rw [seq_w0] at hC
    rw [e1]
    subst es
    refine r_if_eq (pc := 6) (tgt := 11) h (by decide) dX6_lastMember_6 (fun c6 => absurd c6 (by decide)) (fun _ => ?_)
    refine r_iconst (pc := 9) (v := nI 0) h (by decide) dX6_lastMember_9 ?_
    exact hret _ _ (pm_no (c0 := 1) hC (by decide) rfl ((mB_m hc 0).trans pk_us) (mB_out hc) (inv_0 hi hM hA ((pk_un (by decide)).trans rfl) ((pk_un (by decide)).trans rfl))) 10 _ dX6_lastMember_10
  · skip
    rw [seq_w0] at hC
    exact absurd hC (cB_1n2 _)
  · skip
    rw [e1]
    subst es
    obtain ⟨v1, rfl, hv1⟩ := liB_nI h12 z1
    refine r_if_eq (pc := 6) (tgt := 11) h (by decide) dX6_lastMember_6 (fun _ => ?_) (fun c6 => absurd c6 (by decide))
    refine r_aload_n (pc := 11) h 0 rfl rfl dX6_lastMember_11 ?_
    refine r_iload_n (pc := 12) h 1 rfl rfl dX6_lastMember_12 ?_
    refine r_aload_n (pc := 13) h 0 rfl rfl dX6_lastMember_13 ?_
    refine r_iload_n (pc := 14) h 1 rfl rfl dX6_lastMember_14 ?_
    refine r_sipush (pc := 15) (v := nI 999) h (by decide) dX6_lastMember_15 ?_
    refine r_cVi (pc := 18) (As := [.int (nI v1), .int (nI 999)]) (st := [.int (nI v1), .ref (G.2.1 + 134)]) h lk_RX6_87 (c_countM x.2.1 G (mB σ 136 (σ.1 136) h2 x2 (upd (σ.1 134) 0 (nI 0))) v1 999 (by omega) (by omega) (mem (aU A) v1) (fun v hv => (mB_h hc _).trans (hH _ (by omega) v hv))) rc_6 (by decide) rfl rfl (by first | decide | exact Nat.le_of_ble_eq_true rfl) (by decide) dX6_lastMember_18 (fun r4 s5 q6 => ?_)
    rw [q6.1, q6.2]
    have hcl := cS_le (mem (aU A) v1) 1000
    refine r_topi (b := nI (cS (mem (aU A) v1) 1000)) rfl ?_
    rcases Nat.eq_zero_or_pos (cS (mem (aU A) v1) 1000) with hz | hz
    · skip
      refine r_topi (b := nI 0) (congrArg nI hz) ?_
      refine r_iconst (pc := 21) (v := nI 1) h (by decide) dX6_lastMember_21 ?_
      refine r_isub (pc := 22) (v := (-1)) h (by decide) dX6_lastMember_22 ?_
      refine r_cVi (pc := 23) (As := [.int (nI v1), .int (-1)]) (st := []) h lk_RX6_80 (c_atN x.2.1 G (mB σ 136 (σ.1 136) h2 x2 (upd (σ.1 134) 0 (nI 0))) v1 (by omega) (mem (aU A) v1) (fun v hv => (mB_h hc _).trans (hH _ (by omega) v hv))) rc_6 (by decide) rfl rfl (by first | decide | exact Nat.le_of_ble_eq_true rfl) (by decide) dX6_lastMember_23 (fun r7 s8 q9 => ?_)
      rw [q9.1, q9.2]
      exact hret _ _ (pm_ok (cB_t z1) ((mB_m hc 0).trans pk_us) (mB_out hc) (by rw [toN_nI (show v1 < 2 ^ 31 by omega), lst_0 hz]; rfl) (inv_0 hi hM hA ((pk_un (by decide)).trans rfl) ((pk_un (by decide)).trans rfl))) 26 _ dX6_lastMember_26
    · skip
      refine r_iconst (pc := 21) (v := nI 1) h (by decide) dX6_lastMember_21 ?_
      refine r_isub (pc := 22) (v := nI ((cS (mem (aU A) v1) 1000) - 1)) h (pk_sub (by omega)) dX6_lastMember_22 ?_
      refine r_cVi (pc := 23) (As := [.int (nI v1), .int (nI ((cS (mem (aU A) v1) 1000) - 1))]) (st := []) h lk_RX6_80 (c_at x.2.1 G (mB σ 136 (σ.1 136) h2 x2 (upd (σ.1 134) 0 (nI 0))) v1 (by omega) ((cS (mem (aU A) v1) 1000) - 1) (by omega) (mem (aU A) v1) (fun v hv => (mB_h hc _).trans (hH _ (by omega) v hv))) rc_6 (by decide) rfl rfl (by first | decide | exact Nat.le_of_ble_eq_true rfl) (by decide) dX6_lastMember_23 (fun r10 s11 q12 => ?_)
      rw [q12.1, q12.2]
      exact hret _ _ (pm_ok (cB_t z1) ((mB_m hc 0).trans pk_us) (mB_out hc) (by rw [toN_nI (show v1 < 2 ^ 31 by omega), lst_ath hz]) (inv_0 hi hM hA ((pk_un (by decide)).trans rfl) ((pk_un (by decide)).trans rfl))) 26 _ dX6_lastMember_26

theorem nei_1 {a b : Bool} (h : (a && b) = false) : seqC (cB a 1) (cB b 1) = 1 := by revert h; cases a <;> cases b <;> decide
set_option maxRecDepth 100000 in
set_option maxHeartbeats 800000 in
theorem c_m_firstShared (l : Launch) (G : Gl) (σ : Sg) (n : Nat) (tx : Nat → Nat) (A : Ab) (m : Nat) (H : Nat → Ab) (sv : Nat → Bool) (sl : Nat → Ab) (hi : InvM n tx A m H sv sl σ) (u1 : Int32) (u2 : Int32) : Ci l yX6_firstShared cX6_firstShared 4 .int ({ frames := 3, cells := 0, slots := 0, locals := 72 } : Room) G [.ref (G.2.1 + 134), .int u1, .int u2] σ (fun r σ2 => Pm [1] (seqC (cB (liB A u1) 1) (cB (liB A u2) 1)) σ σ2 (InvM n tx A m H sv sl) (InvM n tx A m H sv sl) r (oI (nxt (fun v => mem (aU A) (toN u1) v && mem (aU A) (toN u2) v) 0))) := by
  refine Ci_of (own := RX6) rfl (by decide +kernel) (lo := [(0, .ref (G.2.1 + 134)), (1, .int u1), (2, .int u2)]) rfl (Nat.le_of_ble_eq_true rfl) (fun r s hp => rfl) ?_
  intro x Q hxl h hret
  subst hxl
  have hc := rc136
  have hM := hi.2.1.1
  have hA := hi.2.1.2
  have h12 := hA.1
  have h4 := hA.2.1
  have hm2 := hi.1.2
  have hm6 := hi.2.2.1.2.1
  have hk14 := hi.2.2.1.1
  have hd := hi.2.2.1.2.2
  have ht := hi.1.1
  have hn9 := ht.1
  refine V.sg (show σ = mB σ 136 (σ.1 136) (σ.1 141) (σ.1 142) (σ.1 134) from (mB_self hc).symm) ?_
  refine r_aload_n (pc := 0) h 0 rfl rfl dX6_firstShared_0 ?_
  refine r_aload_n (pc := 1) h 0 rfl rfl dX6_firstShared_1 ?_
  refine r_iload_n (pc := 2) h 1 rfl rfl dX6_firstShared_2 ?_
  refine r_iload_n (pc := 3) h 2 rfl rfl dX6_firstShared_3 ?_
  refine r_cVi (pc := 4) (As := [.int u1, .int u2]) (st := [.ref (G.2.1 + 134)]) h lk_RX6_194 (c_neither x.2.1 G σ (σ.1 136) (σ.1 141) (σ.1 142) (σ.1 134) A hM hA u1 u2) rc_6 (by decide) rfl rfl (by first | decide | exact Nat.le_of_ble_eq_true rfl) (by decide) dX6_firstShared_4 (fun r1 s2 q3 => ?_)
  rw [q3.1, q3.2]
  rcases hne : (liB A u1 && liB A u2) with _ | _
  · skip
    refine r_topi (b := nI 1) (by rw [if_neg (by decide)]) ?_
    refine r_cVi (pc := 7) (As := [.int (nI 1)]) (st := []) h lk_RX6_95 (c_refused x.2.1 G σ 136 hc (σ.1 136) (σ.1 141) (σ.1 142) (σ.1 134) 1 (by omega)) rc_6 (by decide) rfl rfl (by first | decide | exact Nat.le_of_ble_eq_true rfl) (by decide) dX6_firstShared_7 (fun r4 s5 q6 => ?_)
    rw [q6.1, q6.2]
    refine r_topi (b := nI 1) (by decide) ?_
    refine r_if_eq (pc := 10) (tgt := 15) h (by decide) dX6_firstShared_10 (fun c10 => absurd c10 (by decide)) (fun _ => ?_)
    refine r_iconst (pc := 13) (v := nI 0) h (by decide) dX6_firstShared_13 ?_
    exact hret _ _ (pm_no (c0 := 1) (nei_1 hne) (by decide) rfl ((mB_m hc 0).trans pk_us) (mB_out hc) (inv_0 hi hM hA ((pk_un (by decide)).trans rfl) ((pk_un (by decide)).trans rfl))) 14 _ dX6_firstShared_14
  · skip
    refine r_topi (b := nI 0) (by rw [if_pos rfl]) ?_
    rw [Bool.and_eq_true] at hne
    obtain ⟨hn1, hn2⟩ := hne
    obtain ⟨v1, rfl, hv1⟩ := liB_nI h12 hn1
    obtain ⟨v2, rfl, hv2⟩ := liB_nI h12 hn2
    refine r_cVi (pc := 7) (As := [.int (nI 0)]) (st := []) h lk_RX6_95 (c_refused x.2.1 G σ 136 hc (σ.1 136) (σ.1 141) (σ.1 142) (σ.1 134) 0 (by omega)) rc_6 (by decide) rfl rfl (by first | decide | exact Nat.le_of_ble_eq_true rfl) (by decide) dX6_firstShared_7 (fun r7 s8 q9 => ?_)
    rw [q9.1, q9.2]
    refine r_topi (b := nI 0) (by decide) ?_
    refine r_if_eq (pc := 10) (tgt := 15) h (by decide) dX6_firstShared_10 (fun _ => ?_) (fun c10 => absurd c10 (by decide))
    refine r_aload_n (pc := 15) h 0 rfl rfl dX6_firstShared_15 ?_
    refine r_aload_n (pc := 16) h 0 rfl rfl dX6_firstShared_16 ?_
    refine g_6_now (pc := 17) h mw_3_21 dX6_firstShared_17 ?_
    refine r_cVv (pc := 20) (As := [.ref (G.2.1 + 136)]) (st := []) h lk_RX6_127 (c_finds x.2.1 G σ 136 hc (σ.1 136) (σ.1 141) (σ.1 142) (upd (σ.1 134) 0 (nI 0)) A hA hM) rc_6 (by decide) rfl rfl (by first | decide | exact Nat.le_of_ble_eq_true rfl) (by decide) dX6_firstShared_20 (fun s11 q12 => ?_)
    obtain ⟨h2, x2, e8, hH⟩ := q12
    subst e8
    refine r_iconst (pc := 23) (v := nI 0) h (by decide) dX6_firstShared_23 ?_
    refine r_istore_n (pc := 24) (lo2 := [(3, .int (nI 0)), (0, .ref (G.2.1 + 134)), (1, .int (nI v1)), (2, .int (nI v2))]) h rfl (by decide) rfl dX6_firstShared_24 ?_
    have lp25 : ∀ (fu : Nat) (v : Nat), v ≤ 1000 → (∀ u, u < v → (fun v => mem (aU A) v1 v && mem (aU A) v2 v) u = false) → 1000 - v < fu → V x G 4 0 0 Q (mB σ 136 (σ.1 136) h2 x2 (upd (σ.1 134) 0 (nI 0))) 25 [(0, .ref (G.2.1 + 134)), (1, .int (nI v1)), (2, .int (nI v2)), (3, .int (nI v))] [] := by
      intro fu
      induction fu with
      | zero => intro v hv hz hfu; exact absurd hfu (Nat.not_lt_zero _)
      | succ fu ih25 =>
        intro v hv hz hfu
        refine r_iload_n (pc := 25) h 3 rfl rfl dX6_firstShared_25 ?_
        refine r_sipush (pc := 26) (v := nI 999) h (by decide) dX6_firstShared_26 ?_
        refine r_icmp_gt (pc := 29) (tgt := 58) h (by decide) dX6_firstShared_29 (fun c29 => ?_) (fun c29 => ?_)
        · skip
          rw [nI_ltI (by omega) (by omega)] at c29
          refine r_iconst (pc := 58) (v := (-1)) h (by decide) dX6_firstShared_58 ?_
          exact hret _ _ (pm_ok (seq_0 (cB_t hn1) (cB_t hn2)) ((mB_m hc 0).trans pk_us) (mB_out hc) (by rw [toN_nI (show v1 < 2 ^ 31 by omega), toN_nI (show v2 < 2 ^ 31 by omega), nxt_none (S := (fun v => mem (aU A) v1 v && mem (aU A) v2 v)) (fun u _ hu => hz u (by omega))]; rfl) (inv_0 hi hM hA ((pk_un (by decide)).trans rfl) ((pk_un (by decide)).trans rfl))) 59 _ dX6_firstShared_59
        · skip
          rw [nI_ltI (by omega) (by omega)] at c29
          refine r_aload_n (pc := 32) h 0 rfl rfl dX6_firstShared_32 ?_
          refine r_iload_n (pc := 33) h 1 rfl rfl dX6_firstShared_33 ?_
          refine r_iload_n (pc := 34) h 3 rfl rfl dX6_firstShared_34 ?_
          refine r_cVi (pc := 35) (As := [.int (nI v1), .int (nI v)]) (st := []) h lk_RX6_51 (c_member x.2.1 G (mB σ 136 (σ.1 136) h2 x2 (upd (σ.1 134) 0 (nI 0))) v1 v (mem (aU A) v1 v) (by omega) (by omega) ((mB_h hc _).trans (hH _ (by omega) _ (by omega)))) rc_6 (by decide) rfl rfl (by first | decide | exact Nat.le_of_ble_eq_true rfl) (by decide) dX6_firstShared_35 (fun r13 s14 q15 => ?_)
          rw [q15.1, q15.2]
          refine r_if_eq (pc := 38) (tgt := 52) h (by decide) dX6_firstShared_38 (fun c38 => ?_) (fun c38 => ?_)
          · skip
            replace c38 := zB_0.mp c38
            refine r_iinc (pc := 52) (v := nI (v + 1)) (lo2 := [(3, .int (nI (v + 1))), (0, .ref (G.2.1 + 134)), (1, .int (nI v1)), (2, .int (nI v2))]) h 3 rfl (iinc1 _) (by decide) rfl dX6_firstShared_52 ?_
            refine r_goto (pc := 55) (tgt := 25) h (by decide) dX6_firstShared_55 ?_
            refine r_sub (lo2 := [(0, .ref (G.2.1 + 134)), (1, .int (nI v1)), (2, .int (nI v2)), (3, .int (nI (v + 1)))]) [1, 2, 3, 0] rfl ?_
            exact ih25 (v + 1) (by omega) (fun u hu => by by_cases e : u = v; (subst e; exact and_f1 c38); (exact hz u (by omega))) (by omega)
          · skip
            replace c38 := zB_n0.mp c38
            refine r_aload_n (pc := 41) h 0 rfl rfl dX6_firstShared_41 ?_
            refine r_iload_n (pc := 42) h 2 rfl rfl dX6_firstShared_42 ?_
            refine r_iload_n (pc := 43) h 3 rfl rfl dX6_firstShared_43 ?_
            refine r_cVi (pc := 44) (As := [.int (nI v2), .int (nI v)]) (st := []) h lk_RX6_51 (c_member x.2.1 G (mB σ 136 (σ.1 136) h2 x2 (upd (σ.1 134) 0 (nI 0))) v2 v (mem (aU A) v2 v) (by omega) (by omega) ((mB_h hc _).trans (hH _ (by omega) _ (by omega)))) rc_6 (by decide) rfl rfl (by first | decide | exact Nat.le_of_ble_eq_true rfl) (by decide) dX6_firstShared_44 (fun r16 s17 q18 => ?_)
            rw [q18.1, q18.2]
            refine r_if_eq (pc := 47) (tgt := 52) h (by decide) dX6_firstShared_47 (fun c47 => ?_) (fun c47 => ?_)
            · skip
              replace c47 := zB_0.mp c47
              refine r_iinc (pc := 52) (v := nI (v + 1)) (lo2 := [(3, .int (nI (v + 1))), (0, .ref (G.2.1 + 134)), (1, .int (nI v1)), (2, .int (nI v2))]) h 3 rfl (iinc1 _) (by decide) rfl dX6_firstShared_52 ?_
              refine r_goto (pc := 55) (tgt := 25) h (by decide) dX6_firstShared_55 ?_
              refine r_sub (lo2 := [(0, .ref (G.2.1 + 134)), (1, .int (nI v1)), (2, .int (nI v2)), (3, .int (nI (v + 1)))]) [1, 2, 3, 0] rfl ?_
              exact ih25 (v + 1) (by omega) (fun u hu => by by_cases e : u = v; (subst e; exact and_f2 c47); (exact hz u (by omega))) (by omega)
            · skip
              replace c47 := zB_n0.mp c47
              refine r_iload_n (pc := 50) h 3 rfl rfl dX6_firstShared_50 ?_
              exact hret _ _ (pm_ok (seq_0 (cB_t hn1) (cB_t hn2)) ((mB_m hc 0).trans pk_us) (mB_out hc) (by rw [toN_nI (show v1 < 2 ^ 31 by omega), toN_nI (show v2 < 2 ^ 31 by omega), nxt_some (S := (fun v => mem (aU A) v1 v && mem (aU A) v2 v)) (Nat.zero_le v) (by omega) (and_t c38 c47) (fun u _ hu => hz u hu)]; rfl) (inv_0 hi hM hA ((pk_un (by decide)).trans rfl) ((pk_un (by decide)).trans rfl))) 51 _ dX6_firstShared_51
    refine r_sub (lo2 := [(0, .ref (G.2.1 + 134)), (1, .int (nI v1)), (2, .int (nI v2)), (3, .int (nI 0))]) [1, 2, 3, 0] rfl ?_
    exact lp25 _ 0 (by omega) (fun u hu => absurd hu (Nat.not_lt_zero u)) (Nat.lt_succ_self _)

set_option maxRecDepth 100000 in
set_option maxHeartbeats 800000 in
theorem c_m_membersIfJoined (l : Launch) (G : Gl) (σ : Sg) (n : Nat) (tx : Nat → Nat) (A : Ab) (m : Nat) (H : Nat → Ab) (sv : Nat → Bool) (sl : Nat → Ab) (hi : InvM n tx A m H sv sl σ) (u1 : Int32) (u2 : Int32) : Ci l yX6_membersIfJoined cX6_membersIfJoined 5 .int ({ frames := 3, cells := 0, slots := 0, locals := 72 } : Room) G [.ref (G.2.1 + 134), .int u1, .int u2] σ (fun r σ2 => Pm [1] (seqC (cB (liB A u1) 1) (cB (liB A u2) 1)) σ σ2 (InvM n tx A m H sv sl) (InvM n tx A m H sv sl) r (nI (cS (fun v => mem (aU A) (toN u1) v || mem (aU A) (toN u2) v) 1000))) := by
  refine Ci_of (own := RX6) rfl (by decide +kernel) (lo := [(0, .ref (G.2.1 + 134)), (1, .int u1), (2, .int u2)]) rfl (Nat.le_of_ble_eq_true rfl) (fun r s hp => rfl) ?_
  intro x Q hxl h hret
  subst hxl
  have hc := rc136
  have hM := hi.2.1.1
  have hA := hi.2.1.2
  have h12 := hA.1
  have h4 := hA.2.1
  have hm2 := hi.1.2
  have hm6 := hi.2.2.1.2.1
  have hk14 := hi.2.2.1.1
  have hd := hi.2.2.1.2.2
  have ht := hi.1.1
  have hn9 := ht.1
  refine V.sg (show σ = mB σ 136 (σ.1 136) (σ.1 141) (σ.1 142) (σ.1 134) from (mB_self hc).symm) ?_
  refine r_aload_n (pc := 0) h 0 rfl rfl dX6_membersIfJoined_0 ?_
  refine r_aload_n (pc := 1) h 0 rfl rfl dX6_membersIfJoined_1 ?_
  refine r_iload_n (pc := 2) h 1 rfl rfl dX6_membersIfJoined_2 ?_
  refine r_iload_n (pc := 3) h 2 rfl rfl dX6_membersIfJoined_3 ?_
  refine r_cVi (pc := 4) (As := [.int u1, .int u2]) (st := [.ref (G.2.1 + 134)]) h lk_RX6_194 (c_neither x.2.1 G σ (σ.1 136) (σ.1 141) (σ.1 142) (σ.1 134) A hM hA u1 u2) rc_6 (by decide) rfl rfl (by first | decide | exact Nat.le_of_ble_eq_true rfl) (by decide) dX6_membersIfJoined_4 (fun r1 s2 q3 => ?_)
  rw [q3.1, q3.2]
  rcases hne : (liB A u1 && liB A u2) with _ | _
  · skip
    refine r_topi (b := nI 1) (by rw [if_neg (by decide)]) ?_
    refine r_cVi (pc := 7) (As := [.int (nI 1)]) (st := []) h lk_RX6_95 (c_refused x.2.1 G σ 136 hc (σ.1 136) (σ.1 141) (σ.1 142) (σ.1 134) 1 (by omega)) rc_6 (by decide) rfl rfl (by first | decide | exact Nat.le_of_ble_eq_true rfl) (by decide) dX6_membersIfJoined_7 (fun r4 s5 q6 => ?_)
    rw [q6.1, q6.2]
    refine r_topi (b := nI 1) (by decide) ?_
    refine r_if_eq (pc := 10) (tgt := 15) h (by decide) dX6_membersIfJoined_10 (fun c10 => absurd c10 (by decide)) (fun _ => ?_)
    refine r_iconst (pc := 13) (v := nI 0) h (by decide) dX6_membersIfJoined_13 ?_
    exact hret _ _ (pm_no (c0 := 1) (nei_1 hne) (by decide) rfl ((mB_m hc 0).trans pk_us) (mB_out hc) (inv_0 hi hM hA ((pk_un (by decide)).trans rfl) ((pk_un (by decide)).trans rfl))) 14 _ dX6_membersIfJoined_14
  · skip
    refine r_topi (b := nI 0) (by rw [if_pos rfl]) ?_
    rw [Bool.and_eq_true] at hne
    obtain ⟨hn1, hn2⟩ := hne
    obtain ⟨v1, rfl, hv1⟩ := liB_nI h12 hn1
    obtain ⟨v2, rfl, hv2⟩ := liB_nI h12 hn2
    refine r_cVi (pc := 7) (As := [.int (nI 0)]) (st := []) h lk_RX6_95 (c_refused x.2.1 G σ 136 hc (σ.1 136) (σ.1 141) (σ.1 142) (σ.1 134) 0 (by omega)) rc_6 (by decide) rfl rfl (by first | decide | exact Nat.le_of_ble_eq_true rfl) (by decide) dX6_membersIfJoined_7 (fun r7 s8 q9 => ?_)
    rw [q9.1, q9.2]
    refine r_topi (b := nI 0) (by decide) ?_
    refine r_if_eq (pc := 10) (tgt := 15) h (by decide) dX6_membersIfJoined_10 (fun _ => ?_) (fun c10 => absurd c10 (by decide))
    refine r_aload_n (pc := 15) h 0 rfl rfl dX6_membersIfJoined_15 ?_
    refine r_aload_n (pc := 16) h 0 rfl rfl dX6_membersIfJoined_16 ?_
    refine g_6_now (pc := 17) h mw_3_21 dX6_membersIfJoined_17 ?_
    refine r_cVv (pc := 20) (As := [.ref (G.2.1 + 136)]) (st := []) h lk_RX6_127 (c_finds x.2.1 G σ 136 hc (σ.1 136) (σ.1 141) (σ.1 142) (upd (σ.1 134) 0 (nI 0)) A hA hM) rc_6 (by decide) rfl rfl (by first | decide | exact Nat.le_of_ble_eq_true rfl) (by decide) dX6_membersIfJoined_20 (fun s11 q12 => ?_)
    obtain ⟨h2, x2, e8, hH⟩ := q12
    subst e8
    refine r_iconst (pc := 23) (v := nI 0) h (by decide) dX6_membersIfJoined_23 ?_
    refine r_istore_n (pc := 24) (lo2 := [(3, .int (nI 0)), (0, .ref (G.2.1 + 134)), (1, .int (nI v1)), (2, .int (nI v2))]) h rfl (by decide) rfl dX6_membersIfJoined_24 ?_
    refine r_iconst (pc := 25) (v := nI 0) h (by decide) dX6_membersIfJoined_25 ?_
    refine r_istore (pc := 26) (lo2 := [(4, .int (nI 0)), (3, .int (nI 0)), (0, .ref (G.2.1 + 134)), (1, .int (nI v1)), (2, .int (nI v2))]) h (by decide) rfl dX6_membersIfJoined_26 ?_
    have lp28 : ∀ (fu : Nat) (v : Nat), v ≤ 1000 → 1000 - v < fu → V x G 5 0 0 Q (mB σ 136 (σ.1 136) h2 x2 (upd (σ.1 134) 0 (nI 0))) 28 [(0, .ref (G.2.1 + 134)), (1, .int (nI v1)), (2, .int (nI v2)), (3, .int (nI (cS (fun v => mem (aU A) v1 v || mem (aU A) v2 v) v))), (4, .int (nI v))] [] := by
      intro fu
      induction fu with
      | zero => intro v hv hfu; exact absurd hfu (Nat.not_lt_zero _)
      | succ fu ih28 =>
        intro v hv hfu
        refine r_iload (pc := 28) h 4 rfl dX6_membersIfJoined_28 ?_
        refine r_sipush (pc := 30) (v := nI 999) h (by decide) dX6_membersIfJoined_30 ?_
        refine r_icmp_gt (pc := 33) (tgt := 70) h (by decide) dX6_membersIfJoined_33 (fun c33 => ?_) (fun c33 => ?_)
        · skip
          rw [nI_ltI (by omega) (by omega)] at c33
          refine r_iload_n (pc := 70) h 3 rfl rfl dX6_membersIfJoined_70 ?_
          have e : v = 1000 := by omega
          subst e
          exact hret _ _ (pm_ok (seq_0 (cB_t hn1) (cB_t hn2)) ((mB_m hc 0).trans pk_us) (mB_out hc) (by rw [toN_nI (show v1 < 2 ^ 31 by omega), toN_nI (show v2 < 2 ^ 31 by omega)]) (inv_0 hi hM hA ((pk_un (by decide)).trans rfl) ((pk_un (by decide)).trans rfl))) 71 _ dX6_membersIfJoined_71
        · skip
          rw [nI_ltI (by omega) (by omega)] at c33
          refine r_iload_n (pc := 36) h 3 rfl rfl dX6_membersIfJoined_36 ?_
          refine r_aload_n (pc := 37) h 0 rfl rfl dX6_membersIfJoined_37 ?_
          refine r_iload_n (pc := 38) h 1 rfl rfl dX6_membersIfJoined_38 ?_
          refine r_iload (pc := 39) h 4 rfl dX6_membersIfJoined_39 ?_
          refine r_cVi (pc := 41) (As := [.int (nI v1), .int (nI v)]) (st := [.int (nI (cS (fun v => mem (aU A) v1 v || mem (aU A) v2 v) v))]) h lk_RX6_51 (c_member x.2.1 G (mB σ 136 (σ.1 136) h2 x2 (upd (σ.1 134) 0 (nI 0))) v1 v (mem (aU A) v1 v) (by omega) (by omega) ((mB_h hc _).trans (hH _ (by omega) _ (by omega)))) rc_6 (by decide) rfl rfl (by first | decide | exact Nat.le_of_ble_eq_true rfl) (by decide) dX6_membersIfJoined_41 (fun r13 s14 q15 => ?_)
          rw [q15.1, q15.2]
          refine r_if_ne (pc := 44) (tgt := 57) h (by decide) dX6_membersIfJoined_44 (fun c44 => ?_) (fun c44 => ?_)
          · skip
            replace c44 := zB_n0.mp c44
            have hcj := cS_y (S := (fun v => mem (aU A) v1 v || mem (aU A) v2 v)) (v := v) (by show (mem (aU A) v1 v || mem (aU A) v2 v) = true; rw [c44]; rfl)
            refine r_iconst (pc := 57) (v := nI 1) h (by decide) dX6_membersIfJoined_57 ?_
            refine r_goto (pc := 58) (tgt := 62) h (by decide) dX6_membersIfJoined_58 ?_
            refine r_iadd (pc := 62) (v := nI (cS (fun v => mem (aU A) v1 v || mem (aU A) v2 v) (v + 1))) h ((nI_add _ _).trans (congrArg nI (by omega))) dX6_membersIfJoined_62 ?_
            refine r_istore_n (pc := 63) (lo2 := [(3, .int (nI (cS (fun v => mem (aU A) v1 v || mem (aU A) v2 v) (v + 1)))), (0, .ref (G.2.1 + 134)), (1, .int (nI v1)), (2, .int (nI v2)), (4, .int (nI v))]) h rfl (by decide) rfl dX6_membersIfJoined_63 ?_
            refine r_iinc (pc := 64) (v := nI (v + 1)) (lo2 := [(4, .int (nI (v + 1))), (3, .int (nI (cS (fun v => mem (aU A) v1 v || mem (aU A) v2 v) (v + 1)))), (0, .ref (G.2.1 + 134)), (1, .int (nI v1)), (2, .int (nI v2))]) h 4 rfl (iinc1 _) (by decide) rfl dX6_membersIfJoined_64 ?_
            refine r_goto (pc := 67) (tgt := 28) h (by decide) dX6_membersIfJoined_67 ?_
            refine r_sub (lo2 := [(0, .ref (G.2.1 + 134)), (1, .int (nI v1)), (2, .int (nI v2)), (3, .int (nI (cS (fun v => mem (aU A) v1 v || mem (aU A) v2 v) (v + 1)))), (4, .int (nI (v + 1)))]) [2, 3, 4, 1, 0] rfl ?_
            exact ih28 (v + 1) (by omega) (by omega)
          · skip
            replace c44 := zB_0.mp c44
            refine r_aload_n (pc := 47) h 0 rfl rfl dX6_membersIfJoined_47 ?_
            refine r_iload_n (pc := 48) h 2 rfl rfl dX6_membersIfJoined_48 ?_
            refine r_iload (pc := 49) h 4 rfl dX6_membersIfJoined_49 ?_
            refine r_cVi (pc := 51) (As := [.int (nI v2), .int (nI v)]) (st := [.int (nI (cS (fun v => mem (aU A) v1 v || mem (aU A) v2 v) v))]) h lk_RX6_51 (c_member x.2.1 G (mB σ 136 (σ.1 136) h2 x2 (upd (σ.1 134) 0 (nI 0))) v2 v (mem (aU A) v2 v) (by omega) (by omega) ((mB_h hc _).trans (hH _ (by omega) _ (by omega)))) rc_6 (by decide) rfl rfl (by first | decide | exact Nat.le_of_ble_eq_true rfl) (by decide) dX6_membersIfJoined_51 (fun r16 s17 q18 => ?_)
            rw [q18.1, q18.2]
            refine r_if_eq (pc := 54) (tgt := 61) h (by decide) dX6_membersIfJoined_54 (fun c54 => ?_) (fun c54 => ?_)
            · skip
              replace c54 := zB_0.mp c54
              have hcj := cS_no (S := (fun v => mem (aU A) v1 v || mem (aU A) v2 v)) (v := v) (by show (mem (aU A) v1 v || mem (aU A) v2 v) = false; rw [c44, c54]; rfl)
              refine r_iconst (pc := 61) (v := nI 0) h (by decide) dX6_membersIfJoined_61 ?_
              refine r_iadd (pc := 62) (v := nI (cS (fun v => mem (aU A) v1 v || mem (aU A) v2 v) (v + 1))) h ((nI_add _ _).trans (congrArg nI (by omega))) dX6_membersIfJoined_62 ?_
              refine r_istore_n (pc := 63) (lo2 := [(3, .int (nI (cS (fun v => mem (aU A) v1 v || mem (aU A) v2 v) (v + 1)))), (0, .ref (G.2.1 + 134)), (1, .int (nI v1)), (2, .int (nI v2)), (4, .int (nI v))]) h rfl (by decide) rfl dX6_membersIfJoined_63 ?_
              refine r_iinc (pc := 64) (v := nI (v + 1)) (lo2 := [(4, .int (nI (v + 1))), (3, .int (nI (cS (fun v => mem (aU A) v1 v || mem (aU A) v2 v) (v + 1)))), (0, .ref (G.2.1 + 134)), (1, .int (nI v1)), (2, .int (nI v2))]) h 4 rfl (iinc1 _) (by decide) rfl dX6_membersIfJoined_64 ?_
              refine r_goto (pc := 67) (tgt := 28) h (by decide) dX6_membersIfJoined_67 ?_
              refine r_sub (lo2 := [(0, .ref (G.2.1 + 134)), (1, .int (nI v1)), (2, .int (nI v2)), (3, .int (nI (cS (fun v => mem (aU A) v1 v || mem (aU A) v2 v) (v + 1)))), (4, .int (nI (v + 1)))]) [2, 3, 4, 1, 0] rfl ?_
              exact ih28 (v + 1) (by omega) (by omega)
            · skip
              replace c54 := zB_n0.mp c54
              have hcj := cS_y (S := (fun v => mem (aU A) v1 v || mem (aU A) v2 v)) (v := v) (by show (mem (aU A) v1 v || mem (aU A) v2 v) = true; rw [c54, Bool.or_true])
              refine r_iconst (pc := 57) (v := nI 1) h (by decide) dX6_membersIfJoined_57 ?_
              refine r_goto (pc := 58) (tgt := 62) h (by decide) dX6_membersIfJoined_58 ?_
              refine r_iadd (pc := 62) (v := nI (cS (fun v => mem (aU A) v1 v || mem (aU A) v2 v) (v + 1))) h ((nI_add _ _).trans (congrArg nI (by omega))) dX6_membersIfJoined_62 ?_
              refine r_istore_n (pc := 63) (lo2 := [(3, .int (nI (cS (fun v => mem (aU A) v1 v || mem (aU A) v2 v) (v + 1)))), (0, .ref (G.2.1 + 134)), (1, .int (nI v1)), (2, .int (nI v2)), (4, .int (nI v))]) h rfl (by decide) rfl dX6_membersIfJoined_63 ?_
              refine r_iinc (pc := 64) (v := nI (v + 1)) (lo2 := [(4, .int (nI (v + 1))), (3, .int (nI (cS (fun v => mem (aU A) v1 v || mem (aU A) v2 v) (v + 1)))), (0, .ref (G.2.1 + 134)), (1, .int (nI v1)), (2, .int (nI v2))]) h 4 rfl (iinc1 _) (by decide) rfl dX6_membersIfJoined_64 ?_
              refine r_goto (pc := 67) (tgt := 28) h (by decide) dX6_membersIfJoined_67 ?_
              refine r_sub (lo2 := [(0, .ref (G.2.1 + 134)), (1, .int (nI v1)), (2, .int (nI v2)), (3, .int (nI (cS (fun v => mem (aU A) v1 v || mem (aU A) v2 v) (v + 1)))), (4, .int (nI (v + 1)))]) [2, 3, 4, 1, 0] rfl ?_
              exact ih28 (v + 1) (by omega) (by omega)
    refine r_sub (lo2 := [(0, .ref (G.2.1 + 134)), (1, .int (nI v1)), (2, .int (nI v2)), (3, .int (nI 0)), (4, .int (nI 0))]) [2, 3, 4, 1, 0] rfl ?_
    exact lp28 _ 0 (by omega) (Nat.lt_succ_self _)

set_option maxRecDepth 100000 in
set_option maxHeartbeats 800000 in
theorem c_m_widestGap (l : Launch) (G : Gl) (σ : Sg) (n : Nat) (tx : Nat → Nat) (A : Ab) (m : Nat) (H : Nat → Ab) (sv : Nat → Bool) (sl : Nat → Ab) (hi : InvM n tx A m H sv sl σ) (u1 : Int32) : Ci l yX6_widestGap cX6_widestGap 5 .int ({ frames := 4, cells := 0, slots := 0, locals := 95 } : Room) G [.ref (G.2.1 + 134), .int u1] σ (fun r σ2 => Pm [1] (cB (liB A u1) 1) σ σ2 (InvM n tx A m H sv sl) (InvM n tx A m H sv sl) r (nI (gp (mem (aU A) (toN u1)) 1000).2)) := by
  refine Ci_of (own := RX6) rfl (by decide +kernel) (lo := [(0, .ref (G.2.1 + 134)), (1, .int u1)]) rfl (Nat.le_of_ble_eq_true rfl) (fun r s hp => rfl) ?_
  intro x Q hxl h hret
  subst hxl
  have hc := rc136
  have hM := hi.2.1.1
  have hA := hi.2.1.2
  have h12 := hA.1
  have h4 := hA.2.1
  have hm2 := hi.1.2
  have hm6 := hi.2.2.1.2.1
  have hk14 := hi.2.2.1.1
  have hd := hi.2.2.1.2.2
  have ht := hi.1.1
  have hn9 := ht.1
  refine V.sg (show σ = mB σ 136 (σ.1 136) (σ.1 141) (σ.1 142) (σ.1 134) from (mB_self hc).symm) ?_
  refine r_aload_n (pc := 0) h 0 rfl rfl dX6_widestGap_0 ?_
  refine r_iload_n (pc := 1) h 1 rfl rfl dX6_widestGap_1 ?_
  refine r_iconst (pc := 2) (v := nI 0) h (by decide) dX6_widestGap_2 ?_
  refine r_cVi (pc := 3) (As := [.int u1, .int (nI 0)]) (st := []) h lk_RX6_197 (c_wrong x.2.1 G σ (σ.1 136) (σ.1 141) (σ.1 142) (σ.1 134) A hM hA u1 (nI 0)) rc_6 (by decide) rfl rfl (by first | decide | exact Nat.le_of_ble_eq_true rfl) (by decide) dX6_widestGap_3 (fun r1 s2 q3 => ?_)
  rcases q3 with ⟨hC, e1, es⟩ | ⟨hC, e1, es⟩ | ⟨z1, z2, e1, h2, x2, es, hH⟩
  · skip
    rw [seq_w0] at hC
    rw [e1]
    subst es
    refine r_if_eq (pc := 6) (tgt := 11) h (by decide) dX6_widestGap_6 (fun c6 => absurd c6 (by decide)) (fun _ => ?_)
    refine r_iconst (pc := 9) (v := nI 0) h (by decide) dX6_widestGap_9 ?_
    exact hret _ _ (pm_no (c0 := 1) hC (by decide) rfl ((mB_m hc 0).trans pk_us) (mB_out hc) (inv_0 hi hM hA ((pk_un (by decide)).trans rfl) ((pk_un (by decide)).trans rfl))) 10 _ dX6_widestGap_10
  · skip
    rw [seq_w0] at hC
    exact absurd hC (cB_1n2 _)
  · skip
    rw [e1]
    subst es
    obtain ⟨v1, rfl, hv1⟩ := liB_nI h12 z1
    refine r_if_eq (pc := 6) (tgt := 11) h (by decide) dX6_widestGap_6 (fun _ => ?_) (fun c6 => absurd c6 (by decide))
    refine r_iconst (pc := 11) (v := nI 0) h (by decide) dX6_widestGap_11 ?_
    refine r_istore_n (pc := 12) (lo2 := [(2, .int (nI 0)), (0, .ref (G.2.1 + 134)), (1, .int (nI v1))]) h rfl (by decide) rfl dX6_widestGap_12 ?_
    refine r_iconst (pc := 13) (v := (-1)) h (by decide) dX6_widestGap_13 ?_
    refine r_istore_n (pc := 14) (lo2 := [(3, .int (-1)), (2, .int (nI 0)), (0, .ref (G.2.1 + 134)), (1, .int (nI v1))]) h rfl (by decide) rfl dX6_widestGap_14 ?_
    refine r_iconst (pc := 15) (v := nI 0) h (by decide) dX6_widestGap_15 ?_
    refine r_istore (pc := 16) (lo2 := [(4, .int (nI 0)), (3, .int (-1)), (2, .int (nI 0)), (0, .ref (G.2.1 + 134)), (1, .int (nI v1))]) h (by decide) rfl dX6_widestGap_16 ?_
    have lp18 : ∀ (fu : Nat) (v : Nat), v ≤ 1000 → 1000 - v < fu → V x G 5 0 0 Q (mB σ 136 (σ.1 136) h2 x2 (upd (σ.1 134) 0 (nI 0))) 18 [(0, .ref (G.2.1 + 134)), (1, .int (nI v1)), (2, .int (nI (gp (mem (aU A) v1) v).2)), (3, .int (oI (gp (mem (aU A) v1) v).1)), (4, .int (nI v))] [] := by
      intro fu
      induction fu with
      | zero => intro v hv hfu; exact absurd hfu (Nat.not_lt_zero _)
      | succ fu ih18 =>
        intro v hv hfu
        refine r_iload (pc := 18) h 4 rfl dX6_widestGap_18 ?_
        refine r_sipush (pc := 20) (v := nI 999) h (by decide) dX6_widestGap_20 ?_
        refine r_icmp_gt (pc := 23) (tgt := 67) h (by decide) dX6_widestGap_23 (fun c23 => ?_) (fun c23 => ?_)
        · skip
          rw [nI_ltI (by omega) (by omega)] at c23
          refine r_iload_n (pc := 67) h 2 rfl rfl dX6_widestGap_67 ?_
          have e : v = 1000 := by omega
          subst e
          exact hret _ _ (pm_ok (cB_t z1) ((mB_m hc 0).trans pk_us) (mB_out hc) (by rw [toN_nI (show v1 < 2 ^ 31 by omega)]) (inv_0 hi hM hA ((pk_un (by decide)).trans rfl) ((pk_un (by decide)).trans rfl))) 68 _ dX6_widestGap_68
        · skip
          rw [nI_ltI (by omega) (by omega)] at c23
          have hg := gp_le (mem (aU A) v1) v
          refine r_aload_n (pc := 26) h 0 rfl rfl dX6_widestGap_26 ?_
          refine r_iload_n (pc := 27) h 1 rfl rfl dX6_widestGap_27 ?_
          refine r_iload (pc := 28) h 4 rfl dX6_widestGap_28 ?_
          refine r_cVi (pc := 30) (As := [.int (nI v1), .int (nI v)]) (st := []) h lk_RX6_51 (c_member x.2.1 G (mB σ 136 (σ.1 136) h2 x2 (upd (σ.1 134) 0 (nI 0))) v1 v (mem (aU A) v1 v) (by omega) (by omega) ((mB_h hc _).trans (hH _ (by omega) _ (by omega)))) rc_6 (by decide) rfl rfl (by first | decide | exact Nat.le_of_ble_eq_true rfl) (by decide) dX6_widestGap_30 (fun r4 s5 q6 => ?_)
          rw [q6.1, q6.2]
          refine r_if_eq (pc := 33) (tgt := 61) h (by decide) dX6_widestGap_33 (fun c33 => ?_) (fun c33 => ?_)
          · skip
            replace c33 := zB_0.mp c33
            have hgn := gp_no c33
            refine r_iinc (pc := 61) (v := nI (v + 1)) (lo2 := [(4, .int (nI (v + 1))), (0, .ref (G.2.1 + 134)), (1, .int (nI v1)), (2, .int (nI (gp (mem (aU A) v1) v).2)), (3, .int (oI (gp (mem (aU A) v1) v).1))]) h 4 rfl (iinc1 _) (by decide) rfl dX6_widestGap_61 ?_
            refine r_goto (pc := 64) (tgt := 18) h (by decide) dX6_widestGap_64 ?_
            refine r_sub (lo2 := [(0, .ref (G.2.1 + 134)), (1, .int (nI v1)), (2, .int (nI (gp (mem (aU A) v1) v).2)), (3, .int (oI (gp (mem (aU A) v1) v).1)), (4, .int (nI (v + 1)))]) [1, 2, 3, 4, 0] rfl ?_
            rw [← hgn]
            exact ih18 (v + 1) (by omega) (by omega)
          · skip
            replace c33 := zB_n0.mp c33
            rcases hl : (gp (mem (aU A) v1) v).1 with _ | l
            · skip
              have hgn := gp_y0 c33 hl
              refine r_iload_n (pc := 36) h 3 rfl rfl dX6_widestGap_36 ?_
              refine r_iconst (pc := 37) (v := (-1)) h (by decide) dX6_widestGap_37 ?_
              refine r_icmp_eq (pc := 38) (tgt := 56) h (by decide) dX6_widestGap_38 (fun _ => ?_) (fun c38 => absurd c38 (by decide))
              refine r_iload_n (pc := 56) h 2 rfl rfl dX6_widestGap_56 ?_
              refine r_topi (b := nI (gp (mem (aU A) v1) (v + 1)).2) (by rw [hgn]) ?_
              refine r_istore_n (pc := 57) (lo2 := [(2, .int (nI (gp (mem (aU A) v1) (v + 1)).2)), (0, .ref (G.2.1 + 134)), (1, .int (nI v1)), (3, .int (-1)), (4, .int (nI v))]) h rfl (by decide) rfl dX6_widestGap_57 ?_
              refine r_iload (pc := 58) h 4 rfl dX6_widestGap_58 ?_
              refine r_topi (b := oI (gp (mem (aU A) v1) (v + 1)).1) (by rw [hgn]; rfl) ?_
              refine r_istore_n (pc := 60) (lo2 := [(3, .int (oI (gp (mem (aU A) v1) (v + 1)).1)), (2, .int (nI (gp (mem (aU A) v1) (v + 1)).2)), (0, .ref (G.2.1 + 134)), (1, .int (nI v1)), (4, .int (nI v))]) h rfl (by decide) rfl dX6_widestGap_60 ?_
              refine r_iinc (pc := 61) (v := nI (v + 1)) (lo2 := [(4, .int (nI (v + 1))), (3, .int (oI (gp (mem (aU A) v1) (v + 1)).1)), (2, .int (nI (gp (mem (aU A) v1) (v + 1)).2)), (0, .ref (G.2.1 + 134)), (1, .int (nI v1))]) h 4 rfl (iinc1 _) (by decide) rfl dX6_widestGap_61 ?_
              refine r_goto (pc := 64) (tgt := 18) h (by decide) dX6_widestGap_64 ?_
              refine r_sub (lo2 := [(0, .ref (G.2.1 + 134)), (1, .int (nI v1)), (2, .int (nI (gp (mem (aU A) v1) (v + 1)).2)), (3, .int (oI (gp (mem (aU A) v1) (v + 1)).1)), (4, .int (nI (v + 1)))]) [3, 4, 2, 1, 0] rfl ?_
              exact ih18 (v + 1) (by omega) (by omega)
            · skip
              have hgn := gp_y c33 hl
              have hll := hg.2 l hl
              refine r_iload_n (pc := 36) h 3 rfl rfl dX6_widestGap_36 ?_
              refine r_iconst (pc := 37) (v := (-1)) h (by decide) dX6_widestGap_37 ?_
              refine r_icmp_eq (pc := 38) (tgt := 56) h (by decide) dX6_widestGap_38 (fun c38 => ?_) (fun c38 => ?_)
              · skip
                exact absurd c38 (nI_ne (by omega))
              · skip
                refine r_iload (pc := 41) h 4 rfl dX6_widestGap_41 ?_
                refine r_iload_n (pc := 43) h 3 rfl rfl dX6_widestGap_43 ?_
                refine r_isub (pc := 44) (v := nI (v - l)) h (pk_sub (by omega)) dX6_widestGap_44 ?_
                refine r_iload_n (pc := 45) h 2 rfl rfl dX6_widestGap_45 ?_
                refine r_icmp_le (pc := 46) (tgt := 56) h (by decide) dX6_widestGap_46 (fun c46 => ?_) (fun c46 => ?_)
                · skip
                  rw [nI_leI (by omega) (by omega)] at c46
                  refine r_iload_n (pc := 56) h 2 rfl rfl dX6_widestGap_56 ?_
                  refine r_topi (b := nI (gp (mem (aU A) v1) (v + 1)).2) (by rw [hgn]; exact congrArg nI (by omega)) ?_
                  refine r_istore_n (pc := 57) (lo2 := [(2, .int (nI (gp (mem (aU A) v1) (v + 1)).2)), (0, .ref (G.2.1 + 134)), (1, .int (nI v1)), (3, .int (nI l)), (4, .int (nI v))]) h rfl (by decide) rfl dX6_widestGap_57 ?_
                  refine r_iload (pc := 58) h 4 rfl dX6_widestGap_58 ?_
                  refine r_topi (b := oI (gp (mem (aU A) v1) (v + 1)).1) (by rw [hgn]; rfl) ?_
                  refine r_istore_n (pc := 60) (lo2 := [(3, .int (oI (gp (mem (aU A) v1) (v + 1)).1)), (2, .int (nI (gp (mem (aU A) v1) (v + 1)).2)), (0, .ref (G.2.1 + 134)), (1, .int (nI v1)), (4, .int (nI v))]) h rfl (by decide) rfl dX6_widestGap_60 ?_
                  refine r_iinc (pc := 61) (v := nI (v + 1)) (lo2 := [(4, .int (nI (v + 1))), (3, .int (oI (gp (mem (aU A) v1) (v + 1)).1)), (2, .int (nI (gp (mem (aU A) v1) (v + 1)).2)), (0, .ref (G.2.1 + 134)), (1, .int (nI v1))]) h 4 rfl (iinc1 _) (by decide) rfl dX6_widestGap_61 ?_
                  refine r_goto (pc := 64) (tgt := 18) h (by decide) dX6_widestGap_64 ?_
                  refine r_sub (lo2 := [(0, .ref (G.2.1 + 134)), (1, .int (nI v1)), (2, .int (nI (gp (mem (aU A) v1) (v + 1)).2)), (3, .int (oI (gp (mem (aU A) v1) (v + 1)).1)), (4, .int (nI (v + 1)))]) [3, 4, 2, 1, 0] rfl ?_
                  exact ih18 (v + 1) (by omega) (by omega)
                · skip
                  rw [nI_leI (by omega) (by omega)] at c46
                  refine r_iload (pc := 49) h 4 rfl dX6_widestGap_49 ?_
                  refine r_iload_n (pc := 51) h 3 rfl rfl dX6_widestGap_51 ?_
                  refine r_isub (pc := 52) (v := nI (v - l)) h (pk_sub (by omega)) dX6_widestGap_52 ?_
                  refine r_goto (pc := 53) (tgt := 57) h (by decide) dX6_widestGap_53 ?_
                  refine r_topi (b := nI (gp (mem (aU A) v1) (v + 1)).2) (by rw [hgn]; exact congrArg nI (by omega)) ?_
                  refine r_istore_n (pc := 57) (lo2 := [(2, .int (nI (gp (mem (aU A) v1) (v + 1)).2)), (0, .ref (G.2.1 + 134)), (1, .int (nI v1)), (3, .int (nI l)), (4, .int (nI v))]) h rfl (by decide) rfl dX6_widestGap_57 ?_
                  refine r_iload (pc := 58) h 4 rfl dX6_widestGap_58 ?_
                  refine r_topi (b := oI (gp (mem (aU A) v1) (v + 1)).1) (by rw [hgn]; rfl) ?_
                  refine r_istore_n (pc := 60) (lo2 := [(3, .int (oI (gp (mem (aU A) v1) (v + 1)).1)), (2, .int (nI (gp (mem (aU A) v1) (v + 1)).2)), (0, .ref (G.2.1 + 134)), (1, .int (nI v1)), (4, .int (nI v))]) h rfl (by decide) rfl dX6_widestGap_60 ?_
                  refine r_iinc (pc := 61) (v := nI (v + 1)) (lo2 := [(4, .int (nI (v + 1))), (3, .int (oI (gp (mem (aU A) v1) (v + 1)).1)), (2, .int (nI (gp (mem (aU A) v1) (v + 1)).2)), (0, .ref (G.2.1 + 134)), (1, .int (nI v1))]) h 4 rfl (iinc1 _) (by decide) rfl dX6_widestGap_61 ?_
                  refine r_goto (pc := 64) (tgt := 18) h (by decide) dX6_widestGap_64 ?_
                  refine r_sub (lo2 := [(0, .ref (G.2.1 + 134)), (1, .int (nI v1)), (2, .int (nI (gp (mem (aU A) v1) (v + 1)).2)), (3, .int (oI (gp (mem (aU A) v1) (v + 1)).1)), (4, .int (nI (v + 1)))]) [3, 4, 2, 1, 0] rfl ?_
                  exact ih18 (v + 1) (by omega) (by omega)
    refine r_sub (lo2 := [(0, .ref (G.2.1 + 134)), (1, .int (nI v1)), (2, .int (nI 0)), (3, .int (-1)), (4, .int (nI 0))]) [3, 4, 2, 1, 0] rfl ?_
    exact lp18 _ 0 (by omega) (Nat.lt_succ_self _)

set_option maxRecDepth 100000 in
set_option maxHeartbeats 800000 in
theorem c_m_listOf (l : Launch) (G : Gl) (σ : Sg) (n : Nat) (tx : Nat → Nat) (A : Ab) (m : Nat) (H : Nat → Ab) (sv : Nat → Bool) (sl : Nat → Ab) (hi : InvM n tx A m H sv sl σ) (u1 : Int32) : Ci l yX6_listOf cX6_listOf 2 .int ({ frames := 2, cells := 0, slots := 0, locals := 46 } : Room) G [.ref (G.2.1 + 134), .int u1] σ (fun r σ2 => Pm [1] (cB (rdB A u1) 1) σ σ2 (InvM n tx A m H sv sl) (InvM n tx A m H sv sl) r (nI (aL A (toN u1)))) := by
  refine Ci_of (own := RX6) rfl (by decide +kernel) (lo := [(0, .ref (G.2.1 + 134)), (1, .int u1)]) rfl (Nat.le_of_ble_eq_true rfl) (fun r s hp => rfl) ?_
  intro x Q hxl h hret
  subst hxl
  have hc := rc136
  have hM := hi.2.1.1
  have hA := hi.2.1.2
  have h12 := hA.1
  have h4 := hA.2.1
  have hm2 := hi.1.2
  have hm6 := hi.2.2.1.2.1
  have hk14 := hi.2.2.1.1
  have hd := hi.2.2.1.2.2
  have ht := hi.1.1
  have hn9 := ht.1
  refine V.sg (show σ = mB σ 136 (σ.1 136) (σ.1 141) (σ.1 142) (σ.1 134) from (mB_self hc).symm) ?_
  refine r_aload_n (pc := 0) h 0 rfl rfl dX6_listOf_0 ?_
  refine r_aload_n (pc := 1) h 0 rfl rfl dX6_listOf_1 ?_
  refine g_6_now (pc := 2) h mw_3_21 dX6_listOf_2 ?_
  refine r_iload_n (pc := 5) h 1 rfl rfl dX6_listOf_5 ?_
  refine r_cSi (pc := 6) (As := [.ref (G.2.1 + 136), .int u1]) (st := [.ref (G.2.1 + 134)]) h lk_RX6_130 (c_isReaderM x.2.1 G (mB σ 136 (σ.1 136) (σ.1 141) (σ.1 142) (σ.1 134)) 136 hc A (by rw [mB_sF]; exact hM) (by omega) u1) (by decide) rfl rfl (by first | decide | exact Nat.le_of_ble_eq_true rfl) (by decide) dX6_listOf_6 (fun r1 s2 q3 => ?_)
  rw [q3.1, q3.2]
  refine r_if_eq (pc := 9) (tgt := 16) h (by decide) dX6_listOf_9 (fun c9 => ?_) (fun c9 => ?_)
  · skip
    replace c9 := zB_0.mp c9
    refine r_iconst (pc := 16) (v := nI 1) h (by decide) dX6_listOf_16 ?_
    refine r_cVi (pc := 17) (As := [.int (nI 1)]) (st := []) h lk_RX6_95 (c_refused x.2.1 G σ 136 hc (σ.1 136) (σ.1 141) (σ.1 142) (σ.1 134) 1 (by omega)) rc_6 (by decide) rfl rfl (by first | decide | exact Nat.le_of_ble_eq_true rfl) (by decide) dX6_listOf_17 (fun r4 s5 q6 => ?_)
    rw [q6.1, q6.2]
    refine r_topi (b := nI 1) (by decide) ?_
    refine r_if_eq (pc := 20) (tgt := 25) h (by decide) dX6_listOf_20 (fun c20 => absurd c20 (by decide)) (fun _ => ?_)
    refine r_iconst (pc := 23) (v := nI 0) h (by decide) dX6_listOf_23 ?_
    exact hret _ _ (pm_no (c0 := 1) (cB_f c9) (by decide) rfl ((mB_m hc 0).trans pk_us) (mB_out hc) (inv_0 hi hM hA ((pk_un (by decide)).trans rfl) ((pk_un (by decide)).trans rfl))) 24 _ dX6_listOf_24
  · skip
    replace c9 := zB_n0.mp c9
    obtain ⟨v1, rfl, hv1⟩ := rdB_nI h4 c9
    refine r_iconst (pc := 12) (v := nI 0) h (by decide) dX6_listOf_12 ?_
    refine r_goto (pc := 13) (tgt := 17) h (by decide) dX6_listOf_13 ?_
    refine r_cVi (pc := 17) (As := [.int (nI 0)]) (st := []) h lk_RX6_95 (c_refused x.2.1 G σ 136 hc (σ.1 136) (σ.1 141) (σ.1 142) (σ.1 134) 0 (by omega)) rc_6 (by decide) rfl rfl (by first | decide | exact Nat.le_of_ble_eq_true rfl) (by decide) dX6_listOf_17 (fun r7 s8 q9 => ?_)
    rw [q9.1, q9.2]
    refine r_topi (b := nI 0) (by decide) ?_
    refine r_if_eq (pc := 20) (tgt := 25) h (by decide) dX6_listOf_20 (fun _ => ?_) (fun c20 => absurd c20 (by decide))
    refine r_aload_n (pc := 25) h 0 rfl rfl dX6_listOf_25 ?_
    refine g_6_now (pc := 26) h mw_3_21 dX6_listOf_26 ?_
    refine r_iload_n (pc := 29) h 1 rfl rfl dX6_listOf_29 ?_
    refine r_cSi (pc := 30) (As := [.ref (G.2.1 + 136), .int (nI v1)]) (st := []) h lk_RX6_73 (c_listOfReader x.2.1 G (mB σ 136 (σ.1 136) (σ.1 141) (σ.1 142) (upd (σ.1 134) 0 (nI 0))) 136 hc v1 (by omega)) (by decide) rfl rfl (by first | decide | exact Nat.le_of_ble_eq_true rfl) (by decide) dX6_listOf_30 (fun r10 s11 q12 => ?_)
    rw [q12.1, q12.2]
    refine r_topi (b := nI (aL A v1)) ((mB_s _).trans (hM.2.2.2.2 _ (by omega)).1) ?_
    exact hret _ _ (pm_ok (cB_t c9) ((mB_m hc 0).trans pk_us) (mB_out hc) (by rw [toN_nI (show v1 < 2 ^ 31 by omega)]) (inv_0 hi hM hA ((pk_un (by decide)).trans rfl) ((pk_un (by decide)).trans rfl))) 33 _ dX6_listOf_33

set_option maxRecDepth 100000 in
set_option maxHeartbeats 800000 in
theorem c_m_readSoFar (l : Launch) (G : Gl) (σ : Sg) (n : Nat) (tx : Nat → Nat) (A : Ab) (m : Nat) (H : Nat → Ab) (sv : Nat → Bool) (sl : Nat → Ab) (hi : InvM n tx A m H sv sl σ) (u1 : Int32) : Ci l yX6_readSoFar cX6_readSoFar 2 .int ({ frames := 2, cells := 0, slots := 0, locals := 46 } : Room) G [.ref (G.2.1 + 134), .int u1] σ (fun r σ2 => Pm [1] (cB (rdB A u1) 1) σ σ2 (InvM n tx A m H sv sl) (InvM n tx A m H sv sl) r (nI (aP A (toN u1)))) := by
  refine Ci_of (own := RX6) rfl (by decide +kernel) (lo := [(0, .ref (G.2.1 + 134)), (1, .int u1)]) rfl (Nat.le_of_ble_eq_true rfl) (fun r s hp => rfl) ?_
  intro x Q hxl h hret
  subst hxl
  have hc := rc136
  have hM := hi.2.1.1
  have hA := hi.2.1.2
  have h12 := hA.1
  have h4 := hA.2.1
  have hm2 := hi.1.2
  have hm6 := hi.2.2.1.2.1
  have hk14 := hi.2.2.1.1
  have hd := hi.2.2.1.2.2
  have ht := hi.1.1
  have hn9 := ht.1
  refine V.sg (show σ = mB σ 136 (σ.1 136) (σ.1 141) (σ.1 142) (σ.1 134) from (mB_self hc).symm) ?_
  refine r_aload_n (pc := 0) h 0 rfl rfl dX6_readSoFar_0 ?_
  refine r_aload_n (pc := 1) h 0 rfl rfl dX6_readSoFar_1 ?_
  refine g_6_now (pc := 2) h mw_3_21 dX6_readSoFar_2 ?_
  refine r_iload_n (pc := 5) h 1 rfl rfl dX6_readSoFar_5 ?_
  refine r_cSi (pc := 6) (As := [.ref (G.2.1 + 136), .int u1]) (st := [.ref (G.2.1 + 134)]) h lk_RX6_130 (c_isReaderM x.2.1 G (mB σ 136 (σ.1 136) (σ.1 141) (σ.1 142) (σ.1 134)) 136 hc A (by rw [mB_sF]; exact hM) (by omega) u1) (by decide) rfl rfl (by first | decide | exact Nat.le_of_ble_eq_true rfl) (by decide) dX6_readSoFar_6 (fun r1 s2 q3 => ?_)
  rw [q3.1, q3.2]
  refine r_if_eq (pc := 9) (tgt := 16) h (by decide) dX6_readSoFar_9 (fun c9 => ?_) (fun c9 => ?_)
  · skip
    replace c9 := zB_0.mp c9
    refine r_iconst (pc := 16) (v := nI 1) h (by decide) dX6_readSoFar_16 ?_
    refine r_cVi (pc := 17) (As := [.int (nI 1)]) (st := []) h lk_RX6_95 (c_refused x.2.1 G σ 136 hc (σ.1 136) (σ.1 141) (σ.1 142) (σ.1 134) 1 (by omega)) rc_6 (by decide) rfl rfl (by first | decide | exact Nat.le_of_ble_eq_true rfl) (by decide) dX6_readSoFar_17 (fun r4 s5 q6 => ?_)
    rw [q6.1, q6.2]
    refine r_topi (b := nI 1) (by decide) ?_
    refine r_if_eq (pc := 20) (tgt := 25) h (by decide) dX6_readSoFar_20 (fun c20 => absurd c20 (by decide)) (fun _ => ?_)
    refine r_iconst (pc := 23) (v := nI 0) h (by decide) dX6_readSoFar_23 ?_
    exact hret _ _ (pm_no (c0 := 1) (cB_f c9) (by decide) rfl ((mB_m hc 0).trans pk_us) (mB_out hc) (inv_0 hi hM hA ((pk_un (by decide)).trans rfl) ((pk_un (by decide)).trans rfl))) 24 _ dX6_readSoFar_24
  · skip
    replace c9 := zB_n0.mp c9
    obtain ⟨v1, rfl, hv1⟩ := rdB_nI h4 c9
    refine r_iconst (pc := 12) (v := nI 0) h (by decide) dX6_readSoFar_12 ?_
    refine r_goto (pc := 13) (tgt := 17) h (by decide) dX6_readSoFar_13 ?_
    refine r_cVi (pc := 17) (As := [.int (nI 0)]) (st := []) h lk_RX6_95 (c_refused x.2.1 G σ 136 hc (σ.1 136) (σ.1 141) (σ.1 142) (σ.1 134) 0 (by omega)) rc_6 (by decide) rfl rfl (by first | decide | exact Nat.le_of_ble_eq_true rfl) (by decide) dX6_readSoFar_17 (fun r7 s8 q9 => ?_)
    rw [q9.1, q9.2]
    refine r_topi (b := nI 0) (by decide) ?_
    refine r_if_eq (pc := 20) (tgt := 25) h (by decide) dX6_readSoFar_20 (fun _ => ?_) (fun c20 => absurd c20 (by decide))
    refine r_aload_n (pc := 25) h 0 rfl rfl dX6_readSoFar_25 ?_
    refine g_6_now (pc := 26) h mw_3_21 dX6_readSoFar_26 ?_
    refine r_iload_n (pc := 29) h 1 rfl rfl dX6_readSoFar_29 ?_
    refine r_cSi (pc := 30) (As := [.ref (G.2.1 + 136), .int (nI v1)]) (st := []) h lk_RX6_77 (c_readBy x.2.1 G (mB σ 136 (σ.1 136) (σ.1 141) (σ.1 142) (upd (σ.1 134) 0 (nI 0))) 136 hc v1 (by omega)) (by decide) rfl rfl (by first | decide | exact Nat.le_of_ble_eq_true rfl) (by decide) dX6_readSoFar_30 (fun r10 s11 q12 => ?_)
    rw [q12.1, q12.2]
    refine r_topi (b := nI (aP A v1)) ((mB_s _).trans (hM.2.2.2.2 _ (by omega)).2) ?_
    exact hret _ _ (pm_ok (cB_t c9) ((mB_m hc 0).trans pk_us) (mB_out hc) (by rw [toN_nI (show v1 < 2 ^ 31 by omega)]) (inv_0 hi hM hA ((pk_un (by decide)).trans rfl) ((pk_un (by decide)).trans rfl))) 33 _ dX6_readSoFar_33

set_option maxRecDepth 100000 in
set_option maxHeartbeats 800000 in
theorem c_m_nextOf (l : Launch) (G : Gl) (σ : Sg) (n : Nat) (tx : Nat → Nat) (A : Ab) (m : Nat) (H : Nat → Ab) (sv : Nat → Bool) (sl : Nat → Ab) (hi : InvM n tx A m H sv sl σ) (u1 : Int32) : Ci l yX6_nextOf cX6_nextOf 2 .int ({ frames := 3, cells := 0, slots := 0, locals := 72 } : Room) G [.ref (G.2.1 + 134), .int u1] σ (fun r σ2 => Pm [1] (cB (rdB A u1) 1) σ σ2 (InvM n tx A m H sv sl) (InvM n tx A m H sv sl) r (oI (nextO A (toN u1)))) := by
  refine Ci_of (own := RX6) rfl (by decide +kernel) (lo := [(0, .ref (G.2.1 + 134)), (1, .int u1)]) rfl (Nat.le_of_ble_eq_true rfl) (fun r s hp => rfl) ?_
  intro x Q hxl h hret
  subst hxl
  have hc := rc136
  have hM := hi.2.1.1
  have hA := hi.2.1.2
  have h12 := hA.1
  have h4 := hA.2.1
  have hm2 := hi.1.2
  have hm6 := hi.2.2.1.2.1
  have hk14 := hi.2.2.1.1
  have hd := hi.2.2.1.2.2
  have ht := hi.1.1
  have hn9 := ht.1
  refine V.sg (show σ = mB σ 136 (σ.1 136) (σ.1 141) (σ.1 142) (σ.1 134) from (mB_self hc).symm) ?_
  refine r_aload_n (pc := 0) h 0 rfl rfl dX6_nextOf_0 ?_
  refine r_aload_n (pc := 1) h 0 rfl rfl dX6_nextOf_1 ?_
  refine g_6_now (pc := 2) h mw_3_21 dX6_nextOf_2 ?_
  refine r_iload_n (pc := 5) h 1 rfl rfl dX6_nextOf_5 ?_
  refine r_cSi (pc := 6) (As := [.ref (G.2.1 + 136), .int u1]) (st := [.ref (G.2.1 + 134)]) h lk_RX6_130 (c_isReaderM x.2.1 G (mB σ 136 (σ.1 136) (σ.1 141) (σ.1 142) (σ.1 134)) 136 hc A (by rw [mB_sF]; exact hM) (by omega) u1) (by decide) rfl rfl (by first | decide | exact Nat.le_of_ble_eq_true rfl) (by decide) dX6_nextOf_6 (fun r1 s2 q3 => ?_)
  rw [q3.1, q3.2]
  refine r_if_eq (pc := 9) (tgt := 16) h (by decide) dX6_nextOf_9 (fun c9 => ?_) (fun c9 => ?_)
  · skip
    replace c9 := zB_0.mp c9
    refine r_iconst (pc := 16) (v := nI 1) h (by decide) dX6_nextOf_16 ?_
    refine r_cVi (pc := 17) (As := [.int (nI 1)]) (st := []) h lk_RX6_95 (c_refused x.2.1 G σ 136 hc (σ.1 136) (σ.1 141) (σ.1 142) (σ.1 134) 1 (by omega)) rc_6 (by decide) rfl rfl (by first | decide | exact Nat.le_of_ble_eq_true rfl) (by decide) dX6_nextOf_17 (fun r4 s5 q6 => ?_)
    rw [q6.1, q6.2]
    refine r_topi (b := nI 1) (by decide) ?_
    refine r_if_eq (pc := 20) (tgt := 25) h (by decide) dX6_nextOf_20 (fun c20 => absurd c20 (by decide)) (fun _ => ?_)
    refine r_iconst (pc := 23) (v := nI 0) h (by decide) dX6_nextOf_23 ?_
    exact hret _ _ (pm_no (c0 := 1) (cB_f c9) (by decide) rfl ((mB_m hc 0).trans pk_us) (mB_out hc) (inv_0 hi hM hA ((pk_un (by decide)).trans rfl) ((pk_un (by decide)).trans rfl))) 24 _ dX6_nextOf_24
  · skip
    replace c9 := zB_n0.mp c9
    obtain ⟨v1, rfl, hv1⟩ := rdB_nI h4 c9
    refine r_iconst (pc := 12) (v := nI 0) h (by decide) dX6_nextOf_12 ?_
    refine r_goto (pc := 13) (tgt := 17) h (by decide) dX6_nextOf_13 ?_
    refine r_cVi (pc := 17) (As := [.int (nI 0)]) (st := []) h lk_RX6_95 (c_refused x.2.1 G σ 136 hc (σ.1 136) (σ.1 141) (σ.1 142) (σ.1 134) 0 (by omega)) rc_6 (by decide) rfl rfl (by first | decide | exact Nat.le_of_ble_eq_true rfl) (by decide) dX6_nextOf_17 (fun r7 s8 q9 => ?_)
    rw [q9.1, q9.2]
    refine r_topi (b := nI 0) (by decide) ?_
    refine r_if_eq (pc := 20) (tgt := 25) h (by decide) dX6_nextOf_20 (fun _ => ?_) (fun c20 => absurd c20 (by decide))
    refine r_aload_n (pc := 25) h 0 rfl rfl dX6_nextOf_25 ?_
    refine r_aload_n (pc := 26) h 0 rfl rfl dX6_nextOf_26 ?_
    refine g_6_now (pc := 27) h mw_3_21 dX6_nextOf_27 ?_
    refine r_cVv (pc := 30) (As := [.ref (G.2.1 + 136)]) (st := []) h lk_RX6_127 (c_finds x.2.1 G σ 136 hc (σ.1 136) (σ.1 141) (σ.1 142) (upd (σ.1 134) 0 (nI 0)) A hA hM) rc_6 (by decide) rfl rfl (by first | decide | exact Nat.le_of_ble_eq_true rfl) (by decide) dX6_nextOf_30 (fun s11 q12 => ?_)
    obtain ⟨h2, x2, e8, hH⟩ := q12
    subst e8
    refine r_aload_n (pc := 33) h 0 rfl rfl dX6_nextOf_33 ?_
    refine r_aload_n (pc := 34) h 0 rfl rfl dX6_nextOf_34 ?_
    refine g_6_now (pc := 35) h mw_3_21 dX6_nextOf_35 ?_
    refine r_iload_n (pc := 38) h 1 rfl rfl dX6_nextOf_38 ?_
    refine r_cVi (pc := 39) (As := [.ref (G.2.1 + 136), .int (nI v1)]) (st := []) h lk_RX6_84 (c_next x.2.1 G (mB σ 136 (σ.1 136) h2 x2 (upd (σ.1 134) 0 (nI 0))) 136 hc A (by rw [mB_sF]; exact hM) hA v1 (by omega) (fun L hL v hv => (mB_h hc _).trans (hH L hL v hv))) rc_6 (by decide) rfl rfl (by first | decide | exact Nat.le_of_ble_eq_true rfl) (by decide) dX6_nextOf_39 (fun r13 s14 q15 => ?_)
    rw [q15.1, q15.2]
    exact hret _ _ (pm_ok (cB_t c9) ((mB_m hc 0).trans pk_us) (mB_out hc) (by rw [toN_nI (show v1 < 2 ^ 31 by omega)]) (inv_0 hi hM hA ((pk_un (by decide)).trans rfl) ((pk_un (by decide)).trans rfl))) 42 _ dX6_nextOf_42

set_option maxRecDepth 100000 in
set_option maxHeartbeats 800000 in
theorem c_m_skipsTo (l : Launch) (G : Gl) (σ : Sg) (n : Nat) (tx : Nat → Nat) (A : Ab) (m : Nat) (H : Nat → Ab) (sv : Nat → Bool) (sl : Nat → Ab) (hi : InvM n tx A m H sv sl σ) (u1 : Int32) (u2 : Int32) : Ci l yX6_skipsTo cX6_skipsTo 6 .int ({ frames := 3, cells := 0, slots := 0, locals := 72 } : Room) G [.ref (G.2.1 + 134), .int u1, .int u2] σ (fun r σ2 => Pm [1, 2] (seqC (cB (rdB A u1) 1) (cB (inB (nI 0) (nI 999) u2) 2)) σ σ2 (InvM n tx A m H sv sl) (InvM n tx A m H sv sl) r (skU A (toN u1) (toN u2))) := by
  refine Ci_of (own := RX6) rfl (by decide +kernel) (lo := [(0, .ref (G.2.1 + 134)), (1, .int u1), (2, .int u2)]) rfl (Nat.le_of_ble_eq_true rfl) (fun r s hp => rfl) ?_
  intro x Q hxl h hret
  subst hxl
  have hc := rc136
  have hM := hi.2.1.1
  have hA := hi.2.1.2
  have h12 := hA.1
  have h4 := hA.2.1
  have hm2 := hi.1.2
  have hm6 := hi.2.2.1.2.1
  have hk14 := hi.2.2.1.1
  have hd := hi.2.2.1.2.2
  have ht := hi.1.1
  have hn9 := ht.1
  refine V.sg (show σ = mB σ 136 (σ.1 136) (σ.1 141) (σ.1 142) (σ.1 134) from (mB_self hc).symm) ?_
  refine r_aload_n (pc := 0) h 0 rfl rfl dX6_skipsTo_0 ?_
  refine r_aload_n (pc := 1) h 0 rfl rfl dX6_skipsTo_1 ?_
  refine g_6_now (pc := 2) h mw_3_21 dX6_skipsTo_2 ?_
  refine r_iload_n (pc := 5) h 1 rfl rfl dX6_skipsTo_5 ?_
  refine r_cSi (pc := 6) (As := [.ref (G.2.1 + 136), .int u1]) (st := [.ref (G.2.1 + 134)]) h lk_RX6_130 (c_isReaderM x.2.1 G (mB σ 136 (σ.1 136) (σ.1 141) (σ.1 142) (σ.1 134)) 136 hc A (by rw [mB_sF]; exact hM) (by omega) u1) (by decide) rfl rfl (by first | decide | exact Nat.le_of_ble_eq_true rfl) (by decide) dX6_skipsTo_6 (fun r1 s2 q3 => ?_)
  rw [q3.1, q3.2]
  refine r_if_ne (pc := 9) (tgt := 16) h (by decide) dX6_skipsTo_9 (fun c9 => ?_) (fun c9 => ?_)
  · skip
    replace c9 := zB_n0.mp c9
    obtain ⟨v1, rfl, hv1⟩ := rdB_nI h4 c9
    refine r_iload_n (pc := 16) h 2 rfl rfl dX6_skipsTo_16 ?_
    refine r_i2l (pc := 17) (v := u2.toInt64) h rfl dX6_skipsTo_17 ?_
    refine r_lconst (pc := 18) (v := 0) h (by decide) dX6_skipsTo_18 ?_
    refine r_ldc2 (pc := 19) (v := 999) h mw_22_6 dX6_skipsTo_19 ?_
    refine r_cSi (pc := 22) (As := [.long u2.toInt64, .long 0, .long 999]) (st := [.ref (G.2.1 + 134)]) h lk_RX6_43 (c_in x.2.1 G (mB σ 136 (σ.1 136) (σ.1 141) (σ.1 142) (σ.1 134)) u2 (nI 0) (nI 999)) (by decide) rfl rfl (by first | decide | exact Nat.le_of_ble_eq_true rfl) (by decide) dX6_skipsTo_22 (fun r4 s5 q6 => ?_)
    rw [q6.1, q6.2]
    refine r_if_eq (pc := 25) (tgt := 32) h (by decide) dX6_skipsTo_25 (fun c25 => ?_) (fun c25 => ?_)
    · skip
      replace c25 := zB_0.mp c25
      refine r_iconst (pc := 32) (v := nI 2) h (by decide) dX6_skipsTo_32 ?_
      refine r_cVi (pc := 33) (As := [.int (nI 2)]) (st := []) h lk_RX6_95 (c_refused x.2.1 G σ 136 hc (σ.1 136) (σ.1 141) (σ.1 142) (σ.1 134) 2 (by omega)) rc_6 (by decide) rfl rfl (by first | decide | exact Nat.le_of_ble_eq_true rfl) (by decide) dX6_skipsTo_33 (fun r7 s8 q9 => ?_)
      rw [q9.1, q9.2]
      refine r_topi (b := nI 1) (by decide) ?_
      refine r_if_eq (pc := 36) (tgt := 41) h (by decide) dX6_skipsTo_36 (fun c36 => absurd c36 (by decide)) (fun _ => ?_)
      refine r_iconst (pc := 39) (v := nI 0) h (by decide) dX6_skipsTo_39 ?_
      exact hret _ _ (pm_no (c0 := 2) (seq_2 (cB_t c9) (cB_f c25)) (by decide) rfl ((mB_m hc 0).trans pk_us) (mB_out hc) (inv_0 hi hM hA ((pk_un (by decide)).trans rfl) ((pk_un (by decide)).trans rfl))) 40 _ dX6_skipsTo_40
    · skip
      replace c25 := zB_n0.mp c25
      obtain ⟨v2, rfl, lv2, hv2⟩ := inB_nI (by omega) (by omega) c25
      refine r_iconst (pc := 28) (v := nI 0) h (by decide) dX6_skipsTo_28 ?_
      refine r_goto (pc := 29) (tgt := 33) h (by decide) dX6_skipsTo_29 ?_
      refine r_cVi (pc := 33) (As := [.int (nI 0)]) (st := []) h lk_RX6_95 (c_refused x.2.1 G σ 136 hc (σ.1 136) (σ.1 141) (σ.1 142) (σ.1 134) 0 (by omega)) rc_6 (by decide) rfl rfl (by first | decide | exact Nat.le_of_ble_eq_true rfl) (by decide) dX6_skipsTo_33 (fun r10 s11 q12 => ?_)
      rw [q12.1, q12.2]
      refine r_topi (b := nI 0) (by decide) ?_
      refine r_if_eq (pc := 36) (tgt := 41) h (by decide) dX6_skipsTo_36 (fun _ => ?_) (fun c36 => absurd c36 (by decide))
      refine r_aload_n (pc := 41) h 0 rfl rfl dX6_skipsTo_41 ?_
      refine r_aload_n (pc := 42) h 0 rfl rfl dX6_skipsTo_42 ?_
      refine g_6_now (pc := 43) h mw_3_21 dX6_skipsTo_43 ?_
      refine r_cVv (pc := 46) (As := [.ref (G.2.1 + 136)]) (st := []) h lk_RX6_127 (c_finds x.2.1 G σ 136 hc (σ.1 136) (σ.1 141) (σ.1 142) (upd (σ.1 134) 0 (nI 0)) A hA hM) rc_6 (by decide) rfl rfl (by first | decide | exact Nat.le_of_ble_eq_true rfl) (by decide) dX6_skipsTo_46 (fun s14 q15 => ?_)
      obtain ⟨h2, x2, e8, hH⟩ := q15
      subst e8
      refine r_aload_n (pc := 49) h 0 rfl rfl dX6_skipsTo_49 ?_
      refine g_6_now (pc := 50) h mw_3_21 dX6_skipsTo_50 ?_
      refine r_iload_n (pc := 53) h 1 rfl rfl dX6_skipsTo_53 ?_
      refine r_cSi (pc := 54) (As := [.ref (G.2.1 + 136), .int (nI v1)]) (st := []) h lk_RX6_73 (c_listOfReader x.2.1 G (mB σ 136 (σ.1 136) h2 x2 (upd (σ.1 134) 0 (nI 0))) 136 hc v1 (by omega)) (by decide) rfl rfl (by first | decide | exact Nat.le_of_ble_eq_true rfl) (by decide) dX6_skipsTo_54 (fun r16 s17 q18 => ?_)
      rw [q18.1, q18.2]
      refine r_topi (b := nI (aL A v1)) ((mB_s _).trans (hM.2.2.2.2 _ (by omega)).1) ?_
      have hq := hA.2.2.2 v1 hv1
      have hcl := cS_le (mem (aU A) (aL A v1)) 1000
      have hcv := cS_le (mem (aU A) (aL A v1)) v2
      refine r_istore_n (pc := 57) (lo2 := [(3, .int (nI (aL A v1))), (0, .ref (G.2.1 + 134)), (1, .int (nI v1)), (2, .int (nI v2))]) h rfl (by decide) rfl dX6_skipsTo_57 ?_
      refine r_iload_n (pc := 58) h 3 rfl rfl dX6_skipsTo_58 ?_
      refine r_if_ne (pc := 59) (tgt := 66) h (by decide) dX6_skipsTo_59 (fun c59 => ?_) (fun c59 => ?_)
      · skip
        rw [zI0, nI_eq (by omega) (by omega)] at c59
        refine r_aload_n (pc := 66) h 1 rfl rfl dX6_skipsTo_66 ?_
        refine r_iload_n (pc := 67) h 0 rfl rfl dX6_skipsTo_67 ?_
        refine r_iload_n (pc := 68) h 3 rfl rfl dX6_skipsTo_68 ?_
        refine r_iconst (pc := 69) (v := nI 1) h (by decide) dX6_skipsTo_69 ?_
        refine r_isub (pc := 70) (v := nI (v2 - 1)) h (pk_sub (by omega)) dX6_skipsTo_70 ?_
        refine r_cVi (pc := 71) (As := [.int (nI (aL A v1)), .int (nI (v2 - 1))]) (st := []) h lk_RX6_87 (c_countM x.2.1 G (mB σ 136 (σ.1 136) h2 x2 (upd (σ.1 134) 0 (nI 0))) (aL A v1) (v2 - 1) (by omega) (by omega) (mem (aU A) (aL A v1)) (fun v hv => (mB_h hc _).trans (hH _ (by omega) v hv))) rc_6 (by decide) rfl rfl (by first | decide | exact Nat.le_of_ble_eq_true rfl) (by decide) dX6_skipsTo_71 (fun r19 s20 q21 => ?_)
        rw [q21.1, q21.2]
        refine r_topi (b := nI (cS (mem (aU A) (aL A v1)) v2)) (congrArg nI (by rw [show v2 - 1 + 1 = v2 by omega])) ?_
        refine r_istore (pc := 74) (lo2 := [(4, .int (nI (cS (mem (aU A) (aL A v1)) v2))), (3, .int (nI (aL A v1))), (0, .ref (G.2.1 + 134)), (1, .int (nI v1)), (2, .int (nI v2))]) h (by decide) rfl dX6_skipsTo_74 ?_
        refine r_iload (pc := 76) h 0 rfl dX6_skipsTo_76 ?_
        refine r_aload_n (pc := 78) h 2 rfl rfl dX6_skipsTo_78 ?_
        refine g_6_now (pc := 79) h mw_3_21 dX6_skipsTo_79 ?_
        refine r_iload_n (pc := 82) h 3 rfl rfl dX6_skipsTo_82 ?_
        refine r_cSi (pc := 83) (As := [.ref (G.2.1 + 136), .int (nI v1)]) (st := [.int (nI (cS (mem (aU A) (aL A v1)) v2))]) h lk_RX6_77 (c_readBy x.2.1 G (mB σ 136 (σ.1 136) h2 x2 (upd (σ.1 134) 0 (nI 0))) 136 hc v1 (by omega)) (by decide) rfl rfl (by first | decide | exact Nat.le_of_ble_eq_true rfl) (by decide) dX6_skipsTo_83 (fun r22 s23 q24 => ?_)
        rw [q24.1, q24.2]
        refine r_topi (b := nI (aP A v1)) ((mB_s _).trans (hM.2.2.2.2 _ (by omega)).2) ?_
        refine r_icmp_le (pc := 86) (tgt := 94) h (by decide) dX6_skipsTo_86 (fun c86 => ?_) (fun c86 => ?_)
        · skip
          rw [nI_leI (by omega) (by omega)] at c86
          refine r_aload_n (pc := 94) h 2 rfl rfl dX6_skipsTo_94 ?_
          refine g_6_now (pc := 95) h mw_3_21 dX6_skipsTo_95 ?_
          refine r_iload_n (pc := 98) h 3 rfl rfl dX6_skipsTo_98 ?_
          refine r_cSi (pc := 99) (As := [.ref (G.2.1 + 136), .int (nI v1)]) (st := []) h lk_RX6_77 (c_readBy x.2.1 G (mB σ 136 (σ.1 136) h2 x2 (upd (σ.1 134) 0 (nI 0))) 136 hc v1 (by omega)) (by decide) rfl rfl (by first | decide | exact Nat.le_of_ble_eq_true rfl) (by decide) dX6_skipsTo_99 (fun r25 s26 q27 => ?_)
          rw [q27.1, q27.2]
          refine r_topi (b := nI (aP A v1)) ((mB_s _).trans (hM.2.2.2.2 _ (by omega)).2) ?_
          refine r_topi (b := nI (max (cS (mem (aU A) (aL A v1)) v2) (aP A v1))) (congrArg nI (by omega)) ?_
          refine r_istore (pc := 102) (lo2 := [(5, .int (nI (max (cS (mem (aU A) (aL A v1)) v2) (aP A v1)))), (4, .int (nI (cS (mem (aU A) (aL A v1)) v2))), (3, .int (nI (aL A v1))), (0, .ref (G.2.1 + 134)), (1, .int (nI v1)), (2, .int (nI v2))]) h (by decide) rfl dX6_skipsTo_102 ?_
          refine r_aload_n (pc := 104) h 3 rfl rfl dX6_skipsTo_104 ?_
          refine r_iload_n (pc := 105) h 2 rfl rfl dX6_skipsTo_105 ?_
          refine r_iload (pc := 106) h 0 rfl dX6_skipsTo_106 ?_
          refine r_cVi (pc := 108) (As := [.int (nI (aL A v1)), .int (nI (max (cS (mem (aU A) (aL A v1)) v2) (aP A v1)))]) (st := []) h lk_RX6_80 (c_at x.2.1 G (mB σ 136 (σ.1 136) h2 x2 (upd (σ.1 134) 0 (nI 0))) (aL A v1) (by omega) (max (cS (mem (aU A) (aL A v1)) v2) (aP A v1)) (by omega) (mem (aU A) (aL A v1)) (fun v hv => (mB_h hc _).trans (hH _ (by omega) v hv))) rc_6 (by decide) rfl rfl (by first | decide | exact Nat.le_of_ble_eq_true rfl) (by decide) dX6_skipsTo_108 (fun r28 s29 q30 => ?_)
          rw [q30.1, q30.2]
          refine r_iconst (pc := 111) (v := (-1)) h (by decide) dX6_skipsTo_111 ?_
          refine r_icmp_ne (pc := 112) (tgt := 119) h (by decide) dX6_skipsTo_112 (fun c112 => ?_) (fun c112 => ?_)
          · skip
            rw [oI_ath] at c112
            refine r_iload (pc := 119) h 0 rfl dX6_skipsTo_119 ?_
            refine r_aload_n (pc := 121) h 3 rfl rfl dX6_skipsTo_121 ?_
            refine g_6_now (pc := 122) h mw_3_21 dX6_skipsTo_122 ?_
            refine r_iload_n (pc := 125) h 4 rfl rfl dX6_skipsTo_125 ?_
            refine r_cSi (pc := 126) (As := [.ref (G.2.1 + 136), .int (nI v1)]) (st := [.int (nI (max (cS (mem (aU A) (aL A v1)) v2) (aP A v1)))]) h lk_RX6_77 (c_readBy x.2.1 G (mB σ 136 (σ.1 136) h2 x2 (upd (σ.1 134) 0 (nI 0))) 136 hc v1 (by omega)) (by decide) rfl rfl (by first | decide | exact Nat.le_of_ble_eq_true rfl) (by decide) dX6_skipsTo_126 (fun r31 s32 q33 => ?_)
            rw [q33.1, q33.2]
            refine r_topi (b := nI (aP A v1)) ((mB_s _).trans (hM.2.2.2.2 _ (by omega)).2) ?_
            refine r_isub (pc := 129) (v := nI ((max (cS (mem (aU A) (aL A v1)) v2) (aP A v1)) - (aP A v1))) h (pk_sub (by omega)) dX6_skipsTo_129 ?_
            exact hret _ _ (pm_ok (seq_0 (cB_t c9) (cB_t c25)) ((mB_m hc 0).trans pk_us) (mB_out hc) (by rw [toN_nI (show v1 < 2 ^ 31 by omega), toN_nI (show v2 < 2 ^ 31 by omega), skU_s c112]) (inv_0 hi hM hA ((pk_un (by decide)).trans rfl) ((pk_un (by decide)).trans rfl))) 130 _ dX6_skipsTo_130
          · skip
            rw [oI_ath] at c112
            refine r_iconst (pc := 115) (v := (-1)) h (by decide) dX6_skipsTo_115 ?_
            refine r_goto (pc := 116) (tgt := 130) h (by decide) dX6_skipsTo_116 ?_
            exact hret _ _ (pm_ok (seq_0 (cB_t c9) (cB_t c25)) ((mB_m hc 0).trans pk_us) (mB_out hc) (by rw [toN_nI (show v1 < 2 ^ 31 by omega), toN_nI (show v2 < 2 ^ 31 by omega), skU_n (by exact c112)]) (inv_0 hi hM hA ((pk_un (by decide)).trans rfl) ((pk_un (by decide)).trans rfl))) 130 _ dX6_skipsTo_130
        · skip
          rw [nI_leI (by omega) (by omega)] at c86
          refine r_iload (pc := 89) h 0 rfl dX6_skipsTo_89 ?_
          refine r_goto (pc := 91) (tgt := 102) h (by decide) dX6_skipsTo_91 ?_
          refine r_topi (b := nI (max (cS (mem (aU A) (aL A v1)) v2) (aP A v1))) (congrArg nI (by omega)) ?_
          refine r_istore (pc := 102) (lo2 := [(5, .int (nI (max (cS (mem (aU A) (aL A v1)) v2) (aP A v1)))), (4, .int (nI (cS (mem (aU A) (aL A v1)) v2))), (3, .int (nI (aL A v1))), (0, .ref (G.2.1 + 134)), (1, .int (nI v1)), (2, .int (nI v2))]) h (by decide) rfl dX6_skipsTo_102 ?_
          refine r_aload_n (pc := 104) h 3 rfl rfl dX6_skipsTo_104 ?_
          refine r_iload_n (pc := 105) h 2 rfl rfl dX6_skipsTo_105 ?_
          refine r_iload (pc := 106) h 0 rfl dX6_skipsTo_106 ?_
          refine r_cVi (pc := 108) (As := [.int (nI (aL A v1)), .int (nI (max (cS (mem (aU A) (aL A v1)) v2) (aP A v1)))]) (st := []) h lk_RX6_80 (c_at x.2.1 G (mB σ 136 (σ.1 136) h2 x2 (upd (σ.1 134) 0 (nI 0))) (aL A v1) (by omega) (max (cS (mem (aU A) (aL A v1)) v2) (aP A v1)) (by omega) (mem (aU A) (aL A v1)) (fun v hv => (mB_h hc _).trans (hH _ (by omega) v hv))) rc_6 (by decide) rfl rfl (by first | decide | exact Nat.le_of_ble_eq_true rfl) (by decide) dX6_skipsTo_108 (fun r34 s35 q36 => ?_)
          rw [q36.1, q36.2]
          refine r_iconst (pc := 111) (v := (-1)) h (by decide) dX6_skipsTo_111 ?_
          refine r_icmp_ne (pc := 112) (tgt := 119) h (by decide) dX6_skipsTo_112 (fun c112 => ?_) (fun c112 => ?_)
          · skip
            rw [oI_ath] at c112
            refine r_iload (pc := 119) h 0 rfl dX6_skipsTo_119 ?_
            refine r_aload_n (pc := 121) h 3 rfl rfl dX6_skipsTo_121 ?_
            refine g_6_now (pc := 122) h mw_3_21 dX6_skipsTo_122 ?_
            refine r_iload_n (pc := 125) h 4 rfl rfl dX6_skipsTo_125 ?_
            refine r_cSi (pc := 126) (As := [.ref (G.2.1 + 136), .int (nI v1)]) (st := [.int (nI (max (cS (mem (aU A) (aL A v1)) v2) (aP A v1)))]) h lk_RX6_77 (c_readBy x.2.1 G (mB σ 136 (σ.1 136) h2 x2 (upd (σ.1 134) 0 (nI 0))) 136 hc v1 (by omega)) (by decide) rfl rfl (by first | decide | exact Nat.le_of_ble_eq_true rfl) (by decide) dX6_skipsTo_126 (fun r37 s38 q39 => ?_)
            rw [q39.1, q39.2]
            refine r_topi (b := nI (aP A v1)) ((mB_s _).trans (hM.2.2.2.2 _ (by omega)).2) ?_
            refine r_isub (pc := 129) (v := nI ((max (cS (mem (aU A) (aL A v1)) v2) (aP A v1)) - (aP A v1))) h (pk_sub (by omega)) dX6_skipsTo_129 ?_
            exact hret _ _ (pm_ok (seq_0 (cB_t c9) (cB_t c25)) ((mB_m hc 0).trans pk_us) (mB_out hc) (by rw [toN_nI (show v1 < 2 ^ 31 by omega), toN_nI (show v2 < 2 ^ 31 by omega), skU_s c112]) (inv_0 hi hM hA ((pk_un (by decide)).trans rfl) ((pk_un (by decide)).trans rfl))) 130 _ dX6_skipsTo_130
          · skip
            rw [oI_ath] at c112
            refine r_iconst (pc := 115) (v := (-1)) h (by decide) dX6_skipsTo_115 ?_
            refine r_goto (pc := 116) (tgt := 130) h (by decide) dX6_skipsTo_116 ?_
            exact hret _ _ (pm_ok (seq_0 (cB_t c9) (cB_t c25)) ((mB_m hc 0).trans pk_us) (mB_out hc) (by rw [toN_nI (show v1 < 2 ^ 31 by omega), toN_nI (show v2 < 2 ^ 31 by omega), skU_n (by exact c112)]) (inv_0 hi hM hA ((pk_un (by decide)).trans rfl) ((pk_un (by decide)).trans rfl))) 130 _ dX6_skipsTo_130
      · skip
        rw [zI0, nI_eq (by omega) (by omega)] at c59
        refine r_iconst (pc := 62) (v := nI 0) h (by decide) dX6_skipsTo_62 ?_
        refine r_goto (pc := 63) (tgt := 74) h (by decide) dX6_skipsTo_63 ?_
        refine r_topi (b := nI (cS (mem (aU A) (aL A v1)) v2)) (by rw [c59]; rfl) ?_
        refine r_istore (pc := 74) (lo2 := [(4, .int (nI (cS (mem (aU A) (aL A v1)) v2))), (3, .int (nI (aL A v1))), (0, .ref (G.2.1 + 134)), (1, .int (nI v1)), (2, .int (nI v2))]) h (by decide) rfl dX6_skipsTo_74 ?_
        refine r_iload (pc := 76) h 0 rfl dX6_skipsTo_76 ?_
        refine r_aload_n (pc := 78) h 2 rfl rfl dX6_skipsTo_78 ?_
        refine g_6_now (pc := 79) h mw_3_21 dX6_skipsTo_79 ?_
        refine r_iload_n (pc := 82) h 3 rfl rfl dX6_skipsTo_82 ?_
        refine r_cSi (pc := 83) (As := [.ref (G.2.1 + 136), .int (nI v1)]) (st := [.int (nI (cS (mem (aU A) (aL A v1)) v2))]) h lk_RX6_77 (c_readBy x.2.1 G (mB σ 136 (σ.1 136) h2 x2 (upd (σ.1 134) 0 (nI 0))) 136 hc v1 (by omega)) (by decide) rfl rfl (by first | decide | exact Nat.le_of_ble_eq_true rfl) (by decide) dX6_skipsTo_83 (fun r40 s41 q42 => ?_)
        rw [q42.1, q42.2]
        refine r_topi (b := nI (aP A v1)) ((mB_s _).trans (hM.2.2.2.2 _ (by omega)).2) ?_
        refine r_icmp_le (pc := 86) (tgt := 94) h (by decide) dX6_skipsTo_86 (fun c86 => ?_) (fun c86 => ?_)
        · skip
          rw [nI_leI (by omega) (by omega)] at c86
          refine r_aload_n (pc := 94) h 2 rfl rfl dX6_skipsTo_94 ?_
          refine g_6_now (pc := 95) h mw_3_21 dX6_skipsTo_95 ?_
          refine r_iload_n (pc := 98) h 3 rfl rfl dX6_skipsTo_98 ?_
          refine r_cSi (pc := 99) (As := [.ref (G.2.1 + 136), .int (nI v1)]) (st := []) h lk_RX6_77 (c_readBy x.2.1 G (mB σ 136 (σ.1 136) h2 x2 (upd (σ.1 134) 0 (nI 0))) 136 hc v1 (by omega)) (by decide) rfl rfl (by first | decide | exact Nat.le_of_ble_eq_true rfl) (by decide) dX6_skipsTo_99 (fun r43 s44 q45 => ?_)
          rw [q45.1, q45.2]
          refine r_topi (b := nI (aP A v1)) ((mB_s _).trans (hM.2.2.2.2 _ (by omega)).2) ?_
          refine r_topi (b := nI (max (cS (mem (aU A) (aL A v1)) v2) (aP A v1))) (congrArg nI (by omega)) ?_
          refine r_istore (pc := 102) (lo2 := [(5, .int (nI (max (cS (mem (aU A) (aL A v1)) v2) (aP A v1)))), (4, .int (nI (cS (mem (aU A) (aL A v1)) v2))), (3, .int (nI (aL A v1))), (0, .ref (G.2.1 + 134)), (1, .int (nI v1)), (2, .int (nI v2))]) h (by decide) rfl dX6_skipsTo_102 ?_
          refine r_aload_n (pc := 104) h 3 rfl rfl dX6_skipsTo_104 ?_
          refine r_iload_n (pc := 105) h 2 rfl rfl dX6_skipsTo_105 ?_
          refine r_iload (pc := 106) h 0 rfl dX6_skipsTo_106 ?_
          refine r_cVi (pc := 108) (As := [.int (nI (aL A v1)), .int (nI (max (cS (mem (aU A) (aL A v1)) v2) (aP A v1)))]) (st := []) h lk_RX6_80 (c_at x.2.1 G (mB σ 136 (σ.1 136) h2 x2 (upd (σ.1 134) 0 (nI 0))) (aL A v1) (by omega) (max (cS (mem (aU A) (aL A v1)) v2) (aP A v1)) (by omega) (mem (aU A) (aL A v1)) (fun v hv => (mB_h hc _).trans (hH _ (by omega) v hv))) rc_6 (by decide) rfl rfl (by first | decide | exact Nat.le_of_ble_eq_true rfl) (by decide) dX6_skipsTo_108 (fun r46 s47 q48 => ?_)
          rw [q48.1, q48.2]
          refine r_iconst (pc := 111) (v := (-1)) h (by decide) dX6_skipsTo_111 ?_
          refine r_icmp_ne (pc := 112) (tgt := 119) h (by decide) dX6_skipsTo_112 (fun c112 => ?_) (fun c112 => ?_)
          · skip
            rw [oI_ath] at c112
            refine r_iload (pc := 119) h 0 rfl dX6_skipsTo_119 ?_
            refine r_aload_n (pc := 121) h 3 rfl rfl dX6_skipsTo_121 ?_
            refine g_6_now (pc := 122) h mw_3_21 dX6_skipsTo_122 ?_
            refine r_iload_n (pc := 125) h 4 rfl rfl dX6_skipsTo_125 ?_
            refine r_cSi (pc := 126) (As := [.ref (G.2.1 + 136), .int (nI v1)]) (st := [.int (nI (max (cS (mem (aU A) (aL A v1)) v2) (aP A v1)))]) h lk_RX6_77 (c_readBy x.2.1 G (mB σ 136 (σ.1 136) h2 x2 (upd (σ.1 134) 0 (nI 0))) 136 hc v1 (by omega)) (by decide) rfl rfl (by first | decide | exact Nat.le_of_ble_eq_true rfl) (by decide) dX6_skipsTo_126 (fun r49 s50 q51 => ?_)
            rw [q51.1, q51.2]
            refine r_topi (b := nI (aP A v1)) ((mB_s _).trans (hM.2.2.2.2 _ (by omega)).2) ?_
            refine r_isub (pc := 129) (v := nI ((max (cS (mem (aU A) (aL A v1)) v2) (aP A v1)) - (aP A v1))) h (pk_sub (by omega)) dX6_skipsTo_129 ?_
            exact hret _ _ (pm_ok (seq_0 (cB_t c9) (cB_t c25)) ((mB_m hc 0).trans pk_us) (mB_out hc) (by rw [toN_nI (show v1 < 2 ^ 31 by omega), toN_nI (show v2 < 2 ^ 31 by omega), skU_s c112]) (inv_0 hi hM hA ((pk_un (by decide)).trans rfl) ((pk_un (by decide)).trans rfl))) 130 _ dX6_skipsTo_130
          · skip
            rw [oI_ath] at c112
            refine r_iconst (pc := 115) (v := (-1)) h (by decide) dX6_skipsTo_115 ?_
            refine r_goto (pc := 116) (tgt := 130) h (by decide) dX6_skipsTo_116 ?_
            exact hret _ _ (pm_ok (seq_0 (cB_t c9) (cB_t c25)) ((mB_m hc 0).trans pk_us) (mB_out hc) (by rw [toN_nI (show v1 < 2 ^ 31 by omega), toN_nI (show v2 < 2 ^ 31 by omega), skU_n (by exact c112)]) (inv_0 hi hM hA ((pk_un (by decide)).trans rfl) ((pk_un (by decide)).trans rfl))) 130 _ dX6_skipsTo_130
        · skip
          rw [nI_leI (by omega) (by omega)] at c86
          refine r_iload (pc := 89) h 0 rfl dX6_skipsTo_89 ?_
          refine r_goto (pc := 91) (tgt := 102) h (by decide) dX6_skipsTo_91 ?_
          refine r_topi (b := nI (max (cS (mem (aU A) (aL A v1)) v2) (aP A v1))) (congrArg nI (by omega)) ?_
          refine r_istore (pc := 102) (lo2 := [(5, .int (nI (max (cS (mem (aU A) (aL A v1)) v2) (aP A v1)))), (4, .int (nI (cS (mem (aU A) (aL A v1)) v2))), (3, .int (nI (aL A v1))), (0, .ref (G.2.1 + 134)), (1, .int (nI v1)), (2, .int (nI v2))]) h (by decide) rfl dX6_skipsTo_102 ?_
          refine r_aload_n (pc := 104) h 3 rfl rfl dX6_skipsTo_104 ?_
          refine r_iload_n (pc := 105) h 2 rfl rfl dX6_skipsTo_105 ?_
          refine r_iload (pc := 106) h 0 rfl dX6_skipsTo_106 ?_
          refine r_cVi (pc := 108) (As := [.int (nI (aL A v1)), .int (nI (max (cS (mem (aU A) (aL A v1)) v2) (aP A v1)))]) (st := []) h lk_RX6_80 (c_at x.2.1 G (mB σ 136 (σ.1 136) h2 x2 (upd (σ.1 134) 0 (nI 0))) (aL A v1) (by omega) (max (cS (mem (aU A) (aL A v1)) v2) (aP A v1)) (by omega) (mem (aU A) (aL A v1)) (fun v hv => (mB_h hc _).trans (hH _ (by omega) v hv))) rc_6 (by decide) rfl rfl (by first | decide | exact Nat.le_of_ble_eq_true rfl) (by decide) dX6_skipsTo_108 (fun r52 s53 q54 => ?_)
          rw [q54.1, q54.2]
          refine r_iconst (pc := 111) (v := (-1)) h (by decide) dX6_skipsTo_111 ?_
          refine r_icmp_ne (pc := 112) (tgt := 119) h (by decide) dX6_skipsTo_112 (fun c112 => ?_) (fun c112 => ?_)
          · skip
            rw [oI_ath] at c112
            refine r_iload (pc := 119) h 0 rfl dX6_skipsTo_119 ?_
            refine r_aload_n (pc := 121) h 3 rfl rfl dX6_skipsTo_121 ?_
            refine g_6_now (pc := 122) h mw_3_21 dX6_skipsTo_122 ?_
            refine r_iload_n (pc := 125) h 4 rfl rfl dX6_skipsTo_125 ?_
            refine r_cSi (pc := 126) (As := [.ref (G.2.1 + 136), .int (nI v1)]) (st := [.int (nI (max (cS (mem (aU A) (aL A v1)) v2) (aP A v1)))]) h lk_RX6_77 (c_readBy x.2.1 G (mB σ 136 (σ.1 136) h2 x2 (upd (σ.1 134) 0 (nI 0))) 136 hc v1 (by omega)) (by decide) rfl rfl (by first | decide | exact Nat.le_of_ble_eq_true rfl) (by decide) dX6_skipsTo_126 (fun r55 s56 q57 => ?_)
            rw [q57.1, q57.2]
            refine r_topi (b := nI (aP A v1)) ((mB_s _).trans (hM.2.2.2.2 _ (by omega)).2) ?_
            refine r_isub (pc := 129) (v := nI ((max (cS (mem (aU A) (aL A v1)) v2) (aP A v1)) - (aP A v1))) h (pk_sub (by omega)) dX6_skipsTo_129 ?_
            exact hret _ _ (pm_ok (seq_0 (cB_t c9) (cB_t c25)) ((mB_m hc 0).trans pk_us) (mB_out hc) (by rw [toN_nI (show v1 < 2 ^ 31 by omega), toN_nI (show v2 < 2 ^ 31 by omega), skU_s c112]) (inv_0 hi hM hA ((pk_un (by decide)).trans rfl) ((pk_un (by decide)).trans rfl))) 130 _ dX6_skipsTo_130
          · skip
            rw [oI_ath] at c112
            refine r_iconst (pc := 115) (v := (-1)) h (by decide) dX6_skipsTo_115 ?_
            refine r_goto (pc := 116) (tgt := 130) h (by decide) dX6_skipsTo_116 ?_
            exact hret _ _ (pm_ok (seq_0 (cB_t c9) (cB_t c25)) ((mB_m hc 0).trans pk_us) (mB_out hc) (by rw [toN_nI (show v1 < 2 ^ 31 by omega), toN_nI (show v2 < 2 ^ 31 by omega), skU_n (by exact c112)]) (inv_0 hi hM hA ((pk_un (by decide)).trans rfl) ((pk_un (by decide)).trans rfl))) 130 _ dX6_skipsTo_130
  · skip
    replace c9 := zB_0.mp c9
    refine r_iconst (pc := 12) (v := nI 1) h (by decide) dX6_skipsTo_12 ?_
    refine r_goto (pc := 13) (tgt := 33) h (by decide) dX6_skipsTo_13 ?_
    refine r_cVi (pc := 33) (As := [.int (nI 1)]) (st := []) h lk_RX6_95 (c_refused x.2.1 G σ 136 hc (σ.1 136) (σ.1 141) (σ.1 142) (σ.1 134) 1 (by omega)) rc_6 (by decide) rfl rfl (by first | decide | exact Nat.le_of_ble_eq_true rfl) (by decide) dX6_skipsTo_33 (fun r58 s59 q60 => ?_)
    rw [q60.1, q60.2]
    refine r_topi (b := nI 1) (by decide) ?_
    refine r_if_eq (pc := 36) (tgt := 41) h (by decide) dX6_skipsTo_36 (fun c36 => absurd c36 (by decide)) (fun _ => ?_)
    refine r_iconst (pc := 39) (v := nI 0) h (by decide) dX6_skipsTo_39 ?_
    exact hret _ _ (pm_no (c0 := 1) (seq_1 (cB_f c9) (by decide)) (by decide) rfl ((mB_m hc 0).trans pk_us) (mB_out hc) (inv_0 hi hM hA ((pk_un (by decide)).trans rfl) ((pk_un (by decide)).trans rfl))) 40 _ dX6_skipsTo_40

set_option maxRecDepth 100000 in
set_option maxHeartbeats 800000 in
theorem c_m_firstOfPair (l : Launch) (G : Gl) (σ : Sg) (n : Nat) (tx : Nat → Nat) (A : Ab) (m : Nat) (H : Nat → Ab) (sv : Nat → Bool) (sl : Nat → Ab) (hi : InvM n tx A m H sv sl σ) (u1 : Int32) : Ci l yX6_firstOfPair cX6_firstOfPair 4 .int ({ frames := 1, cells := 0, slots := 0, locals := 25 } : Room) G [.ref (G.2.1 + 134), .int u1] σ (fun r σ2 => Pm [2] (cB (inB (nI 0) (nI 99999) u1) 2) σ σ2 (InvM n tx A m H sv sl) (InvM n tx A m H sv sl) r (nI (fpN (toN u1)))) := by
  refine Ci_of (own := RX6) rfl (by decide +kernel) (lo := [(0, .ref (G.2.1 + 134)), (1, .int u1)]) rfl (Nat.le_of_ble_eq_true rfl) (fun r s hp => rfl) ?_
  intro x Q hxl h hret
  subst hxl
  have hc := rc136
  have hM := hi.2.1.1
  have hA := hi.2.1.2
  have h12 := hA.1
  have h4 := hA.2.1
  have hm2 := hi.1.2
  have hm6 := hi.2.2.1.2.1
  have hk14 := hi.2.2.1.1
  have hd := hi.2.2.1.2.2
  have ht := hi.1.1
  have hn9 := ht.1
  refine V.sg (show σ = mB σ 136 (σ.1 136) (σ.1 141) (σ.1 142) (σ.1 134) from (mB_self hc).symm) ?_
  refine r_aload_n (pc := 0) h 0 rfl rfl dX6_firstOfPair_0 ?_
  refine r_iload_n (pc := 1) h 1 rfl rfl dX6_firstOfPair_1 ?_
  refine r_i2l (pc := 2) (v := u1.toInt64) h rfl dX6_firstOfPair_2 ?_
  refine r_lconst (pc := 3) (v := 0) h (by decide) dX6_firstOfPair_3 ?_
  refine r_ldc2 (pc := 4) (v := 99999) h mw_39_10 dX6_firstOfPair_4 ?_
  refine r_cSi (pc := 7) (As := [.long u1.toInt64, .long 0, .long 99999]) (st := [.ref (G.2.1 + 134)]) h lk_RX6_43 (c_in x.2.1 G (mB σ 136 (σ.1 136) (σ.1 141) (σ.1 142) (σ.1 134)) u1 (nI 0) (nI 99999)) (by decide) rfl rfl (by first | decide | exact Nat.le_of_ble_eq_true rfl) (by decide) dX6_firstOfPair_7 (fun r1 s2 q3 => ?_)
  rw [q3.1, q3.2]
  refine r_if_eq (pc := 10) (tgt := 17) h (by decide) dX6_firstOfPair_10 (fun c10 => ?_) (fun c10 => ?_)
  · skip
    replace c10 := zB_0.mp c10
    refine r_iconst (pc := 17) (v := nI 1) h (by decide) dX6_firstOfPair_17 ?_
    refine r_cVi (pc := 18) (As := [.int (nI 1)]) (st := []) h lk_RX6_95 (c_refused x.2.1 G σ 136 hc (σ.1 136) (σ.1 141) (σ.1 142) (σ.1 134) 1 (by omega)) rc_6 (by decide) rfl rfl (by first | decide | exact Nat.le_of_ble_eq_true rfl) (by decide) dX6_firstOfPair_18 (fun r4 s5 q6 => ?_)
    rw [q6.1, q6.2]
    refine r_topi (b := nI 1) (by decide) ?_
    refine r_if_eq (pc := 21) (tgt := 26) h (by decide) dX6_firstOfPair_21 (fun c21 => absurd c21 (by decide)) (fun _ => ?_)
    refine r_iconst (pc := 24) (v := nI 0) h (by decide) dX6_firstOfPair_24 ?_
    exact hret _ _ (pm_no (c0 := 2) (cB_f c10) (by decide) rfl ((mB_m hc 0).trans pk_us) (mB_out hc) (inv_0 hi hM hA ((pk_un (by decide)).trans rfl) ((pk_un (by decide)).trans rfl))) 25 _ dX6_firstOfPair_25
  · skip
    replace c10 := zB_n0.mp c10
    obtain ⟨p, rfl, lp, hp⟩ := inB_nI (by omega) (by omega) c10
    refine r_iconst (pc := 13) (v := nI 0) h (by decide) dX6_firstOfPair_13 ?_
    refine r_goto (pc := 14) (tgt := 18) h (by decide) dX6_firstOfPair_14 ?_
    refine r_cVi (pc := 18) (As := [.int (nI 0)]) (st := []) h lk_RX6_95 (c_refused x.2.1 G σ 136 hc (σ.1 136) (σ.1 141) (σ.1 142) (σ.1 134) 0 (by omega)) rc_6 (by decide) rfl rfl (by first | decide | exact Nat.le_of_ble_eq_true rfl) (by decide) dX6_firstOfPair_18 (fun r7 s8 q9 => ?_)
    rw [q9.1, q9.2]
    refine r_topi (b := nI 0) (by decide) ?_
    refine r_if_eq (pc := 21) (tgt := 26) h (by decide) dX6_firstOfPair_21 (fun _ => ?_) (fun c21 => absurd c21 (by decide))
    refine r_iload_n (pc := 26) h 1 rfl rfl dX6_firstOfPair_26 ?_
    refine r_istore_n (pc := 27) (lo2 := [(2, .int (nI p)), (0, .ref (G.2.1 + 134)), (1, .int (nI p))]) h rfl (by decide) rfl dX6_firstOfPair_27 ?_
    refine r_iconst (pc := 28) (v := nI 0) h (by decide) dX6_firstOfPair_28 ?_
    refine r_istore_n (pc := 29) (lo2 := [(3, .int (nI 0)), (2, .int (nI p)), (0, .ref (G.2.1 + 134)), (1, .int (nI p))]) h rfl (by decide) rfl dX6_firstOfPair_29 ?_
    have lp30 : ∀ (fu : Nat) (c : Nat) (r : Nat), r ≤ p → triN c + r = p → fpN p = fpW (447 - c) r c → c ≤ 447 → 447 - c < fu → V x G 4 0 0 Q (mB σ 136 (σ.1 136) (σ.1 141) (σ.1 142) (upd (σ.1 134) 0 (nI 0))) 30 [(0, .ref (G.2.1 + 134)), (2, .int (nI r)), (3, .int (nI c))] [] := by
      intro fu
      induction fu with
      | zero => intro c r hr9 he hw hc9 hfu; exact absurd hfu (Nat.not_lt_zero _)
      | succ fu ih30 =>
        intro c r hr9 he hw hc9 hfu
        refine r_iload_n (pc := 30) h 1 rfl rfl dX6_firstOfPair_30 ?_
        refine r_iload_n (pc := 31) h 2 rfl rfl dX6_firstOfPair_31 ?_
        refine r_icmp_le (pc := 32) (tgt := 45) h (by decide) dX6_firstOfPair_32 (fun c32 => ?_) (fun c32 => ?_)
        · skip
          rw [nI_leI (by omega) (by omega)] at c32
          refine r_iload_n (pc := 45) h 1 rfl rfl dX6_firstOfPair_45 ?_
          exact hret _ _ (pm_ok (cB_t c10) ((mB_m hc 0).trans pk_us) (mB_out hc) (by rw [toN_nI (show p < 2 ^ 31 by omega), hw, fpW_stop (by omega)]) (inv_0 hi hM hA ((pk_un (by decide)).trans rfl) ((pk_un (by decide)).trans rfl))) 46 _ dX6_firstOfPair_46
        · skip
          rw [nI_leI (by omega) (by omega)] at c32
          have ht7 : c < 447 := by
            rcases Nat.lt_or_ge c 447 with q | q
            · exact q
            · have := tri_mono q; rw [show triN 447 = 100128 from by decide +kernel] at this; omega
          refine r_iinc (pc := 35) (v := nI (c + 1)) (lo2 := [(3, .int (nI (c + 1))), (0, .ref (G.2.1 + 134)), (2, .int (nI r))]) h 2 rfl (iinc1 _) (by decide) rfl dX6_firstOfPair_35 ?_
          refine r_iload_n (pc := 38) h 2 rfl rfl dX6_firstOfPair_38 ?_
          refine r_iload_n (pc := 39) h 0 rfl rfl dX6_firstOfPair_39 ?_
          refine r_isub (pc := 40) (v := nI (r - (c + 1))) h (pk_sub (by omega)) dX6_firstOfPair_40 ?_
          refine r_istore_n (pc := 41) (lo2 := [(2, .int (nI (r - (c + 1)))), (3, .int (nI (c + 1))), (0, .ref (G.2.1 + 134))]) h rfl (by decide) rfl dX6_firstOfPair_41 ?_
          refine r_goto (pc := 42) (tgt := 30) h (by decide) dX6_firstOfPair_42 ?_
          refine r_sub (lo2 := [(0, .ref (G.2.1 + 134)), (2, .int (nI (r - (c + 1)))), (3, .int (nI (c + 1)))]) [2, 0, 1] rfl ?_
          exact ih30 (c + 1) (r - (c + 1)) (by omega) (by rw [triN]; omega) (by rw [hw, show 447 - c = (447 - (c + 1)) + 1 by omega, fpW_step (by omega)]) (by omega) (by omega)
    refine r_sub (lo2 := [(0, .ref (G.2.1 + 134)), (2, .int (nI p)), (3, .int (nI 0))]) [2, 1, 0] rfl ?_
    exact lp30 _ 0 p (by omega) (by show 0 + p = p; omega) rfl (by omega) (Nat.lt_succ_self _)

set_option maxRecDepth 100000 in
set_option maxHeartbeats 800000 in
theorem c_m_firstOfPairByWalking (l : Launch) (G : Gl) (σ : Sg) (n : Nat) (tx : Nat → Nat) (A : Ab) (m : Nat) (H : Nat → Ab) (sv : Nat → Bool) (sl : Nat → Ab) (hi : InvM n tx A m H sv sl σ) (u1 : Int32) : Ci l yX6_firstOfPairByWalking cX6_firstOfPairByWalking 2 .int ({ frames := 2, cells := 0, slots := 0, locals := 48 } : Room) G [.ref (G.2.1 + 134), .int u1] σ (fun r σ2 => Pm [2] (cB (inB (nI 0) (nI 99999) u1) 2) σ σ2 (InvM n tx A m H sv sl) (InvM n tx A m H sv sl) r (nI (fpN (toN u1)))) := by
  refine Ci_of (own := RX6) rfl (by decide +kernel) (lo := [(0, .ref (G.2.1 + 134)), (1, .int u1)]) rfl (Nat.le_of_ble_eq_true rfl) (fun r s hp => rfl) ?_
  intro x Q hxl h hret
  subst hxl
  have hc := rc136
  have hM := hi.2.1.1
  have hA := hi.2.1.2
  have h12 := hA.1
  have h4 := hA.2.1
  have hm2 := hi.1.2
  have hm6 := hi.2.2.1.2.1
  have hk14 := hi.2.2.1.1
  have hd := hi.2.2.1.2.2
  have ht := hi.1.1
  have hn9 := ht.1
  refine V.sg (show σ = mB σ 136 (σ.1 136) (σ.1 141) (σ.1 142) (σ.1 134) from (mB_self hc).symm) ?_
  refine r_aload_n (pc := 0) h 0 rfl rfl dX6_firstOfPairByWalking_0 ?_
  refine r_iload_n (pc := 1) h 1 rfl rfl dX6_firstOfPairByWalking_1 ?_
  refine V.sg (show mB σ 136 (σ.1 136) (σ.1 141) (σ.1 142) (σ.1 134) = σ from mB_self hc) ?_
  refine r_cVi (pc := 2) (As := [.int u1]) (st := []) h lk_RX6_205 (c_m_firstOfPair x.2.1 G σ n tx A m H sv sl hi u1) rc_6 (by decide) rfl rfl (by first | decide | exact Nat.le_of_ble_eq_true rfl) (by decide) dX6_firstOfPairByWalking_2 (fun r1 s2 q3 => ?_)
  exact hret _ _ (q3) 5 _ dX6_firstOfPairByWalking_5

set_option maxRecDepth 100000 in
set_option maxHeartbeats 800000 in
theorem c_m_firstOfPairByCounting (l : Launch) (G : Gl) (σ : Sg) (n : Nat) (tx : Nat → Nat) (A : Ab) (m : Nat) (H : Nat → Ab) (sv : Nat → Bool) (sl : Nat → Ab) (hi : InvM n tx A m H sv sl σ) (u1 : Int32) : Ci l yX6_firstOfPairByCounting cX6_firstOfPairByCounting 2 .int ({ frames := 2, cells := 0, slots := 0, locals := 48 } : Room) G [.ref (G.2.1 + 134), .int u1] σ (fun r σ2 => Pm [2] (cB (inB (nI 0) (nI 99999) u1) 2) σ σ2 (InvM n tx A m H sv sl) (InvM n tx A m H sv sl) r (nI (fpN (toN u1)))) := by
  refine Ci_of (own := RX6) rfl (by decide +kernel) (lo := [(0, .ref (G.2.1 + 134)), (1, .int u1)]) rfl (Nat.le_of_ble_eq_true rfl) (fun r s hp => rfl) ?_
  intro x Q hxl h hret
  subst hxl
  have hc := rc136
  have hM := hi.2.1.1
  have hA := hi.2.1.2
  have h12 := hA.1
  have h4 := hA.2.1
  have hm2 := hi.1.2
  have hm6 := hi.2.2.1.2.1
  have hk14 := hi.2.2.1.1
  have hd := hi.2.2.1.2.2
  have ht := hi.1.1
  have hn9 := ht.1
  refine V.sg (show σ = mB σ 136 (σ.1 136) (σ.1 141) (σ.1 142) (σ.1 134) from (mB_self hc).symm) ?_
  refine r_aload_n (pc := 0) h 0 rfl rfl dX6_firstOfPairByCounting_0 ?_
  refine r_iload_n (pc := 1) h 1 rfl rfl dX6_firstOfPairByCounting_1 ?_
  refine V.sg (show mB σ 136 (σ.1 136) (σ.1 141) (σ.1 142) (σ.1 134) = σ from mB_self hc) ?_
  refine r_cVi (pc := 2) (As := [.int u1]) (st := []) h lk_RX6_205 (c_m_firstOfPair x.2.1 G σ n tx A m H sv sl hi u1) rc_6 (by decide) rfl rfl (by first | decide | exact Nat.le_of_ble_eq_true rfl) (by decide) dX6_firstOfPairByCounting_2 (fun r1 s2 q3 => ?_)
  exact hret _ _ (q3) 5 _ dX6_firstOfPairByCounting_5

set_option maxRecDepth 100000 in
set_option maxHeartbeats 800000 in
theorem c_m_numberOfPair (l : Launch) (G : Gl) (σ : Sg) (n : Nat) (tx : Nat → Nat) (A : Ab) (m : Nat) (H : Nat → Ab) (sv : Nat → Bool) (sl : Nat → Ab) (hi : InvM n tx A m H sv sl σ) (u1 : Int32) (u2 : Int32) : Ci l yX6_numberOfPair cX6_numberOfPair 3 .int ({ frames := 1, cells := 0, slots := 0, locals := 25 } : Room) G [.ref (G.2.1 + 134), .int u1, .int u2] σ (fun r σ2 => Pm [2] (seqC (cB (inB (nI 0) (nI 200) u1) 2) (cB (inB (nI 0) (nI 200) u2) 2)) σ σ2 (InvM n tx A m H sv sl) (InvM n tx A m H sv sl) r (nI (triN ((toN u1) + (toN u2)) + (toN u1)))) := by
  refine Ci_of (own := RX6) rfl (by decide +kernel) (lo := [(0, .ref (G.2.1 + 134)), (1, .int u1), (2, .int u2)]) rfl (Nat.le_of_ble_eq_true rfl) (fun r s hp => rfl) ?_
  intro x Q hxl h hret
  subst hxl
  have hc := rc136
  have hM := hi.2.1.1
  have hA := hi.2.1.2
  have h12 := hA.1
  have h4 := hA.2.1
  have hm2 := hi.1.2
  have hm6 := hi.2.2.1.2.1
  have hk14 := hi.2.2.1.1
  have hd := hi.2.2.1.2.2
  have ht := hi.1.1
  have hn9 := ht.1
  refine V.sg (show σ = mB σ 136 (σ.1 136) (σ.1 141) (σ.1 142) (σ.1 134) from (mB_self hc).symm) ?_
  refine r_aload_n (pc := 0) h 0 rfl rfl dX6_numberOfPair_0 ?_
  refine r_iload_n (pc := 1) h 1 rfl rfl dX6_numberOfPair_1 ?_
  refine r_i2l (pc := 2) (v := u1.toInt64) h rfl dX6_numberOfPair_2 ?_
  refine r_lconst (pc := 3) (v := 0) h (by decide) dX6_numberOfPair_3 ?_
  refine r_ldc2 (pc := 4) (v := 200) h mw_40_12 dX6_numberOfPair_4 ?_
  refine r_cSi (pc := 7) (As := [.long u1.toInt64, .long 0, .long 200]) (st := [.ref (G.2.1 + 134)]) h lk_RX6_43 (c_in x.2.1 G (mB σ 136 (σ.1 136) (σ.1 141) (σ.1 142) (σ.1 134)) u1 (nI 0) (nI 200)) (by decide) rfl rfl (by first | decide | exact Nat.le_of_ble_eq_true rfl) (by decide) dX6_numberOfPair_7 (fun r1 s2 q3 => ?_)
  rw [q3.1, q3.2]
  refine r_if_eq (pc := 10) (tgt := 29) h (by decide) dX6_numberOfPair_10 (fun c10 => ?_) (fun c10 => ?_)
  · skip
    replace c10 := zB_0.mp c10
    refine r_iconst (pc := 29) (v := nI 1) h (by decide) dX6_numberOfPair_29 ?_
    refine r_cVi (pc := 30) (As := [.int (nI 1)]) (st := []) h lk_RX6_95 (c_refused x.2.1 G σ 136 hc (σ.1 136) (σ.1 141) (σ.1 142) (σ.1 134) 1 (by omega)) rc_6 (by decide) rfl rfl (by first | decide | exact Nat.le_of_ble_eq_true rfl) (by decide) dX6_numberOfPair_30 (fun r4 s5 q6 => ?_)
    rw [q6.1, q6.2]
    refine r_topi (b := nI 1) (by decide) ?_
    refine r_if_eq (pc := 33) (tgt := 38) h (by decide) dX6_numberOfPair_33 (fun c33 => absurd c33 (by decide)) (fun _ => ?_)
    refine r_iconst (pc := 36) (v := nI 0) h (by decide) dX6_numberOfPair_36 ?_
    exact hret _ _ (pm_no (c0 := 2) (seq_1 (cB_f c10) (by decide)) (by decide) rfl ((mB_m hc 0).trans pk_us) (mB_out hc) (inv_0 hi hM hA ((pk_un (by decide)).trans rfl) ((pk_un (by decide)).trans rfl))) 37 _ dX6_numberOfPair_37
  · skip
    replace c10 := zB_n0.mp c10
    obtain ⟨p, rfl, lp, hp⟩ := inB_nI (by omega) (by omega) c10
    refine r_iload_n (pc := 13) h 2 rfl rfl dX6_numberOfPair_13 ?_
    refine r_i2l (pc := 14) (v := u2.toInt64) h rfl dX6_numberOfPair_14 ?_
    refine r_lconst (pc := 15) (v := 0) h (by decide) dX6_numberOfPair_15 ?_
    refine r_ldc2 (pc := 16) (v := 200) h mw_40_12 dX6_numberOfPair_16 ?_
    refine r_cSi (pc := 19) (As := [.long u2.toInt64, .long 0, .long 200]) (st := [.ref (G.2.1 + 134)]) h lk_RX6_43 (c_in x.2.1 G (mB σ 136 (σ.1 136) (σ.1 141) (σ.1 142) (σ.1 134)) u2 (nI 0) (nI 200)) (by decide) rfl rfl (by first | decide | exact Nat.le_of_ble_eq_true rfl) (by decide) dX6_numberOfPair_19 (fun r7 s8 q9 => ?_)
    rw [q9.1, q9.2]
    refine r_if_eq (pc := 22) (tgt := 29) h (by decide) dX6_numberOfPair_22 (fun c22 => ?_) (fun c22 => ?_)
    · skip
      replace c22 := zB_0.mp c22
      refine r_iconst (pc := 29) (v := nI 1) h (by decide) dX6_numberOfPair_29 ?_
      refine r_cVi (pc := 30) (As := [.int (nI 1)]) (st := []) h lk_RX6_95 (c_refused x.2.1 G σ 136 hc (σ.1 136) (σ.1 141) (σ.1 142) (σ.1 134) 1 (by omega)) rc_6 (by decide) rfl rfl (by first | decide | exact Nat.le_of_ble_eq_true rfl) (by decide) dX6_numberOfPair_30 (fun r10 s11 q12 => ?_)
      rw [q12.1, q12.2]
      refine r_topi (b := nI 1) (by decide) ?_
      refine r_if_eq (pc := 33) (tgt := 38) h (by decide) dX6_numberOfPair_33 (fun c33 => absurd c33 (by decide)) (fun _ => ?_)
      refine r_iconst (pc := 36) (v := nI 0) h (by decide) dX6_numberOfPair_36 ?_
      exact hret _ _ (pm_no (c0 := 2) (seq_2 (cB_t c10) (cB_f c22)) (by decide) rfl ((mB_m hc 0).trans pk_us) (mB_out hc) (inv_0 hi hM hA ((pk_un (by decide)).trans rfl) ((pk_un (by decide)).trans rfl))) 37 _ dX6_numberOfPair_37
    · skip
      replace c22 := zB_n0.mp c22
      obtain ⟨q, rfl, lq, hq⟩ := inB_nI (by omega) (by omega) c22
      refine r_iconst (pc := 25) (v := nI 0) h (by decide) dX6_numberOfPair_25 ?_
      refine r_goto (pc := 26) (tgt := 30) h (by decide) dX6_numberOfPair_26 ?_
      refine r_cVi (pc := 30) (As := [.int (nI 0)]) (st := []) h lk_RX6_95 (c_refused x.2.1 G σ 136 hc (σ.1 136) (σ.1 141) (σ.1 142) (σ.1 134) 0 (by omega)) rc_6 (by decide) rfl rfl (by first | decide | exact Nat.le_of_ble_eq_true rfl) (by decide) dX6_numberOfPair_30 (fun r13 s14 q15 => ?_)
      rw [q15.1, q15.2]
      refine r_topi (b := nI 0) (by decide) ?_
      refine r_if_eq (pc := 33) (tgt := 38) h (by decide) dX6_numberOfPair_33 (fun _ => ?_) (fun c33 => absurd c33 (by decide))
      refine r_iload_n (pc := 38) h 1 rfl rfl dX6_numberOfPair_38 ?_
      refine r_iload_n (pc := 39) h 2 rfl rfl dX6_numberOfPair_39 ?_
      refine r_iadd (pc := 40) (v := nI (p + q)) h (nI_add _ _) dX6_numberOfPair_40 ?_
      refine r_iload_n (pc := 41) h 1 rfl rfl dX6_numberOfPair_41 ?_
      refine r_iload_n (pc := 42) h 2 rfl rfl dX6_numberOfPair_42 ?_
      refine r_iadd (pc := 43) (v := nI (p + q)) h (nI_add _ _) dX6_numberOfPair_43 ?_
      refine r_iconst (pc := 44) (v := nI 1) h (by decide) dX6_numberOfPair_44 ?_
      refine r_iadd (pc := 45) (v := nI ((p + q) + 1)) h (nI_add _ _) dX6_numberOfPair_45 ?_
      refine r_imul (pc := 46) (v := nI ((p + q) * (p + q + 1))) h (pk_mul _ _) dX6_numberOfPair_46 ?_
      refine r_iconst (pc := 47) (v := nI 2) h (by decide) dX6_numberOfPair_47 ?_
      refine r_idiv (pc := 48) (v := nI (triN (p + q))) h (by decide) ((pk_div (by have := Nat.mul_le_mul (show p + q ≤ 400 by omega) (show p + q + 1 ≤ 401 by omega); omega) (by omega) (by omega)).trans (congrArg nI (tri_eq _))) dX6_numberOfPair_48 ?_
      refine r_iload_n (pc := 49) h 1 rfl rfl dX6_numberOfPair_49 ?_
      refine r_iadd (pc := 50) (v := nI ((triN (p + q)) + p)) h (nI_add _ _) dX6_numberOfPair_50 ?_
      exact hret _ _ (pm_ok (seq_0 (cB_t c10) (cB_t c22)) ((mB_m hc 0).trans pk_us) (mB_out hc) (by rw [toN_nI (show p < 2 ^ 31 by omega), toN_nI (show q < 2 ^ 31 by omega)]) (inv_0 hi hM hA ((pk_un (by decide)).trans rfl) ((pk_un (by decide)).trans rfl))) 51 _ dX6_numberOfPair_51

set_option maxRecDepth 100000 in
set_option maxHeartbeats 800000 in
theorem c_m_lists (l : Launch) (G : Gl) (σ : Sg) (n : Nat) (tx : Nat → Nat) (A : Ab) (m : Nat) (H : Nat → Ab) (sv : Nat → Bool) (sl : Nat → Ab) (hi : InvM n tx A m H sv sl σ) : Ci l yX6_lists cX6_lists 1 .int ({ frames := 0, cells := 0, slots := 0, locals := 0 } : Room) G [.ref (G.2.1 + 134)] σ (fun r σ2 => r = nI A.1 ∧ InvM n tx A m H sv sl σ2 ∧ Out 134 143 σ σ2) := by
  refine Ci_of (own := RX6) rfl (by decide +kernel) (lo := [(0, .ref (G.2.1 + 134))]) rfl (Nat.le_of_ble_eq_true rfl) (fun _ s hp => by obtain ⟨rfl, _⟩ := hp; rfl) ?_
  intro x Q hxl h hret
  subst hxl
  have hc := rc136
  have hM := hi.2.1.1
  have hA := hi.2.1.2
  have h12 := hA.1
  have h4 := hA.2.1
  have hm2 := hi.1.2
  have hm6 := hi.2.2.1.2.1
  have hk14 := hi.2.2.1.1
  have hd := hi.2.2.1.2.2
  have ht := hi.1.1
  have hn9 := ht.1
  refine V.sg (show σ = mB σ 136 (σ.1 136) (σ.1 141) (σ.1 142) (σ.1 134) from (mB_self hc).symm) ?_
  refine r_aload_n (pc := 0) h 0 rfl rfl dX6_lists_0 ?_
  refine r_iconst (pc := 1) (v := nI 0) h (by decide) dX6_lists_1 ?_
  refine p_6_refusal (pc := 2) h mw_5_22 dX6_lists_2 ?_
  refine V.sg (mB_sm hc _ _) ?_
  refine r_aload_n (pc := 5) h 0 rfl rfl dX6_lists_5 ?_
  refine g_6_now (pc := 6) h mw_3_21 dX6_lists_6 ?_
  refine r_iconst (pc := 9) (v := nI 0) h (by decide) dX6_lists_9 ?_
  refine r_iald (pc := 10) h (a_rc hc) 0 rfl (by omega) dX6_lists_10 ?_
  refine r_topi (b := (σ.1 136) 0) (mB_s _) ?_
  refine r_topi (b := nI A.1) hM.1 ?_
  exact hret _ _ (⟨rfl, inv_0 hi hM hA ((pk_un (by decide)).trans rfl) ((pk_un (by decide)).trans rfl), mB_out hc⟩) 11 _ dX6_lists_11

set_option maxRecDepth 100000 in
set_option maxHeartbeats 800000 in
theorem c_m_readers (l : Launch) (G : Gl) (σ : Sg) (n : Nat) (tx : Nat → Nat) (A : Ab) (m : Nat) (H : Nat → Ab) (sv : Nat → Bool) (sl : Nat → Ab) (hi : InvM n tx A m H sv sl σ) : Ci l yX6_readers cX6_readers 1 .int ({ frames := 0, cells := 0, slots := 0, locals := 0 } : Room) G [.ref (G.2.1 + 134)] σ (fun r σ2 => r = nI A.2.1 ∧ InvM n tx A m H sv sl σ2 ∧ Out 134 143 σ σ2) := by
  refine Ci_of (own := RX6) rfl (by decide +kernel) (lo := [(0, .ref (G.2.1 + 134))]) rfl (Nat.le_of_ble_eq_true rfl) (fun _ s hp => by obtain ⟨rfl, _⟩ := hp; rfl) ?_
  intro x Q hxl h hret
  subst hxl
  have hc := rc136
  have hM := hi.2.1.1
  have hA := hi.2.1.2
  have h12 := hA.1
  have h4 := hA.2.1
  have hm2 := hi.1.2
  have hm6 := hi.2.2.1.2.1
  have hk14 := hi.2.2.1.1
  have hd := hi.2.2.1.2.2
  have ht := hi.1.1
  have hn9 := ht.1
  refine V.sg (show σ = mB σ 136 (σ.1 136) (σ.1 141) (σ.1 142) (σ.1 134) from (mB_self hc).symm) ?_
  refine r_aload_n (pc := 0) h 0 rfl rfl dX6_readers_0 ?_
  refine r_iconst (pc := 1) (v := nI 0) h (by decide) dX6_readers_1 ?_
  refine p_6_refusal (pc := 2) h mw_5_22 dX6_readers_2 ?_
  refine V.sg (mB_sm hc _ _) ?_
  refine r_aload_n (pc := 5) h 0 rfl rfl dX6_readers_5 ?_
  refine g_6_now (pc := 6) h mw_3_21 dX6_readers_6 ?_
  refine r_iconst (pc := 9) (v := nI 1) h (by decide) dX6_readers_9 ?_
  refine r_iald (pc := 10) h (a_rc hc) 1 rfl (by omega) dX6_readers_10 ?_
  refine r_topi (b := (σ.1 136) 1) (mB_s _) ?_
  refine r_topi (b := nI A.2.1) hM.2.1 ?_
  exact hret _ _ (⟨rfl, inv_0 hi hM hA ((pk_un (by decide)).trans rfl) ((pk_un (by decide)).trans rfl), mB_out hc⟩) 11 _ dX6_readers_11

set_option maxRecDepth 100000 in
set_option maxHeartbeats 800000 in
theorem c_m_readings (l : Launch) (G : Gl) (σ : Sg) (n : Nat) (tx : Nat → Nat) (A : Ab) (m : Nat) (H : Nat → Ab) (sv : Nat → Bool) (sl : Nat → Ab) (hi : InvM n tx A m H sv sl σ) : Ci l yX6_readings cX6_readings 1 .int ({ frames := 0, cells := 0, slots := 0, locals := 0 } : Room) G [.ref (G.2.1 + 134)] σ (fun r σ2 => r = A.2.2.1 ∧ InvM n tx A m H sv sl σ2 ∧ Out 134 143 σ σ2) := by
  refine Ci_of (own := RX6) rfl (by decide +kernel) (lo := [(0, .ref (G.2.1 + 134))]) rfl (Nat.le_of_ble_eq_true rfl) (fun _ s hp => by obtain ⟨rfl, _⟩ := hp; rfl) ?_
  intro x Q hxl h hret
  subst hxl
  have hc := rc136
  have hM := hi.2.1.1
  have hA := hi.2.1.2
  have h12 := hA.1
  have h4 := hA.2.1
  have hm2 := hi.1.2
  have hm6 := hi.2.2.1.2.1
  have hk14 := hi.2.2.1.1
  have hd := hi.2.2.1.2.2
  have ht := hi.1.1
  have hn9 := ht.1
  refine V.sg (show σ = mB σ 136 (σ.1 136) (σ.1 141) (σ.1 142) (σ.1 134) from (mB_self hc).symm) ?_
  refine r_aload_n (pc := 0) h 0 rfl rfl dX6_readings_0 ?_
  refine r_iconst (pc := 1) (v := nI 0) h (by decide) dX6_readings_1 ?_
  refine p_6_refusal (pc := 2) h mw_5_22 dX6_readings_2 ?_
  refine V.sg (mB_sm hc _ _) ?_
  refine r_aload_n (pc := 5) h 0 rfl rfl dX6_readings_5 ?_
  refine g_6_now (pc := 6) h mw_3_21 dX6_readings_6 ?_
  refine r_iconst (pc := 9) (v := nI 2) h (by decide) dX6_readings_9 ?_
  refine r_iald (pc := 10) h (a_rc hc) 2 rfl (by omega) dX6_readings_10 ?_
  refine r_topi (b := (σ.1 136) 2) (mB_s _) ?_
  refine r_topi (b := A.2.2.1) hM.2.2.1 ?_
  exact hret _ _ (⟨rfl, inv_0 hi hM hA ((pk_un (by decide)).trans rfl) ((pk_un (by decide)).trans rfl), mB_out hc⟩) 11 _ dX6_readings_11

set_option maxRecDepth 100000 in
set_option maxHeartbeats 800000 in
theorem c_m_whyNoDrop (l : Launch) (G : Gl) (σ : Sg) (n : Nat) (tx : Nat → Nat) (A : Ab) (m : Nat) (H : Nat → Ab) (sv : Nat → Bool) (sl : Nat → Ab) (hi : InvM n tx A m H sv sl σ) : Ci l yX6_whyNoDrop cX6_whyNoDrop 1 .int ({ frames := 2, cells := 0, slots := 0, locals := 42 } : Room) G [.ref (G.2.1 + 134)] σ (fun r σ2 => r = nI (whyN A) ∧ InvM n tx A m H sv sl σ2 ∧ Out 134 143 σ σ2) := by
  refine Ci_of (own := RX6) rfl (by decide +kernel) (lo := [(0, .ref (G.2.1 + 134))]) rfl (Nat.le_of_ble_eq_true rfl) (fun _ s hp => by obtain ⟨rfl, _⟩ := hp; rfl) ?_
  intro x Q hxl h hret
  subst hxl
  have hc := rc136
  have hM := hi.2.1.1
  have hA := hi.2.1.2
  have h12 := hA.1
  have h4 := hA.2.1
  have hm2 := hi.1.2
  have hm6 := hi.2.2.1.2.1
  have hk14 := hi.2.2.1.1
  have hd := hi.2.2.1.2.2
  have ht := hi.1.1
  have hn9 := ht.1
  refine V.sg (show σ = mB σ 136 (σ.1 136) (σ.1 141) (σ.1 142) (σ.1 134) from (mB_self hc).symm) ?_
  refine r_aload_n (pc := 0) h 0 rfl rfl dX6_whyNoDrop_0 ?_
  refine r_iconst (pc := 1) (v := nI 0) h (by decide) dX6_whyNoDrop_1 ?_
  refine p_6_refusal (pc := 2) h mw_5_22 dX6_whyNoDrop_2 ?_
  refine V.sg (mB_sm hc _ _) ?_
  refine r_aload_n (pc := 5) h 0 rfl rfl dX6_whyNoDrop_5 ?_
  refine g_6_now (pc := 6) h mw_3_21 dX6_whyNoDrop_6 ?_
  refine r_cSi (pc := 9) (As := [.ref (G.2.1 + 136)]) (st := []) h lk_RX6_163 (c_reasonM x.2.1 G (mB σ 136 (σ.1 136) (σ.1 141) (σ.1 142) (upd (σ.1 134) 0 (nI 0))) 136 hc A (by rw [mB_sF]; exact hM) hA) (by decide) rfl rfl (by first | decide | exact Nat.le_of_ble_eq_true rfl) (by decide) dX6_whyNoDrop_9 (fun r1 s2 q3 => ?_)
  rw [q3.1, q3.2]
  exact hret _ _ (⟨rfl, inv_0 hi hM hA ((pk_un (by decide)).trans rfl) ((pk_un (by decide)).trans rfl), mB_out hc⟩) 12 _ dX6_whyNoDrop_12

set_option maxRecDepth 100000 in
set_option maxHeartbeats 800000 in
theorem c_m_leastNext (l : Launch) (G : Gl) (σ : Sg) (n : Nat) (tx : Nat → Nat) (A : Ab) (m : Nat) (H : Nat → Ab) (sv : Nat → Bool) (sl : Nat → Ab) (hi : InvM n tx A m H sv sl σ) : Ci l yX6_leastNext cX6_leastNext 6 .int ({ frames := 3, cells := 0, slots := 0, locals := 72 } : Room) G [.ref (G.2.1 + 134)] σ (fun r σ2 => r = oI (lstN A A.2.1).1 ∧ InvM n tx A m H sv sl σ2 ∧ Out 134 143 σ σ2) := by
  refine Ci_of (own := RX6) rfl (by decide +kernel) (lo := [(0, .ref (G.2.1 + 134))]) rfl (Nat.le_of_ble_eq_true rfl) (fun _ s hp => by obtain ⟨rfl, _⟩ := hp; rfl) ?_
  intro x Q hxl h hret
  subst hxl
  have hc := rc136
  have hM := hi.2.1.1
  have hA := hi.2.1.2
  have h12 := hA.1
  have h4 := hA.2.1
  have hm2 := hi.1.2
  have hm6 := hi.2.2.1.2.1
  have hk14 := hi.2.2.1.1
  have hd := hi.2.2.1.2.2
  have ht := hi.1.1
  have hn9 := ht.1
  refine V.sg (show σ = mB σ 136 (σ.1 136) (σ.1 141) (σ.1 142) (σ.1 134) from (mB_self hc).symm) ?_
  refine r_aload_n (pc := 0) h 0 rfl rfl dX6_leastNext_0 ?_
  refine r_iconst (pc := 1) (v := nI 0) h (by decide) dX6_leastNext_1 ?_
  refine p_6_refusal (pc := 2) h mw_5_22 dX6_leastNext_2 ?_
  refine V.sg (mB_sm hc _ _) ?_
  refine r_aload_n (pc := 5) h 0 rfl rfl dX6_leastNext_5 ?_
  refine r_aload_n (pc := 6) h 0 rfl rfl dX6_leastNext_6 ?_
  refine g_6_now (pc := 7) h mw_3_21 dX6_leastNext_7 ?_
  refine r_cVv (pc := 10) (As := [.ref (G.2.1 + 136)]) (st := []) h lk_RX6_127 (c_finds x.2.1 G σ 136 hc (σ.1 136) (σ.1 141) (σ.1 142) (upd (σ.1 134) 0 (nI 0)) A hA hM) rc_6 (by decide) rfl rfl (by first | decide | exact Nat.le_of_ble_eq_true rfl) (by decide) dX6_leastNext_10 (fun s2 q3 => ?_)
  obtain ⟨h2, x2, e8, hH⟩ := q3
  subst e8
  refine r_iconst (pc := 13) (v := (-1)) h (by decide) dX6_leastNext_13 ?_
  refine r_istore_n (pc := 14) (lo2 := [(1, .int (-1)), (0, .ref (G.2.1 + 134))]) h rfl (by decide) rfl dX6_leastNext_14 ?_
  refine r_iconst (pc := 15) (v := (-1)) h (by decide) dX6_leastNext_15 ?_
  refine r_istore_n (pc := 16) (lo2 := [(2, .int (-1)), (1, .int (-1)), (0, .ref (G.2.1 + 134))]) h rfl (by decide) rfl dX6_leastNext_16 ?_
  refine r_iconst (pc := 17) (v := nI 0) h (by decide) dX6_leastNext_17 ?_
  refine r_istore_n (pc := 18) (lo2 := [(3, .int (nI 0)), (2, .int (-1)), (1, .int (-1)), (0, .ref (G.2.1 + 134))]) h rfl (by decide) rfl dX6_leastNext_18 ?_
  have lp19 : ∀ (fu : Nat) (r : Nat) (ls : Int32), r ≤ A.2.1 → (∀ k, (lstN A r).1 = some k → ls = nI (lstN A r).2) → A.2.1 - r < fu → V x G 6 0 0 Q (mB σ 136 (σ.1 136) h2 x2 (upd (σ.1 134) 0 (nI 0))) 19 [(0, .ref (G.2.1 + 134)), (1, .int (oI (lstN A r).1)), (2, .int ls), (3, .int (nI r))] [] := by
    intro fu
    induction fu with
    | zero => intro r ls hr9 hls hfu; exact absurd hfu (Nat.not_lt_zero _)
    | succ fu ih19 =>
      intro r ls hr9 hls hfu
      refine r_iload_n (pc := 19) h 3 rfl rfl dX6_leastNext_19 ?_
      refine r_aload_n (pc := 20) h 0 rfl rfl dX6_leastNext_20 ?_
      refine g_6_now (pc := 21) h mw_3_21 dX6_leastNext_21 ?_
      refine r_iconst (pc := 24) (v := nI 1) h (by decide) dX6_leastNext_24 ?_
      refine r_iald (pc := 25) h (a_rc hc) 1 rfl (by omega) dX6_leastNext_25 ?_
      refine r_topi (b := (σ.1 136) 1) (mB_s _) ?_
      refine r_topi (b := nI A.2.1) hM.2.1 ?_
      refine r_icmp_ge (pc := 26) (tgt := 93) h (by decide) dX6_leastNext_26 (fun c26 => ?_) (fun c26 => ?_)
      · skip
        rw [nI_leI (by omega) (by omega)] at c26
        refine r_iload_n (pc := 93) h 1 rfl rfl dX6_leastNext_93 ?_
        have e : r = A.2.1 := by omega
        subst e
        exact hret _ _ (⟨rfl, inv_0 hi hM hA ((pk_un (by decide)).trans rfl) ((pk_un (by decide)).trans rfl), mB_out hc⟩) 94 _ dX6_leastNext_94
      · skip
        rw [nI_leI (by omega) (by omega)] at c26
        refine r_aload_n (pc := 29) h 0 rfl rfl dX6_leastNext_29 ?_
        refine r_aload_n (pc := 30) h 0 rfl rfl dX6_leastNext_30 ?_
        refine g_6_now (pc := 31) h mw_3_21 dX6_leastNext_31 ?_
        refine r_iload_n (pc := 34) h 3 rfl rfl dX6_leastNext_34 ?_
        refine r_cVi (pc := 35) (As := [.ref (G.2.1 + 136), .int (nI r)]) (st := []) h lk_RX6_84 (c_next x.2.1 G (mB σ 136 (σ.1 136) h2 x2 (upd (σ.1 134) 0 (nI 0))) 136 hc A (by rw [mB_sF]; exact hM) hA r (by omega) (fun L hL v hv => (mB_h hc _).trans (hH L hL v hv))) rc_6 (by decide) rfl rfl (by first | decide | exact Nat.le_of_ble_eq_true rfl) (by decide) dX6_leastNext_35 (fun r4 s5 q6 => ?_)
        rw [q6.1, q6.2]
        rcases hx : nextO A r with _ | v
        · skip
          refine r_topi (b := (-1)) rfl ?_
          have hgn := lstN_none hx
          refine r_istore (pc := 38) (lo2 := [(4, .int (-1)), (0, .ref (G.2.1 + 134)), (1, .int (oI (lstN A r).1)), (2, .int ls), (3, .int (nI r))]) h (by decide) rfl dX6_leastNext_38 ?_
          refine r_iload (pc := 40) h 0 rfl dX6_leastNext_40 ?_
          refine r_iconst (pc := 42) (v := (-1)) h (by decide) dX6_leastNext_42 ?_
          refine r_icmp_eq (pc := 43) (tgt := 61) h (by decide) dX6_leastNext_43 (fun _ => ?_) (fun c43 => absurd c43 (by decide))
          refine r_iconst (pc := 61) (v := nI 0) h (by decide) dX6_leastNext_61 ?_
          refine r_istore (pc := 62) (lo2 := [(5, .int (nI 0)), (4, .int (-1)), (0, .ref (G.2.1 + 134)), (1, .int (oI (lstN A r).1)), (2, .int ls), (3, .int (nI r))]) h (by decide) rfl dX6_leastNext_62 ?_
          refine r_iload (pc := 64) h 0 rfl dX6_leastNext_64 ?_
          refine r_if_eq (pc := 66) (tgt := 73) h (by decide) dX6_leastNext_66 (fun _ => ?_) (fun c66 => absurd c66 (by decide))
          refine r_iload_n (pc := 73) h 3 rfl rfl dX6_leastNext_73 ?_
          refine r_topi (b := oI (lstN A (r + 1)).1) (by rw [hgn]) ?_
          refine r_istore_n (pc := 74) (lo2 := [(1, .int (oI (lstN A (r + 1)).1)), (5, .int (nI 0)), (4, .int (-1)), (0, .ref (G.2.1 + 134)), (2, .int ls), (3, .int (nI r))]) h rfl (by decide) rfl dX6_leastNext_74 ?_
          refine r_iload (pc := 75) h 1 rfl dX6_leastNext_75 ?_
          refine r_if_eq (pc := 77) (tgt := 85) h (by decide) dX6_leastNext_77 (fun _ => ?_) (fun c77 => absurd c77 (by decide))
          refine r_iload_n (pc := 85) h 4 rfl rfl dX6_leastNext_85 ?_
          refine r_istore_n (pc := 86) (lo2 := [(2, .int ls), (1, .int (oI (lstN A (r + 1)).1)), (5, .int (nI 0)), (4, .int (-1)), (0, .ref (G.2.1 + 134)), (3, .int (nI r))]) h rfl (by decide) rfl dX6_leastNext_86 ?_
          refine r_iinc (pc := 87) (v := nI (r + 1)) (lo2 := [(3, .int (nI (r + 1))), (2, .int ls), (1, .int (oI (lstN A (r + 1)).1)), (5, .int (nI 0)), (4, .int (-1)), (0, .ref (G.2.1 + 134))]) h 5 rfl (iinc1 _) (by decide) rfl dX6_leastNext_87 ?_
          refine r_goto (pc := 90) (tgt := 19) h (by decide) dX6_leastNext_90 ?_
          refine r_sub (lo2 := [(0, .ref (G.2.1 + 134)), (1, .int (oI (lstN A (r + 1)).1)), (2, .int ls), (3, .int (nI (r + 1)))]) [5, 2, 1, 0] rfl ?_
          exact ih19 (r + 1) ls (by omega) (fun k hk => by rw [hgn] at hk ⊢; exact hls k hk) (by omega)
        · skip
          refine r_topi (b := nI v) rfl ?_
          have hv9 := (ath_spec hx).1
          have hle9 := lstN_le A r
          refine r_istore (pc := 38) (lo2 := [(4, .int (nI v)), (0, .ref (G.2.1 + 134)), (1, .int (oI (lstN A r).1)), (2, .int ls), (3, .int (nI r))]) h (by decide) rfl dX6_leastNext_38 ?_
          refine r_iload (pc := 40) h 0 rfl dX6_leastNext_40 ?_
          refine r_iconst (pc := 42) (v := (-1)) h (by decide) dX6_leastNext_42 ?_
          refine r_icmp_eq (pc := 43) (tgt := 61) h (by decide) dX6_leastNext_43 (fun c43 => ?_) (fun c43 => ?_)
          · skip
            exact absurd c43 (nI_ne (by omega))
          · skip
            rcases hb9 : (lstN A r).1 with _ | k
            · skip
              have hgn := lstN_lt hx (by have := lstN_no hb9; omega)
              refine r_iload_n (pc := 46) h 2 rfl rfl dX6_leastNext_46 ?_
              refine r_iconst (pc := 47) (v := (-1)) h (by decide) dX6_leastNext_47 ?_
              refine r_icmp_eq (pc := 48) (tgt := 57) h (by decide) dX6_leastNext_48 (fun _ => ?_) (fun c48 => absurd c48 (by decide))
              refine r_iconst (pc := 57) (v := nI 1) h (by decide) dX6_leastNext_57 ?_
              refine r_goto (pc := 58) (tgt := 62) h (by decide) dX6_leastNext_58 ?_
              refine r_istore (pc := 62) (lo2 := [(5, .int (nI 1)), (4, .int (nI v)), (0, .ref (G.2.1 + 134)), (1, .int (-1)), (2, .int ls), (3, .int (nI r))]) h (by decide) rfl dX6_leastNext_62 ?_
              refine r_iload (pc := 64) h 0 rfl dX6_leastNext_64 ?_
              refine r_if_eq (pc := 66) (tgt := 73) h (by decide) dX6_leastNext_66 (fun c66 => absurd c66 (by decide)) (fun _ => ?_)
              refine r_iload_n (pc := 69) h 5 rfl rfl dX6_leastNext_69 ?_
              refine r_goto (pc := 70) (tgt := 74) h (by decide) dX6_leastNext_70 ?_
              refine r_topi (b := oI (lstN A (r + 1)).1) (by rw [hgn]; rfl) ?_
              refine r_istore_n (pc := 74) (lo2 := [(1, .int (oI (lstN A (r + 1)).1)), (5, .int (nI 1)), (4, .int (nI v)), (0, .ref (G.2.1 + 134)), (2, .int ls), (3, .int (nI r))]) h rfl (by decide) rfl dX6_leastNext_74 ?_
              refine r_iload (pc := 75) h 1 rfl dX6_leastNext_75 ?_
              refine r_if_eq (pc := 77) (tgt := 85) h (by decide) dX6_leastNext_77 (fun c77 => absurd c77 (by decide)) (fun _ => ?_)
              refine r_iload (pc := 80) h 2 rfl dX6_leastNext_80 ?_
              refine r_goto (pc := 82) (tgt := 86) h (by decide) dX6_leastNext_82 ?_
              refine r_istore_n (pc := 86) (lo2 := [(2, .int (nI v)), (1, .int (oI (lstN A (r + 1)).1)), (5, .int (nI 1)), (4, .int (nI v)), (0, .ref (G.2.1 + 134)), (3, .int (nI r))]) h rfl (by decide) rfl dX6_leastNext_86 ?_
              refine r_iinc (pc := 87) (v := nI (r + 1)) (lo2 := [(3, .int (nI (r + 1))), (2, .int (nI v)), (1, .int (oI (lstN A (r + 1)).1)), (5, .int (nI 1)), (4, .int (nI v)), (0, .ref (G.2.1 + 134))]) h 5 rfl (iinc1 _) (by decide) rfl dX6_leastNext_87 ?_
              refine r_goto (pc := 90) (tgt := 19) h (by decide) dX6_leastNext_90 ?_
              refine r_sub (lo2 := [(0, .ref (G.2.1 + 134)), (1, .int (oI (lstN A (r + 1)).1)), (2, .int (nI v)), (3, .int (nI (r + 1)))]) [5, 2, 1, 0] rfl ?_
              exact ih19 (r + 1) (nI v) (by omega) (fun k hk => by rw [hgn]) (by omega)
            · skip
              have hk9 := lstN_lt1 h4 hb9
              have hle8 := hls k hb9
              subst hle8
              refine r_iload_n (pc := 46) h 2 rfl rfl dX6_leastNext_46 ?_
              refine r_iconst (pc := 47) (v := (-1)) h (by decide) dX6_leastNext_47 ?_
              refine r_icmp_eq (pc := 48) (tgt := 57) h (by decide) dX6_leastNext_48 (fun c48 => ?_) (fun c48 => ?_)
              · skip
                exact absurd c48 (nI_ne (by omega))
              · skip
                refine r_iload (pc := 51) h 0 rfl dX6_leastNext_51 ?_
                refine r_iload_n (pc := 53) h 3 rfl rfl dX6_leastNext_53 ?_
                refine r_icmp_ge (pc := 54) (tgt := 61) h (by decide) dX6_leastNext_54 (fun c54 => ?_) (fun c54 => ?_)
                · skip
                  rw [nI_leI (by omega) (by omega)] at c54
                  have hgn := lstN_ge hx (by omega)
                  refine r_iconst (pc := 61) (v := nI 0) h (by decide) dX6_leastNext_61 ?_
                  refine r_istore (pc := 62) (lo2 := [(5, .int (nI 0)), (4, .int (nI v)), (0, .ref (G.2.1 + 134)), (1, .int (nI k)), (2, .int (nI (lstN A r).2)), (3, .int (nI r))]) h (by decide) rfl dX6_leastNext_62 ?_
                  refine r_iload (pc := 64) h 0 rfl dX6_leastNext_64 ?_
                  refine r_if_eq (pc := 66) (tgt := 73) h (by decide) dX6_leastNext_66 (fun _ => ?_) (fun c66 => absurd c66 (by decide))
                  refine r_iload_n (pc := 73) h 3 rfl rfl dX6_leastNext_73 ?_
                  refine r_topi (b := oI (lstN A (r + 1)).1) (by rw [hgn, hb9]; rfl) ?_
                  refine r_istore_n (pc := 74) (lo2 := [(1, .int (oI (lstN A (r + 1)).1)), (5, .int (nI 0)), (4, .int (nI v)), (0, .ref (G.2.1 + 134)), (2, .int (nI (lstN A r).2)), (3, .int (nI r))]) h rfl (by decide) rfl dX6_leastNext_74 ?_
                  refine r_iload (pc := 75) h 1 rfl dX6_leastNext_75 ?_
                  refine r_if_eq (pc := 77) (tgt := 85) h (by decide) dX6_leastNext_77 (fun _ => ?_) (fun c77 => absurd c77 (by decide))
                  refine r_iload_n (pc := 85) h 4 rfl rfl dX6_leastNext_85 ?_
                  refine r_istore_n (pc := 86) (lo2 := [(2, .int (nI (lstN A r).2)), (1, .int (oI (lstN A (r + 1)).1)), (5, .int (nI 0)), (4, .int (nI v)), (0, .ref (G.2.1 + 134)), (3, .int (nI r))]) h rfl (by decide) rfl dX6_leastNext_86 ?_
                  refine r_iinc (pc := 87) (v := nI (r + 1)) (lo2 := [(3, .int (nI (r + 1))), (2, .int (nI (lstN A r).2)), (1, .int (oI (lstN A (r + 1)).1)), (5, .int (nI 0)), (4, .int (nI v)), (0, .ref (G.2.1 + 134))]) h 5 rfl (iinc1 _) (by decide) rfl dX6_leastNext_87 ?_
                  refine r_goto (pc := 90) (tgt := 19) h (by decide) dX6_leastNext_90 ?_
                  refine r_sub (lo2 := [(0, .ref (G.2.1 + 134)), (1, .int (oI (lstN A (r + 1)).1)), (2, .int (nI (lstN A r).2)), (3, .int (nI (r + 1)))]) [5, 2, 1, 0] rfl ?_
                  exact ih19 (r + 1) (nI (lstN A r).2) (by omega) (fun k hk => by rw [hgn]) (by omega)
                · skip
                  rw [nI_leI (by omega) (by omega)] at c54
                  have hgn := lstN_lt hx (by omega)
                  refine r_iconst (pc := 57) (v := nI 1) h (by decide) dX6_leastNext_57 ?_
                  refine r_goto (pc := 58) (tgt := 62) h (by decide) dX6_leastNext_58 ?_
                  refine r_istore (pc := 62) (lo2 := [(5, .int (nI 1)), (4, .int (nI v)), (0, .ref (G.2.1 + 134)), (1, .int (nI k)), (2, .int (nI (lstN A r).2)), (3, .int (nI r))]) h (by decide) rfl dX6_leastNext_62 ?_
                  refine r_iload (pc := 64) h 0 rfl dX6_leastNext_64 ?_
                  refine r_if_eq (pc := 66) (tgt := 73) h (by decide) dX6_leastNext_66 (fun c66 => absurd c66 (by decide)) (fun _ => ?_)
                  refine r_iload_n (pc := 69) h 5 rfl rfl dX6_leastNext_69 ?_
                  refine r_goto (pc := 70) (tgt := 74) h (by decide) dX6_leastNext_70 ?_
                  refine r_topi (b := oI (lstN A (r + 1)).1) (by rw [hgn]; rfl) ?_
                  refine r_istore_n (pc := 74) (lo2 := [(1, .int (oI (lstN A (r + 1)).1)), (5, .int (nI 1)), (4, .int (nI v)), (0, .ref (G.2.1 + 134)), (2, .int (nI (lstN A r).2)), (3, .int (nI r))]) h rfl (by decide) rfl dX6_leastNext_74 ?_
                  refine r_iload (pc := 75) h 1 rfl dX6_leastNext_75 ?_
                  refine r_if_eq (pc := 77) (tgt := 85) h (by decide) dX6_leastNext_77 (fun c77 => absurd c77 (by decide)) (fun _ => ?_)
                  refine r_iload (pc := 80) h 2 rfl dX6_leastNext_80 ?_
                  refine r_goto (pc := 82) (tgt := 86) h (by decide) dX6_leastNext_82 ?_
                  refine r_istore_n (pc := 86) (lo2 := [(2, .int (nI v)), (1, .int (oI (lstN A (r + 1)).1)), (5, .int (nI 1)), (4, .int (nI v)), (0, .ref (G.2.1 + 134)), (3, .int (nI r))]) h rfl (by decide) rfl dX6_leastNext_86 ?_
                  refine r_iinc (pc := 87) (v := nI (r + 1)) (lo2 := [(3, .int (nI (r + 1))), (2, .int (nI v)), (1, .int (oI (lstN A (r + 1)).1)), (5, .int (nI 1)), (4, .int (nI v)), (0, .ref (G.2.1 + 134))]) h 5 rfl (iinc1 _) (by decide) rfl dX6_leastNext_87 ?_
                  refine r_goto (pc := 90) (tgt := 19) h (by decide) dX6_leastNext_90 ?_
                  refine r_sub (lo2 := [(0, .ref (G.2.1 + 134)), (1, .int (oI (lstN A (r + 1)).1)), (2, .int (nI v)), (3, .int (nI (r + 1)))]) [5, 2, 1, 0] rfl ?_
                  exact ih19 (r + 1) (nI v) (by omega) (fun k hk => by rw [hgn]) (by omega)
  refine r_sub (lo2 := [(0, .ref (G.2.1 + 134)), (1, .int (-1)), (2, .int (-1)), (3, .int (nI 0))]) [3, 2, 1, 0] rfl ?_
  exact lp19 _ 0 (-1) (by omega) (fun k hk => by cases hk) (Nat.lt_succ_self _)

