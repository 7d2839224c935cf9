/-! THE REFERENCE: counts, places -/
set_option maxRecDepth 100000 in
set_option maxHeartbeats 800000 in
theorem c_countM (l : Launch) (G : Gl) (σ : Sg) (L k : Nat) (hL : L < 12) (hk : k < 1000) (S : Nat → Bool) (hS : ∀ v, v < 1000 → σ.1 141 (1000 * L + v) = zB (S v)) : Ci l yX6_countUpTo cX6_countUpTo 5 .int ({ frames := 1, cells := 0, slots := 0, locals := 22 } : Room) G [.ref (G.2.1 + 134), .int (nI L), .int (nI k)] σ (fun r σ2 => r = nI (cS S (k + 1)) ∧ σ2 = σ) := by
  refine Ci_of (own := RX6) rfl (by decide +kernel) (lo := [(0, .ref (G.2.1 + 134)), (1, .int (nI L)), (2, .int (nI k))]) rfl (Nat.le_of_ble_eq_true rfl) (fun r s hp => by obtain ⟨rfl, _⟩ := hp; rfl) ?_
  intro x Q hxl h hret
  subst hxl
  refine r_iconst (pc := 0) (v := nI 0) h (by decide) dX6_countUpTo_0 ?_
  refine r_istore_n (pc := 1) (lo2 := [(3, .int (nI 0)), (0, .ref (G.2.1 + 134)), (1, .int (nI L)), (2, .int (nI k))]) h rfl (by decide) rfl dX6_countUpTo_1 ?_
  refine r_iconst (pc := 2) (v := nI 0) h (by decide) dX6_countUpTo_2 ?_
  refine r_istore (pc := 3) (lo2 := [(4, .int (nI 0)), (3, .int (nI 0)), (0, .ref (G.2.1 + 134)), (1, .int (nI L)), (2, .int (nI k))]) h (by decide) rfl dX6_countUpTo_3 ?_
  have lp5 : ∀ (fu : Nat) (v : Nat), v ≤ k + 1 → k + 1 - v < fu → V x G 5 0 0 Q σ 5 [(0, .ref (G.2.1 + 134)), (1, .int (nI L)), (2, .int (nI k)), (3, .int (nI (cS S v))), (4, .int (nI v))] [] := by
    intro fu
    induction fu with
    | zero => intro v hv hfu; exact absurd hfu (Nat.not_lt_zero _)
    | succ fu ih5 =>
      intro v hv hfu
      refine r_iload (pc := 5) h 4 rfl dX6_countUpTo_5 ?_
      refine r_iload_n (pc := 7) h 2 rfl rfl dX6_countUpTo_7 ?_
      refine r_icmp_gt (pc := 8) (tgt := 35) h (by decide) dX6_countUpTo_8 (fun c8 => ?_) (fun c8 => ?_)
      · skip
        rw [nI_ltI (by omega) (by omega)] at c8
        refine r_iload_n (pc := 35) h 3 rfl rfl dX6_countUpTo_35 ?_
        have e : v = k + 1 := by omega
        subst e
        exact hret _ _ (⟨rfl, rfl⟩) 36 _ dX6_countUpTo_36
      · skip
        rw [nI_ltI (by omega) (by omega)] at c8
        refine r_iload_n (pc := 11) h 3 rfl rfl dX6_countUpTo_11 ?_
        refine r_aload_n (pc := 12) h 0 rfl rfl dX6_countUpTo_12 ?_
        refine r_iload_n (pc := 13) h 1 rfl rfl dX6_countUpTo_13 ?_
        refine r_iload (pc := 14) h 4 rfl dX6_countUpTo_14 ?_
        refine r_cVi (pc := 16) (As := [.int (nI L), .int (nI v)]) (st := [.int (nI (cS S v))]) h lk_RX6_51 (c_member x.2.1 G σ L v (S v) (by omega) (by omega) (hS _ (by omega))) rc_6 (by decide) rfl rfl (by first | decide | exact Nat.le_of_ble_eq_true rfl) (by decide) dX6_countUpTo_16 (fun r1 s2 q3 => ?_)
        rw [q3.1, q3.2]
        refine r_if_eq (pc := 19) (tgt := 26) h (by decide) dX6_countUpTo_19 (fun c19 => ?_) (fun c19 => ?_)
        · skip
          replace c19 := zB_0.mp c19
          refine r_iconst (pc := 26) (v := nI 0) h (by decide) dX6_countUpTo_26 ?_
          refine r_iadd (pc := 27) (v := nI (cS S (v + 1))) h ((nI_add _ _).trans (congrArg nI (by rw [cS, c19]; rfl))) dX6_countUpTo_27 ?_
          refine r_istore_n (pc := 28) (lo2 := [(3, .int (nI (cS S (v + 1)))), (0, .ref (G.2.1 + 134)), (1, .int (nI L)), (2, .int (nI k)), (4, .int (nI v))]) h rfl (by decide) rfl dX6_countUpTo_28 ?_
          refine r_iinc (pc := 29) (v := nI (v + 1)) (lo2 := [(4, .int (nI (v + 1))), (3, .int (nI (cS S (v + 1)))), (0, .ref (G.2.1 + 134)), (1, .int (nI L)), (2, .int (nI k))]) h 4 rfl (iinc1 _) (by decide) rfl dX6_countUpTo_29 ?_
          refine r_goto (pc := 32) (tgt := 5) h (by decide) dX6_countUpTo_32 ?_
          refine r_sub (lo2 := [(0, .ref (G.2.1 + 134)), (1, .int (nI L)), (2, .int (nI k)), (3, .int (nI (cS S (v + 1)))), (4, .int (nI (v + 1)))]) [2, 3, 4, 1, 0] rfl ?_
          exact ih5 (v + 1) (by omega) (by omega)
        · skip
          replace c19 := zB_n0.mp c19
          refine r_iconst (pc := 22) (v := nI 1) h (by decide) dX6_countUpTo_22 ?_
          refine r_goto (pc := 23) (tgt := 27) h (by decide) dX6_countUpTo_23 ?_
          refine r_iadd (pc := 27) (v := nI (cS S (v + 1))) h ((nI_add _ _).trans (congrArg nI (by rw [cS, c19]; rfl))) dX6_countUpTo_27 ?_
          refine r_istore_n (pc := 28) (lo2 := [(3, .int (nI (cS S (v + 1)))), (0, .ref (G.2.1 + 134)), (1, .int (nI L)), (2, .int (nI k)), (4, .int (nI v))]) h rfl (by decide) rfl dX6_countUpTo_28 ?_
          refine r_iinc (pc := 29) (v := nI (v + 1)) (lo2 := [(4, .int (nI (v + 1))), (3, .int (nI (cS S (v + 1)))), (0, .ref (G.2.1 + 134)), (1, .int (nI L)), (2, .int (nI k))]) h 4 rfl (iinc1 _) (by decide) rfl dX6_countUpTo_29 ?_
          refine r_goto (pc := 32) (tgt := 5) h (by decide) dX6_countUpTo_32 ?_
          refine r_sub (lo2 := [(0, .ref (G.2.1 + 134)), (1, .int (nI L)), (2, .int (nI k)), (3, .int (nI (cS S (v + 1)))), (4, .int (nI (v + 1)))]) [2, 3, 4, 1, 0] rfl ?_
          exact ih5 (v + 1) (by omega) (by omega)
  refine r_sub (lo2 := [(0, .ref (G.2.1 + 134)), (1, .int (nI L)), (2, .int (nI k)), (3, .int (nI 0)), (4, .int (nI 0))]) [2, 3, 4, 1, 0] rfl ?_
  exact lp5 _ 0 (by omega) (Nat.lt_succ_self _)

set_option maxRecDepth 100000 in
set_option maxHeartbeats 800000 in
theorem c_at (l : Launch) (G : Gl) (σ : Sg) (L : Nat) (hL : L < 12) (p : Nat) (hp : p < 2 ^ 31) (S : Nat → Bool) (hS : ∀ v, v < 1000 → σ.1 141 (1000 * L + v) = zB (S v)) : Ci l yX6_at cX6_at 5 .int ({ frames := 1, cells := 0, slots := 0, locals := 22 } : Room) G [.ref (G.2.1 + 134), .int (nI L), .int (nI p)] σ (fun r σ2 => r = oI (ath S p) ∧ σ2 = σ) := by
  refine Ci_of (own := RX6) rfl (by decide +kernel) (lo := [(0, .ref (G.2.1 + 134)), (1, .int (nI L)), (2, .int (nI p))]) rfl (Nat.le_of_ble_eq_true rfl) (fun r s hp => by obtain ⟨rfl, _⟩ := hp; rfl) ?_
  intro x Q hxl h hret
  subst hxl
  refine r_iconst (pc := 0) (v := nI 0) h (by decide) dX6_at_0 ?_
  refine r_istore_n (pc := 1) (lo2 := [(3, .int (nI 0)), (0, .ref (G.2.1 + 134)), (1, .int (nI L)), (2, .int (nI p))]) h rfl (by decide) rfl dX6_at_1 ?_
  refine r_iconst (pc := 2) (v := nI 0) h (by decide) dX6_at_2 ?_
  refine r_istore (pc := 3) (lo2 := [(4, .int (nI 0)), (3, .int (nI 0)), (0, .ref (G.2.1 + 134)), (1, .int (nI L)), (2, .int (nI p))]) h (by decide) rfl dX6_at_3 ?_
  have lp5 : ∀ (fu : Nat) (v : Nat) (q : Nat), v ≤ 1000 → cS S v = q → q ≤ p → 1000 - v < fu → V x G 5 0 0 Q σ 5 [(0, .ref (G.2.1 + 134)), (1, .int (nI L)), (2, .int (nI p)), (3, .int (nI q)), (4, .int (nI v))] [] := by
    intro fu
    induction fu with
    | zero => intro v q hv hq hqp hfu; exact absurd hfu (Nat.not_lt_zero _)
    | succ fu ih5 =>
      intro v q hv hq hqp hfu
      refine r_iload (pc := 5) h 4 rfl dX6_at_5 ?_
      refine r_sipush (pc := 7) (v := nI 999) h (by decide) dX6_at_7 ?_
      refine r_icmp_gt (pc := 10) (tgt := 40) h (by decide) dX6_at_10 (fun c10 => ?_) (fun c10 => ?_)
      · skip
        rw [nI_ltI (by omega) (by omega)] at c10
        refine r_iconst (pc := 40) (v := (-1)) h (by decide) dX6_at_40 ?_
        have e : v = 1000 := by omega
        subst e
        exact hret _ _ (⟨by rw [ath_none (by omega)]; rfl, rfl⟩) 41 _ dX6_at_41
      · skip
        rw [nI_ltI (by omega) (by omega)] at c10
        refine r_aload_n (pc := 13) h 0 rfl rfl dX6_at_13 ?_
        refine r_iload_n (pc := 14) h 1 rfl rfl dX6_at_14 ?_
        refine r_iload (pc := 15) h 4 rfl dX6_at_15 ?_
        refine r_cVi (pc := 17) (As := [.int (nI L), .int (nI v)]) (st := []) h lk_RX6_51 (c_member x.2.1 G σ L v (S v) (by omega) (by omega) (hS _ (by omega))) rc_6 (by decide) rfl rfl (by first | decide | exact Nat.le_of_ble_eq_true rfl) (by decide) dX6_at_17 (fun r1 s2 q3 => ?_)
        rw [q3.1, q3.2]
        refine r_if_eq (pc := 20) (tgt := 34) h (by decide) dX6_at_20 (fun c20 => ?_) (fun c20 => ?_)
        · skip
          replace c20 := zB_0.mp c20
          refine r_iinc (pc := 34) (v := nI (v + 1)) (lo2 := [(4, .int (nI (v + 1))), (0, .ref (G.2.1 + 134)), (1, .int (nI L)), (2, .int (nI p)), (3, .int (nI q))]) h 4 rfl (iinc1 _) (by decide) rfl dX6_at_34 ?_
          refine r_goto (pc := 37) (tgt := 5) h (by decide) dX6_at_37 ?_
          refine r_sub (lo2 := [(0, .ref (G.2.1 + 134)), (1, .int (nI L)), (2, .int (nI p)), (3, .int (nI q)), (4, .int (nI (v + 1)))]) [1, 2, 3, 4, 0] rfl ?_
          exact ih5 (v + 1) q (by omega) (by rw [cS, c20, hq]; rfl) (by omega) (by omega)
        · skip
          replace c20 := zB_n0.mp c20
          refine r_iload_n (pc := 23) h 3 rfl rfl dX6_at_23 ?_
          refine r_iload_n (pc := 24) h 2 rfl rfl dX6_at_24 ?_
          refine r_icmp_ne (pc := 25) (tgt := 31) h (by decide) dX6_at_25 (fun c25 => ?_) (fun c25 => ?_)
          · skip
            have hm := cS_le S v
            rw [nI_eq (by omega) (by omega)] at c25
            refine r_iinc (pc := 31) (v := nI (q + 1)) (lo2 := [(3, .int (nI (q + 1))), (0, .ref (G.2.1 + 134)), (1, .int (nI L)), (2, .int (nI p)), (4, .int (nI v))]) h 3 rfl (iinc1 _) (by decide) rfl dX6_at_31 ?_
            refine r_iinc (pc := 34) (v := nI (v + 1)) (lo2 := [(4, .int (nI (v + 1))), (3, .int (nI (q + 1))), (0, .ref (G.2.1 + 134)), (1, .int (nI L)), (2, .int (nI p))]) h 4 rfl (iinc1 _) (by decide) rfl dX6_at_34 ?_
            refine r_goto (pc := 37) (tgt := 5) h (by decide) dX6_at_37 ?_
            refine r_sub (lo2 := [(0, .ref (G.2.1 + 134)), (1, .int (nI L)), (2, .int (nI p)), (3, .int (nI (q + 1))), (4, .int (nI (v + 1)))]) [2, 3, 4, 1, 0] rfl ?_
            exact ih5 (v + 1) (q + 1) (by omega) (by rw [cS, c20, hq]; rfl) (by omega) (by omega)
          · skip
            have hm := cS_le S v
            rw [nI_eq (by omega) (by omega)] at c25
            refine r_iload (pc := 28) h 4 rfl dX6_at_28 ?_
            exact hret _ _ (⟨by subst c25; rw [ath_some (by omega) c20 hq]; rfl, rfl⟩) 30 _ dX6_at_30
  refine r_sub (lo2 := [(0, .ref (G.2.1 + 134)), (1, .int (nI L)), (2, .int (nI p)), (3, .int (nI 0)), (4, .int (nI 0))]) [2, 3, 4, 1, 0] rfl ?_
  exact lp5 _ 0 0 (by omega) rfl (by omega) (Nat.lt_succ_self _)

set_option maxRecDepth 100000 in
set_option maxHeartbeats 800000 in
theorem c_atN (l : Launch) (G : Gl) (σ : Sg) (L : Nat) (hL : L < 12) (S : Nat → Bool) (hS : ∀ v, v < 1000 → σ.1 141 (1000 * L + v) = zB (S v)) : Ci l yX6_at cX6_at 5 .int ({ frames := 1, cells := 0, slots := 0, locals := 22 } : Room) G [.ref (G.2.1 + 134), .int (nI L), .int (-1)] σ (fun r σ2 => r = (-1 : Int32) ∧ σ2 = σ) := by
  refine Ci_of (own := RX6) rfl (by decide +kernel) (lo := [(0, .ref (G.2.1 + 134)), (1, .int (nI L)), (2, .int (-1))]) rfl (Nat.le_of_ble_eq_true rfl) (fun r s hp => by obtain ⟨rfl, _⟩ := hp; rfl) ?_
  intro x Q hxl h hret
  subst hxl
  refine r_iconst (pc := 0) (v := nI 0) h (by decide) dX6_at_0 ?_
  refine r_istore_n (pc := 1) (lo2 := [(3, .int (nI 0)), (0, .ref (G.2.1 + 134)), (1, .int (nI L)), (2, .int (-1))]) h rfl (by decide) rfl dX6_at_1 ?_
  refine r_iconst (pc := 2) (v := nI 0) h (by decide) dX6_at_2 ?_
  refine r_istore (pc := 3) (lo2 := [(4, .int (nI 0)), (3, .int (nI 0)), (0, .ref (G.2.1 + 134)), (1, .int (nI L)), (2, .int (-1))]) h (by decide) rfl dX6_at_3 ?_
  have lp5 : ∀ (fu : Nat) (v : Nat) (q : Nat), v ≤ 1000 → cS S v = q → q ≤ v → 1000 - v < fu → V x G 5 0 0 Q σ 5 [(0, .ref (G.2.1 + 134)), (1, .int (nI L)), (2, .int (-1)), (3, .int (nI q)), (4, .int (nI v))] [] := by
    intro fu
    induction fu with
    | zero => intro v q hv hq hqp hfu; exact absurd hfu (Nat.not_lt_zero _)
    | succ fu ih5 =>
      intro v q hv hq hqp hfu
      refine r_iload (pc := 5) h 4 rfl dX6_at_5 ?_
      refine r_sipush (pc := 7) (v := nI 999) h (by decide) dX6_at_7 ?_
      refine r_icmp_gt (pc := 10) (tgt := 40) h (by decide) dX6_at_10 (fun c10 => ?_) (fun c10 => ?_)
      · skip
        rw [nI_ltI (by omega) (by omega)] at c10
        refine r_iconst (pc := 40) (v := (-1)) h (by decide) dX6_at_40 ?_
        exact hret _ _ (⟨rfl, rfl⟩) 41 _ dX6_at_41
      · skip
        rw [nI_ltI (by omega) (by omega)] at c10
        refine r_aload_n (pc := 13) h 0 rfl rfl dX6_at_13 ?_
        refine r_iload_n (pc := 14) h 1 rfl rfl dX6_at_14 ?_
        refine r_iload (pc := 15) h 4 rfl dX6_at_15 ?_
        refine r_cVi (pc := 17) (As := [.int (nI L), .int (nI v)]) (st := []) h lk_RX6_51 (c_member x.2.1 G σ L v (S v) (by omega) (by omega) (hS _ (by omega))) rc_6 (by decide) rfl rfl (by first | decide | exact Nat.le_of_ble_eq_true rfl) (by decide) dX6_at_17 (fun r1 s2 q3 => ?_)
        rw [q3.1, q3.2]
        refine r_if_eq (pc := 20) (tgt := 34) h (by decide) dX6_at_20 (fun c20 => ?_) (fun c20 => ?_)
        · skip
          replace c20 := zB_0.mp c20
          refine r_iinc (pc := 34) (v := nI (v + 1)) (lo2 := [(4, .int (nI (v + 1))), (0, .ref (G.2.1 + 134)), (1, .int (nI L)), (2, .int (-1)), (3, .int (nI q))]) h 4 rfl (iinc1 _) (by decide) rfl dX6_at_34 ?_
          refine r_goto (pc := 37) (tgt := 5) h (by decide) dX6_at_37 ?_
          refine r_sub (lo2 := [(0, .ref (G.2.1 + 134)), (1, .int (nI L)), (2, .int (-1)), (3, .int (nI q)), (4, .int (nI (v + 1)))]) [1, 2, 3, 4, 0] rfl ?_
          exact ih5 (v + 1) q (by omega) (by rw [cS, c20, hq]; rfl) (by omega) (by omega)
        · skip
          replace c20 := zB_n0.mp c20
          refine r_iload_n (pc := 23) h 3 rfl rfl dX6_at_23 ?_
          refine r_iload_n (pc := 24) h 2 rfl rfl dX6_at_24 ?_
          refine r_icmp_ne (pc := 25) (tgt := 31) h (by decide) dX6_at_25 (fun c25 => ?_) (fun c25 => ?_)
          · skip
            refine r_iinc (pc := 31) (v := nI (q + 1)) (lo2 := [(3, .int (nI (q + 1))), (0, .ref (G.2.1 + 134)), (1, .int (nI L)), (2, .int (-1)), (4, .int (nI v))]) h 3 rfl (iinc1 _) (by decide) rfl dX6_at_31 ?_
            refine r_iinc (pc := 34) (v := nI (v + 1)) (lo2 := [(4, .int (nI (v + 1))), (3, .int (nI (q + 1))), (0, .ref (G.2.1 + 134)), (1, .int (nI L)), (2, .int (-1))]) h 4 rfl (iinc1 _) (by decide) rfl dX6_at_34 ?_
            refine r_goto (pc := 37) (tgt := 5) h (by decide) dX6_at_37 ?_
            refine r_sub (lo2 := [(0, .ref (G.2.1 + 134)), (1, .int (nI L)), (2, .int (-1)), (3, .int (nI (q + 1))), (4, .int (nI (v + 1)))]) [2, 3, 4, 1, 0] rfl ?_
            exact ih5 (v + 1) (q + 1) (by omega) (by rw [cS, c20, hq]; rfl) (by omega) (by omega)
          · skip
            exact absurd c25 (nI_ne (by omega))
  refine r_sub (lo2 := [(0, .ref (G.2.1 + 134)), (1, .int (nI L)), (2, .int (-1)), (3, .int (nI 0)), (4, .int (nI 0))]) [2, 3, 4, 1, 0] rfl ?_
  exact lp5 _ 0 0 (by omega) rfl (by omega) (Nat.lt_succ_self _)

set_option maxRecDepth 100000 in
set_option maxHeartbeats 800000 in
theorem c_next (l : Launch) (G : Gl) (σ : Sg) (c : Nat) (hc : Rc c) (A : Ab) (hM : RelM A (σ.1 c)) (hA : okA A) (r : Nat) (hr : r < A.2.1) (hH : HasN (aU A) A.1 (σ.1 141)) : Ci l yX6_next cX6_next 3 .int ({ frames := 2, cells := 0, slots := 0, locals := 46 } : Room) G [.ref (G.2.1 + 134), .ref (G.2.1 + c), .int (nI r)] σ (fun r1 σ2 => r1 = oI (nextO A r) ∧ σ2 = σ) := by
  refine Ci_of (own := RX6) rfl (by decide +kernel) (lo := [(0, .ref (G.2.1 + 134)), (1, .ref (G.2.1 + c)), (2, .int (nI r))]) rfl (Nat.le_of_ble_eq_true rfl) (fun _ s hp => by obtain ⟨rfl, _⟩ := hp; rfl) ?_
  intro x Q hxl h hret
  subst hxl
  have h12 := hA.1
  have h4 := hA.2.1
  have hq := hA.2.2.2 r hr
  have hle := cS_le (mem (aU A) (aL A r)) 1000
  refine r_aload_n (pc := 0) h 0 rfl rfl dX6_next_0 ?_
  refine r_aload_n (pc := 1) h 1 rfl rfl dX6_next_1 ?_
  refine r_iload_n (pc := 2) h 2 rfl rfl dX6_next_2 ?_
  refine r_cSi (pc := 3) (As := [.ref (G.2.1 + c), .int (nI r)]) (st := [.ref (G.2.1 + 134)]) h lk_RX6_73 (c_listOfReader x.2.1 G σ c hc r (by omega)) (by decide) rfl rfl (by first | decide | exact Nat.le_of_ble_eq_true rfl) (by decide) dX6_next_3 (fun r1 s2 q3 => ?_)
  rw [q3.1, q3.2]
  refine r_topi (b := nI (aL A r)) (hM.2.2.2.2 _ hr).1 ?_
  refine r_aload_n (pc := 6) h 1 rfl rfl dX6_next_6 ?_
  refine r_iload_n (pc := 7) h 2 rfl rfl dX6_next_7 ?_
  refine r_cSi (pc := 8) (As := [.ref (G.2.1 + c), .int (nI r)]) (st := [.int (nI (aL A r)), .ref (G.2.1 + 134)]) h lk_RX6_77 (c_readBy x.2.1 G σ c hc r (by omega)) (by decide) rfl rfl (by first | decide | exact Nat.le_of_ble_eq_true rfl) (by decide) dX6_next_8 (fun r4 s5 q6 => ?_)
  rw [q6.1, q6.2]
  refine r_topi (b := nI (aP A r)) (hM.2.2.2.2 _ hr).2 ?_
  refine r_cVi (pc := 11) (As := [.int (nI (aL A r)), .int (nI (aP A r))]) (st := []) h lk_RX6_80 (c_at x.2.1 G σ (aL A r) (by omega) (aP A r) (by omega) (mem (aU A) (aL A r)) (fun v hv => hH _ hq.1 v hv)) rc_6 (by decide) rfl rfl (by first | decide | exact Nat.le_of_ble_eq_true rfl) (by decide) dX6_next_11 (fun r7 s8 q9 => ?_)
  rw [q9.1, q9.2]
  exact hret _ _ (⟨rfl, rfl⟩) 14 _ dX6_next_14

