/-! LISTS: the methods of the rows of bits -/
theorem noneA {S : Nat → Bool} {m i q : Nat} (hm : m ≤ 1000) (hs : cS S m = i) (hp : i ≤ q) (h : nxt S m = none) : ath S q = none := ath_none (by rw [nxt_cSN hm h]; omega)
theorem noneB {S : Nat → Bool} {m i q : Nat} (hm : m ≤ 1000) (hs : cS S m = i) (hp : i ≤ q) (h : 1000 ≤ i) : ath S q = none := by
  have h1 := cS_le S m
  have h2 : m = 1000 := by omega
  subst h2
  exact ath_none (by omega)
set_option maxRecDepth 100000 in
set_option maxHeartbeats 800000 in
theorem c_nextFrom (l : Launch) (G : Gl) (σ : Sg) (b : Nat) (hb : Blk b) (L n : Nat) (hL : L < 12) (hn : n ≤ 1000) (hc : Clr (σ.2 (b + 2)) L) : Ci l yX1_nextFrom cX1_nextFrom 8 .int ({ frames := 2, cells := 0, slots := 0, locals := 42 } : Room) G [.ref (G.2.1 + (b + 1)), .int (nI L), .int (nI n)] σ (fun r σ2 => r = oI (nxt (bW (σ.2 (b + 2)) L) n) ∧ σ2 = σ) := by
  refine Ci_of (own := RX1) rfl (by decide +kernel) (lo := [(0, .ref (G.2.1 + (b + 1))), (1, .int (nI L)), (2, .int (nI n))]) rfl (Nat.le_of_ble_eq_true rfl) (fun r s hp => by obtain ⟨rfl, rfl⟩ := hp; rfl) ?_
  intro x Q hxl h hret
  subst hxl
  refine r_iload_n (pc := 0) h 2 rfl rfl dX1_nextFrom_0 ?_
  refine r_iconst (pc := 1) (v := nI 0) h (by decide) dX1_nextFrom_1 ?_
  refine r_sipush (pc := 2) (v := nI 999) h (by decide) dX1_nextFrom_2 ?_
  refine r_cNi (pc := 5) (idx := 25) (host := RX5) (As := [.int (nI n), .int (nI 0), .int (nI 999)]) (st := []) h lkn_isWithin (fun s hs => hs.1) (c_isWithinN x.2.1 G σ n (by omega)) (by decide) rfl rfl (by first | decide | exact Nat.le_of_ble_eq_true rfl) (by decide) dX1_nextFrom_5 (fun r1 s2 q3 => ?_)
  rw [q3.1, q3.2]
  refine r_if_ne (pc := 8) (tgt := 13) h (by decide) dX1_nextFrom_8 (fun c8 => ?_) (fun c8 => ?_)
  · skip
    replace c8 := zB_n0.mp c8
    simp only [decide_eq_true_iff, decide_eq_false_iff_not] at c8
    refine r_ldc2 (pc := 13) (v := (-1 : Int64)) h mw_9_15 dX1_nextFrom_13 ?_
    refine r_iload_n (pc := 16) h 2 rfl rfl dX1_nextFrom_16 ?_
    refine r_lshl (pc := 17) (v := (-1 : Int64) <<< ((nI n).toInt64 &&& 63)) h rfl dX1_nextFrom_17 ?_
    refine r_lstore_n (pc := 18) (lo2 := [(3, .long ((-1 : Int64) <<< ((nI n).toInt64 &&& 63))), (0, .ref (G.2.1 + (b + 1))), (1, .int (nI L)), (2, .int (nI n))]) h rfl (by decide) rfl dX1_nextFrom_18 ?_
    refine r_iload_n (pc := 19) h 3 rfl rfl dX1_nextFrom_19 ?_
    refine r_bipush (pc := 20) (v := nI 64) h (by decide) dX1_nextFrom_20 ?_
    refine r_idiv (pc := 22) (v := nI (n / 64)) h (by decide) (pk_div (by omega) (by omega) (by omega)) dX1_nextFrom_22 ?_
    refine r_istore (pc := 23) (lo2 := [(5, .int (nI (n / 64))), (3, .long ((-1 : Int64) <<< ((nI n).toInt64 &&& 63))), (0, .ref (G.2.1 + (b + 1))), (1, .int (nI L)), (2, .int (nI n))]) h (by decide) rfl dX1_nextFrom_23 ?_
    have lp25 : ∀ (fu : Nat) (i : Nat) (m : Int64), i ≤ 16 → n < i * 64 + 64 → (∀ j, j < 64 → m.toBitVec.getLsbD j = decide (n ≤ i * 64 + j)) → (∀ v, n ≤ v → v < i * 64 → bW (σ.2 (b + 2)) L v = false) → 16 - i < fu → V x G 8 0 0 Q σ 25 [(0, .ref (G.2.1 + (b + 1))), (1, .int (nI L)), (5, .int (nI i)), (3, .long m)] [] := by
      intro fu
      induction fu with
      | zero => intro i m hi hni hm hno hfu; exact absurd hfu (Nat.not_lt_zero _)
      | succ fu ih25 =>
        intro i m hi hni hm hno hfu
        refine r_iload (pc := 25) h 2 rfl dX1_nextFrom_25 ?_
        refine r_bipush (pc := 27) (v := nI 16) h (by decide) dX1_nextFrom_27 ?_
        refine r_icmp_ge (pc := 29) (tgt := 77) h (by decide) dX1_nextFrom_29 (fun c29 => ?_) (fun c29 => ?_)
        · skip
          rw [nI_leI (by omega) (by omega)] at c29
          refine r_iconst (pc := 77) (v := (-1)) h (by decide) dX1_nextFrom_77 ?_
          exact hret _ _ (⟨by rw [nxt_none (fun u h1 h2 => hno u h1 (by omega))]; rfl, rfl⟩) 78 _ dX1_nextFrom_78
        · skip
          rw [nI_leI (by omega) (by omega)] at c29
          refine r_aload_n (pc := 32) h 0 rfl rfl dX1_nextFrom_32 ?_
          refine g_1_words (pc := 33) hb h mw_3_0 dX1_nextFrom_33 ?_
          refine r_iload_n (pc := 36) h 1 rfl rfl dX1_nextFrom_36 ?_
          refine r_bipush (pc := 37) (v := nI 16) h (by decide) dX1_nextFrom_37 ?_
          refine r_imul (pc := 39) (v := nI (L * 16)) h (pk_mul _ _) dX1_nextFrom_39 ?_
          refine r_iload (pc := 40) h 2 rfl dX1_nextFrom_40 ?_
          refine r_iadd (pc := 42) (v := nI ((L * 16) + i)) h (nI_add _ _) dX1_nextFrom_42 ?_
          refine r_lald (pc := 43) h (a_wd hb) ((L * 16) + i) rfl (by omega) dX1_nextFrom_43 ?_
          refine r_lload_n (pc := 44) h 3 rfl rfl dX1_nextFrom_44 ?_
          refine r_land (pc := 45) (v := (σ.2 (b + 2) ((L * 16) + i)) &&& m) h rfl dX1_nextFrom_45 ?_
          refine r_lstore (pc := 46) (lo2 := [(6, .long ((σ.2 (b + 2) ((L * 16) + i)) &&& m)), (0, .ref (G.2.1 + (b + 1))), (1, .int (nI L)), (5, .int (nI i)), (3, .long m)]) h (by decide) rfl dX1_nextFrom_46 ?_
          refine r_lload (pc := 48) h 0 rfl dX1_nextFrom_48 ?_
          refine r_lconst (pc := 50) (v := 0) h (by decide) dX1_nextFrom_50 ?_
          refine r_lcmp (pc := 51) (v := lg_cmp ((σ.2 (b + 2) ((L * 16) + i)) &&& m) 0) h rfl dX1_nextFrom_51 ?_
          refine r_if_eq (pc := 52) (tgt := 67) h (by decide) dX1_nextFrom_52 (fun c52 => ?_) (fun c52 => ?_)
          · skip
            refine r_ldc2 (pc := 67) (v := (-1 : Int64)) h mw_9_15 dX1_nextFrom_67 ?_
            refine r_lstore_n (pc := 70) (lo2 := [(3, .long (-1 : Int64)), (6, .long ((σ.2 (b + 2) ((L * 16) + i)) &&& m)), (0, .ref (G.2.1 + (b + 1))), (1, .int (nI L)), (5, .int (nI i))]) h rfl (by decide) rfl dX1_nextFrom_70 ?_
            refine r_iinc (pc := 71) (v := nI (i + 1)) (lo2 := [(5, .int (nI (i + 1))), (3, .long (-1 : Int64)), (6, .long ((σ.2 (b + 2) ((L * 16) + i)) &&& m)), (0, .ref (G.2.1 + (b + 1))), (1, .int (nI L))]) h 4 rfl (iinc1 _) (by decide) rfl dX1_nextFrom_71 ?_
            refine r_goto (pc := 74) (tgt := 25) h (by decide) dX1_nextFrom_74 ?_
            refine r_sub (lo2 := [(0, .ref (G.2.1 + (b + 1))), (1, .int (nI L)), (5, .int (nI (i + 1))), (3, .long (-1 : Int64))]) [3, 4, 0, 1] rfl ?_
            have e0 : n ≤ (i + 1) * 64 := by omega
            have e1 := nf_m1 e0
            have e2 := nf_miss hm hno c52
            have e3 : 16 - (i + 1) < fu := by omega
            have e4 : i + 1 ≤ 16 := by omega
            have e5 : n < (i + 1) * 64 + 64 := by omega
            exact ih25 (i + 1) (-1) e4 e5 e1 e2 e3
          · skip
            refine r_iload (pc := 55) h 3 rfl dX1_nextFrom_55 ?_
            refine r_bipush (pc := 57) (v := nI 64) h (by decide) dX1_nextFrom_57 ?_
            refine r_imul (pc := 59) (v := nI (i * 64)) h (pk_mul _ _) dX1_nextFrom_59 ?_
            refine r_lload (pc := 60) h 0 rfl dX1_nextFrom_60 ?_
            refine r_cSi (pc := 62) (As := [.long ((σ.2 (b + 2) ((L * 16) + i)) &&& m)]) (st := [.int (nI (i * 64))]) h lk_RX1_35 (c_lowestBit x.2.1 G σ ((σ.2 (b + 2) ((L * 16) + i)) &&& m)) (by decide) rfl rfl (by first | decide | exact Nat.le_of_ble_eq_true rfl) (by decide) dX1_nextFrom_62 (fun r4 s5 q6 => ?_)
            rw [q6.1, q6.2]
            refine r_iadd (pc := 65) (v := nI ((i * 64) + (popc (((σ.2 (b + 2) ((L * 16) + i)) &&& m &&& -((σ.2 (b + 2) ((L * 16) + i)) &&& m)) - 1)))) h (nI_add _ _) dX1_nextFrom_65 ?_
            exact hret _ _ (⟨nf_hit (by omega) hm hno hc c52, rfl⟩) 66 _ dX1_nextFrom_66
    refine r_sub (lo2 := [(0, .ref (G.2.1 + (b + 1))), (1, .int (nI L)), (5, .int (nI (n / 64))), (3, .long ((-1 : Int64) <<< ((nI n).toInt64 &&& 63)))]) [2, 3, 0, 1] rfl ?_
    exact lp25 _ (n / 64) _ (by omega) (by omega) (nf_m0 (by omega)) (fun v h1 h2 => absurd h1 (by omega)) (Nat.lt_succ_self _)
  · skip
    replace c8 := zB_0.mp c8
    simp only [decide_eq_true_iff, decide_eq_false_iff_not] at c8
    refine r_iconst (pc := 11) (v := (-1)) h (by decide) dX1_nextFrom_11 ?_
    exact hret _ _ (⟨by rw [nxt_none (fun u h1 h2 => absurd h2 (by omega))]; rfl, rfl⟩) 12 _ dX1_nextFrom_12

set_option maxRecDepth 100000 in
set_option maxHeartbeats 800000 in
theorem c_memberReadAt (l : Launch) (G : Gl) (σ : Sg) (b : Nat) (hb : Blk b) (L q : Nat) (hL : L < 12) (hq : q < 2 ^ 31) (hc : Clr (σ.2 (b + 2)) L) : Ci l yX1_memberReadAt cX1_memberReadAt 5 .int ({ frames := 3, cells := 0, slots := 0, locals := 69 } : Room) G [.ref (G.2.1 + (b + 1)), .int (nI L), .int (nI q)] σ (fun r σ2 => r = oI (ath (bW (σ.2 (b + 2)) L) q) ∧ σ2 = σ) := by
  refine Ci_of (own := RX1) rfl (by decide +kernel) (lo := [(0, .ref (G.2.1 + (b + 1))), (1, .int (nI L)), (2, .int (nI q))]) rfl (Nat.le_of_ble_eq_true rfl) (fun r s hp => by obtain ⟨rfl, rfl⟩ := hp; rfl) ?_
  intro x Q hxl h hret
  subst hxl
  refine r_aload_n (pc := 0) h 0 rfl rfl dX1_memberReadAt_0 ?_
  refine r_iload_n (pc := 1) h 1 rfl rfl dX1_memberReadAt_1 ?_
  refine r_iconst (pc := 2) (v := nI 0) h (by decide) dX1_memberReadAt_2 ?_
  refine r_cVi (pc := 3) (As := [.int (nI L), .int (nI 0)]) (st := []) h lk_RX1_39 (c_nextFrom x.2.1 G σ b hb L 0 (by omega) (by omega) hc) (rc_1 hb) (by decide) rfl rfl (by first | decide | exact Nat.le_of_ble_eq_true rfl) (by decide) dX1_memberReadAt_3 (fun r1 s2 q3 => ?_)
  rw [q3.1, q3.2]
  refine r_istore_n (pc := 6) (lo2 := [(3, .int (oI (nxt (bW (σ.2 (b + 2)) L) 0))), (0, .ref (G.2.1 + (b + 1))), (1, .int (nI L)), (2, .int (nI q))]) h rfl (by decide) rfl dX1_memberReadAt_6 ?_
  refine r_iconst (pc := 7) (v := nI 0) h (by decide) dX1_memberReadAt_7 ?_
  refine r_istore (pc := 8) (lo2 := [(4, .int (nI 0)), (3, .int (oI (nxt (bW (σ.2 (b + 2)) L) 0))), (0, .ref (G.2.1 + (b + 1))), (1, .int (nI L)), (2, .int (nI q))]) h (by decide) rfl dX1_memberReadAt_8 ?_
  have lp10 : ∀ (fu : Nat) (i : Nat) (m : Nat), i ≤ 1000 → m ≤ 1000 → cS (bW (σ.2 (b + 2)) L) m = i → i ≤ q → 1000 - i < fu → V x G 5 0 0 Q σ 10 [(0, .ref (G.2.1 + (b + 1))), (1, .int (nI L)), (2, .int (nI q)), (3, .int (oI (nxt (bW (σ.2 (b + 2)) L) m))), (4, .int (nI i))] [] := by
    intro fu
    induction fu with
    | zero => intro i m hi hm hs hp hfu; exact absurd hfu (Nat.not_lt_zero _)
    | succ fu ih10 =>
      intro i m hi hm hs hp hfu
      refine r_iload (pc := 10) h 4 rfl dX1_memberReadAt_10 ?_
      refine r_sipush (pc := 12) (v := nI 1000) h (by decide) dX1_memberReadAt_12 ?_
      refine r_icmp_ge (pc := 15) (tgt := 46) h (by decide) dX1_memberReadAt_15 (fun c15 => ?_) (fun c15 => ?_)
      · skip
        rw [nI_leI (by omega) (by omega)] at c15
        refine r_iconst (pc := 46) (v := (-1)) h (by decide) dX1_memberReadAt_46 ?_
        exact hret _ _ (⟨by rw [show ath (bW (σ.2 (b + 2)) L) q = none from by first | exact noneA hm hs hp (oI_nxt.mp c20) | exact noneB hm hs hp c15]; rfl, rfl⟩) 47 _ dX1_memberReadAt_47
      · skip
        rw [nI_leI (by omega) (by omega)] at c15
        refine r_iload_n (pc := 18) h 3 rfl rfl dX1_memberReadAt_18 ?_
        refine r_iconst (pc := 19) (v := (-1)) h (by decide) dX1_memberReadAt_19 ?_
        refine r_icmp_eq (pc := 20) (tgt := 46) h (by decide) dX1_memberReadAt_20 (fun c20 => ?_) (fun c20 => ?_)
        · skip
          refine r_iconst (pc := 46) (v := (-1)) h (by decide) dX1_memberReadAt_46 ?_
          exact hret _ _ (⟨by rw [show ath (bW (σ.2 (b + 2)) L) q = none from by first | exact noneA hm hs hp (oI_nxt.mp c20) | exact noneB hm hs hp c15]; rfl, rfl⟩) 47 _ dX1_memberReadAt_47
        · skip
          obtain ⟨v, hv⟩ : ∃ v, nxt (bW (σ.2 (b + 2)) L) m = some v := by
            cases e9 : nxt (bW (σ.2 (b + 2)) L) m with
            | none => exact absurd (by rw [e9]; rfl) c20
            | some v9 => exact ⟨v9, rfl⟩
          obtain ⟨v1, v2, v3, v4⟩ := nxt_spec hv
          rw [hv]
          refine r_sub (lo2 := [(0, .ref (G.2.1 + (b + 1))), (1, .int (nI L)), (2, .int (nI q)), (3, .int (nI v)), (4, .int (nI i))]) [0, 1, 2, 3, 4] rfl ?_
          refine r_iload (pc := 23) h 4 rfl dX1_memberReadAt_23 ?_
          refine r_iload_n (pc := 25) h 2 rfl rfl dX1_memberReadAt_25 ?_
          refine r_icmp_ne (pc := 26) (tgt := 31) h (by decide) dX1_memberReadAt_26 (fun c26 => ?_) (fun c26 => ?_)
          · skip
            rw [nI_eq (by omega) (by omega)] at c26
            refine r_aload_n (pc := 31) h 0 rfl rfl dX1_memberReadAt_31 ?_
            refine r_iload_n (pc := 32) h 1 rfl rfl dX1_memberReadAt_32 ?_
            refine r_iload_n (pc := 33) h 3 rfl rfl dX1_memberReadAt_33 ?_
            refine r_iconst (pc := 34) (v := nI 1) h (by decide) dX1_memberReadAt_34 ?_
            refine r_iadd (pc := 35) (v := nI (v + 1)) h (nI_add _ _) dX1_memberReadAt_35 ?_
            refine r_cVi (pc := 36) (As := [.int (nI L), .int (nI (v + 1))]) (st := []) h lk_RX1_39 (c_nextFrom x.2.1 G σ b hb L (v + 1) (by omega) (by omega) hc) (rc_1 hb) (by decide) rfl rfl (by first | decide | exact Nat.le_of_ble_eq_true rfl) (by decide) dX1_memberReadAt_36 (fun r4 s5 q6 => ?_)
            rw [q6.1, q6.2]
            refine r_istore_n (pc := 39) (lo2 := [(3, .int (oI (nxt (bW (σ.2 (b + 2)) L) (v + 1)))), (0, .ref (G.2.1 + (b + 1))), (1, .int (nI L)), (2, .int (nI q)), (4, .int (nI i))]) h rfl (by decide) rfl dX1_memberReadAt_39 ?_
            refine r_iinc (pc := 40) (v := nI (i + 1)) (lo2 := [(4, .int (nI (i + 1))), (3, .int (oI (nxt (bW (σ.2 (b + 2)) L) (v + 1)))), (0, .ref (G.2.1 + (b + 1))), (1, .int (nI L)), (2, .int (nI q))]) h 4 rfl (iinc1 _) (by decide) rfl dX1_memberReadAt_40 ?_
            refine r_goto (pc := 43) (tgt := 10) h (by decide) dX1_memberReadAt_43 ?_
            refine r_sub (lo2 := [(0, .ref (G.2.1 + (b + 1))), (1, .int (nI L)), (2, .int (nI q)), (3, .int (oI (nxt (bW (σ.2 (b + 2)) L) (v + 1)))), (4, .int (nI (i + 1)))]) [2, 3, 4, 1, 0] rfl ?_
            exact ih10 (i + 1) (v + 1) (by omega) (by omega) (by rw [(nxt_cS hv).2, hs]) (by omega) (by omega)
          · skip
            rw [nI_eq (by omega) (by omega)] at c26
            refine r_iload_n (pc := 29) h 3 rfl rfl dX1_memberReadAt_29 ?_
            exact hret _ _ (⟨by subst c26; rw [ath_some v2 v3 ((nxt_cS hv).1.trans hs)]; rfl, rfl⟩) 30 _ dX1_memberReadAt_30
  refine r_sub (lo2 := [(0, .ref (G.2.1 + (b + 1))), (1, .int (nI L)), (2, .int (nI q)), (3, .int (oI (nxt (bW (σ.2 (b + 2)) L) 0))), (4, .int (nI 0))]) [2, 3, 4, 1, 0] rfl ?_
  exact lp10 _ 0 0 (by omega) (by omega) rfl (by omega) (Nat.lt_succ_self _)

