/-! THE CLASS: text, undo, pairs, slots -/
/-- pairs ahead of a corner -/
def triN : Nat → Nat
  | 0 => 0
  | c + 1 => triN c + (c + 1)
theorem tri_eq (c : Nat) : c * (c + 1) / 2 = triN c := by
  have h : ∀ c, c * (c + 1) = 2 * triN c := by
    intro c
    induction c with
    | zero => rfl
    | succ c ih =>
      rw [triN]
      simp only [Nat.add_mul, Nat.mul_add, Nat.mul_one, Nat.one_mul] at ih ⊢
      omega
  rw [h c]; omega
theorem tri_mono {a b : Nat} (h : a ≤ b) : triN a ≤ triN b := by
  obtain ⟨k, rfl⟩ := Nat.le.dest h
  clear h
  induction k with
  | zero => exact Nat.le_refl _
  | succ k ih => rw [← Nat.add_assoc, triN]; omega
def fpW : Nat → Nat → Nat → Nat
  | 0, r, _ => r
  | f + 1, r, c => if c < r then fpW f (r - (c + 1)) (c + 1) else r
/-- the first place of the pair p -/
def fpN (p : Nat) : Nat := fpW 447 p 0
theorem fpW_stop {f r c : Nat} (h : r ≤ c) : fpW f r c = r := by
  cases f with
  | zero => rfl
  | succ f => rw [fpW, if_neg (by omega)]
theorem fpW_step {f r c : Nat} (h : c < r) : fpW (f + 1) r c = fpW f (r - (c + 1)) (c + 1) := by rw [fpW, if_pos h]
theorem fpW_spec {p : Nat} : ∀ (f r c : Nat), triN c + r = p → p < triN (c + f + 1) → ∃ d, triN d ≤ p ∧ p < triN (d + 1) ∧ fpW f r c = p - triN d
  | 0, r, c, h, h2 => ⟨c, by omega, h2, by show r = _; omega⟩
  | f + 1, r, c, h, h2 => by
    by_cases e : c < r
    · rw [fpW_step e]
      exact fpW_spec f (r - (c + 1)) (c + 1) (by rw [triN]; omega) (by rw [show c + 1 + f + 1 = c + (f + 1) + 1 by omega]; exact h2)
    · rw [fpW_stop (by omega)]
      exact ⟨c, by omega, by rw [triN]; omega, by omega⟩
theorem tri_447 : triN 448 = 100576 := by decide +kernel
theorem fp_eq {p c : Nat} (hp : p < 100000) (h1 : triN c ≤ p) (h2 : p < triN (c + 1)) : fpN p = p - triN c := by
  obtain ⟨d, d1, d2, e⟩ := fpW_spec (p := p) 447 p 0 (by show 0 + p = p; omega) (by rw [show 0 + 447 + 1 = 448 from rfl, tri_447]; omega)
  have : d = c := by
    rcases Nat.lt_or_ge d c with q | q
    · have := tri_mono (show d + 1 ≤ c by omega); omega
    · rcases Nat.lt_or_ge c d with q2 | q2
      · have := tri_mono (show c + 1 ≤ d by omega); omega
      · omega
  rw [← this]; exact e
theorem shl1 : ∀ j, j < 9 → nI 1 <<< (nI j &&& 31) = nI (2 ^ j) := by decide +kernel
theorem pow_s (j : Nat) : 2 ^ (j + 1) = 2 ^ j + 2 ^ j := by rw [Nat.pow_succ]; omega
theorem tri_le {c : Nat} (h : c ≤ 512) : triN c ≤ 131328 := Nat.le_trans (tri_mono h) (by decide +kernel)
set_option maxRecDepth 100000 in
set_option maxHeartbeats 800000 in
theorem c_pairsAhead (l : Launch) (G : Gl) (σ : Sg) (c : Nat) (hc : c ≤ 512) : Ci l yX5_pairsAhead cX5_pairsAhead 1 .int ({ frames := 0, cells := 0, slots := 0, locals := 0 } : Room) G [.int (nI c)] σ (fun r σ2 => r = nI (triN c) ∧ σ2 = σ) := by
  refine Ci_of (own := RX5) rfl (by decide +kernel) (lo := [(0, .int (nI c))]) rfl (Nat.le_of_ble_eq_true rfl) (fun r s hp => by obtain ⟨rfl, rfl⟩ := hp; rfl) ?_
  intro x Q hxl h hret
  subst hxl
  refine r_iload_n (pc := 0) h 0 rfl rfl dX5_pairsAhead_0 ?_
  refine r_iload_n (pc := 1) h 0 rfl rfl dX5_pairsAhead_1 ?_
  refine r_iconst (pc := 2) (v := nI 1) h (by decide) dX5_pairsAhead_2 ?_
  refine r_iadd (pc := 3) (v := nI (c + 1)) h (nI_add _ _) dX5_pairsAhead_3 ?_
  refine r_imul (pc := 4) (v := nI (c * (c + 1))) h (pk_mul _ _) dX5_pairsAhead_4 ?_
  refine r_iconst (pc := 5) (v := nI 2) h (by decide) dX5_pairsAhead_5 ?_
  refine r_idiv (pc := 6) (v := nI (triN c)) h (by decide) ((pk_div (by have := Nat.mul_le_mul hc (show c + 1 ≤ 513 by omega); omega) (by omega) (by omega)).trans (congrArg nI (tri_eq c))) dX5_pairsAhead_6 ?_
  exact hret _ _ (⟨rfl, rfl⟩) 7 _ dX5_pairsAhead_7

set_option maxRecDepth 100000 in
set_option maxHeartbeats 800000 in
theorem c_x_firstOfPairByWalking (l : Launch) (hst : l.stackTraces = false) (G : Gl) (σ : Sg) (u1 : Int32) : Xi l yX5_firstOfPairByWalking cX5_firstOfPairByWalking 4 .int ({ frames := 7, cells := 1, slots := 6, locals := 112 } : Room) G [.ref (G.2.1 + 0), .int u1] σ (fun r σ2 => cB (inB (nI 0) (nI 99999) u1) 2 = 0 ∧ r = nI (fpN (toN u1)) ∧ σ2 = σ) (fun E σ2 => σ2 = σ ∧ cB (inB (nI 0) (nI 99999) u1) 2 ≠ 0 ∧ E = exN (cB (inB (nI 0) (nI 99999) u1) 2)) := by
  refine Xi_of hst rfl (by decide +kernel) (lo := [(0, .ref (G.2.1 + 0)), (1, .int u1)]) rfl (Nat.le_of_ble_eq_true rfl) (fun r s hp => by obtain ⟨_, rfl, _⟩ := hp; rfl) ?_
  intro x Q hxl h hX hret thI thS thO hout
  subst hxl
  refine r_iload_n (pc := 0) h 1 rfl rfl dX5_firstOfPairByWalking_0 ?_
  refine r_iconst (pc := 1) (v := nI 0) h (by decide) dX5_firstOfPairByWalking_1 ?_
  refine r_ldc (pc := 2) (v := nI 99999) h mw_24_19 dX5_firstOfPairByWalking_2 ?_
  refine r_xSv (pc := 4) (As := [.int u1, .int (nI 0), .int (nI 99999)]) (st := []) h hX lk_RX5_41 (c_checkRange x.2.1 hst G σ u1 (nI 0) (nI 99999)) (by decide) rfl rfl (by first | decide | exact Nat.le_of_ble_eq_true rfl) (by decide) dX5_firstOfPairByWalking_4 (fun E s9 hp => hout E s9 (⟨hp.1, hp.2⟩) 4 _ _ _ _ ⟨by decide, by decide⟩) (fun s2 q3 => ?_)
  obtain ⟨z4, e4⟩ := q3
  rw [e4]
  obtain ⟨p, rfl, lp, hp⟩ := inB_nI (by omega) (by omega) z4
  refine r_iload_n (pc := 7) h 1 rfl rfl dX5_firstOfPairByWalking_7 ?_
  refine r_istore_n (pc := 8) (lo2 := [(2, .int (nI p)), (0, .ref (G.2.1 + 0)), (1, .int (nI p))]) h rfl (by decide) rfl dX5_firstOfPairByWalking_8 ?_
  refine r_iconst (pc := 9) (v := nI 0) h (by decide) dX5_firstOfPairByWalking_9 ?_
  refine r_istore_n (pc := 10) (lo2 := [(3, .int (nI 0)), (2, .int (nI p)), (0, .ref (G.2.1 + 0)), (1, .int (nI p))]) h rfl (by decide) rfl dX5_firstOfPairByWalking_10 ?_
  have lp11 : ∀ (fu : Nat) (c : Nat) (r : Nat), r ≤ p → triN c + r = p → fpN p = fpW (447 - c) r c → c ≤ 447 → 447 - c < fu → V x G 4 1 6 Q σ 11 [(2, .int (nI r)), (3, .int (nI c))] [] := by
    intro fu
    induction fu with
    | zero => intro c r hr9 he hw hc hfu; exact absurd hfu (Nat.not_lt_zero _)
    | succ fu ih11 =>
      intro c r hr9 he hw hc hfu
      refine r_iload_n (pc := 11) h 1 rfl rfl dX5_firstOfPairByWalking_11 ?_
      refine r_sipush (pc := 12) (v := nI 447) h (by decide) dX5_firstOfPairByWalking_12 ?_
      refine r_icmp_ge (pc := 15) (tgt := 35) h (by decide) dX5_firstOfPairByWalking_15 (fun c15 => ?_) (fun c15 => ?_)
      · skip
        rw [nI_leI (by omega) (by omega)] at c15
        refine r_iload_n (pc := 35) h 0 rfl rfl dX5_firstOfPairByWalking_35 ?_
        exact V.wd (by decide) (by decide) (hret _ _ (⟨cB_t z4, by rw [toN_nI (show p < 2 ^ 31 by omega), hw, fpW_stop (by first | exact c20 | (have := tri_mono c15; rw [show triN 447 = 100128 from by decide +kernel] at this; omega))], rfl⟩) 36 _ dX5_firstOfPairByWalking_36)
      · skip
        rw [nI_leI (by omega) (by omega)] at c15
        refine r_iload_n (pc := 18) h 0 rfl rfl dX5_firstOfPairByWalking_18 ?_
        refine r_iload_n (pc := 19) h 1 rfl rfl dX5_firstOfPairByWalking_19 ?_
        refine r_icmp_le (pc := 20) (tgt := 35) h (by decide) dX5_firstOfPairByWalking_20 (fun c20 => ?_) (fun c20 => ?_)
        · skip
          rw [nI_leI (by omega) (by omega)] at c20
          refine r_iload_n (pc := 35) h 0 rfl rfl dX5_firstOfPairByWalking_35 ?_
          exact V.wd (by decide) (by decide) (hret _ _ (⟨cB_t z4, by rw [toN_nI (show p < 2 ^ 31 by omega), hw, fpW_stop (by first | exact c20 | (have := tri_mono c15; rw [show triN 447 = 100128 from by decide +kernel] at this; omega))], rfl⟩) 36 _ dX5_firstOfPairByWalking_36)
        · skip
          rw [nI_leI (by omega) (by omega)] at c20
          refine r_iload_n (pc := 23) h 0 rfl rfl dX5_firstOfPairByWalking_23 ?_
          refine r_iload_n (pc := 24) h 1 rfl rfl dX5_firstOfPairByWalking_24 ?_
          refine r_iconst (pc := 25) (v := nI 1) h (by decide) dX5_firstOfPairByWalking_25 ?_
          refine r_iadd (pc := 26) (v := nI (c + 1)) h (nI_add _ _) dX5_firstOfPairByWalking_26 ?_
          refine r_isub (pc := 27) (v := nI (r - (c + 1))) h (pk_sub (by omega)) dX5_firstOfPairByWalking_27 ?_
          refine r_istore_n (pc := 28) (lo2 := [(2, .int (nI (r - (c + 1)))), (3, .int (nI c))]) h rfl (by decide) rfl dX5_firstOfPairByWalking_28 ?_
          refine r_iinc (pc := 29) (v := nI (c + 1)) (lo2 := [(3, .int (nI (c + 1))), (2, .int (nI (r - (c + 1))))]) h 1 rfl (iinc1 _) (by decide) rfl dX5_firstOfPairByWalking_29 ?_
          refine r_goto (pc := 32) (tgt := 11) h (by decide) dX5_firstOfPairByWalking_32 ?_
          refine r_sub (lo2 := [(2, .int (nI (r - (c + 1)))), (3, .int (nI (c + 1)))]) [1, 0] rfl ?_
          exact ih11 (c + 1) (r - (c + 1)) (by omega) (by rw [triN]; omega) (by rw [hw, show 447 - c = (447 - (c + 1)) + 1 by omega, fpW_step (by omega)]) (by omega) (by omega)
  refine r_sub (lo2 := [(2, .int (nI p)), (3, .int (nI 0))]) [1, 0] rfl ?_
  exact lp11 _ 0 p (by omega) (by show 0 + p = p; omega) rfl (by omega) (Nat.lt_succ_self _)

set_option maxRecDepth 100000 in
set_option maxHeartbeats 800000 in
theorem c_x_firstOfPairByCounting (l : Launch) (hst : l.stackTraces = false) (G : Gl) (σ : Sg) (u1 : Int32) : Xi l yX5_firstOfPairByCounting cX5_firstOfPairByCounting 5 .int ({ frames := 7, cells := 1, slots := 6, locals := 112 } : Room) G [.ref (G.2.1 + 0), .int u1] σ (fun r σ2 => cB (inB (nI 0) (nI 99999) u1) 2 = 0 ∧ r = nI (fpN (toN u1)) ∧ σ2 = σ) (fun E σ2 => σ2 = σ ∧ cB (inB (nI 0) (nI 99999) u1) 2 ≠ 0 ∧ E = exN (cB (inB (nI 0) (nI 99999) u1) 2)) := by
  refine Xi_of hst rfl (by decide +kernel) (lo := [(0, .ref (G.2.1 + 0)), (1, .int u1)]) rfl (Nat.le_of_ble_eq_true rfl) (fun r s hp => by obtain ⟨_, rfl, _⟩ := hp; rfl) ?_
  intro x Q hxl h hX hret thI thS thO hout
  subst hxl
  refine r_iload_n (pc := 0) h 1 rfl rfl dX5_firstOfPairByCounting_0 ?_
  refine r_iconst (pc := 1) (v := nI 0) h (by decide) dX5_firstOfPairByCounting_1 ?_
  refine r_ldc (pc := 2) (v := nI 99999) h mw_24_19 dX5_firstOfPairByCounting_2 ?_
  refine r_xSv (pc := 4) (As := [.int u1, .int (nI 0), .int (nI 99999)]) (st := []) h hX lk_RX5_41 (c_checkRange x.2.1 hst G σ u1 (nI 0) (nI 99999)) (by decide) rfl rfl (by first | decide | exact Nat.le_of_ble_eq_true rfl) (by decide) dX5_firstOfPairByCounting_4 (fun E s9 hp => hout E s9 (⟨hp.1, hp.2⟩) 4 _ _ _ _ ⟨by decide, by decide⟩) (fun s2 q3 => ?_)
  obtain ⟨z4, e4⟩ := q3
  rw [e4]
  obtain ⟨p, rfl, lp, hp⟩ := inB_nI (by omega) (by omega) z4
  refine r_iconst (pc := 7) (v := nI 0) h (by decide) dX5_firstOfPairByCounting_7 ?_
  refine r_istore_n (pc := 8) (lo2 := [(2, .int (nI 0)), (0, .ref (G.2.1 + 0)), (1, .int (nI p))]) h rfl (by decide) rfl dX5_firstOfPairByCounting_8 ?_
  refine r_bipush (pc := 9) (v := nI 8) h (by decide) dX5_firstOfPairByCounting_9 ?_
  refine r_istore_n (pc := 11) (lo2 := [(3, .int (nI 8)), (2, .int (nI 0)), (0, .ref (G.2.1 + 0)), (1, .int (nI p))]) h rfl (by decide) rfl dX5_firstOfPairByCounting_11 ?_
  have lp12 : ∀ (fu : Nat) (i : Nat) (c : Nat) (z : Int32), i ≤ 9 → z = nI i + (-1) → c + 2 ^ i ≤ 512 → triN c ≤ p → p < triN (c + 2 ^ i) → i < fu → V x G 5 1 6 Q σ 12 [(1, .int (nI p)), (2, .int (nI c)), (3, .int z)] [] := by
    intro fu
    induction fu with
    | zero => intro i c z hi9 hz hc h1 h2 hfu; exact absurd hfu (Nat.not_lt_zero _)
    | succ fu ih12 =>
      intro i c z hi9 hz hc h1 h2 hfu
      refine r_iload_n (pc := 12) h 2 rfl rfl dX5_firstOfPairByCounting_12 ?_
      refine r_if_lt (pc := 13) (tgt := 41) h (by decide) dX5_firstOfPairByCounting_13 (fun c13 => ?_) (fun c13 => ?_)
      · skip
        have e : i = 0 := by
          cases i with
          | zero => rfl
          | succ i => rw [pk_m1] at hz; subst hz; exact absurd c13 (nI_pos (by omega))
        subst e
        have htl := tri_le (show c ≤ 512 by omega)
        refine r_iload_n (pc := 41) h 0 rfl rfl dX5_firstOfPairByCounting_41 ?_
        refine r_iload_n (pc := 42) h 1 rfl rfl dX5_firstOfPairByCounting_42 ?_
        refine r_cSi (pc := 43) (As := [.int (nI c)]) (st := [.int (nI p)]) h lk_RX5_153 (c_pairsAhead x.2.1 G σ c (by omega)) (by decide) rfl rfl (by first | decide | exact Nat.le_of_ble_eq_true rfl) (by decide) dX5_firstOfPairByCounting_43 (fun r4 s5 q6 => ?_)
        rw [q6.1, q6.2]
        refine r_isub (pc := 46) (v := nI (p - (triN c))) h (pk_sub (by omega)) dX5_firstOfPairByCounting_46 ?_
        exact V.wd (by decide) (by decide) (hret _ _ (⟨cB_t z4, by rw [toN_nI (show p < 2 ^ 31 by omega), fp_eq (by omega) h1 (by rw [show c + 1 = c + 2 ^ 0 from rfl]; exact h2)], rfl⟩) 47 _ dX5_firstOfPairByCounting_47)
      · skip
        obtain ⟨j, rfl⟩ : ∃ j, i = j + 1 := ⟨i - 1, by cases i with | zero => (subst hz; exact absurd (by decide) c13) | succ i => rfl⟩
        rw [pk_m1] at hz
        subst hz
        have hj := pow_s j
        have hj1 : 1 ≤ 2 ^ j := Nat.one_le_two_pow
        have htl := tri_le (show c + 2 ^ j ≤ 512 by omega)
        refine r_iload_n (pc := 16) h 1 rfl rfl dX5_firstOfPairByCounting_16 ?_
        refine r_iconst (pc := 17) (v := nI 1) h (by decide) dX5_firstOfPairByCounting_17 ?_
        refine r_iload_n (pc := 18) h 2 rfl rfl dX5_firstOfPairByCounting_18 ?_
        refine r_ishl (pc := 19) (v := nI (2 ^ j)) h (shl1 j (by omega)) dX5_firstOfPairByCounting_19 ?_
        refine r_iadd (pc := 20) (v := nI (c + (2 ^ j))) h (nI_add _ _) dX5_firstOfPairByCounting_20 ?_
        refine r_istore (pc := 21) (lo2 := [(4, .int (nI (c + (2 ^ j)))), (1, .int (nI p)), (2, .int (nI c)), (3, .int (nI j))]) h (by decide) rfl dX5_firstOfPairByCounting_21 ?_
        refine r_iload (pc := 23) h 0 rfl dX5_firstOfPairByCounting_23 ?_
        refine r_cSi (pc := 25) (As := [.int (nI (c + (2 ^ j)))]) (st := []) h lk_RX5_153 (c_pairsAhead x.2.1 G σ (c + (2 ^ j)) (by omega)) (by decide) rfl rfl (by first | decide | exact Nat.le_of_ble_eq_true rfl) (by decide) dX5_firstOfPairByCounting_25 (fun r7 s8 q9 => ?_)
        rw [q9.1, q9.2]
        refine r_iload_n (pc := 28) h 1 rfl rfl dX5_firstOfPairByCounting_28 ?_
        refine r_icmp_gt (pc := 29) (tgt := 35) h (by decide) dX5_firstOfPairByCounting_29 (fun c29 => ?_) (fun c29 => ?_)
        · skip
          rw [nI_ltI (by omega) (by omega)] at c29
          refine r_iinc (pc := 35) (v := nI j + Int32.ofInt (-1)) (lo2 := [(3, .int (nI j + Int32.ofInt (-1))), (4, .int (nI (c + (2 ^ j)))), (1, .int (nI p)), (2, .int (nI c))]) h 3 rfl rfl (by decide) rfl dX5_firstOfPairByCounting_35 ?_
          refine r_goto (pc := 38) (tgt := 12) h (by decide) dX5_firstOfPairByCounting_38 ?_
          refine r_sub (lo2 := [(1, .int (nI p)), (2, .int (nI c)), (3, .int (nI j + Int32.ofInt (-1)))]) [2, 3, 0] rfl ?_
          exact ih12 j c _ (by omega) rfl (by omega) h1 c29 (by omega)
        · skip
          rw [nI_ltI (by omega) (by omega)] at c29
          rw [Nat.not_lt] at c29
          refine r_iload (pc := 32) h 0 rfl dX5_firstOfPairByCounting_32 ?_
          refine r_istore_n (pc := 34) (lo2 := [(2, .int (nI (c + (2 ^ j)))), (4, .int (nI (c + (2 ^ j)))), (1, .int (nI p)), (3, .int (nI j))]) h rfl (by decide) rfl dX5_firstOfPairByCounting_34 ?_
          refine r_iinc (pc := 35) (v := nI j + Int32.ofInt (-1)) (lo2 := [(3, .int (nI j + Int32.ofInt (-1))), (2, .int (nI (c + (2 ^ j)))), (4, .int (nI (c + (2 ^ j)))), (1, .int (nI p))]) h 3 rfl rfl (by decide) rfl dX5_firstOfPairByCounting_35 ?_
          refine r_goto (pc := 38) (tgt := 12) h (by decide) dX5_firstOfPairByCounting_38 ?_
          refine r_sub (lo2 := [(1, .int (nI p)), (2, .int (nI (c + (2 ^ j)))), (3, .int (nI j + Int32.ofInt (-1)))]) [3, 1, 0] rfl ?_
          exact ih12 j (c + 2 ^ j) _ (by omega) rfl (by omega) c29 (by rw [Nat.add_assoc, ← hj]; exact h2) (by omega)
  refine r_sub (lo2 := [(1, .int (nI p)), (2, .int (nI 0)), (3, .int (nI 8))]) [3, 1, 0] rfl ?_
  exact lp12 _ 9 0 (nI 8) (by omega) (by decide) (by decide) (Nat.zero_le _) (by rw [show triN (0 + 2 ^ 9) = 131328 from by decide +kernel]; omega) (Nat.lt_succ_self _)

set_option maxRecDepth 100000 in
set_option maxHeartbeats 800000 in
theorem c_x_numberOfPair (l : Launch) (hst : l.stackTraces = false) (G : Gl) (σ : Sg) (u1 u2 : Int32) : Xi l yX5_numberOfPair cX5_numberOfPair 3 .int ({ frames := 7, cells := 2, slots := 12, locals := 112 } : Room) G [.ref (G.2.1 + 0), .int u1, .int u2] σ (fun r σ2 => seqC (cB (inB (nI 0) (nI 200) u1) 2) (cB (inB (nI 0) (nI 200) u2) 2) = 0 ∧ r = nI (triN (toN u1 + toN u2) + toN u1) ∧ σ2 = σ) (fun E σ2 => σ2 = σ ∧ seqC (cB (inB (nI 0) (nI 200) u1) 2) (cB (inB (nI 0) (nI 200) u2) 2) ≠ 0 ∧ E = exN (seqC (cB (inB (nI 0) (nI 200) u1) 2) (cB (inB (nI 0) (nI 200) u2) 2))) := by
  refine Xi_of hst rfl (by decide +kernel) (lo := [(0, .ref (G.2.1 + 0)), (1, .int u1), (2, .int u2)]) rfl (Nat.le_of_ble_eq_true rfl) (fun r s hp => by obtain ⟨_, rfl, _⟩ := hp; rfl) ?_
  intro x Q hxl h hX hret thI thS thO hout
  subst hxl
  refine r_iload_n (pc := 0) h 1 rfl rfl dX5_numberOfPair_0 ?_
  refine r_iconst (pc := 1) (v := nI 0) h (by decide) dX5_numberOfPair_1 ?_
  refine r_sipush (pc := 2) (v := nI 200) h (by decide) dX5_numberOfPair_2 ?_
  refine r_xSv (pc := 5) (As := [.int u1, .int (nI 0), .int (nI 200)]) (st := []) h hX lk_RX5_41 (c_checkRange x.2.1 hst G σ u1 (nI 0) (nI 200)) (by decide) rfl rfl (by first | decide | exact Nat.le_of_ble_eq_true rfl) (by decide) dX5_numberOfPair_5 (fun E s9 hp => hout E s9 (⟨hp.1, pe_1 hp.2⟩) 5 _ _ _ _ ⟨by decide, by decide⟩) (fun s2 q3 => ?_)
  obtain ⟨z5, e5⟩ := q3
  rw [e5]
  obtain ⟨p, rfl, lp, hp⟩ := inB_nI (by omega) (by omega) z5
  refine r_iload_n (pc := 8) h 2 rfl rfl dX5_numberOfPair_8 ?_
  refine r_iconst (pc := 9) (v := nI 0) h (by decide) dX5_numberOfPair_9 ?_
  refine r_sipush (pc := 10) (v := nI 200) h (by decide) dX5_numberOfPair_10 ?_
  refine r_xSv (pc := 13) (As := [.int u2, .int (nI 0), .int (nI 200)]) (st := []) h hX lk_RX5_41 (c_checkRange x.2.1 hst G σ u2 (nI 0) (nI 200)) (by decide) rfl rfl (by first | decide | exact Nat.le_of_ble_eq_true rfl) (by decide) dX5_numberOfPair_13 (fun E s9 hp => hout E s9 (⟨hp.1, pe_2 (cB_t z5) hp.2⟩) 13 _ _ _ _ ⟨by decide, by decide⟩) (fun s5 q6 => ?_)
  obtain ⟨z13, e13⟩ := q6
  rw [e13]
  obtain ⟨q, rfl, lq, hq⟩ := inB_nI (by omega) (by omega) z13
  refine r_iload_n (pc := 16) h 1 rfl rfl dX5_numberOfPair_16 ?_
  refine r_iload_n (pc := 17) h 2 rfl rfl dX5_numberOfPair_17 ?_
  refine r_iadd (pc := 18) (v := nI (p + q)) h (nI_add _ _) dX5_numberOfPair_18 ?_
  refine r_cSi (pc := 19) (As := [.int (nI (p + q))]) (st := []) h lk_RX5_153 (c_pairsAhead x.2.1 G σ (p + q) (by omega)) (by decide) rfl rfl (by first | decide | exact Nat.le_of_ble_eq_true rfl) (by decide) dX5_numberOfPair_19 (fun r7 s8 q9 => ?_)
  rw [q9.1, q9.2]
  refine r_iload_n (pc := 22) h 1 rfl rfl dX5_numberOfPair_22 ?_
  refine r_iadd (pc := 23) (v := nI ((triN (p + q)) + p)) h (nI_add _ _) dX5_numberOfPair_23 ?_
  exact V.wd (by decide) (by decide) (hret _ _ (⟨seq_0 (cB_t z5) (cB_t z13), by rw [toN_nI (show p < 2 ^ 31 by omega), toN_nI (show q < 2 ^ 31 by omega)], rfl⟩) 24 _ dX5_numberOfPair_24)

set_option maxRecDepth 100000 in
set_option maxHeartbeats 800000 in
theorem c_x_append (l : Launch) (hst : l.stackTraces = false) (G : Gl) (σ : Sg) (n : Nat) (tx : Nat → Nat) (A : Ab) (m : Nat) (H : Nat → Ab) (sv : Nat → Bool) (sl : Nat → Ab) (hi : InvC n tx A m H sv sl σ) (u1 : Int32) : Xi l yX5_append cX5_append 2 .int ({ frames := 7, cells := 2, slots := 12, locals := 112 } : Room) G [.ref (G.2.1 + 0), .int u1] σ (fun r σ2 => seqC (cB (inB (nI 0) (nI 255) u1) 2) (cB (decide (n < 120)) 3) = 0 ∧ r = nI (n + 1) ∧ InvC (n + 1) (va_up tx n (toN u1)) A m H sv sl σ2 ∧ Out 1 134 σ σ2) (fun E σ2 => σ2 = σ ∧ seqC (cB (inB (nI 0) (nI 255) u1) 2) (cB (decide (n < 120)) 3) ≠ 0 ∧ E = exN (seqC (cB (inB (nI 0) (nI 255) u1) 2) (cB (decide (n < 120)) 3))) := by
  refine Xi_of hst rfl (by decide +kernel) (lo := [(0, .ref (G.2.1 + 0)), (1, .int u1)]) rfl (Nat.le_of_ble_eq_true rfl) (fun r s hp => by obtain ⟨_, rfl, _⟩ := hp; rfl) ?_
  intro x Q hxl h hX hret thI thS thO hout
  subst hxl
  have hr := hi.2.1
  have hN12 := hr.1.1
  have hR4 := hr.2.1.1
  have hn9 := hi.1.1.1
  have hm14 := hi.2.2.1.1.1
  refine r_iload_n (pc := 0) h 1 rfl rfl dX5_append_0 ?_
  refine r_iconst (pc := 1) (v := nI 0) h (by decide) dX5_append_1 ?_
  refine r_sipush (pc := 2) (v := nI 255) h (by decide) dX5_append_2 ?_
  refine r_xSv (pc := 5) (As := [.int u1, .int (nI 0), .int (nI 255)]) (st := []) h hX lk_RX5_41 (c_checkRange x.2.1 hst G σ u1 (nI 0) (nI 255)) (by decide) rfl rfl (by first | decide | exact Nat.le_of_ble_eq_true rfl) (by decide) dX5_append_5 (fun E s9 hp => hout E s9 (⟨hp.1, pe_1 hp.2⟩) 5 _ _ _ _ ⟨by decide, by decide⟩) (fun s2 q3 => ?_)
  obtain ⟨z5, e5⟩ := q3
  rw [e5]
  obtain ⟨c, rfl, lc, hc⟩ := inB_nI (by omega) (by omega) z5
  refine r_aload_n (pc := 8) h 0 rfl rfl dX5_append_8 ?_
  refine g_5_text (pc := 9) h mw_1_13 dX5_append_9 ?_
  refine g_4_length (pc := 12) h mw_4_11 dX5_append_12 ?_
  refine r_topi (b := nI n) hi.1.1.2 ?_
  refine r_bipush (pc := 15) (v := nI 120) h (by decide) dX5_append_15 ?_
  refine r_icmp_lt (pc := 17) (tgt := 30) h (by decide) dX5_append_17 (fun c17 => ?_) (fun c17 => ?_)
  · skip
    rw [nI_ltI (by omega) (by omega)] at c17
    refine r_aload_n (pc := 30) h 0 rfl rfl dX5_append_30 ?_
    refine g_5_text (pc := 31) h mw_1_13 dX5_append_31 ?_
    refine r_iload_n (pc := 34) h 1 rfl rfl dX5_append_34 ?_
    refine r_i2c (pc := 35) (v := nI c) h (i2c_n0 c (by omega)) dX5_append_35 ?_
    refine r_cVi (pc := 36) (As := [.int (nI c)]) (st := []) h lk_RX5_56 (c_addT x.2.1 G σ n tx hi.1 (by omega) c (by omega)) rc_4 (by decide) rfl rfl (by first | decide | exact Nat.le_of_ble_eq_true rfl) (by decide) dX5_append_36 (fun r4 s5 q6 => ?_)
    obtain ⟨k0, k1, k2⟩ := q6
    subst k0
    exact V.wd (by decide) (by decide) (hret _ _ (⟨seq_0 (cB_t z5) (cB_t (decide_eq_true c17)), rfl, by rw [toN_nI (show c < 2 ^ 31 by omega)]; exact ⟨k1, hi.2.1.o k2 (by omega), hi.2.2.1.o k2 (by omega), hi.2.2.2.o k2 (by omega)⟩, k2.wd (by omega) (by omega)⟩) 39 _ dX5_append_39)
  · skip
    rw [nI_ltI (by omega) (by omega)] at c17
    exact thS _ (⟨rfl, pe_2 (cB_t z5) (pe_cB (decide_eq_false c17) (by decide) exN_3)⟩) 51 "the text is full" (by decide) 20 _ _ _ _ dX5_append_20 dX5_append_23 dX5_append_24 dX5_append_26 dX5_append_29 ⟨by decide, by decide, by decide, by decide⟩

set_option maxRecDepth 100000 in
set_option maxHeartbeats 800000 in
theorem c_x_undo (l : Launch) (hst : l.stackTraces = false) (G : Gl) (σ : Sg) (n : Nat) (tx : Nat → Nat) (A : Ab) (m : Nat) (H : Nat → Ab) (sv : Nat → Bool) (sl : Nat → Ab) (hi : InvC n tx A m H sv sl σ) : Xi l yX5_undo cX5_undo 1 .int ({ frames := 6, cells := 1, slots := 6, locals := 123 } : Room) G [.ref (G.2.1 + 0)] σ (fun r σ2 => cB (decide (m ≠ 0)) 3 = 0 ∧ r = nI (m - 1) ∧ InvC n tx (H (m - 1)) (m - 1) H sv sl σ2 ∧ Out 1 134 σ σ2) (fun E σ2 => σ2 = σ ∧ cB (decide (m ≠ 0)) 3 ≠ 0 ∧ E = exN (cB (decide (m ≠ 0)) 3)) := by
  refine Xi_of hst rfl (by decide +kernel) (lo := [(0, .ref (G.2.1 + 0))]) rfl (Nat.le_of_ble_eq_true rfl) (fun r s hp => by obtain ⟨_, rfl, _⟩ := hp; rfl) ?_
  intro x Q hxl h hX hret thI thS thO hout
  subst hxl
  have hr := hi.2.1
  have hN12 := hr.1.1
  have hR4 := hr.2.1.1
  have hn9 := hi.1.1.1
  have hm14 := hi.2.2.1.1.1
  refine r_aload_n (pc := 0) h 0 rfl rfl dX5_undo_0 ?_
  refine g_5_history (pc := 1) h mw_1_21 dX5_undo_1 ?_
  refine g_0_count (pc := 4) h mw_19_3 dX5_undo_4 ?_
  refine r_topi (b := nI m) hi.2.2.1.1.2 ?_
  refine r_if_ne (pc := 7) (tgt := 20) h (by decide) dX5_undo_7 (fun c7 => ?_) (fun c7 => ?_)
  · skip
    rw [zI0, nI_eq (by omega) (by omega)] at c7
    refine r_aload_n (pc := 20) h 0 rfl rfl dX5_undo_20 ?_
    refine g_5_history (pc := 21) h mw_1_21 dX5_undo_21 ?_
    refine r_aload_n (pc := 24) h 0 rfl rfl dX5_undo_24 ?_
    refine g_5_state (pc := 25) h mw_1_17 dX5_undo_25 ?_
    refine r_cVv (pc := 28) (As := [.ref (G.2.1 + 4)]) (st := []) h lk_RX5_84 (c_takeBack x.2.1 G σ m (by omega) H hi.2.2.1) rc_0 (by decide) rfl rfl (by first | decide | exact Nat.le_of_ble_eq_true rfl) (by decide) dX5_undo_28 (fun s2 q3 => ?_)
    obtain ⟨k0, k1, k2⟩ := q3
    refine r_aload_n (pc := 31) h 0 rfl rfl dX5_undo_31 ?_
    refine g_5_history (pc := 32) h mw_1_21 dX5_undo_32 ?_
    refine g_0_count (pc := 35) h mw_19_3 dX5_undo_35 ?_
    refine r_topi (b := nI (m - 1)) k0.1.2 ?_
    exact V.wd (by decide) (by decide) (hret _ _ (⟨cB_t (decide_eq_true c7), rfl, ⟨hi.1.o k2 (by omega), k1, k0, hi.2.2.2.o k2 (by omega)⟩, k2.wd (by omega) (by omega)⟩) 38 _ dX5_undo_38)
  · skip
    rw [zI0, nI_eq (by omega) (by omega)] at c7
    exact thS _ (⟨rfl, pe_cB (decide_eq_false (fun q => q c7)) (by decide) exN_3⟩) 82 "no state is remembered" (by decide) 10 _ _ _ _ dX5_undo_10 dX5_undo_13 dX5_undo_14 dX5_undo_16 dX5_undo_19 ⟨by decide, by decide, by decide, by decide⟩

theorem inv_save {n : Nat} {tx : Nat → Nat} {A : Ab} {m : Nat} {H : Nat → Ab} {sv : Nat → Bool} {sl : Nat → Ab} {σ σ1 : Sg} {j : Nat} (hi : InvC n tx A m H sv sl σ) (hj : j ≤ 1) (k : Up A σ (120 + 7 * j) σ1) : InvC n tx A m H (va_up sv j true) (va_up sl j A) (sI σ1 112 j (nI 1)) := by
  have o1 := k.out
  have o2 := out_sI σ1 112 j (nI 1)
  refine ⟨(hi.1.o o1 (by omega)).o o2 (by omega), (hi.2.1.o o1 (by omega)).o o2 (by omega), (hi.2.2.1.o o1 (by omega)).o o2 (by omega), fun i h => ?_⟩
  by_cases e : i = j
  · subst e
    rw [sI_s, va_s, va_s]
    exact ⟨rfl, fun _ => k.rel.o o2 (by omega)⟩
  · rw [sI_n _ _ _ _ e, va_n _ _ e, va_n _ _ e, o1.i 112 i (by omega)]
    exact ⟨(hi.2.2.2 i h).1, fun q => (((hi.2.2.2 i h).2 q).o o1 (by omega)).o o2 (by omega)⟩
theorem inv_restore {n : Nat} {tx : Nat → Nat} {A A2 : Ab} {m : Nat} {H : Nat → Ab} {sv : Nat → Bool} {sl : Nat → Ab} {σ σ1 : Sg} (hi : InvC n tx A m H sv sl σ) (H2 : Nat → Ab) (k : Up A2 σ 4 σ1) : InvC n tx A2 0 H2 sv sl (sI σ1 11 2 (nI 0)) :=
  ⟨(hi.1.o k.out (by omega)).o (out_sI σ1 11 2 _) (by omega), k.rel.o (out_sI σ1 11 2 _) (by omega), his_forget (hi.2.2.1.o k.out (by omega)) H2, (hi.2.2.2.o k.out (by omega)).o (out_sI σ1 11 2 _) (by omega)⟩
set_option maxRecDepth 100000 in
set_option maxHeartbeats 800000 in
theorem c_x_save (l : Launch) (hst : l.stackTraces = false) (G : Gl) (σ : Sg) (n : Nat) (tx : Nat → Nat) (A : Ab) (m : Nat) (H : Nat → Ab) (sv : Nat → Bool) (sl : Nat → Ab) (hi : InvC n tx A m H sv sl σ) (u1 : Int32) : Xi l yX5_save cX5_save 2 .int ({ frames := 7, cells := 1, slots := 6, locals := 110 } : Room) G [.ref (G.2.1 + 0), .int u1] σ (fun r σ2 => cB (inB (nI 0) (nI 1) u1) 1 = 0 ∧ r = nI A.1 ∧ InvC n tx A m H (va_up sv (toN u1) true) (va_up sl (toN u1) A) σ2 ∧ Out 1 134 σ σ2) (fun E σ2 => σ2 = σ ∧ cB (inB (nI 0) (nI 1) u1) 1 ≠ 0 ∧ E = exN (cB (inB (nI 0) (nI 1) u1) 1)) := by
  refine Xi_of hst rfl (by decide +kernel) (lo := [(0, .ref (G.2.1 + 0)), (1, .int u1)]) rfl (Nat.le_of_ble_eq_true rfl) (fun r s hp => by obtain ⟨_, rfl, _⟩ := hp; rfl) ?_
  intro x Q hxl h hX hret thI thS thO hout
  subst hxl
  have hr := hi.2.1
  have hN12 := hr.1.1
  have hR4 := hr.2.1.1
  have hn9 := hi.1.1.1
  have hm14 := hi.2.2.1.1.1
  refine r_iload_n (pc := 0) h 1 rfl rfl dX5_save_0 ?_
  refine r_xSv (pc := 1) (As := [.int u1]) (st := []) h hX lk_RX5_175 (c_checkSlot x.2.1 hst G σ u1) (by decide) rfl rfl (by first | decide | exact Nat.le_of_ble_eq_true rfl) (by decide) dX5_save_1 (fun E s9 hp => hout E s9 (⟨hp.1, hp.2⟩) 1 _ _ _ _ ⟨by decide, by decide⟩) (fun s2 q3 => ?_)
  obtain ⟨z1, e1⟩ := q3
  rw [e1]
  obtain ⟨j, rfl, lj, hj⟩ := inB_nI (by omega) (by omega) z1
  refine r_aload_n (pc := 4) h 0 rfl rfl dX5_save_4 ?_
  refine g_5_slots (pc := 5) h mw_1_22 dX5_save_5 ?_
  refine r_iload_n (pc := 8) h 1 rfl rfl dX5_save_8 ?_
  refine r_aald (pc := 9) h a_sl j rfl (by omega) dX5_save_9 ?_
  refine r_aload_n (pc := 10) h 0 rfl rfl dX5_save_10 ?_
  refine g_5_state (pc := 11) h mw_1_17 dX5_save_11 ?_
  refine r_cVv (pc := 14) (As := [.ref (G.2.1 + 4)]) (st := []) h lk_RX5_165 (c_copyS x.2.1 G σ (120 + 7 * j) (blk_s _ (by omega)) 4 blk_4 (by omega) A hr) (rc_3 (blk_s _ (by omega))) (by decide) rfl rfl (by first | decide | exact Nat.le_of_ble_eq_true rfl) (by decide) dX5_save_14 (fun s5 q6 => ?_)
  have k0 := q6
  refine r_aload_n (pc := 17) h 0 rfl rfl dX5_save_17 ?_
  refine g_5_saved (pc := 18) h mw_2_0 dX5_save_18 ?_
  refine r_iload_n (pc := 21) h 1 rfl rfl dX5_save_21 ?_
  refine r_iconst (pc := 22) (v := nI 1) h (by decide) dX5_save_22 ?_
  refine r_zast (pc := 23) (w := nI 1) h a_sv j rfl (by omega) (by decide) dX5_save_23 ?_
  refine r_aload_n (pc := 24) h 0 rfl rfl dX5_save_24 ?_
  refine g_5_state (pc := 25) h mw_1_17 dX5_save_25 ?_
  refine g_3_lists (pc := 28) blk_4 h mw_19_15 dX5_save_28 ?_
  refine g_1_count (pc := 31) blk_4 h mw_26_18 dX5_save_31 ?_
  refine r_topi (b := nI A.1) ((congrFun (sI_o _ _ _ _ (by decide)) _).trans ((k0.out.i (4 + 1) 1 (by omega)).trans hr.1.2)) ?_
  exact V.wd (by decide) (by decide) (hret _ _ (⟨cB_t z1, rfl, by rw [toN_nI (show j < 2 ^ 31 by omega)]; exact inv_save hi hj k0, (k0.out.wd (by omega) (by omega)).tr ((out_sI _ 112 j _).wd (by omega) (by omega))⟩) 34 _ dX5_save_34)

set_option maxRecDepth 100000 in
set_option maxHeartbeats 800000 in
theorem c_x_restore (l : Launch) (hst : l.stackTraces = false) (G : Gl) (σ : Sg) (n : Nat) (tx : Nat → Nat) (A : Ab) (m : Nat) (H : Nat → Ab) (sv : Nat → Bool) (sl : Nat → Ab) (hi : InvC n tx A m H sv sl σ) (u1 : Int32) : Xi l yX5_restore cX5_restore 2 .int ({ frames := 7, cells := 2, slots := 12, locals := 110 } : Room) G [.ref (G.2.1 + 0), .int u1] σ (fun r σ2 => seqC (cB (inB (nI 0) (nI 1) u1) 1) (cB (sv (toN u1)) 3) = 0 ∧ r = nI (sl (toN u1)).1 ∧ InvC n tx (sl (toN u1)) 0 H sv sl σ2 ∧ Out 1 134 σ σ2) (fun E σ2 => σ2 = σ ∧ seqC (cB (inB (nI 0) (nI 1) u1) 1) (cB (sv (toN u1)) 3) ≠ 0 ∧ E = exN (seqC (cB (inB (nI 0) (nI 1) u1) 1) (cB (sv (toN u1)) 3))) := by
  refine Xi_of hst rfl (by decide +kernel) (lo := [(0, .ref (G.2.1 + 0)), (1, .int u1)]) rfl (Nat.le_of_ble_eq_true rfl) (fun r s hp => by obtain ⟨_, rfl, _⟩ := hp; rfl) ?_
  intro x Q hxl h hX hret thI thS thO hout
  subst hxl
  have hr := hi.2.1
  have hN12 := hr.1.1
  have hR4 := hr.2.1.1
  have hn9 := hi.1.1.1
  have hm14 := hi.2.2.1.1.1
  refine r_iload_n (pc := 0) h 1 rfl rfl dX5_restore_0 ?_
  refine r_xSv (pc := 1) (As := [.int u1]) (st := []) h hX lk_RX5_175 (c_checkSlot x.2.1 hst G σ u1) (by decide) rfl rfl (by first | decide | exact Nat.le_of_ble_eq_true rfl) (by decide) dX5_restore_1 (fun E s9 hp => hout E s9 (⟨hp.1, pe_1 hp.2⟩) 1 _ _ _ _ ⟨by decide, by decide⟩) (fun s2 q3 => ?_)
  obtain ⟨z1, e1⟩ := q3
  rw [e1]
  obtain ⟨j, rfl, lj, hj⟩ := inB_nI (by omega) (by omega) z1
  refine r_aload_n (pc := 4) h 0 rfl rfl dX5_restore_4 ?_
  refine g_5_saved (pc := 5) h mw_2_0 dX5_restore_5 ?_
  refine r_iload_n (pc := 8) h 1 rfl rfl dX5_restore_8 ?_
  refine r_zald (pc := 9) h a_sv j rfl (by omega) dX5_restore_9 ?_
  refine r_topi (b := zB (sv j)) (hi.2.2.2 j (by omega)).1 ?_
  refine r_if_ne (pc := 10) (tgt := 23) h (by decide) dX5_restore_10 (fun c10 => ?_) (fun c10 => ?_)
  · skip
    replace c10 := zB_n0.mp c10
    refine r_aload_n (pc := 23) h 0 rfl rfl dX5_restore_23 ?_
    refine g_5_state (pc := 24) h mw_1_17 dX5_restore_24 ?_
    refine r_aload_n (pc := 27) h 0 rfl rfl dX5_restore_27 ?_
    refine g_5_slots (pc := 28) h mw_1_22 dX5_restore_28 ?_
    refine r_iload_n (pc := 31) h 1 rfl rfl dX5_restore_31 ?_
    refine r_aald (pc := 32) h a_sl j rfl (by omega) dX5_restore_32 ?_
    refine r_cVv (pc := 33) (As := [.ref (G.2.1 + (120 + 7 * j))]) (st := []) h lk_RX5_165 (c_copyS x.2.1 G σ 4 blk_4 (120 + 7 * j) (blk_s _ (by omega)) (by omega) (sl j) ((hi.2.2.2 j (by omega)).2 c10)) (rc_3 blk_4) (by decide) rfl rfl (by first | decide | exact Nat.le_of_ble_eq_true rfl) (by decide) dX5_restore_33 (fun s5 q6 => ?_)
    have k0 := q6
    refine r_aload_n (pc := 36) h 0 rfl rfl dX5_restore_36 ?_
    refine g_5_history (pc := 37) h mw_1_21 dX5_restore_37 ?_
    refine r_cVv (pc := 40) (As := []) (st := []) h lk_RX5_69 (c_forget x.2.1 G s5) rc_0 (by decide) rfl rfl (by first | decide | exact Nat.le_of_ble_eq_true rfl) (by decide) dX5_restore_40 (fun s8 q9 => ?_)
    subst q9
    refine r_aload_n (pc := 43) h 0 rfl rfl dX5_restore_43 ?_
    refine g_5_state (pc := 44) h mw_1_17 dX5_restore_44 ?_
    refine g_3_lists (pc := 47) blk_4 h mw_19_15 dX5_restore_47 ?_
    refine g_1_count (pc := 50) blk_4 h mw_26_18 dX5_restore_50 ?_
    refine r_topi (b := nI (sl j).1) ((congrFun (sI_o _ _ _ _ (by decide)) _).trans k0.rel.1.2) ?_
    exact V.wd (by decide) (by decide) (hret _ _ (⟨seq_0 (cB_t z1) (by rw [toN_nI (show j < 2 ^ 31 by omega)]; exact cB_t c10), by rw [toN_nI (show j < 2 ^ 31 by omega)], by rw [toN_nI (show j < 2 ^ 31 by omega)]; exact inv_restore hi H k0, (k0.out.wd (by omega) (by omega)).tr ((out_sI _ 11 2 _).wd (by omega) (by omega))⟩) 53 _ dX5_restore_53)
  · skip
    replace c10 := zB_0.mp c10
    exact thS _ (⟨rfl, pe_2 (cB_t z1) (by rw [toN_nI (show j < 2 ^ 31 by omega)]; exact pe_cB c10 (by decide) exN_3)⟩) 178 "nothing was saved in this slot" (by decide) 13 _ _ _ _ dX5_restore_13 dX5_restore_16 dX5_restore_17 dX5_restore_19 dX5_restore_22 ⟨by decide, by decide, by decide, by decide⟩

