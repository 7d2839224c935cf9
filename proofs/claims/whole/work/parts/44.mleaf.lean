/-! THE REFERENCE: leaves -/
theorem t64_lt {a b : Int32} : a.toInt64 < b.toInt64 ↔ a < b := by rw [Int64.lt_iff_toInt_lt, Int32.lt_iff_toInt_lt, Int32.toInt_toInt64, Int32.toInt_toInt64]
theorem lgc_lt {a b : Int32} : lg_cmp a.toInt64 b.toInt64 < 0 ↔ a < b := (lg_cmp_lt _ _).trans t64_lt
theorem lgc_gt {a b : Int32} : 0 < lg_cmp a.toInt64 b.toInt64 ↔ b < a := (lg_cmp_gt _ _).trans t64_lt
theorem nar_zB (b : Bool) : vp_nar .boolean (zB b) = zB b := by cases b <;> decide
theorem mB_sF {σ : Sg} {c : Nat} {s h x m : Nat → Int32} : (mB σ c s h x m).1 c = s := by simp [mB, va_up]
theorem le_m1 {N : Nat} (hN : N ≤ 12) (u : Int32) : inB (nI 0) (nI N - nI 1) u = decide (0 ≤ u ∧ u < nI N) := by
  refine decide_eq_decide.mpr (and_congr_right fun h0 => ?_)
  obtain ⟨n, hn, rfl⟩ := wk_nat h0
  rw [nI_ltI hn (by omega)]
  cases N with
  | zero =>
    have e : nI 0 - nI 1 = (-1 : Int32) := by decide
    rw [e]
    constructor
    · intro h
      have h1 : (nI n).toInt ≤ (-1 : Int32).toInt := Int32.le_iff_toInt_le.mp h
      rw [nI_toInt hn] at h1
      have : (-1 : Int32).toInt = -1 := by decide
      omega
    · intro h; omega
  | succ N => rw [pk_sub (by omega), nI_leI hn (by omega)]; omega
theorem liB_m {A : Ab} {u : Int32} (hN : A.1 ≤ 12) : inB (nI 0) (nI A.1 - nI 1) u = liB A u := le_m1 hN u
theorem rdB_m {A : Ab} {u : Int32} (hR : A.2.1 ≤ 4) : inB (nI 0) (nI A.2.1 - nI 1) u = rdB A u := le_m1 (by omega) u
set_option maxRecDepth 100000 in
set_option maxHeartbeats 800000 in
theorem c_in (l : Launch) (G : Gl) (σ : Sg) (u a b : Int32) : Ci l yX6_in cX6_in 6 .boolean ({ frames := 0, cells := 0, slots := 0, locals := 0 } : Room) G [.long u.toInt64, .long a.toInt64, .long b.toInt64] σ (fun r σ2 => r = zB (inB a b u) ∧ σ2 = σ) := by
  refine Ci_of (own := RX6) rfl (by decide +kernel) (lo := [(0, .long u.toInt64), (2, .long a.toInt64), (4, .long b.toInt64)]) rfl (Nat.le_of_ble_eq_true rfl) (fun r s hp => by obtain ⟨rfl, rfl⟩ := hp; exact zB_nar _) ?_
  intro x Q hxl h hret
  subst hxl
  refine r_lload_n (pc := 0) h 0 rfl rfl dX6_in_0 ?_
  refine r_lload_n (pc := 1) h 1 rfl rfl dX6_in_1 ?_
  refine r_lcmp (pc := 2) (v := lg_cmp u.toInt64 a.toInt64) h rfl dX6_in_2 ?_
  refine r_if_lt (pc := 3) (tgt := 17) h (by decide) dX6_in_3 (fun c3 => ?_) (fun c3 => ?_)
  · skip
    rw [lgc_lt] at c3
    refine r_iconst (pc := 17) (v := nI 0) h (by decide) dX6_in_17 ?_
    exact hret _ _ (⟨by simp_all [zB, inB, Int32.not_lt, Int32.not_le, ← Int32.not_lt], rfl⟩) 18 _ dX6_in_18
  · skip
    rw [lgc_lt] at c3
    refine r_lload_n (pc := 6) h 0 rfl rfl dX6_in_6 ?_
    refine r_lload (pc := 7) h 2 rfl dX6_in_7 ?_
    refine r_lcmp (pc := 9) (v := lg_cmp u.toInt64 b.toInt64) h rfl dX6_in_9 ?_
    refine r_if_gt (pc := 10) (tgt := 17) h (by decide) dX6_in_10 (fun c10 => ?_) (fun c10 => ?_)
    · skip
      rw [lgc_gt] at c10
      refine r_iconst (pc := 17) (v := nI 0) h (by decide) dX6_in_17 ?_
      exact hret _ _ (⟨by simp_all [zB, inB, Int32.not_lt, Int32.not_le, ← Int32.not_lt], rfl⟩) 18 _ dX6_in_18
    · skip
      rw [lgc_gt] at c10
      refine r_iconst (pc := 13) (v := nI 1) h (by decide) dX6_in_13 ?_
      refine r_goto (pc := 14) (tgt := 18) h (by decide) dX6_in_14 ?_
      exact hret _ _ (⟨by simp_all [zB, inB, Int32.not_lt, Int32.not_le, ← Int32.not_lt], rfl⟩) 18 _ dX6_in_18

set_option maxRecDepth 100000 in
set_option maxHeartbeats 800000 in
theorem c_isListM (l : Launch) (G : Gl) (σ : Sg) (c : Nat) (hc : Rc c) (A : Ab) (hM : RelM A (σ.1 c)) (h0 : A.1 ≤ 12) (u : Int32) : Ci l yX6_isList cX6_isList 2 .boolean ({ frames := 1, cells := 0, slots := 0, locals := 25 } : Room) G [.ref (G.2.1 + c), .int u] σ (fun r σ2 => r = zB (liB A u) ∧ σ2 = σ) := by
  refine Ci_of (own := RX6) rfl (by decide +kernel) (lo := [(0, .ref (G.2.1 + c)), (1, .int u)]) rfl (Nat.le_of_ble_eq_true rfl) (fun r s hp => by obtain ⟨rfl, rfl⟩ := hp; exact zB_nar _) ?_
  intro x Q hxl h hret
  subst hxl
  refine r_iload_n (pc := 0) h 1 rfl rfl dX6_isList_0 ?_
  refine r_i2l (pc := 1) (v := u.toInt64) h rfl dX6_isList_1 ?_
  refine r_lconst (pc := 2) (v := 0) h (by decide) dX6_isList_2 ?_
  refine r_aload_n (pc := 3) h 0 rfl rfl dX6_isList_3 ?_
  refine r_iconst (pc := 4) (v := nI 0) h (by decide) dX6_isList_4 ?_
  refine r_iald (pc := 5) h (a_rc hc) 0 rfl (by omega) dX6_isList_5 ?_
  refine r_topi (b := nI A.1) hM.1 ?_
  refine r_iconst (pc := 6) (v := nI 1) h (by decide) dX6_isList_6 ?_
  refine r_isub (pc := 7) (v := (nI A.1) - (nI 1)) h rfl dX6_isList_7 ?_
  refine r_i2l (pc := 8) (v := ((nI A.1) - (nI 1)).toInt64) h rfl dX6_isList_8 ?_
  refine r_cSi (pc := 9) (As := [.long u.toInt64, .long 0, .long (((nI A.1) - (nI 1)).toInt64)]) (st := []) h lk_RX6_43 (c_in x.2.1 G σ u (nI 0) (nI A.1 - nI 1)) (by decide) rfl rfl (by first | decide | exact Nat.le_of_ble_eq_true rfl) (by decide) dX6_isList_9 (fun r1 s2 q3 => ?_)
  rw [q3.1, q3.2]
  exact hret _ _ (⟨by rw [liB_m h0], rfl⟩) 12 _ dX6_isList_12

set_option maxRecDepth 100000 in
set_option maxHeartbeats 800000 in
theorem c_isReaderM (l : Launch) (G : Gl) (σ : Sg) (c : Nat) (hc : Rc c) (A : Ab) (hM : RelM A (σ.1 c)) (h0 : A.2.1 ≤ 4) (u : Int32) : Ci l yX6_isReader cX6_isReader 2 .boolean ({ frames := 1, cells := 0, slots := 0, locals := 25 } : Room) G [.ref (G.2.1 + c), .int u] σ (fun r σ2 => r = zB (rdB A u) ∧ σ2 = σ) := by
  refine Ci_of (own := RX6) rfl (by decide +kernel) (lo := [(0, .ref (G.2.1 + c)), (1, .int u)]) rfl (Nat.le_of_ble_eq_true rfl) (fun r s hp => by obtain ⟨rfl, rfl⟩ := hp; exact zB_nar _) ?_
  intro x Q hxl h hret
  subst hxl
  refine r_iload_n (pc := 0) h 1 rfl rfl dX6_isReader_0 ?_
  refine r_i2l (pc := 1) (v := u.toInt64) h rfl dX6_isReader_1 ?_
  refine r_lconst (pc := 2) (v := 0) h (by decide) dX6_isReader_2 ?_
  refine r_aload_n (pc := 3) h 0 rfl rfl dX6_isReader_3 ?_
  refine r_iconst (pc := 4) (v := nI 1) h (by decide) dX6_isReader_4 ?_
  refine r_iald (pc := 5) h (a_rc hc) 1 rfl (by omega) dX6_isReader_5 ?_
  refine r_topi (b := nI A.2.1) hM.2.1 ?_
  refine r_iconst (pc := 6) (v := nI 1) h (by decide) dX6_isReader_6 ?_
  refine r_isub (pc := 7) (v := (nI A.2.1) - (nI 1)) h rfl dX6_isReader_7 ?_
  refine r_i2l (pc := 8) (v := ((nI A.2.1) - (nI 1)).toInt64) h rfl dX6_isReader_8 ?_
  refine r_cSi (pc := 9) (As := [.long u.toInt64, .long 0, .long (((nI A.2.1) - (nI 1)).toInt64)]) (st := []) h lk_RX6_43 (c_in x.2.1 G σ u (nI 0) (nI A.2.1 - nI 1)) (by decide) rfl rfl (by first | decide | exact Nat.le_of_ble_eq_true rfl) (by decide) dX6_isReader_9 (fun r1 s2 q3 => ?_)
  rw [q3.1, q3.2]
  exact hret _ _ (⟨by rw [rdB_m h0], rfl⟩) 12 _ dX6_isReader_12

set_option maxRecDepth 100000 in
set_option maxHeartbeats 800000 in
theorem c_hasRoomM (l : Launch) (G : Gl) (σ : Sg) (c : Nat) (hc : Rc c) (A : Ab) (hM : RelM A (σ.1 c)) (h0 : A.1 ≤ 12) : Ci l yX6_hasRoom cX6_hasRoom 1 .boolean ({ frames := 0, cells := 0, slots := 0, locals := 0 } : Room) G [.ref (G.2.1 + c)] σ (fun r σ2 => r = zB (roomL A) ∧ σ2 = σ) := by
  refine Ci_of (own := RX6) rfl (by decide +kernel) (lo := [(0, .ref (G.2.1 + c))]) rfl (Nat.le_of_ble_eq_true rfl) (fun r s hp => by obtain ⟨rfl, rfl⟩ := hp; exact zB_nar _) ?_
  intro x Q hxl h hret
  subst hxl
  refine r_aload_n (pc := 0) h 0 rfl rfl dX6_hasRoom_0 ?_
  refine r_iconst (pc := 1) (v := nI 0) h (by decide) dX6_hasRoom_1 ?_
  refine r_iald (pc := 2) h (a_rc hc) 0 rfl (by omega) dX6_hasRoom_2 ?_
  refine r_topi (b := nI A.1) hM.1 ?_
  refine r_bipush (pc := 3) (v := nI 12) h (by decide) dX6_hasRoom_3 ?_
  refine r_icmp_ge (pc := 5) (tgt := 12) h (by decide) dX6_hasRoom_5 (fun c5 => ?_) (fun c5 => ?_)
  · skip
    rw [nI_leI (by omega) (by omega)] at c5
    refine r_iconst (pc := 12) (v := nI 0) h (by decide) dX6_hasRoom_12 ?_
    exact hret _ _ (⟨by unfold roomL; simp [zB, c5]; try omega, rfl⟩) 13 _ dX6_hasRoom_13
  · skip
    rw [nI_leI (by omega) (by omega)] at c5
    refine r_iconst (pc := 8) (v := nI 1) h (by decide) dX6_hasRoom_8 ?_
    refine r_goto (pc := 9) (tgt := 13) h (by decide) dX6_hasRoom_9 ?_
    exact hret _ _ (⟨by unfold roomL; simp [zB, c5]; try omega, rfl⟩) 13 _ dX6_hasRoom_13

set_option maxRecDepth 100000 in
set_option maxHeartbeats 800000 in
theorem c_of (l : Launch) (G : Gl) (σ : Sg) (c : Nat) (hc : Rc c) (L k : Nat) (hL : L < 12) (hk : k < 4) : Ci l yX6_of cX6_of 3 .int ({ frames := 0, cells := 0, slots := 0, locals := 0 } : Room) G [.ref (G.2.1 + c), .int (nI L), .int (nI k)] σ (fun r σ2 => r = σ.1 c (3 + 4 * L + k) ∧ σ2 = σ) := by
  refine Ci_of (own := RX6) rfl (by decide +kernel) (lo := [(0, .ref (G.2.1 + c)), (1, .int (nI L)), (2, .int (nI k))]) rfl (Nat.le_of_ble_eq_true rfl) (fun r s hp => by obtain ⟨rfl, _⟩ := hp; rfl) ?_
  intro x Q hxl h hret
  subst hxl
  refine r_aload_n (pc := 0) h 0 rfl rfl dX6_of_0 ?_
  refine r_iconst (pc := 1) (v := nI 3) h (by decide) dX6_of_1 ?_
  refine r_iconst (pc := 2) (v := nI 4) h (by decide) dX6_of_2 ?_
  refine r_iload_n (pc := 3) h 1 rfl rfl dX6_of_3 ?_
  refine r_imul (pc := 4) (v := nI (4 * L)) h (pk_mul _ _) dX6_of_4 ?_
  refine r_iadd (pc := 5) (v := nI (3 + (4 * L))) h (nI_add _ _) dX6_of_5 ?_
  refine r_iload_n (pc := 6) h 2 rfl rfl dX6_of_6 ?_
  refine r_iadd (pc := 7) (v := nI ((3 + (4 * L)) + k)) h (nI_add _ _) dX6_of_7 ?_
  refine r_iald (pc := 8) h (a_rc hc) ((3 + (4 * L)) + k) rfl (by omega) dX6_of_8 ?_
  exact hret _ _ (⟨rfl, rfl⟩) 9 _ dX6_of_9

set_option maxRecDepth 100000 in
set_option maxHeartbeats 800000 in
theorem c_listOfReader (l : Launch) (G : Gl) (σ : Sg) (c : Nat) (hc : Rc c) (r : Nat) (hr : r < 4) : Ci l yX6_listOfReader cX6_listOfReader 2 .int ({ frames := 0, cells := 0, slots := 0, locals := 0 } : Room) G [.ref (G.2.1 + c), .int (nI r)] σ (fun r1 σ2 => r1 = σ.1 c (51 + 2 * r) ∧ σ2 = σ) := by
  refine Ci_of (own := RX6) rfl (by decide +kernel) (lo := [(0, .ref (G.2.1 + c)), (1, .int (nI r))]) rfl (Nat.le_of_ble_eq_true rfl) (fun _ s hp => by obtain ⟨rfl, _⟩ := hp; rfl) ?_
  intro x Q hxl h hret
  subst hxl
  refine r_aload_n (pc := 0) h 0 rfl rfl dX6_listOfReader_0 ?_
  refine r_bipush (pc := 1) (v := nI 51) h (by decide) dX6_listOfReader_1 ?_
  refine r_iconst (pc := 3) (v := nI 2) h (by decide) dX6_listOfReader_3 ?_
  refine r_iload_n (pc := 4) h 1 rfl rfl dX6_listOfReader_4 ?_
  refine r_imul (pc := 5) (v := nI (2 * r)) h (pk_mul _ _) dX6_listOfReader_5 ?_
  refine r_iadd (pc := 6) (v := nI (51 + (2 * r))) h (nI_add _ _) dX6_listOfReader_6 ?_
  refine r_iald (pc := 7) h (a_rc hc) (51 + (2 * r)) rfl (by omega) dX6_listOfReader_7 ?_
  exact hret _ _ (⟨rfl, rfl⟩) 8 _ dX6_listOfReader_8

set_option maxRecDepth 100000 in
set_option maxHeartbeats 800000 in
theorem c_readBy (l : Launch) (G : Gl) (σ : Sg) (c : Nat) (hc : Rc c) (r : Nat) (hr : r < 4) : Ci l yX6_readBy cX6_readBy 2 .int ({ frames := 0, cells := 0, slots := 0, locals := 0 } : Room) G [.ref (G.2.1 + c), .int (nI r)] σ (fun r1 σ2 => r1 = σ.1 c (51 + 2 * r + 1) ∧ σ2 = σ) := by
  refine Ci_of (own := RX6) rfl (by decide +kernel) (lo := [(0, .ref (G.2.1 + c)), (1, .int (nI r))]) rfl (Nat.le_of_ble_eq_true rfl) (fun _ s hp => by obtain ⟨rfl, _⟩ := hp; rfl) ?_
  intro x Q hxl h hret
  subst hxl
  refine r_aload_n (pc := 0) h 0 rfl rfl dX6_readBy_0 ?_
  refine r_bipush (pc := 1) (v := nI 51) h (by decide) dX6_readBy_1 ?_
  refine r_iconst (pc := 3) (v := nI 2) h (by decide) dX6_readBy_3 ?_
  refine r_iload_n (pc := 4) h 1 rfl rfl dX6_readBy_4 ?_
  refine r_imul (pc := 5) (v := nI (2 * r)) h (pk_mul _ _) dX6_readBy_5 ?_
  refine r_iadd (pc := 6) (v := nI (51 + (2 * r))) h (nI_add _ _) dX6_readBy_6 ?_
  refine r_iconst (pc := 7) (v := nI 1) h (by decide) dX6_readBy_7 ?_
  refine r_iadd (pc := 8) (v := nI ((51 + (2 * r)) + 1)) h (nI_add _ _) dX6_readBy_8 ?_
  refine r_iald (pc := 9) h (a_rc hc) ((51 + (2 * r)) + 1) rfl (by omega) dX6_readBy_9 ?_
  exact hret _ _ (⟨rfl, rfl⟩) 10 _ dX6_readBy_10

set_option maxRecDepth 100000 in
set_option maxHeartbeats 800000 in
theorem c_member (l : Launch) (G : Gl) (σ : Sg) (L v : Nat) (b : Bool) (hL : L < 12) (hv : v < 1000) (hb : σ.1 141 (1000 * L + v) = zB b) : Ci l yX6_member cX6_member 3 .boolean ({ frames := 0, cells := 0, slots := 0, locals := 0 } : Room) G [.ref (G.2.1 + 134), .int (nI L), .int (nI v)] σ (fun r σ2 => r = zB b ∧ σ2 = σ) := by
  refine Ci_of (own := RX6) rfl (by decide +kernel) (lo := [(0, .ref (G.2.1 + 134)), (1, .int (nI L)), (2, .int (nI v))]) rfl (Nat.le_of_ble_eq_true rfl) (fun r s hp => by obtain ⟨rfl, rfl⟩ := hp; exact zB_nar _) ?_
  intro x Q hxl h hret
  subst hxl
  refine r_aload_n (pc := 0) h 0 rfl rfl dX6_member_0 ?_
  refine g_6_has (pc := 1) h mw_4_2 dX6_member_1 ?_
  refine r_sipush (pc := 4) (v := nI 1000) h (by decide) dX6_member_4 ?_
  refine r_iload_n (pc := 7) h 1 rfl rfl dX6_member_7 ?_
  refine r_imul (pc := 8) (v := nI (1000 * L)) h (pk_mul _ _) dX6_member_8 ?_
  refine r_iload_n (pc := 9) h 2 rfl rfl dX6_member_9 ?_
  refine r_iadd (pc := 10) (v := nI ((1000 * L) + v)) h (nI_add _ _) dX6_member_10 ?_
  refine r_zald (pc := 11) h a_mh ((1000 * L) + v) rfl (by omega) dX6_member_11 ?_
  exact hret _ _ (⟨hb, rfl⟩) 12 _ dX6_member_12

set_option maxRecDepth 100000 in
set_option maxHeartbeats 800000 in
theorem c_thrown (l : Launch) (G : Gl) (σ : Sg) : Ci l yX6_thrown cX6_thrown 1 .int ({ frames := 0, cells := 0, slots := 0, locals := 0 } : Room) G [.ref (G.2.1 + 134)] σ (fun r σ2 => r = σ.1 134 0 ∧ σ2 = σ) := by
  refine Ci_of (own := RX6) rfl (by decide +kernel) (lo := [(0, .ref (G.2.1 + 134))]) rfl (Nat.le_of_ble_eq_true rfl) (fun r s hp => by obtain ⟨rfl, _⟩ := hp; rfl) ?_
  intro x Q hxl h hret
  subst hxl
  refine r_aload_n (pc := 0) h 0 rfl rfl dX6_thrown_0 ?_
  refine g_6_refusal (pc := 1) h mw_5_22 dX6_thrown_1 ?_
  exact hret _ _ (⟨rfl, rfl⟩) 4 _ dX6_thrown_4

