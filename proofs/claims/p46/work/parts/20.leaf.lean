/-! LEAVES: what the small methods of the class answer -/
def zB (b : Bool) : Int32 := if b then nI 1 else nI 0
theorem zB_nar (b : Bool) : narrow .boolean (.int (zB b)) = .int (zB b) := by cases b <;> rfl
theorem zB_0 {b : Bool} : zB b = 0 ↔ b = false := by cases b <;> decide
theorem zB_n0 {b : Bool} : ¬ zB b = 0 ↔ b = true := by cases b <;> decide
theorem zI0 : (0 : Int32) = nI 0 := rfl
theorem zI1 : (1 : Int32) = nI 1 := rfl
theorem V.nB {b : Bool} (hb : b = true) : zB b = nI 1 := by subst hb; rfl
set_option maxRecDepth 100000 in
set_option maxHeartbeats 800000 in
theorem c_isWithin (l : Launch) (G : Gl) (σ : Sg) (u a b : Int32) : Ci l yX5_isWithin cX5_isWithin 3 .boolean ({ frames := 0, cells := 0, slots := 0, locals := 0 } : Room) G [.int u, .int a, .int b] σ (fun r σ2 => r = zB (decide (a ≤ u ∧ u ≤ b)) ∧ σ2 = σ) := by
  refine Ci_of (own := RX5) rfl (by decide +kernel) (lo := [(0, .int u), (1, .int a), (2, .int b)]) rfl (Nat.le_of_ble_eq_true rfl) (fun r s hp => by obtain ⟨rfl, rfl⟩ := hp; exact zB_nar _) ?_
  intro x Q hxl h hret
  subst hxl
  refine r_iload_n (pc := 0) h 0 rfl rfl dX5_isWithin_0 ?_
  refine r_iload_n (pc := 1) h 1 rfl rfl dX5_isWithin_1 ?_
  refine r_icmp_lt (pc := 2) (tgt := 14) h (by decide) dX5_isWithin_2 (fun c2 => ?_) (fun c2 => ?_)
  · skip
    refine r_iconst (pc := 14) (v := nI 0) h (by decide) dX5_isWithin_14 ?_
    exact hret _ _ (⟨by simp_all [zB, Int32.not_lt, Int32.not_le, ← Int32.not_lt], rfl⟩) 15 _ dX5_isWithin_15
  · skip
    refine r_iload_n (pc := 5) h 0 rfl rfl dX5_isWithin_5 ?_
    refine r_iload_n (pc := 6) h 2 rfl rfl dX5_isWithin_6 ?_
    refine r_icmp_gt (pc := 7) (tgt := 14) h (by decide) dX5_isWithin_7 (fun c7 => ?_) (fun c7 => ?_)
    · skip
      refine r_iconst (pc := 14) (v := nI 0) h (by decide) dX5_isWithin_14 ?_
      exact hret _ _ (⟨by simp_all [zB, Int32.not_lt, Int32.not_le, ← Int32.not_lt], rfl⟩) 15 _ dX5_isWithin_15
    · skip
      refine r_iconst (pc := 10) (v := nI 1) h (by decide) dX5_isWithin_10 ?_
      refine r_goto (pc := 11) (tgt := 15) h (by decide) dX5_isWithin_11 ?_
      exact hret _ _ (⟨by simp_all [zB, Int32.not_lt, Int32.not_le, ← Int32.not_lt], rfl⟩) 15 _ dX5_isWithin_15

theorem c_isWithinN (l : Launch) (G : Gl) (σ : Sg) (n : Nat) (hn : n < 2 ^ 31) : Ci l yX5_isWithin cX5_isWithin 3 .boolean ({ frames := 0, cells := 0, slots := 0, locals := 0 } : Room) G [.int (nI n), .int (nI 0), .int (nI 999)] σ (fun r σ2 => r = zB (decide (n < 1000)) ∧ σ2 = σ) := by
  have e : decide (nI 0 ≤ nI n ∧ nI n ≤ nI 999) = decide (n < 1000) := by
    apply decide_eq_decide.mpr
    rw [nI_leI (by omega) hn, nI_leI hn (by omega)]
    omega
  rw [← e]
  exact c_isWithin l G σ _ _ _

set_option maxRecDepth 100000 in
set_option maxHeartbeats 800000 in
theorem c_bitCountN (l : Launch) (G : Gl) (σ : Sg) (n : Nat) (hn : n < 2 ^ 64) : Ci l yJ13_bitCount_95d88 cJ13_bitCount_95d88 2 .int ({ frames := 0, cells := 0, slots := 0, locals := 0 } : Room) G [.long (lN n)] σ (fun r σ2 => r = nI (popc (lN n)) ∧ σ2 = σ) := by
  refine Ci_of (own := RJ13) rfl (by decide +kernel) (lo := [(0, .long (lN n))]) rfl (Nat.le_of_ble_eq_true rfl) (fun r s hp => by obtain ⟨rfl, rfl⟩ := hp; rfl) ?_
  intro x Q hxl h hret
  subst hxl
  have b1 : s1 6148914691236517205 n < 2 ^ 64 := by have h1 : s1 6148914691236517205 n ≤ n := Nat.sub_le _ _; omega
  have b2 : s2 3689348814741910323 (s1 6148914691236517205 n) < 2 ^ 64 := by have h1 : (s1 6148914691236517205 n) &&& 3689348814741910323 ≤ 3689348814741910323 := Nat.and_le_right; have h2 : ((s1 6148914691236517205 n) / 4) &&& 3689348814741910323 ≤ 3689348814741910323 := Nat.and_le_right; unfold s2; omega
  have b3 : s3 1085102592571150095 (s2 3689348814741910323 (s1 6148914691236517205 n)) ≤ 1085102592571150095 := Nat.and_le_right
  refine r_lload_n (pc := 0) h 0 rfl rfl dJ13_bitCount_95d88_0 ?_
  refine r_lload_n (pc := 1) h 0 rfl rfl dJ13_bitCount_95d88_1 ?_
  refine r_iconst (pc := 2) (v := nI 1) h (by decide) dJ13_bitCount_95d88_2 ?_
  refine r_lushr (pc := 3) (v := lN (n / 2)) h (wb_shr hn (by decide)) dJ13_bitCount_95d88_3 ?_
  refine r_ldc2 (pc := 4) (v := 6148914691236517205) h mw_9_23 dJ13_bitCount_95d88_4 ?_
  refine r_land (pc := 7) (v := lN ((n / 2) &&& 6148914691236517205)) h (fb_andL (n / 2) 6148914691236517205) dJ13_bitCount_95d88_7 ?_
  refine r_lsub (pc := 8) (v := lN (s1 6148914691236517205 n)) h (lN_sub (Nat.le_trans Nat.and_le_left (Nat.div_le_self _ _))) dJ13_bitCount_95d88_8 ?_
  refine r_lstore_n (pc := 9) (lo2 := [(0, .long (lN (s1 6148914691236517205 n)))]) h rfl (by decide) rfl dJ13_bitCount_95d88_9 ?_
  refine r_lload_n (pc := 10) h 0 rfl rfl dJ13_bitCount_95d88_10 ?_
  refine r_ldc2 (pc := 11) (v := 3689348814741910323) h mw_10_0 dJ13_bitCount_95d88_11 ?_
  refine r_land (pc := 14) (v := lN ((s1 6148914691236517205 n) &&& 3689348814741910323)) h (fb_andL (s1 6148914691236517205 n) 3689348814741910323) dJ13_bitCount_95d88_14 ?_
  refine r_lload_n (pc := 15) h 0 rfl rfl dJ13_bitCount_95d88_15 ?_
  refine r_iconst (pc := 16) (v := nI 2) h (by decide) dJ13_bitCount_95d88_16 ?_
  refine r_lushr (pc := 17) (v := lN ((s1 6148914691236517205 n) / 4)) h (wb_shr b1 (by decide)) dJ13_bitCount_95d88_17 ?_
  refine r_ldc2 (pc := 18) (v := 3689348814741910323) h mw_10_0 dJ13_bitCount_95d88_18 ?_
  refine r_land (pc := 21) (v := lN (((s1 6148914691236517205 n) / 4) &&& 3689348814741910323)) h (fb_andL ((s1 6148914691236517205 n) / 4) 3689348814741910323) dJ13_bitCount_95d88_21 ?_
  refine r_ladd (pc := 22) (v := lN (s2 3689348814741910323 (s1 6148914691236517205 n))) h (lN_add _ _) dJ13_bitCount_95d88_22 ?_
  refine r_lstore_n (pc := 23) (lo2 := [(0, .long (lN (s2 3689348814741910323 (s1 6148914691236517205 n))))]) h rfl (by decide) rfl dJ13_bitCount_95d88_23 ?_
  refine r_lload_n (pc := 24) h 0 rfl rfl dJ13_bitCount_95d88_24 ?_
  refine r_lload_n (pc := 25) h 0 rfl rfl dJ13_bitCount_95d88_25 ?_
  refine r_iconst (pc := 26) (v := nI 4) h (by decide) dJ13_bitCount_95d88_26 ?_
  refine r_lushr (pc := 27) (v := lN ((s2 3689348814741910323 (s1 6148914691236517205 n)) / 16)) h (wb_shr b2 (by decide)) dJ13_bitCount_95d88_27 ?_
  refine r_ladd (pc := 28) (v := lN ((s2 3689348814741910323 (s1 6148914691236517205 n)) + (s2 3689348814741910323 (s1 6148914691236517205 n)) / 16)) h (lN_add _ _) dJ13_bitCount_95d88_28 ?_
  refine r_ldc2 (pc := 29) (v := 1085102592571150095) h mw_10_1 dJ13_bitCount_95d88_29 ?_
  refine r_land (pc := 32) (v := lN (s3 1085102592571150095 (s2 3689348814741910323 (s1 6148914691236517205 n)))) h (fb_andL ((s2 3689348814741910323 (s1 6148914691236517205 n)) + (s2 3689348814741910323 (s1 6148914691236517205 n)) / 16) 1085102592571150095) dJ13_bitCount_95d88_32 ?_
  refine r_lstore_n (pc := 33) (lo2 := [(0, .long (lN (s3 1085102592571150095 (s2 3689348814741910323 (s1 6148914691236517205 n)))))]) h rfl (by decide) rfl dJ13_bitCount_95d88_33 ?_
  generalize hk3 : s3 1085102592571150095 (s2 3689348814741910323 (s1 6148914691236517205 n)) = k3 at b3 ⊢
  refine r_lload_n (pc := 34) h 0 rfl rfl dJ13_bitCount_95d88_34 ?_
  refine r_lload_n (pc := 35) h 0 rfl rfl dJ13_bitCount_95d88_35 ?_
  refine r_bipush (pc := 36) (v := nI 8) h (by decide) dJ13_bitCount_95d88_36 ?_
  refine r_lushr (pc := 38) (v := lN (k3 / 256)) h (wb_shr (by omega) (by decide)) dJ13_bitCount_95d88_38 ?_
  refine r_ladd (pc := 39) (v := lN (k3 + k3 / 256)) h (lN_add _ _) dJ13_bitCount_95d88_39 ?_
  refine r_lstore_n (pc := 40) (lo2 := [(0, .long (lN (k3 + k3 / 256)))]) h rfl (by decide) rfl dJ13_bitCount_95d88_40 ?_
  refine r_lload_n (pc := 41) h 0 rfl rfl dJ13_bitCount_95d88_41 ?_
  refine r_lload_n (pc := 42) h 0 rfl rfl dJ13_bitCount_95d88_42 ?_
  refine r_bipush (pc := 43) (v := nI 16) h (by decide) dJ13_bitCount_95d88_43 ?_
  refine r_lushr (pc := 45) (v := lN ((k3 + k3 / 256) / 65536)) h (wb_shr (by omega) (by decide)) dJ13_bitCount_95d88_45 ?_
  refine r_ladd (pc := 46) (v := lN ((k3 + k3 / 256) + (k3 + k3 / 256) / 65536)) h (lN_add _ _) dJ13_bitCount_95d88_46 ?_
  refine r_lstore_n (pc := 47) (lo2 := [(0, .long (lN ((k3 + k3 / 256) + (k3 + k3 / 256) / 65536)))]) h rfl (by decide) rfl dJ13_bitCount_95d88_47 ?_
  refine r_lload_n (pc := 48) h 0 rfl rfl dJ13_bitCount_95d88_48 ?_
  refine r_lload_n (pc := 49) h 0 rfl rfl dJ13_bitCount_95d88_49 ?_
  refine r_bipush (pc := 50) (v := nI 32) h (by decide) dJ13_bitCount_95d88_50 ?_
  refine r_lushr (pc := 52) (v := lN (((k3 + k3 / 256) + (k3 + k3 / 256) / 65536) / 4294967296)) h (wb_shr (by omega) (by decide)) dJ13_bitCount_95d88_52 ?_
  refine r_ladd (pc := 53) (v := lN (t6 k3)) h (lN_add _ _) dJ13_bitCount_95d88_53 ?_
  refine r_lstore_n (pc := 54) (lo2 := [(0, .long (lN (t6 k3)))]) h rfl (by decide) rfl dJ13_bitCount_95d88_54 ?_
  refine r_lload_n (pc := 55) h 0 rfl rfl dJ13_bitCount_95d88_55 ?_
  refine r_l2i (pc := 56) (v := nI (t6 k3)) h (lN_i _) dJ13_bitCount_95d88_56 ?_
  refine r_bipush (pc := 57) (v := nI 127) h (by decide) dJ13_bitCount_95d88_57 ?_
  refine r_iand (pc := 59) (v := nI (t6 k3 % 128)) h (fa_mask _ 7) dJ13_bitCount_95d88_59 ?_
  exact hret _ _ (⟨by rw [← hk3, ← popc_t6 hn]; unfold sF; rw [bM_85, bM_51, bM_15], rfl⟩) 60 _ dJ13_bitCount_95d88_60

theorem c_bitCount (l : Launch) (G : Gl) (σ : Sg) (u : Int64) : Ci l yJ13_bitCount_95d88 cJ13_bitCount_95d88 2 .int ({ frames := 0, cells := 0, slots := 0, locals := 0 } : Room) G [.long u] σ (fun r σ2 => r = nI (popc u) ∧ σ2 = σ) := by
  obtain ⟨n, hn, rfl⟩ := wb_of u
  exact c_bitCountN l G σ n hn

set_option maxRecDepth 100000 in
set_option maxHeartbeats 800000 in
theorem c_lowestBit (l : Launch) (G : Gl) (σ : Sg) (u : Int64) : Ci l yX1_lowestBit cX1_lowestBit 2 .int ({ frames := 1, cells := 0, slots := 0, locals := 21 } : Room) G [.long u] σ (fun r σ2 => r = nI (popc ((u &&& -u) - 1)) ∧ σ2 = σ) := by
  refine Ci_of (own := RX1) rfl (by decide +kernel) (lo := [(0, .long u)]) rfl (Nat.le_of_ble_eq_true rfl) (fun r s hp => by obtain ⟨rfl, rfl⟩ := hp; rfl) ?_
  intro x Q hxl h hret
  subst hxl
  refine r_lload_n (pc := 0) h 0 rfl rfl dX1_lowestBit_0 ?_
  refine r_lload_n (pc := 1) h 0 rfl rfl dX1_lowestBit_1 ?_
  refine r_lneg (pc := 2) (v := -u) h rfl dX1_lowestBit_2 ?_
  refine r_land (pc := 3) (v := u &&& (-u)) h rfl dX1_lowestBit_3 ?_
  refine r_lconst (pc := 4) (v := 1) h (by decide) dX1_lowestBit_4 ?_
  refine r_lsub (pc := 5) (v := (u &&& (-u)) - 1) h rfl dX1_lowestBit_5 ?_
  refine r_cSi (pc := 6) (As := [.long ((u &&& (-u)) - 1)]) (st := []) h lk_RX1_54 (c_bitCount x.2.1 G σ ((u &&& (-u)) - 1)) (by decide) rfl rfl (by first | decide | exact Nat.le_of_ble_eq_true rfl) (by decide) dX1_lowestBit_6 (fun r1 s2 q3 => ?_)
  rw [q3.1, q3.2]
  exact hret _ _ (⟨rfl, rfl⟩) 9 _ dX1_lowestBit_9

set_option maxRecDepth 100000 in
set_option maxHeartbeats 800000 in
theorem c_wordOf (l : Launch) (G : Gl) (σ : Sg) (L n : Nat) (hn : n < 2 ^ 31) : Ci l yX1_wordOf cX1_wordOf 2 .int ({ frames := 0, cells := 0, slots := 0, locals := 0 } : Room) G [.int (nI L), .int (nI n)] σ (fun r σ2 => r = nI (L * 16 + n / 64) ∧ σ2 = σ) := by
  refine Ci_of (own := RX1) rfl (by decide +kernel) (lo := [(0, .int (nI L)), (1, .int (nI n))]) rfl (Nat.le_of_ble_eq_true rfl) (fun r s hp => by obtain ⟨rfl, rfl⟩ := hp; rfl) ?_
  intro x Q hxl h hret
  subst hxl
  refine r_iload_n (pc := 0) h 0 rfl rfl dX1_wordOf_0 ?_
  refine r_bipush (pc := 1) (v := nI 16) h (by decide) dX1_wordOf_1 ?_
  refine r_imul (pc := 3) (v := nI (L * 16)) h (pk_mul _ _) dX1_wordOf_3 ?_
  refine r_iload_n (pc := 4) h 1 rfl rfl dX1_wordOf_4 ?_
  refine r_bipush (pc := 5) (v := nI 64) h (by decide) dX1_wordOf_5 ?_
  refine r_idiv (pc := 7) (v := nI (n / 64)) h (by decide) (pk_div (by omega) (by omega) (by omega)) dX1_wordOf_7 ?_
  refine r_iadd (pc := 8) (v := nI ((L * 16) + (n / 64))) h (nI_add _ _) dX1_wordOf_8 ?_
  exact hret _ _ (⟨rfl, rfl⟩) 9 _ dX1_wordOf_9

set_option maxRecDepth 100000 in
set_option maxHeartbeats 800000 in
theorem c_isList (l : Launch) (G : Gl) (σ : Sg) (b : Nat) (hb : Blk b) (u : Int32) : Ci l yX1_isList cX1_isList 2 .boolean ({ frames := 0, cells := 0, slots := 0, locals := 0 } : Room) G [.ref (G.2.1 + (b + 1)), .int u] σ (fun r σ2 => r = zB (decide (0 ≤ u ∧ u < σ.1 (b + 1) 1)) ∧ σ2 = σ) := by
  refine Ci_of (own := RX1) rfl (by decide +kernel) (lo := [(0, .ref (G.2.1 + (b + 1))), (1, .int u)]) rfl (Nat.le_of_ble_eq_true rfl) (fun r s hp => by obtain ⟨rfl, rfl⟩ := hp; exact zB_nar _) ?_
  intro x Q hxl h hret
  subst hxl
  refine r_iload_n (pc := 0) h 1 rfl rfl dX1_isList_0 ?_
  refine r_if_lt (pc := 1) (tgt := 16) h (by decide) dX1_isList_1 (fun c1 => ?_) (fun c1 => ?_)
  · skip
    refine r_iconst (pc := 16) (v := nI 0) h (by decide) dX1_isList_16 ?_
    exact hret _ _ (⟨by simp_all [zB, Int32.not_lt, Int32.not_le, ← Int32.not_lt], rfl⟩) 17 _ dX1_isList_17
  · skip
    refine r_iload_n (pc := 4) h 1 rfl rfl dX1_isList_4 ?_
    refine r_aload_n (pc := 5) h 0 rfl rfl dX1_isList_5 ?_
    refine g_1_count (pc := 6) hb h mw_8_4 dX1_isList_6 ?_
    refine r_icmp_ge (pc := 9) (tgt := 16) h (by decide) dX1_isList_9 (fun c9 => ?_) (fun c9 => ?_)
    · skip
      refine r_iconst (pc := 16) (v := nI 0) h (by decide) dX1_isList_16 ?_
      exact hret _ _ (⟨by simp_all [zB, Int32.not_lt, Int32.not_le, ← Int32.not_lt], rfl⟩) 17 _ dX1_isList_17
    · skip
      refine r_iconst (pc := 12) (v := nI 1) h (by decide) dX1_isList_12 ?_
      refine r_goto (pc := 13) (tgt := 17) h (by decide) dX1_isList_13 ?_
      exact hret _ _ (⟨by simp_all [zB, Int32.not_lt, Int32.not_le, ← Int32.not_lt], rfl⟩) 17 _ dX1_isList_17

set_option maxRecDepth 100000 in
set_option maxHeartbeats 800000 in
theorem c_hasRoomL (l : Launch) (G : Gl) (σ : Sg) (b : Nat) (hb : Blk b) : Ci l yX1_hasRoom cX1_hasRoom 1 .boolean ({ frames := 0, cells := 0, slots := 0, locals := 0 } : Room) G [.ref (G.2.1 + (b + 1))] σ (fun r σ2 => r = zB (decide (σ.1 (b + 1) 1 < nI 12)) ∧ σ2 = σ) := by
  refine Ci_of (own := RX1) rfl (by decide +kernel) (lo := [(0, .ref (G.2.1 + (b + 1)))]) rfl (Nat.le_of_ble_eq_true rfl) (fun r s hp => by obtain ⟨rfl, rfl⟩ := hp; exact zB_nar _) ?_
  intro x Q hxl h hret
  subst hxl
  refine r_aload_n (pc := 0) h 0 rfl rfl dX1_hasRoom_0 ?_
  refine g_1_count (pc := 1) hb h mw_8_4 dX1_hasRoom_1 ?_
  refine r_bipush (pc := 4) (v := nI 12) h (by decide) dX1_hasRoom_4 ?_
  refine r_icmp_ge (pc := 6) (tgt := 13) h (by decide) dX1_hasRoom_6 (fun c6 => ?_) (fun c6 => ?_)
  · skip
    refine r_iconst (pc := 13) (v := nI 0) h (by decide) dX1_hasRoom_13 ?_
    exact hret _ _ (⟨by simp_all [zB, Int32.not_lt, Int32.not_le, ← Int32.not_lt], rfl⟩) 14 _ dX1_hasRoom_14
  · skip
    refine r_iconst (pc := 9) (v := nI 1) h (by decide) dX1_hasRoom_9 ?_
    refine r_goto (pc := 10) (tgt := 14) h (by decide) dX1_hasRoom_10 ?_
    exact hret _ _ (⟨by simp_all [zB, Int32.not_lt, Int32.not_le, ← Int32.not_lt], rfl⟩) 14 _ dX1_hasRoom_14

theorem tst0 {w : Int64} {n : Nat} (hn : n < 2 ^ 31) : lg_cmp (w &&& ((1 : Int64) <<< ((nI n).toInt64 &&& 63))) 0 = 0 ↔ w.toBitVec.getLsbD (n % 64) = false := (lgc0 _).trans (tst_bit hn)
theorem within9 {n : Nat} (h : n < 1000) : decide (nI 0 ≤ nI n ∧ nI n ≤ nI 999) = true := by
  rw [decide_eq_true_iff, nI_leI (by omega) (by omega), nI_leI (by omega) (by omega)]
  omega
set_option maxRecDepth 100000 in
set_option maxHeartbeats 800000 in
theorem c_has (l : Launch) (G : Gl) (σ : Sg) (b : Nat) (hb : Blk b) (L n : Nat) (hL : L < 12) (hn : n < 1000) : Ci l yX1_has cX1_has 3 .boolean ({ frames := 1, cells := 0, slots := 0, locals := 22 } : Room) G [.ref (G.2.1 + (b + 1)), .int (nI L), .int (nI n)] σ (fun r σ2 => r = zB (bW (σ.2 (b + 2)) L n) ∧ σ2 = σ) := by
  refine Ci_of (own := RX1) rfl (by decide +kernel) (lo := [(0, .ref (G.2.1 + (b + 1))), (1, .int (nI L)), (2, .int (nI n))]) rfl (Nat.le_of_ble_eq_true rfl) (fun r s hp => by obtain ⟨rfl, rfl⟩ := hp; exact zB_nar _) ?_
  intro x Q hxl h hret
  subst hxl
  refine r_iload_n (pc := 0) h 2 rfl rfl dX1_has_0 ?_
  refine r_iconst (pc := 1) (v := nI 0) h (by decide) dX1_has_1 ?_
  refine r_sipush (pc := 2) (v := nI 999) h (by decide) dX1_has_2 ?_
  refine r_cNi (pc := 5) (idx := 25) (host := RX5) (As := [.int (nI n), .int (nI 0), .int (nI 999)]) (st := []) h lkn_isWithin (fun s hs => hs.1) (c_isWithinN x.2.1 G σ n (by omega)) (by decide) rfl rfl (by first | decide | exact Nat.le_of_ble_eq_true rfl) (by decide) dX1_has_5 (fun r1 s2 q3 => ?_)
  rw [q3.1, q3.2]
  refine r_if_eq (pc := 8) (tgt := 34) h (by decide) dX1_has_8 (fun c8 => absurd (zB_0.mp c8) (by rw [decide_eq_true hn]; decide)) (fun c8 => ?_)
  refine r_aload_n (pc := 11) h 0 rfl rfl dX1_has_11 ?_
  refine g_1_words (pc := 12) hb h mw_3_0 dX1_has_12 ?_
  refine r_iload_n (pc := 15) h 1 rfl rfl dX1_has_15 ?_
  refine r_iload_n (pc := 16) h 2 rfl rfl dX1_has_16 ?_
  refine r_cSi (pc := 17) (As := [.int (nI L), .int (nI n)]) (st := [.ref (G.2.1 + (b + 2))]) h lk_RX1_29 (c_wordOf x.2.1 G σ L n (by omega)) (by decide) rfl rfl (by first | decide | exact Nat.le_of_ble_eq_true rfl) (by decide) dX1_has_17 (fun r4 s5 q6 => ?_)
  rw [q6.1, q6.2]
  refine r_lald (pc := 20) h (a_wd hb) (L * 16 + n / 64) rfl (by omega) dX1_has_20 ?_
  refine r_lconst (pc := 21) (v := 1) h (by decide) dX1_has_21 ?_
  refine r_iload_n (pc := 22) h 2 rfl rfl dX1_has_22 ?_
  refine r_lshl (pc := 23) (v := 1 <<< ((nI n).toInt64 &&& 63)) h rfl dX1_has_23 ?_
  refine r_land (pc := 24) (v := (σ.2 (b + 2) (L * 16 + n / 64)) &&& (1 <<< ((nI n).toInt64 &&& 63))) h rfl dX1_has_24 ?_
  refine r_lconst (pc := 25) (v := 0) h (by decide) dX1_has_25 ?_
  refine r_lcmp (pc := 26) (v := lg_cmp ((σ.2 (b + 2) (L * 16 + n / 64)) &&& (1 <<< ((nI n).toInt64 &&& 63))) 0) h rfl dX1_has_26 ?_
  refine r_if_eq (pc := 27) (tgt := 34) h (by decide) dX1_has_27 (fun c27 => ?_) (fun c27 => ?_)
  · skip
    rw [tst0 (by omega)] at c27
    refine r_iconst (pc := 34) (v := nI 0) h (by decide) dX1_has_34 ?_
    exact hret _ _ (⟨by unfold bW; simp_all [zB], rfl⟩) 35 _ dX1_has_35
  · skip
    rw [tst0 (by omega)] at c27
    refine r_iconst (pc := 30) (v := nI 1) h (by decide) dX1_has_30 ?_
    refine r_goto (pc := 31) (tgt := 35) h (by decide) dX1_has_31 ?_
    exact hret _ _ (⟨by unfold bW; simp_all [zB], rfl⟩) 35 _ dX1_has_35

