/-! THE CLASS: simulate -/
/-- what a turn does: the action and its numbers -/
def turnK (r : Nat) : Nat × Nat × Nat × Nat := match r % 16 with
  | 0 => (115, r / 16 % 100, 1 + r / 16 / 128 % 20, 0)
  | 1 => (115, r / 16 % 100, 1 + r / 16 / 128 % 20, 0)
  | 2 => (120, r / 16 % 12, 1 + r / 16 / 16 % 3, 0)
  | 3 => (106, r / 16 % 12, r / 16 / 16 % 12, 0)
  | 4 => (104, r / 16 % 12, r / 16 / 16 % 12, 0)
  | 5 => (119, r / 16 % 12, r / 16 / 16 % 12, 0)
  | 6 => (118, r / 16 % 12, 0, 0)
  | 7 => (101, r / 16 % 12, 1 + r / 16 / 16 % 4, 0)
  | 8 => (117, r / 16 % 12, 0, 0)
  | 9 => (114, r / 16 % 12, 0, 0)
  | 10 => (100, 0, 0, 0)
  | _ => (110, r / 16 % 4, 0, 0)
noncomputable def turnA (A : Ab) (r : Nat) : Ab := (att A (turnK r).1 (nI (turnK r).2.1) (nI (turnK r).2.2.1) (nI (turnK r).2.2.2)).2
/-- the member that is read in a turn, or 0 -/
noncomputable def turnV (A : Ab) (r : Nat) : Int32 := if r % 16 < 11 then nI 0 else if ob A 110 (nI (r / 16 % 4)) (nI 0) (nI 0) = 0 then (co A 110 (nI (r / 16 % 4)) (nI 0) (nI 0)).1 else nI 0
theorem turnK_d {r : Nat} (h : ¬ r % 16 < 11) : turnK r = (110, r / 16 % 4, 0, 0) := by
  unfold turnK
  split <;> first | omega | rfl
theorem turn_max {A : Ab} {i : Nat} (hr4 : A.2.1 ≤ 4) : (if nI 0 < (att A 110 (nI i) (nI 0) (nI 0)).1 then (att A 110 (nI i) (nI 0) (nI 0)).1 else nI 0) = (if ob A 110 (nI i) (nI 0) (nI 0) = 0 then (co A 110 (nI i) (nI 0) (nI 0)).1 else nI 0) := by
  by_cases h : ob A 110 (nI i) (nI 0) (nI 0) = 0
  · rw [if_pos h, att_0 h]
    obtain ⟨j, v, e, hj, hv⟩ := ob_110 hr4 h
    have e2 : (co A 110 (nI i) (nI 0) (nI 0)).1 = nI v := by
      show oI (nextO A (toN (nI i))) = nI v
      rw [e, toN_nI (by omega), hv]; rfl
    have hv9 := (ath_spec hv).1
    rw [e2]
    by_cases q : v = 0
    · subst q; rfl
    · rw [if_pos]; rw [nI_ltI (by omega) (by omega)]; omega
  · rw [if_neg h, att_1 h]; decide
def rN (x : Int64) : Nat := x.toBitVec.toNat / 2 ^ 33
theorem rN_lt (x : Int64) : rN x < 2 ^ 31 := by
  have := x.toBitVec.isLt
  unfold rN; omega
theorem rN_at (x : Int64) : ((x.toUInt64 >>> ((nI 33).toInt64.toUInt64 &&& Int64.toUInt64 63)).toInt64).toInt32 = nI (rN x) := by
  obtain ⟨n, hn, rfl⟩ := wb_of x
  rw [wb_shr hn (by decide)]
  unfold rN
  rw [wb_tn hn]
  exact lN_i _
/-- the next number of the row -/
def nxX (x : Int64) : Int64 := x * 6364136223846793005 + 1442695040888963407
noncomputable def simS (p : Int64 × Ab × Int32) : Int64 × Ab × Int32 := (nxX p.1, turnA p.2.1 (rN (nxX p.1)), p.2.2 + turnV p.2.1 (rN (nxX p.1)))
/-- after k turns -/
noncomputable def simI (p : Int64 × Ab × Int32) : Nat → Int64 × Ab × Int32
  | 0 => p
  | k + 1 => simS (simI p k)
theorem simI_s {p : Int64 × Ab × Int32} {k : Nat} {y : Int64} {A : Ab} {s : Int32} (h : simI p k = (y, A, s)) : simI p (k + 1) = (nxX y, turnA A (rN (nxX y)), s + turnV A (rN (nxX y))) := by rw [simI, h, simS]
noncomputable def simV (A : Ab) (seed : Int64) (t : Nat) : Int32 := nI (10000 * (simI (seed, A, nI 0) t).2.1.1) + ((simI (seed, A, nI 0) t).2.2 - (simI (seed, A, nI 0) t).2.2 / nI 10000 * nI 10000)
theorem simV_e {A A1 : Ab} {seed y : Int64} {t : Nat} {s : Int32} (h : simI (seed, A, nI 0) t = (y, A1, s)) : simV A seed t = nI (10000 * A1.1) + (s - s / nI 10000 * nI 10000) := by
  unfold simV
  rw [h]
set_option maxRecDepth 100000 in
set_option maxHeartbeats 800000 in
theorem c_takeTurn (l : Launch) (G : Gl) (σ : Sg) (A : Ab) (hr : RelB A σ 113) (r : Nat) (hr31 : r < 2 ^ 31) : Ci l yX5_takeTurn cX5_takeTurn 5 .int ({ frames := 6, cells := 0, slots := 0, locals := 143 } : Room) G [.ref (G.2.1 + 0), .int (nI r)] σ (fun r1 σ2 => r1 = turnV A r ∧ Up (turnA A r) σ 113 σ2) := by
  refine Ci_of (own := RX5) rfl (by decide +kernel) (lo := [(0, .ref (G.2.1 + 0)), (1, .int (nI r))]) rfl (Nat.le_of_ble_eq_true rfl) (fun _ s hp => by obtain ⟨rfl, _⟩ := hp; rfl) ?_
  intro x Q hxl h hret
  subst hxl
  have hN12 := hr.1.1
  have hR4 := hr.2.1.1
  refine r_iload_n (pc := 0) h 1 rfl rfl dX5_takeTurn_0 ?_
  refine r_bipush (pc := 1) (v := nI 16) h (by decide) dX5_takeTurn_1 ?_
  refine r_idiv (pc := 3) (v := nI (r / 16)) h (by decide) (pk_div (by omega) (by omega) (by omega)) dX5_takeTurn_3 ?_
  refine r_istore_n (pc := 4) (lo2 := [(2, .int (nI (r / 16))), (0, .ref (G.2.1 + 0)), (1, .int (nI r))]) h rfl (by decide) rfl dX5_takeTurn_4 ?_
  refine r_iload_n (pc := 5) h 0 rfl rfl dX5_takeTurn_5 ?_
  refine r_bipush (pc := 6) (v := nI 12) h (by decide) dX5_takeTurn_6 ?_
  refine r_irem (pc := 8) (v := nI ((r / 16) % 12)) h (by decide) (pk_rem (by omega) (by omega) (by omega)) dX5_takeTurn_8 ?_
  refine r_istore_n (pc := 9) (lo2 := [(3, .int (nI ((r / 16) % 12))), (2, .int (nI (r / 16))), (0, .ref (G.2.1 + 0)), (1, .int (nI r))]) h rfl (by decide) rfl dX5_takeTurn_9 ?_
  refine r_iload_n (pc := 10) h 1 rfl rfl dX5_takeTurn_10 ?_
  refine r_bipush (pc := 11) (v := nI 16) h (by decide) dX5_takeTurn_11 ?_
  refine r_idiv (pc := 13) (v := nI ((r / 16) / 16)) h (by decide) (pk_div (by omega) (by omega) (by omega)) dX5_takeTurn_13 ?_
  refine r_bipush (pc := 14) (v := nI 12) h (by decide) dX5_takeTurn_14 ?_
  refine r_irem (pc := 16) (v := nI (((r / 16) / 16) % 12)) h (by decide) (pk_rem (by omega) (by omega) (by omega)) dX5_takeTurn_16 ?_
  refine r_istore (pc := 17) (lo2 := [(4, .int (nI (((r / 16) / 16) % 12))), (3, .int (nI ((r / 16) % 12))), (2, .int (nI (r / 16))), (0, .ref (G.2.1 + 0)), (1, .int (nI r))]) h (by decide) rfl dX5_takeTurn_17 ?_
  refine r_iload_n (pc := 19) h 4 rfl rfl dX5_takeTurn_19 ?_
  refine r_bipush (pc := 20) (v := nI 16) h (by decide) dX5_takeTurn_20 ?_
  refine r_irem (pc := 22) (v := nI (r % 16)) h (by decide) (pk_rem (by omega) (by omega) (by omega)) dX5_takeTurn_22 ?_
  have h16 : r % 16 < 16 := Nat.mod_lt _ (by decide)
  rcases (show r % 16 = 0 ∨ r % 16 = 1 ∨ r % 16 = 2 ∨ r % 16 = 3 ∨ r % 16 = 4 ∨ r % 16 = 5 ∨ r % 16 = 6 ∨ r % 16 = 7 ∨ r % 16 = 8 ∨ r % 16 = 9 ∨ r % 16 = 10 ∨ r % 16 = 11 ∨ r % 16 = 12 ∨ r % 16 = 13 ∨ r % 16 = 14 ∨ r % 16 = 15 by omega) with hm | hm | hm | hm | hm | hm | hm | hm | hm | hm | hm | hm | hm | hm | hm | hm
  · skip
    refine r_topi (b := nI 0) (congrArg nI hm) ?_
    refine r_tabIn (pc := 23) (off := 57) (tgt := 80) h (by decide) (by decide) (by decide) (by decide) dX5_takeTurn_23 ?_
    refine r_aload_n (pc := 80) h 3 rfl rfl dX5_takeTurn_80 ?_
    refine g_5_trial (pc := 81) h mw_2_1 dX5_takeTurn_81 ?_
    refine r_bipush (pc := 84) (v := nI 115) h (by decide) dX5_takeTurn_84 ?_
    refine r_iload_n (pc := 86) h 2 rfl rfl dX5_takeTurn_86 ?_
    refine r_bipush (pc := 87) (v := nI 100) h (by decide) dX5_takeTurn_87 ?_
    refine r_irem (pc := 89) (v := nI ((r / 16) % 100)) h (by decide) (pk_rem (by omega) (by omega) (by omega)) dX5_takeTurn_89 ?_
    refine r_iconst (pc := 90) (v := nI 1) h (by decide) dX5_takeTurn_90 ?_
    refine r_iload_n (pc := 91) h 2 rfl rfl dX5_takeTurn_91 ?_
    refine r_sipush (pc := 92) (v := nI 128) h (by decide) dX5_takeTurn_92 ?_
    refine r_idiv (pc := 95) (v := nI ((r / 16) / 128)) h (by decide) (pk_div (by omega) (by omega) (by omega)) dX5_takeTurn_95 ?_
    refine r_bipush (pc := 96) (v := nI 20) h (by decide) dX5_takeTurn_96 ?_
    refine r_irem (pc := 98) (v := nI (((r / 16) / 128) % 20)) h (by decide) (pk_rem (by omega) (by omega) (by omega)) dX5_takeTurn_98 ?_
    refine r_iadd (pc := 99) (v := nI (1 + (((r / 16) / 128) % 20))) h (nI_add _ _) dX5_takeTurn_99 ?_
    refine r_iconst (pc := 100) (v := nI 0) h (by decide) dX5_takeTurn_100 ?_
    refine r_cVi (pc := 101) (As := [.int (nI 115), .int (nI ((r / 16) % 100)), .int (nI (1 + (((r / 16) / 128) % 20))), .int (nI 0)]) (st := []) h lk_RX5_208 (c_attempt x.2.1 G σ 113 blk_113 A hr 115 (by decide) (nI ((r / 16) % 100)) (nI (1 + (((r / 16) / 128) % 20))) (nI 0)) (rc_3 blk_113) (by decide) rfl rfl (by first | decide | exact Nat.le_of_ble_eq_true rfl) (by decide) dX5_takeTurn_101 (fun r1 s2 q3 => ?_)
    obtain ⟨k0, k1⟩ := q3
    subst k0
    refine r_pop (pc := 104) h rfl dX5_takeTurn_104 ?_
    refine r_iconst (pc := 105) (v := nI 0) h (by decide) dX5_takeTurn_105 ?_
    exact hret _ _ (⟨by unfold turnV; rw [if_pos (by omega)], by rw [show turnA A r = _ from by unfold turnA turnK; rw [hm]]; exact k1⟩) 106 _ dX5_takeTurn_106
  · skip
    refine r_topi (b := nI 1) (congrArg nI hm) ?_
    refine r_tabIn (pc := 23) (off := 57) (tgt := 80) h (by decide) (by decide) (by decide) (by decide) dX5_takeTurn_23 ?_
    refine r_aload_n (pc := 80) h 3 rfl rfl dX5_takeTurn_80 ?_
    refine g_5_trial (pc := 81) h mw_2_1 dX5_takeTurn_81 ?_
    refine r_bipush (pc := 84) (v := nI 115) h (by decide) dX5_takeTurn_84 ?_
    refine r_iload_n (pc := 86) h 2 rfl rfl dX5_takeTurn_86 ?_
    refine r_bipush (pc := 87) (v := nI 100) h (by decide) dX5_takeTurn_87 ?_
    refine r_irem (pc := 89) (v := nI ((r / 16) % 100)) h (by decide) (pk_rem (by omega) (by omega) (by omega)) dX5_takeTurn_89 ?_
    refine r_iconst (pc := 90) (v := nI 1) h (by decide) dX5_takeTurn_90 ?_
    refine r_iload_n (pc := 91) h 2 rfl rfl dX5_takeTurn_91 ?_
    refine r_sipush (pc := 92) (v := nI 128) h (by decide) dX5_takeTurn_92 ?_
    refine r_idiv (pc := 95) (v := nI ((r / 16) / 128)) h (by decide) (pk_div (by omega) (by omega) (by omega)) dX5_takeTurn_95 ?_
    refine r_bipush (pc := 96) (v := nI 20) h (by decide) dX5_takeTurn_96 ?_
    refine r_irem (pc := 98) (v := nI (((r / 16) / 128) % 20)) h (by decide) (pk_rem (by omega) (by omega) (by omega)) dX5_takeTurn_98 ?_
    refine r_iadd (pc := 99) (v := nI (1 + (((r / 16) / 128) % 20))) h (nI_add _ _) dX5_takeTurn_99 ?_
    refine r_iconst (pc := 100) (v := nI 0) h (by decide) dX5_takeTurn_100 ?_
    refine r_cVi (pc := 101) (As := [.int (nI 115), .int (nI ((r / 16) % 100)), .int (nI (1 + (((r / 16) / 128) % 20))), .int (nI 0)]) (st := []) h lk_RX5_208 (c_attempt x.2.1 G σ 113 blk_113 A hr 115 (by decide) (nI ((r / 16) % 100)) (nI (1 + (((r / 16) / 128) % 20))) (nI 0)) (rc_3 blk_113) (by decide) rfl rfl (by first | decide | exact Nat.le_of_ble_eq_true rfl) (by decide) dX5_takeTurn_101 (fun r4 s5 q6 => ?_)
    obtain ⟨k0, k1⟩ := q6
    subst k0
    refine r_pop (pc := 104) h rfl dX5_takeTurn_104 ?_
    refine r_iconst (pc := 105) (v := nI 0) h (by decide) dX5_takeTurn_105 ?_
    exact hret _ _ (⟨by unfold turnV; rw [if_pos (by omega)], by rw [show turnA A r = _ from by unfold turnA turnK; rw [hm]]; exact k1⟩) 106 _ dX5_takeTurn_106
  · skip
    refine r_topi (b := nI 2) (congrArg nI hm) ?_
    refine r_tabIn (pc := 23) (off := 84) (tgt := 107) h (by decide) (by decide) (by decide) (by decide) dX5_takeTurn_23 ?_
    refine r_aload_n (pc := 107) h 3 rfl rfl dX5_takeTurn_107 ?_
    refine g_5_trial (pc := 108) h mw_2_1 dX5_takeTurn_108 ?_
    refine r_bipush (pc := 111) (v := nI 120) h (by decide) dX5_takeTurn_111 ?_
    refine r_iload_n (pc := 113) h 1 rfl rfl dX5_takeTurn_113 ?_
    refine r_iconst (pc := 114) (v := nI 1) h (by decide) dX5_takeTurn_114 ?_
    refine r_iload_n (pc := 115) h 2 rfl rfl dX5_takeTurn_115 ?_
    refine r_bipush (pc := 116) (v := nI 16) h (by decide) dX5_takeTurn_116 ?_
    refine r_idiv (pc := 118) (v := nI ((r / 16) / 16)) h (by decide) (pk_div (by omega) (by omega) (by omega)) dX5_takeTurn_118 ?_
    refine r_iconst (pc := 119) (v := nI 3) h (by decide) dX5_takeTurn_119 ?_
    refine r_irem (pc := 120) (v := nI (((r / 16) / 16) % 3)) h (by decide) (pk_rem (by omega) (by omega) (by omega)) dX5_takeTurn_120 ?_
    refine r_iadd (pc := 121) (v := nI (1 + (((r / 16) / 16) % 3))) h (nI_add _ _) dX5_takeTurn_121 ?_
    refine r_iconst (pc := 122) (v := nI 0) h (by decide) dX5_takeTurn_122 ?_
    refine r_cVi (pc := 123) (As := [.int (nI 120), .int (nI ((r / 16) % 12)), .int (nI (1 + (((r / 16) / 16) % 3))), .int (nI 0)]) (st := []) h lk_RX5_208 (c_attempt x.2.1 G σ 113 blk_113 A hr 120 (by decide) (nI ((r / 16) % 12)) (nI (1 + (((r / 16) / 16) % 3))) (nI 0)) (rc_3 blk_113) (by decide) rfl rfl (by first | decide | exact Nat.le_of_ble_eq_true rfl) (by decide) dX5_takeTurn_123 (fun r7 s8 q9 => ?_)
    obtain ⟨k0, k1⟩ := q9
    subst k0
    refine r_pop (pc := 126) h rfl dX5_takeTurn_126 ?_
    refine r_iconst (pc := 127) (v := nI 0) h (by decide) dX5_takeTurn_127 ?_
    exact hret _ _ (⟨by unfold turnV; rw [if_pos (by omega)], by rw [show turnA A r = _ from by unfold turnA turnK; rw [hm]]; exact k1⟩) 128 _ dX5_takeTurn_128
  · skip
    refine r_topi (b := nI 3) (congrArg nI hm) ?_
    refine r_tabIn (pc := 23) (off := 106) (tgt := 129) h (by decide) (by decide) (by decide) (by decide) dX5_takeTurn_23 ?_
    refine r_aload_n (pc := 129) h 3 rfl rfl dX5_takeTurn_129 ?_
    refine g_5_trial (pc := 130) h mw_2_1 dX5_takeTurn_130 ?_
    refine r_bipush (pc := 133) (v := nI 106) h (by decide) dX5_takeTurn_133 ?_
    refine r_iload_n (pc := 135) h 1 rfl rfl dX5_takeTurn_135 ?_
    refine r_iload (pc := 136) h 0 rfl dX5_takeTurn_136 ?_
    refine r_iconst (pc := 138) (v := nI 0) h (by decide) dX5_takeTurn_138 ?_
    refine r_cVi (pc := 139) (As := [.int (nI 106), .int (nI ((r / 16) % 12)), .int (nI (((r / 16) / 16) % 12)), .int (nI 0)]) (st := []) h lk_RX5_208 (c_attempt x.2.1 G σ 113 blk_113 A hr 106 (by decide) (nI ((r / 16) % 12)) (nI (((r / 16) / 16) % 12)) (nI 0)) (rc_3 blk_113) (by decide) rfl rfl (by first | decide | exact Nat.le_of_ble_eq_true rfl) (by decide) dX5_takeTurn_139 (fun r10 s11 q12 => ?_)
    obtain ⟨k0, k1⟩ := q12
    subst k0
    refine r_pop (pc := 142) h rfl dX5_takeTurn_142 ?_
    refine r_iconst (pc := 143) (v := nI 0) h (by decide) dX5_takeTurn_143 ?_
    exact hret _ _ (⟨by unfold turnV; rw [if_pos (by omega)], by rw [show turnA A r = _ from by unfold turnA turnK; rw [hm]]; exact k1⟩) 144 _ dX5_takeTurn_144
  · skip
    refine r_topi (b := nI 4) (congrArg nI hm) ?_
    refine r_tabIn (pc := 23) (off := 122) (tgt := 145) h (by decide) (by decide) (by decide) (by decide) dX5_takeTurn_23 ?_
    refine r_aload_n (pc := 145) h 3 rfl rfl dX5_takeTurn_145 ?_
    refine g_5_trial (pc := 146) h mw_2_1 dX5_takeTurn_146 ?_
    refine r_bipush (pc := 149) (v := nI 104) h (by decide) dX5_takeTurn_149 ?_
    refine r_iload_n (pc := 151) h 1 rfl rfl dX5_takeTurn_151 ?_
    refine r_iload (pc := 152) h 0 rfl dX5_takeTurn_152 ?_
    refine r_iconst (pc := 154) (v := nI 0) h (by decide) dX5_takeTurn_154 ?_
    refine r_cVi (pc := 155) (As := [.int (nI 104), .int (nI ((r / 16) % 12)), .int (nI (((r / 16) / 16) % 12)), .int (nI 0)]) (st := []) h lk_RX5_208 (c_attempt x.2.1 G σ 113 blk_113 A hr 104 (by decide) (nI ((r / 16) % 12)) (nI (((r / 16) / 16) % 12)) (nI 0)) (rc_3 blk_113) (by decide) rfl rfl (by first | decide | exact Nat.le_of_ble_eq_true rfl) (by decide) dX5_takeTurn_155 (fun r13 s14 q15 => ?_)
    obtain ⟨k0, k1⟩ := q15
    subst k0
    refine r_pop (pc := 158) h rfl dX5_takeTurn_158 ?_
    refine r_iconst (pc := 159) (v := nI 0) h (by decide) dX5_takeTurn_159 ?_
    exact hret _ _ (⟨by unfold turnV; rw [if_pos (by omega)], by rw [show turnA A r = _ from by unfold turnA turnK; rw [hm]]; exact k1⟩) 160 _ dX5_takeTurn_160
  · skip
    refine r_topi (b := nI 5) (congrArg nI hm) ?_
    refine r_tabIn (pc := 23) (off := 138) (tgt := 161) h (by decide) (by decide) (by decide) (by decide) dX5_takeTurn_23 ?_
    refine r_aload_n (pc := 161) h 3 rfl rfl dX5_takeTurn_161 ?_
    refine g_5_trial (pc := 162) h mw_2_1 dX5_takeTurn_162 ?_
    refine r_bipush (pc := 165) (v := nI 119) h (by decide) dX5_takeTurn_165 ?_
    refine r_iload_n (pc := 167) h 1 rfl rfl dX5_takeTurn_167 ?_
    refine r_iload (pc := 168) h 0 rfl dX5_takeTurn_168 ?_
    refine r_iconst (pc := 170) (v := nI 0) h (by decide) dX5_takeTurn_170 ?_
    refine r_cVi (pc := 171) (As := [.int (nI 119), .int (nI ((r / 16) % 12)), .int (nI (((r / 16) / 16) % 12)), .int (nI 0)]) (st := []) h lk_RX5_208 (c_attempt x.2.1 G σ 113 blk_113 A hr 119 (by decide) (nI ((r / 16) % 12)) (nI (((r / 16) / 16) % 12)) (nI 0)) (rc_3 blk_113) (by decide) rfl rfl (by first | decide | exact Nat.le_of_ble_eq_true rfl) (by decide) dX5_takeTurn_171 (fun r16 s17 q18 => ?_)
    obtain ⟨k0, k1⟩ := q18
    subst k0
    refine r_pop (pc := 174) h rfl dX5_takeTurn_174 ?_
    refine r_iconst (pc := 175) (v := nI 0) h (by decide) dX5_takeTurn_175 ?_
    exact hret _ _ (⟨by unfold turnV; rw [if_pos (by omega)], by rw [show turnA A r = _ from by unfold turnA turnK; rw [hm]]; exact k1⟩) 176 _ dX5_takeTurn_176
  · skip
    refine r_topi (b := nI 6) (congrArg nI hm) ?_
    refine r_tabIn (pc := 23) (off := 154) (tgt := 177) h (by decide) (by decide) (by decide) (by decide) dX5_takeTurn_23 ?_
    refine r_aload_n (pc := 177) h 3 rfl rfl dX5_takeTurn_177 ?_
    refine g_5_trial (pc := 178) h mw_2_1 dX5_takeTurn_178 ?_
    refine r_bipush (pc := 181) (v := nI 118) h (by decide) dX5_takeTurn_181 ?_
    refine r_iload_n (pc := 183) h 1 rfl rfl dX5_takeTurn_183 ?_
    refine r_iconst (pc := 184) (v := nI 0) h (by decide) dX5_takeTurn_184 ?_
    refine r_iconst (pc := 185) (v := nI 0) h (by decide) dX5_takeTurn_185 ?_
    refine r_cVi (pc := 186) (As := [.int (nI 118), .int (nI ((r / 16) % 12)), .int (nI 0), .int (nI 0)]) (st := []) h lk_RX5_208 (c_attempt x.2.1 G σ 113 blk_113 A hr 118 (by decide) (nI ((r / 16) % 12)) (nI 0) (nI 0)) (rc_3 blk_113) (by decide) rfl rfl (by first | decide | exact Nat.le_of_ble_eq_true rfl) (by decide) dX5_takeTurn_186 (fun r19 s20 q21 => ?_)
    obtain ⟨k0, k1⟩ := q21
    subst k0
    refine r_pop (pc := 189) h rfl dX5_takeTurn_189 ?_
    refine r_iconst (pc := 190) (v := nI 0) h (by decide) dX5_takeTurn_190 ?_
    exact hret _ _ (⟨by unfold turnV; rw [if_pos (by omega)], by rw [show turnA A r = _ from by unfold turnA turnK; rw [hm]]; exact k1⟩) 191 _ dX5_takeTurn_191
  · skip
    refine r_topi (b := nI 7) (congrArg nI hm) ?_
    refine r_tabIn (pc := 23) (off := 169) (tgt := 192) h (by decide) (by decide) (by decide) (by decide) dX5_takeTurn_23 ?_
    refine r_aload_n (pc := 192) h 3 rfl rfl dX5_takeTurn_192 ?_
    refine g_5_trial (pc := 193) h mw_2_1 dX5_takeTurn_193 ?_
    refine r_bipush (pc := 196) (v := nI 101) h (by decide) dX5_takeTurn_196 ?_
    refine r_iload_n (pc := 198) h 1 rfl rfl dX5_takeTurn_198 ?_
    refine r_iconst (pc := 199) (v := nI 1) h (by decide) dX5_takeTurn_199 ?_
    refine r_iload_n (pc := 200) h 2 rfl rfl dX5_takeTurn_200 ?_
    refine r_bipush (pc := 201) (v := nI 16) h (by decide) dX5_takeTurn_201 ?_
    refine r_idiv (pc := 203) (v := nI ((r / 16) / 16)) h (by decide) (pk_div (by omega) (by omega) (by omega)) dX5_takeTurn_203 ?_
    refine r_iconst (pc := 204) (v := nI 4) h (by decide) dX5_takeTurn_204 ?_
    refine r_irem (pc := 205) (v := nI (((r / 16) / 16) % 4)) h (by decide) (pk_rem (by omega) (by omega) (by omega)) dX5_takeTurn_205 ?_
    refine r_iadd (pc := 206) (v := nI (1 + (((r / 16) / 16) % 4))) h (nI_add _ _) dX5_takeTurn_206 ?_
    refine r_iconst (pc := 207) (v := nI 0) h (by decide) dX5_takeTurn_207 ?_
    refine r_cVi (pc := 208) (As := [.int (nI 101), .int (nI ((r / 16) % 12)), .int (nI (1 + (((r / 16) / 16) % 4))), .int (nI 0)]) (st := []) h lk_RX5_208 (c_attempt x.2.1 G σ 113 blk_113 A hr 101 (by decide) (nI ((r / 16) % 12)) (nI (1 + (((r / 16) / 16) % 4))) (nI 0)) (rc_3 blk_113) (by decide) rfl rfl (by first | decide | exact Nat.le_of_ble_eq_true rfl) (by decide) dX5_takeTurn_208 (fun r22 s23 q24 => ?_)
    obtain ⟨k0, k1⟩ := q24
    subst k0
    refine r_pop (pc := 211) h rfl dX5_takeTurn_211 ?_
    refine r_iconst (pc := 212) (v := nI 0) h (by decide) dX5_takeTurn_212 ?_
    exact hret _ _ (⟨by unfold turnV; rw [if_pos (by omega)], by rw [show turnA A r = _ from by unfold turnA turnK; rw [hm]]; exact k1⟩) 213 _ dX5_takeTurn_213
  · skip
    refine r_topi (b := nI 8) (congrArg nI hm) ?_
    refine r_tabIn (pc := 23) (off := 191) (tgt := 214) h (by decide) (by decide) (by decide) (by decide) dX5_takeTurn_23 ?_
    refine r_aload_n (pc := 214) h 3 rfl rfl dX5_takeTurn_214 ?_
    refine g_5_trial (pc := 215) h mw_2_1 dX5_takeTurn_215 ?_
    refine r_bipush (pc := 218) (v := nI 117) h (by decide) dX5_takeTurn_218 ?_
    refine r_iload_n (pc := 220) h 1 rfl rfl dX5_takeTurn_220 ?_
    refine r_iconst (pc := 221) (v := nI 0) h (by decide) dX5_takeTurn_221 ?_
    refine r_iconst (pc := 222) (v := nI 0) h (by decide) dX5_takeTurn_222 ?_
    refine r_cVi (pc := 223) (As := [.int (nI 117), .int (nI ((r / 16) % 12)), .int (nI 0), .int (nI 0)]) (st := []) h lk_RX5_208 (c_attempt x.2.1 G σ 113 blk_113 A hr 117 (by decide) (nI ((r / 16) % 12)) (nI 0) (nI 0)) (rc_3 blk_113) (by decide) rfl rfl (by first | decide | exact Nat.le_of_ble_eq_true rfl) (by decide) dX5_takeTurn_223 (fun r25 s26 q27 => ?_)
    obtain ⟨k0, k1⟩ := q27
    subst k0
    refine r_pop (pc := 226) h rfl dX5_takeTurn_226 ?_
    refine r_iconst (pc := 227) (v := nI 0) h (by decide) dX5_takeTurn_227 ?_
    exact hret _ _ (⟨by unfold turnV; rw [if_pos (by omega)], by rw [show turnA A r = _ from by unfold turnA turnK; rw [hm]]; exact k1⟩) 228 _ dX5_takeTurn_228
  · skip
    refine r_topi (b := nI 9) (congrArg nI hm) ?_
    refine r_tabIn (pc := 23) (off := 206) (tgt := 229) h (by decide) (by decide) (by decide) (by decide) dX5_takeTurn_23 ?_
    refine r_aload_n (pc := 229) h 3 rfl rfl dX5_takeTurn_229 ?_
    refine g_5_trial (pc := 230) h mw_2_1 dX5_takeTurn_230 ?_
    refine r_bipush (pc := 233) (v := nI 114) h (by decide) dX5_takeTurn_233 ?_
    refine r_iload_n (pc := 235) h 1 rfl rfl dX5_takeTurn_235 ?_
    refine r_iconst (pc := 236) (v := nI 0) h (by decide) dX5_takeTurn_236 ?_
    refine r_iconst (pc := 237) (v := nI 0) h (by decide) dX5_takeTurn_237 ?_
    refine r_cVi (pc := 238) (As := [.int (nI 114), .int (nI ((r / 16) % 12)), .int (nI 0), .int (nI 0)]) (st := []) h lk_RX5_208 (c_attempt x.2.1 G σ 113 blk_113 A hr 114 (by decide) (nI ((r / 16) % 12)) (nI 0) (nI 0)) (rc_3 blk_113) (by decide) rfl rfl (by first | decide | exact Nat.le_of_ble_eq_true rfl) (by decide) dX5_takeTurn_238 (fun r28 s29 q30 => ?_)
    obtain ⟨k0, k1⟩ := q30
    subst k0
    refine r_pop (pc := 241) h rfl dX5_takeTurn_241 ?_
    refine r_iconst (pc := 242) (v := nI 0) h (by decide) dX5_takeTurn_242 ?_
    exact hret _ _ (⟨by unfold turnV; rw [if_pos (by omega)], by rw [show turnA A r = _ from by unfold turnA turnK; rw [hm]]; exact k1⟩) 243 _ dX5_takeTurn_243
  · skip
    refine r_topi (b := nI 10) (congrArg nI hm) ?_
    refine r_tabIn (pc := 23) (off := 221) (tgt := 244) h (by decide) (by decide) (by decide) (by decide) dX5_takeTurn_23 ?_
    refine r_aload_n (pc := 244) h 3 rfl rfl dX5_takeTurn_244 ?_
    refine g_5_trial (pc := 245) h mw_2_1 dX5_takeTurn_245 ?_
    refine r_bipush (pc := 248) (v := nI 100) h (by decide) dX5_takeTurn_248 ?_
    refine r_iconst (pc := 250) (v := nI 0) h (by decide) dX5_takeTurn_250 ?_
    refine r_iconst (pc := 251) (v := nI 0) h (by decide) dX5_takeTurn_251 ?_
    refine r_iconst (pc := 252) (v := nI 0) h (by decide) dX5_takeTurn_252 ?_
    refine r_cVi (pc := 253) (As := [.int (nI 100), .int (nI 0), .int (nI 0), .int (nI 0)]) (st := []) h lk_RX5_208 (c_attempt x.2.1 G σ 113 blk_113 A hr 100 (by decide) (nI 0) (nI 0) (nI 0)) (rc_3 blk_113) (by decide) rfl rfl (by first | decide | exact Nat.le_of_ble_eq_true rfl) (by decide) dX5_takeTurn_253 (fun r31 s32 q33 => ?_)
    obtain ⟨k0, k1⟩ := q33
    subst k0
    refine r_pop (pc := 256) h rfl dX5_takeTurn_256 ?_
    refine r_iconst (pc := 257) (v := nI 0) h (by decide) dX5_takeTurn_257 ?_
    exact hret _ _ (⟨by unfold turnV; rw [if_pos (by omega)], by rw [show turnA A r = _ from by unfold turnA turnK; rw [hm]]; exact k1⟩) 258 _ dX5_takeTurn_258
  · skip
    refine r_topi (b := nI 11) (congrArg nI hm) ?_
    refine r_tabOut (pc := 23) (tgt := 259) h (by decide) (by decide) dX5_takeTurn_23 ?_
    refine r_iconst (pc := 259) (v := nI 0) h (by decide) dX5_takeTurn_259 ?_
    refine r_aload_n (pc := 260) h 3 rfl rfl dX5_takeTurn_260 ?_
    refine g_5_trial (pc := 261) h mw_2_1 dX5_takeTurn_261 ?_
    refine r_bipush (pc := 264) (v := nI 110) h (by decide) dX5_takeTurn_264 ?_
    refine r_iload_n (pc := 266) h 2 rfl rfl dX5_takeTurn_266 ?_
    refine r_iconst (pc := 267) (v := nI 4) h (by decide) dX5_takeTurn_267 ?_
    refine r_irem (pc := 268) (v := nI ((r / 16) % 4)) h (by decide) (pk_rem (by omega) (by omega) (by omega)) dX5_takeTurn_268 ?_
    refine r_iconst (pc := 269) (v := nI 0) h (by decide) dX5_takeTurn_269 ?_
    refine r_iconst (pc := 270) (v := nI 0) h (by decide) dX5_takeTurn_270 ?_
    refine r_cVi (pc := 271) (As := [.int (nI 110), .int (nI ((r / 16) % 4)), .int (nI 0), .int (nI 0)]) (st := [.int (nI 0)]) h lk_RX5_208 (c_attempt x.2.1 G σ 113 blk_113 A hr 110 (by decide) (nI ((r / 16) % 4)) (nI 0) (nI 0)) (rc_3 blk_113) (by decide) rfl rfl (by first | decide | exact Nat.le_of_ble_eq_true rfl) (by decide) dX5_takeTurn_271 (fun r34 s35 q36 => ?_)
    obtain ⟨k0, k1⟩ := q36
    subst k0
    refine r_mmax (pc := 274) (v := turnV A r) h mw_28_17 (by decide) (by decide) ((turn_max hR4).trans (by unfold turnV; rw [if_neg (show ¬ r % 16 < 11 by omega)])) dX5_takeTurn_274 ?_
    exact hret _ _ (⟨rfl, by rw [show turnA A r = _ from by unfold turnA; rw [turnK_d (by omega)]]; exact k1⟩) 277 _ dX5_takeTurn_277
  · skip
    refine r_topi (b := nI 12) (congrArg nI hm) ?_
    refine r_tabOut (pc := 23) (tgt := 259) h (by decide) (by decide) dX5_takeTurn_23 ?_
    refine r_iconst (pc := 259) (v := nI 0) h (by decide) dX5_takeTurn_259 ?_
    refine r_aload_n (pc := 260) h 3 rfl rfl dX5_takeTurn_260 ?_
    refine g_5_trial (pc := 261) h mw_2_1 dX5_takeTurn_261 ?_
    refine r_bipush (pc := 264) (v := nI 110) h (by decide) dX5_takeTurn_264 ?_
    refine r_iload_n (pc := 266) h 2 rfl rfl dX5_takeTurn_266 ?_
    refine r_iconst (pc := 267) (v := nI 4) h (by decide) dX5_takeTurn_267 ?_
    refine r_irem (pc := 268) (v := nI ((r / 16) % 4)) h (by decide) (pk_rem (by omega) (by omega) (by omega)) dX5_takeTurn_268 ?_
    refine r_iconst (pc := 269) (v := nI 0) h (by decide) dX5_takeTurn_269 ?_
    refine r_iconst (pc := 270) (v := nI 0) h (by decide) dX5_takeTurn_270 ?_
    refine r_cVi (pc := 271) (As := [.int (nI 110), .int (nI ((r / 16) % 4)), .int (nI 0), .int (nI 0)]) (st := [.int (nI 0)]) h lk_RX5_208 (c_attempt x.2.1 G σ 113 blk_113 A hr 110 (by decide) (nI ((r / 16) % 4)) (nI 0) (nI 0)) (rc_3 blk_113) (by decide) rfl rfl (by first | decide | exact Nat.le_of_ble_eq_true rfl) (by decide) dX5_takeTurn_271 (fun r37 s38 q39 => ?_)
    obtain ⟨k0, k1⟩ := q39
    subst k0
    refine r_mmax (pc := 274) (v := turnV A r) h mw_28_17 (by decide) (by decide) ((turn_max hR4).trans (by unfold turnV; rw [if_neg (show ¬ r % 16 < 11 by omega)])) dX5_takeTurn_274 ?_
    exact hret _ _ (⟨rfl, by rw [show turnA A r = _ from by unfold turnA; rw [turnK_d (by omega)]]; exact k1⟩) 277 _ dX5_takeTurn_277
  · skip
    refine r_topi (b := nI 13) (congrArg nI hm) ?_
    refine r_tabOut (pc := 23) (tgt := 259) h (by decide) (by decide) dX5_takeTurn_23 ?_
    refine r_iconst (pc := 259) (v := nI 0) h (by decide) dX5_takeTurn_259 ?_
    refine r_aload_n (pc := 260) h 3 rfl rfl dX5_takeTurn_260 ?_
    refine g_5_trial (pc := 261) h mw_2_1 dX5_takeTurn_261 ?_
    refine r_bipush (pc := 264) (v := nI 110) h (by decide) dX5_takeTurn_264 ?_
    refine r_iload_n (pc := 266) h 2 rfl rfl dX5_takeTurn_266 ?_
    refine r_iconst (pc := 267) (v := nI 4) h (by decide) dX5_takeTurn_267 ?_
    refine r_irem (pc := 268) (v := nI ((r / 16) % 4)) h (by decide) (pk_rem (by omega) (by omega) (by omega)) dX5_takeTurn_268 ?_
    refine r_iconst (pc := 269) (v := nI 0) h (by decide) dX5_takeTurn_269 ?_
    refine r_iconst (pc := 270) (v := nI 0) h (by decide) dX5_takeTurn_270 ?_
    refine r_cVi (pc := 271) (As := [.int (nI 110), .int (nI ((r / 16) % 4)), .int (nI 0), .int (nI 0)]) (st := [.int (nI 0)]) h lk_RX5_208 (c_attempt x.2.1 G σ 113 blk_113 A hr 110 (by decide) (nI ((r / 16) % 4)) (nI 0) (nI 0)) (rc_3 blk_113) (by decide) rfl rfl (by first | decide | exact Nat.le_of_ble_eq_true rfl) (by decide) dX5_takeTurn_271 (fun r40 s41 q42 => ?_)
    obtain ⟨k0, k1⟩ := q42
    subst k0
    refine r_mmax (pc := 274) (v := turnV A r) h mw_28_17 (by decide) (by decide) ((turn_max hR4).trans (by unfold turnV; rw [if_neg (show ¬ r % 16 < 11 by omega)])) dX5_takeTurn_274 ?_
    exact hret _ _ (⟨rfl, by rw [show turnA A r = _ from by unfold turnA; rw [turnK_d (by omega)]]; exact k1⟩) 277 _ dX5_takeTurn_277
  · skip
    refine r_topi (b := nI 14) (congrArg nI hm) ?_
    refine r_tabOut (pc := 23) (tgt := 259) h (by decide) (by decide) dX5_takeTurn_23 ?_
    refine r_iconst (pc := 259) (v := nI 0) h (by decide) dX5_takeTurn_259 ?_
    refine r_aload_n (pc := 260) h 3 rfl rfl dX5_takeTurn_260 ?_
    refine g_5_trial (pc := 261) h mw_2_1 dX5_takeTurn_261 ?_
    refine r_bipush (pc := 264) (v := nI 110) h (by decide) dX5_takeTurn_264 ?_
    refine r_iload_n (pc := 266) h 2 rfl rfl dX5_takeTurn_266 ?_
    refine r_iconst (pc := 267) (v := nI 4) h (by decide) dX5_takeTurn_267 ?_
    refine r_irem (pc := 268) (v := nI ((r / 16) % 4)) h (by decide) (pk_rem (by omega) (by omega) (by omega)) dX5_takeTurn_268 ?_
    refine r_iconst (pc := 269) (v := nI 0) h (by decide) dX5_takeTurn_269 ?_
    refine r_iconst (pc := 270) (v := nI 0) h (by decide) dX5_takeTurn_270 ?_
    refine r_cVi (pc := 271) (As := [.int (nI 110), .int (nI ((r / 16) % 4)), .int (nI 0), .int (nI 0)]) (st := [.int (nI 0)]) h lk_RX5_208 (c_attempt x.2.1 G σ 113 blk_113 A hr 110 (by decide) (nI ((r / 16) % 4)) (nI 0) (nI 0)) (rc_3 blk_113) (by decide) rfl rfl (by first | decide | exact Nat.le_of_ble_eq_true rfl) (by decide) dX5_takeTurn_271 (fun r43 s44 q45 => ?_)
    obtain ⟨k0, k1⟩ := q45
    subst k0
    refine r_mmax (pc := 274) (v := turnV A r) h mw_28_17 (by decide) (by decide) ((turn_max hR4).trans (by unfold turnV; rw [if_neg (show ¬ r % 16 < 11 by omega)])) dX5_takeTurn_274 ?_
    exact hret _ _ (⟨rfl, by rw [show turnA A r = _ from by unfold turnA; rw [turnK_d (by omega)]]; exact k1⟩) 277 _ dX5_takeTurn_277
  · skip
    refine r_topi (b := nI 15) (congrArg nI hm) ?_
    refine r_tabOut (pc := 23) (tgt := 259) h (by decide) (by decide) dX5_takeTurn_23 ?_
    refine r_iconst (pc := 259) (v := nI 0) h (by decide) dX5_takeTurn_259 ?_
    refine r_aload_n (pc := 260) h 3 rfl rfl dX5_takeTurn_260 ?_
    refine g_5_trial (pc := 261) h mw_2_1 dX5_takeTurn_261 ?_
    refine r_bipush (pc := 264) (v := nI 110) h (by decide) dX5_takeTurn_264 ?_
    refine r_iload_n (pc := 266) h 2 rfl rfl dX5_takeTurn_266 ?_
    refine r_iconst (pc := 267) (v := nI 4) h (by decide) dX5_takeTurn_267 ?_
    refine r_irem (pc := 268) (v := nI ((r / 16) % 4)) h (by decide) (pk_rem (by omega) (by omega) (by omega)) dX5_takeTurn_268 ?_
    refine r_iconst (pc := 269) (v := nI 0) h (by decide) dX5_takeTurn_269 ?_
    refine r_iconst (pc := 270) (v := nI 0) h (by decide) dX5_takeTurn_270 ?_
    refine r_cVi (pc := 271) (As := [.int (nI 110), .int (nI ((r / 16) % 4)), .int (nI 0), .int (nI 0)]) (st := [.int (nI 0)]) h lk_RX5_208 (c_attempt x.2.1 G σ 113 blk_113 A hr 110 (by decide) (nI ((r / 16) % 4)) (nI 0) (nI 0)) (rc_3 blk_113) (by decide) rfl rfl (by first | decide | exact Nat.le_of_ble_eq_true rfl) (by decide) dX5_takeTurn_271 (fun r46 s47 q48 => ?_)
    obtain ⟨k0, k1⟩ := q48
    subst k0
    refine r_mmax (pc := 274) (v := turnV A r) h mw_28_17 (by decide) (by decide) ((turn_max hR4).trans (by unfold turnV; rw [if_neg (show ¬ r % 16 < 11 by omega)])) dX5_takeTurn_274 ?_
    exact hret _ _ (⟨rfl, by rw [show turnA A r = _ from by unfold turnA; rw [turnK_d (by omega)]]; exact k1⟩) 277 _ dX5_takeTurn_277

set_option maxRecDepth 100000 in
set_option maxHeartbeats 800000 in
theorem c_x_simulate (l : Launch) (hst : l.stackTraces = false) (G : Gl) (σ : Sg) (n : Nat) (tx : Nat → Nat) (A : Ab) (m : Nat) (H : Nat → Ab) (sv : Nat → Bool) (sl : Nat → Ab) (hi : InvC n tx A m H sv sl σ) (u1 : Int64) (u2 : Int32) : Xi l yX5_simulate cX5_simulate 8 .int ({ frames := 7, cells := 1, slots := 6, locals := 167 } : Room) G [.ref (G.2.1 + 0), .long u1, .int u2] σ (fun r σ2 => cB (inB (nI 1) (nI 60) u2) 2 = 0 ∧ r = simV A u1 (toN u2) ∧ InvC n tx A m H sv sl σ2 ∧ Out 1 134 σ σ2) (fun E σ2 => σ2 = σ ∧ cB (inB (nI 1) (nI 60) u2) 2 ≠ 0 ∧ E = exN (cB (inB (nI 1) (nI 60) u2) 2)) := by
  refine Xi_of hst rfl (by decide +kernel) (lo := [(0, .ref (G.2.1 + 0)), (1, .long u1), (3, .int u2)]) rfl (Nat.le_of_ble_eq_true rfl) (fun r s hp => by obtain ⟨_, rfl, _⟩ := hp; rfl) ?_
  intro x Q hxl h hX hret thI thS thO hout
  subst hxl
  have hr := hi.2.1
  have hN12 := hr.1.1
  have hR4 := hr.2.1.1
  have hn9 := hi.1.1.1
  have hm14 := hi.2.2.1.1.1
  refine r_iload_n (pc := 0) h 2 rfl rfl dX5_simulate_0 ?_
  refine r_iconst (pc := 1) (v := nI 1) h (by decide) dX5_simulate_1 ?_
  refine r_bipush (pc := 2) (v := nI 60) h (by decide) dX5_simulate_2 ?_
  refine r_xSv (pc := 4) (As := [.int u2, .int (nI 1), .int (nI 60)]) (st := []) h hX lk_RX5_41 (c_checkRange x.2.1 hst G σ u2 (nI 1) (nI 60)) (by decide) rfl rfl (by first | decide | exact Nat.le_of_ble_eq_true rfl) (by decide) dX5_simulate_4 (fun E s9 hp => hout E s9 (⟨hp.1, hp.2⟩) 4 _ _ _ _ ⟨by decide, by decide⟩) (fun s2 q3 => ?_)
  obtain ⟨z4, e4⟩ := q3
  rw [e4]
  obtain ⟨t, rfl, lt, ht⟩ := inB_nI (by omega) (by omega) z4
  refine r_aload_n (pc := 7) h 0 rfl rfl dX5_simulate_7 ?_
  refine g_5_trial (pc := 8) h mw_2_1 dX5_simulate_8 ?_
  refine r_aload_n (pc := 11) h 0 rfl rfl dX5_simulate_11 ?_
  refine g_5_state (pc := 12) h mw_1_17 dX5_simulate_12 ?_
  refine r_cVv (pc := 15) (As := [.ref (G.2.1 + 4)]) (st := []) h lk_RX5_165 (c_copyS x.2.1 G σ 113 blk_113 4 blk_4 (by omega) A hr) (rc_3 blk_113) (by decide) rfl rfl (by first | decide | exact Nat.le_of_ble_eq_true rfl) (by decide) dX5_simulate_15 (fun s5 q6 => ?_)
  have k0 := q6
  refine r_lload_n (pc := 18) h 1 rfl rfl dX5_simulate_18 ?_
  refine r_lstore (pc := 19) (lo2 := [(4, .long u1), (0, .ref (G.2.1 + 0)), (1, .long u1), (3, .int (nI t))]) h (by decide) rfl dX5_simulate_19 ?_
  refine r_iconst (pc := 21) (v := nI 0) h (by decide) dX5_simulate_21 ?_
  refine r_istore (pc := 22) (lo2 := [(6, .int (nI 0)), (4, .long u1), (0, .ref (G.2.1 + 0)), (1, .long u1), (3, .int (nI t))]) h (by decide) rfl dX5_simulate_22 ?_
  refine r_iconst (pc := 24) (v := nI 0) h (by decide) dX5_simulate_24 ?_
  refine r_istore (pc := 25) (lo2 := [(7, .int (nI 0)), (6, .int (nI 0)), (4, .long u1), (0, .ref (G.2.1 + 0)), (1, .long u1), (3, .int (nI t))]) h (by decide) rfl dX5_simulate_25 ?_
  have lp27 : ∀ (fu : Nat) (i : Nat) (y : Int64) (s : Int32) (A1 : Ab) (τ : Sg), i ≤ t → simI (u1, A, nI 0) i = (y, A1, s) → RelB A1 τ 113 → Out 113 120 σ τ → t - i < fu → V x G 8 1 6 Q τ 27 [(0, .ref (G.2.1 + 0)), (3, .int (nI t)), (4, .long y), (6, .int s), (7, .int (nI i))] [] := by
    intro fu
    induction fu with
    | zero => intro i y s A1 τ hi9 hsim hr1 ho hfu; exact absurd hfu (Nat.not_lt_zero _)
    | succ fu ih27 =>
      intro i y s A1 τ hi9 hsim hr1 ho hfu
      refine r_iload (pc := 27) h 4 rfl dX5_simulate_27 ?_
      refine r_iload_n (pc := 29) h 1 rfl rfl dX5_simulate_29 ?_
      refine r_icmp_ge (pc := 30) (tgt := 66) h (by decide) dX5_simulate_30 (fun c30 => ?_) (fun c30 => ?_)
      · skip
        rw [nI_leI (by omega) (by omega)] at c30
        refine r_sipush (pc := 66) (v := nI 10000) h (by decide) dX5_simulate_66 ?_
        refine r_aload_n (pc := 69) h 0 rfl rfl dX5_simulate_69 ?_
        refine g_5_trial (pc := 70) h mw_2_1 dX5_simulate_70 ?_
        refine g_3_lists (pc := 73) blk_113 h mw_19_15 dX5_simulate_73 ?_
        refine g_1_count (pc := 76) blk_113 h mw_26_18 dX5_simulate_76 ?_
        refine r_topi (b := nI A1.1) hr1.1.2 ?_
        refine r_imul (pc := 79) (v := nI (10000 * A1.1)) h (pk_mul _ _) dX5_simulate_79 ?_
        refine r_iload (pc := 80) h 3 rfl dX5_simulate_80 ?_
        refine r_sipush (pc := 82) (v := nI 10000) h (by decide) dX5_simulate_82 ?_
        refine r_irem (pc := 85) (v := s - s / (nI 10000) * (nI 10000)) h (by decide) rfl dX5_simulate_85 ?_
        refine r_iadd (pc := 86) (v := (nI (10000 * A1.1)) + (s - s / (nI 10000) * (nI 10000))) h rfl dX5_simulate_86 ?_
        have ei : i = t := by omega
        subst ei
        exact V.wd (by decide) (by decide) (hret _ _ (⟨cB_t z4, by rw [toN_nI (show i < 2 ^ 31 by omega), simV_e hsim], hi.o ho (by omega), ho.wd (by omega) (by omega)⟩) 87 _ dX5_simulate_87)
      · skip
        rw [nI_leI (by omega) (by omega)] at c30
        refine r_lload (pc := 33) h 2 rfl dX5_simulate_33 ?_
        refine r_ldc2 (pc := 35) (v := 6364136223846793005) h mw_28_11 dX5_simulate_35 ?_
        refine r_lmul (pc := 38) (v := y * 6364136223846793005) h rfl dX5_simulate_38 ?_
        refine r_ldc2 (pc := 39) (v := 1442695040888963407) h mw_28_12 dX5_simulate_39 ?_
        refine r_ladd (pc := 42) (v := nxX y) h rfl dX5_simulate_42 ?_
        refine r_lstore (pc := 43) (lo2 := [(4, .long (nxX y)), (0, .ref (G.2.1 + 0)), (3, .int (nI t)), (6, .int s), (7, .int (nI i))]) h (by decide) rfl dX5_simulate_43 ?_
        refine r_iload (pc := 45) h 3 rfl dX5_simulate_45 ?_
        refine r_aload_n (pc := 47) h 1 rfl rfl dX5_simulate_47 ?_
        refine r_lload (pc := 48) h 0 rfl dX5_simulate_48 ?_
        refine r_bipush (pc := 50) (v := nI 33) h (by decide) dX5_simulate_50 ?_
        refine r_lushr (pc := 52) (v := ((nxX y).toUInt64 >>> ((nI 33).toInt64.toUInt64 &&& Int64.toUInt64 63)).toInt64) h rfl dX5_simulate_52 ?_
        refine r_l2i (pc := 53) (v := nI (rN (nxX y))) h (rN_at (nxX y)) dX5_simulate_53 ?_
        refine r_cVi (pc := 54) (As := [.int (nI (rN (nxX y)))]) (st := [.int s]) h lk_RX5_172 (c_takeTurn x.2.1 G τ A1 hr1 (rN (nxX y)) (rN_lt _)) rc_5 (by decide) rfl rfl (by first | decide | exact Nat.le_of_ble_eq_true rfl) (by decide) dX5_simulate_54 (fun r7 s8 q9 => ?_)
        obtain ⟨k1, k2⟩ := q9
        subst k1
        refine r_iadd (pc := 57) (v := s + (turnV A1 (rN (nxX y)))) h rfl dX5_simulate_57 ?_
        refine r_istore (pc := 58) (lo2 := [(6, .int (s + (turnV A1 (rN (nxX y))))), (4, .long (nxX y)), (0, .ref (G.2.1 + 0)), (3, .int (nI t)), (7, .int (nI i))]) h (by decide) rfl dX5_simulate_58 ?_
        refine r_iinc (pc := 60) (v := nI (i + 1)) (lo2 := [(7, .int (nI (i + 1))), (6, .int (s + (turnV A1 (rN (nxX y))))), (4, .long (nxX y)), (0, .ref (G.2.1 + 0)), (3, .int (nI t))]) h 4 rfl (iinc1 _) (by decide) rfl dX5_simulate_60 ?_
        refine r_goto (pc := 63) (tgt := 27) h (by decide) dX5_simulate_63 ?_
        refine r_sub (lo2 := [(0, .ref (G.2.1 + 0)), (3, .int (nI t)), (4, .long (nxX y)), (6, .int (s + (turnV A1 (rN (nxX y))))), (7, .int (nI (i + 1)))]) [3, 4, 2, 1, 0] rfl ?_
        exact ih27 (i + 1) (nxX y) _ (turnA A1 (rN (nxX y))) s8 (by omega) (simI_s hsim) k2.rel (ho.tr k2.out) (by omega)
  refine r_sub (lo2 := [(0, .ref (G.2.1 + 0)), (3, .int (nI t)), (4, .long u1), (6, .int (nI 0)), (7, .int (nI 0))]) [3, 5, 2, 1, 0] rfl ?_
  exact lp27 _ 0 u1 (nI 0) A s5 (by omega) rfl k0.rel k0.out (Nat.lt_succ_self _)

