/-! LISTS: the other readings -/
theorem mt_none {S : Nat → Bool} {q i : Nat} (hi : cS S 1000 = i) (hp : i ≤ q) : ath S q = none := ath_none (by omega)
theorem wordpop {w : Nat → Int64} {L i : Nat} : popc (w (L * 16 + i)) = cS (fun j => bW w L (i * 64 + j)) 64 := cS_cong (fun j hj => (bW_at hj).symm)
theorem cu_step {w : Nat → Int64} {L i : Nat} : cS (bW w L) (i * 64) + popc (w (L * 16 + i)) = cS (bW w L) ((i + 1) * 64) := by
  rw [wordpop, Nat.add_mul, Nat.one_mul, cS_add]
theorem ushr_bit {k j : Nat} (hk : k < 64) (hj : j < 64) : (((-1 : Int64)).toUInt64 >>> ((nI k).toInt64.toUInt64 &&& Int64.toUInt64 63)).toInt64.toBitVec.getLsbD j = decide (j + k < 64) := by
  have e : (-1 : Int64) = lN 18446744073709551615 := by decide +kernel
  rw [e, wb_shr (by decide) hk]
  show (lN _).toBitVec.toNat.testBit j = _
  have h2 : 18446744073709551615 / 2 ^ k < 2 ^ 64 := Nat.lt_of_le_of_lt (Nat.div_le_self _ _) (by decide)
  rw [wb_tn h2, Nat.testBit_div_two_pow, show (18446744073709551615 : Nat) = 2 ^ 64 - 1 from rfl, Nat.testBit_two_pow_sub_one]
theorem cu_last {w : Nat → Int64} {L n : Nat} : cS (bW w L) (n / 64 * 64) + popc ((w (L * 16 + n / 64)) &&& (((-1 : Int64)).toUInt64 >>> ((nI (63 - n % 64)).toInt64.toUInt64 &&& Int64.toUInt64 63)).toInt64) = cS (bW w L) (n + 1) := by
  have hm : n % 64 < 64 := Nat.mod_lt _ (by decide)
  have e : n + 1 = n / 64 * 64 + (n % 64 + 1) := by omega
  conv => rhs; rw [e, cS_add]
  congr 1
  unfold popc
  refine (congrArg (cS _) (show 64 = (n % 64 + 1) + (63 - n % 64) by omega)).trans ?_
  rw [cS_add, cS_none (n := 63 - n % 64)]
  · rw [Nat.add_zero]
    apply cS_cong
    intro j hj
    rw [and_bit, ← bW_at (by omega), ushr_bit (by omega) (by omega), decide_eq_true (by omega), Bool.and_true]
  · intro j hj
    rw [and_bit, ushr_bit (by omega) (by omega), decide_eq_false (by omega), Bool.and_false]
theorem sh_hit {w : Nat → Int64} {L K i : Nat} (hi : i < 16) (hno : ∀ v, v < i * 64 → (bW w L v && bW w K v) = false) (hc : Clr w L) (h : ¬ lg_cmp ((w (L * 16 + i)) &&& (w (K * 16 + i))) 0 = 0) :
    nI (i * 64 + popc ((((w (L * 16 + i)) &&& (w (K * 16 + i))) &&& -((w (L * 16 + i)) &&& (w (K * 16 + i)))) - 1)) = oI (nxt (fun v => bW w L v && bW w K v) 0) := by
  rw [lgc0] at h
  obtain ⟨t, ht, h1, h2, h3⟩ := low_pop h
  rw [h3]
  rw [and_bit, ← bW_at ht, ← bW_at ht] at h1
  have hlt : i * 64 + t < 1000 := by
    rcases Nat.lt_or_ge (i * 64 + t) 1000 with q | q
    · exact q
    · rw [hc _ q (by omega)] at h1; simp at h1
  rw [nxt_some (Nat.zero_le _) hlt h1 (fun u _ hv => ?_)]
  · rfl
  · rcases Nat.lt_or_ge u (i * 64) with q | q
    · exact hno u q
    · obtain ⟨j, rfl⟩ := Nat.le.dest q
      have hj : j < 64 := by omega
      have h4 := h2 j (by omega)
      rw [and_bit, ← bW_at hj, ← bW_at hj] at h4
      exact h4
theorem sh_miss {w : Nat → Int64} {L K i : Nat} (hno : ∀ v, v < i * 64 → (bW w L v && bW w K v) = false) (h : lg_cmp ((w (L * 16 + i)) &&& (w (K * 16 + i))) 0 = 0) : ∀ v, v < (i + 1) * 64 → (bW w L v && bW w K v) = false := by
  rw [lgc0, L_zero] at h
  intro v h2
  rcases Nat.lt_or_ge v (i * 64) with q | q
  · exact hno v q
  · obtain ⟨j, rfl⟩ := Nat.le.dest q
    have hj : j < 64 := by omega
    have h4 := h j hj
    rw [and_bit, ← bW_at hj, ← bW_at hj] at h4
    exact h4
theorem ei_step {w : Nat → Int64} {L K i : Nat} : cS (fun v => bW w L v || bW w K v) (i * 64) + popc ((w (L * 16 + i)) ||| (w (K * 16 + i))) = cS (fun v => bW w L v || bW w K v) ((i + 1) * 64) := by
  rw [Nat.add_mul, Nat.one_mul, cS_add]
  congr 1
  exact cS_cong (fun j hj => by rw [or_bit, ← bW_at hj, ← bW_at hj])
theorem ei_end {w : Nat → Int64} {L K : Nat} (h1 : Clr w L) (h2 : Clr w K) : cS (fun v => bW w L v || bW w K v) 1024 = cS (fun v => bW w L v || bW w K v) 1000 := by
  rw [show 1024 = 1000 + 24 from rfl, cS_add, cS_none (n := 24) (fun k hk => by rw [h1 _ (by omega) (by omega), h2 _ (by omega) (by omega)]; rfl)]
  exact Nat.add_zero _
theorem gp_step {S : Nat → Bool} {v f : Nat} (hv : S v = true) (hf : nxt S (v + 1) = some f) : (gp S (f + 1)).2 = max (gp S (v + 1)).2 (f - v) ∧ f < 1000 ∧ v < f := by
  obtain ⟨h1, h2, h3, h4⟩ := nxt_spec hf
  have e : gp S f = gp S (v + 1) := gp_skip2 h1 h4
  have e1 : (gp S (v + 1)).1 = some v := by rw [gp, if_pos hv]
  refine ⟨?_, h2, h1⟩
  rw [gp, if_pos h3, e]
  dsimp only
  rw [e1]
theorem gp_end {S : Nat → Bool} {m : Nat} (hm : m ≤ 1000) (h : nxt S m = none) : gp S 1000 = gp S m := gp_skip2 hm (nxt_specN h)
theorem gp_first {S : Nat → Bool} {v : Nat} (h : nxt S 0 = some v) : (gp S (v + 1)).2 = 0 := by
  obtain ⟨h1, h2, h3, h4⟩ := nxt_spec h
  have e : gp S v = gp S 0 := gp_skip2 (Nat.zero_le _) h4
  rw [gp, if_pos h3, e]
  rfl
theorem gap0 (S : Nat → Bool) : (∃ v, nxt S 0 = some v ∧ v < 1000 ∧ 0 ≤ v ∧ S v = true ∧ (gp S (v + 1)).2 = 0) ∨ (nxt S 0 = none ∧ (gp S 1000).2 = 0) := by
  cases h : nxt S 0 with
  | none => exact Or.inr ⟨rfl, by rw [gp_end (Nat.zero_le _) h]; rfl⟩
  | some v => exact Or.inl ⟨v, rfl, (nxt_spec h).2.1, Nat.zero_le _, (nxt_spec h).2.2.1, gp_first h⟩
set_option maxRecDepth 100000 in
set_option maxHeartbeats 800000 in
theorem c_memberTestedAt (l : Launch) (G : Gl) (σ : Sg) (b : Nat) (hb : Blk b) (L q : Nat) (hL : L < 12) (hq : q < 2 ^ 31) : Ci l yX1_memberTestedAt cX1_memberTestedAt 5 .int ({ frames := 2, cells := 0, slots := 0, locals := 44 } : Room) G [.ref (G.2.1 + (b + 1)), .int (nI L), .int (nI q)] σ (fun r σ2 => r = oI (ath (bW (σ.2 (b + 2)) L) q) ∧ σ2 = σ) := by
  refine Ci_of (own := RX1) rfl (by decide +kernel) (lo := [(0, .ref (G.2.1 + (b + 1))), (1, .int (nI L)), (2, .int (nI q))]) rfl (Nat.le_of_ble_eq_true rfl) (fun r s hp => by obtain ⟨rfl, rfl⟩ := hp; rfl) ?_
  intro x Q hxl h hret
  subst hxl
  refine r_iconst (pc := 0) (v := nI 0) h (by decide) dX1_memberTestedAt_0 ?_
  refine r_istore_n (pc := 1) (lo2 := [(3, .int (nI 0)), (0, .ref (G.2.1 + (b + 1))), (1, .int (nI L)), (2, .int (nI q))]) h rfl (by decide) rfl dX1_memberTestedAt_1 ?_
  refine r_iconst (pc := 2) (v := nI 0) h (by decide) dX1_memberTestedAt_2 ?_
  refine r_istore (pc := 3) (lo2 := [(4, .int (nI 0)), (3, .int (nI 0)), (0, .ref (G.2.1 + (b + 1))), (1, .int (nI L)), (2, .int (nI q))]) h (by decide) rfl dX1_memberTestedAt_3 ?_
  have lp5 : ∀ (fu : Nat) (i : Nat) (m : Nat), i ≤ 1000 → cS (bW (σ.2 (b + 2)) L) i = m → m ≤ q → 1000 - i < fu → V x G 5 0 0 Q σ 5 [(0, .ref (G.2.1 + (b + 1))), (1, .int (nI L)), (2, .int (nI q)), (3, .int (nI m)), (4, .int (nI i))] [] := by
    intro fu
    induction fu with
    | zero => intro i m hi hs hp hfu; exact absurd hfu (Nat.not_lt_zero _)
    | succ fu ih5 =>
      intro i m hi hs hp hfu
      refine r_iload (pc := 5) h 4 rfl dX1_memberTestedAt_5 ?_
      refine r_sipush (pc := 7) (v := nI 999) h (by decide) dX1_memberTestedAt_7 ?_
      refine r_icmp_gt (pc := 10) (tgt := 40) h (by decide) dX1_memberTestedAt_10 (fun c10 => ?_) (fun c10 => ?_)
      · skip
        rw [nI_ltI (by omega) (by omega)] at c10
        have hm := cS_le (bW (σ.2 (b + 2)) L) i
        refine r_iconst (pc := 40) (v := (-1)) h (by decide) dX1_memberTestedAt_40 ?_
        have e : i = 1000 := by omega
        subst e
        exact hret _ _ (⟨by rw [mt_none hs hp]; rfl, rfl⟩) 41 _ dX1_memberTestedAt_41
      · skip
        rw [nI_ltI (by omega) (by omega)] at c10
        have hm := cS_le (bW (σ.2 (b + 2)) L) i
        refine r_aload_n (pc := 13) h 0 rfl rfl dX1_memberTestedAt_13 ?_
        refine r_iload_n (pc := 14) h 1 rfl rfl dX1_memberTestedAt_14 ?_
        refine r_iload (pc := 15) h 4 rfl dX1_memberTestedAt_15 ?_
        refine r_cVi (pc := 17) (As := [.int (nI L), .int (nI i)]) (st := []) h lk_RX1_42 (c_has x.2.1 G σ b hb L i (by omega) (by omega)) (rc_1 hb) (by decide) rfl rfl (by first | decide | exact Nat.le_of_ble_eq_true rfl) (by decide) dX1_memberTestedAt_17 (fun r1 s2 q3 => ?_)
        rw [q3.1, q3.2]
        refine r_if_eq (pc := 20) (tgt := 34) h (by decide) dX1_memberTestedAt_20 (fun c20 => ?_) (fun c20 => ?_)
        · skip
          replace c20 := zB_0.mp c20
          refine r_iinc (pc := 34) (v := nI (i + 1)) (lo2 := [(4, .int (nI (i + 1))), (0, .ref (G.2.1 + (b + 1))), (1, .int (nI L)), (2, .int (nI q)), (3, .int (nI m))]) h 4 rfl (iinc1 _) (by decide) rfl dX1_memberTestedAt_34 ?_
          refine r_goto (pc := 37) (tgt := 5) h (by decide) dX1_memberTestedAt_37 ?_
          refine r_sub (lo2 := [(0, .ref (G.2.1 + (b + 1))), (1, .int (nI L)), (2, .int (nI q)), (3, .int (nI m)), (4, .int (nI (i + 1)))]) [1, 2, 3, 4, 0] rfl ?_
          exact ih5 (i + 1) m (by omega) (by rw [cS, c20, hs]; rfl) hp (by omega)
        · skip
          replace c20 := zB_n0.mp c20
          refine r_iload_n (pc := 23) h 3 rfl rfl dX1_memberTestedAt_23 ?_
          refine r_iload_n (pc := 24) h 2 rfl rfl dX1_memberTestedAt_24 ?_
          refine r_icmp_ne (pc := 25) (tgt := 31) h (by decide) dX1_memberTestedAt_25 (fun c25 => ?_) (fun c25 => ?_)
          · skip
            rw [nI_eq (by omega) (by omega)] at c25
            refine r_iinc (pc := 31) (v := nI (m + 1)) (lo2 := [(3, .int (nI (m + 1))), (0, .ref (G.2.1 + (b + 1))), (1, .int (nI L)), (2, .int (nI q)), (4, .int (nI i))]) h 3 rfl (iinc1 _) (by decide) rfl dX1_memberTestedAt_31 ?_
            refine r_iinc (pc := 34) (v := nI (i + 1)) (lo2 := [(4, .int (nI (i + 1))), (3, .int (nI (m + 1))), (0, .ref (G.2.1 + (b + 1))), (1, .int (nI L)), (2, .int (nI q))]) h 4 rfl (iinc1 _) (by decide) rfl dX1_memberTestedAt_34 ?_
            refine r_goto (pc := 37) (tgt := 5) h (by decide) dX1_memberTestedAt_37 ?_
            refine r_sub (lo2 := [(0, .ref (G.2.1 + (b + 1))), (1, .int (nI L)), (2, .int (nI q)), (3, .int (nI (m + 1))), (4, .int (nI (i + 1)))]) [2, 3, 4, 1, 0] rfl ?_
            exact ih5 (i + 1) (m + 1) (by omega) (by rw [cS, c20, hs]; rfl) (by omega) (by omega)
          · skip
            rw [nI_eq (by omega) (by omega)] at c25
            refine r_iload (pc := 28) h 4 rfl dX1_memberTestedAt_28 ?_
            exact hret _ _ (⟨by subst c25; rw [ath_some (by omega) c20 hs]; rfl, rfl⟩) 30 _ dX1_memberTestedAt_30
  refine r_sub (lo2 := [(0, .ref (G.2.1 + (b + 1))), (1, .int (nI L)), (2, .int (nI q)), (3, .int (nI 0)), (4, .int (nI 0))]) [2, 3, 4, 1, 0] rfl ?_
  exact lp5 _ 0 0 (by omega) rfl (by omega) (Nat.lt_succ_self _)

set_option maxRecDepth 100000 in
set_option maxHeartbeats 800000 in
theorem c_countUpTo (l : Launch) (G : Gl) (σ : Sg) (b : Nat) (hb : Blk b) (L n : Nat) (hL : L < 12) (hn : n < 1000) : Ci l yX1_countUpTo cX1_countUpTo 7 .int ({ frames := 1, cells := 0, slots := 0, locals := 26 } : Room) G [.ref (G.2.1 + (b + 1)), .int (nI L), .int (nI n)] σ (fun r σ2 => r = nI (cS (bW (σ.2 (b + 2)) L) (n + 1)) ∧ σ2 = σ) := by
  refine Ci_of (own := RX1) rfl (by decide +kernel) (lo := [(0, .ref (G.2.1 + (b + 1))), (1, .int (nI L)), (2, .int (nI n))]) rfl (Nat.le_of_ble_eq_true rfl) (fun r s hp => by obtain ⟨rfl, rfl⟩ := hp; rfl) ?_
  intro x Q hxl h hret
  subst hxl
  refine r_iconst (pc := 0) (v := nI 0) h (by decide) dX1_countUpTo_0 ?_
  refine r_iload_n (pc := 1) h 2 rfl rfl dX1_countUpTo_1 ?_
  refine r_sipush (pc := 2) (v := nI 999) h (by decide) dX1_countUpTo_2 ?_
  refine r_mmin (pc := 5) (v := nI n) h mw_21_7 (by decide) (by decide) (mm_min hn) dX1_countUpTo_5 ?_
  refine r_mmax (pc := 8) (v := nI n) h mw_21_11 (by decide) (by decide) (mm_max hn) dX1_countUpTo_8 ?_
  refine r_istore_n (pc := 11) (lo2 := [(3, .int (nI n)), (0, .ref (G.2.1 + (b + 1))), (1, .int (nI L)), (2, .int (nI n))]) h rfl (by decide) rfl dX1_countUpTo_11 ?_
  refine r_iconst (pc := 12) (v := nI 0) h (by decide) dX1_countUpTo_12 ?_
  refine r_istore (pc := 13) (lo2 := [(4, .int (nI 0)), (3, .int (nI n)), (0, .ref (G.2.1 + (b + 1))), (1, .int (nI L)), (2, .int (nI n))]) h (by decide) rfl dX1_countUpTo_13 ?_
  refine r_iconst (pc := 15) (v := nI 0) h (by decide) dX1_countUpTo_15 ?_
  refine r_istore (pc := 16) (lo2 := [(5, .int (nI 0)), (4, .int (nI 0)), (3, .int (nI n)), (0, .ref (G.2.1 + (b + 1))), (1, .int (nI L)), (2, .int (nI n))]) h (by decide) rfl dX1_countUpTo_16 ?_
  have lp18 : ∀ (fu : Nat) (i : Nat), i ≤ n / 64 → n / 64 - i < fu → V x G 7 0 0 Q σ 18 [(0, .ref (G.2.1 + (b + 1))), (1, .int (nI L)), (3, .int (nI n)), (4, .int (nI (cS (bW (σ.2 (b + 2)) L) (i * 64)))), (5, .int (nI i))] [] := by
    intro fu
    induction fu with
    | zero => intro i hi hfu; exact absurd hfu (Nat.not_lt_zero _)
    | succ fu ih18 =>
      intro i hi hfu
      refine r_iload (pc := 18) h 4 rfl dX1_countUpTo_18 ?_
      refine r_iload_n (pc := 20) h 2 rfl rfl dX1_countUpTo_20 ?_
      refine r_bipush (pc := 21) (v := nI 64) h (by decide) dX1_countUpTo_21 ?_
      refine r_idiv (pc := 23) (v := nI (n / 64)) h (by decide) (pk_div (by omega) (by omega) (by omega)) dX1_countUpTo_23 ?_
      refine r_icmp_ge (pc := 24) (tgt := 53) h (by decide) dX1_countUpTo_24 (fun c24 => ?_) (fun c24 => ?_)
      · skip
        rw [nI_leI (by omega) (by omega)] at c24
        have ei : i = n / 64 := by omega
        subst ei
        refine r_ldc2 (pc := 53) (v := (-1 : Int64)) h mw_9_15 dX1_countUpTo_53 ?_
        refine r_bipush (pc := 56) (v := nI 63) h (by decide) dX1_countUpTo_56 ?_
        refine r_iload_n (pc := 58) h 2 rfl rfl dX1_countUpTo_58 ?_
        refine r_bipush (pc := 59) (v := nI 64) h (by decide) dX1_countUpTo_59 ?_
        refine r_irem (pc := 61) (v := nI (n % 64)) h (by decide) (pk_rem (by omega) (by omega) (by omega)) dX1_countUpTo_61 ?_
        refine r_isub (pc := 62) (v := nI (63 - n % 64)) h (pk_sub (by omega)) dX1_countUpTo_62 ?_
        refine r_lushr (pc := 63) (v := ((-1 : Int64).toUInt64 >>> ((nI (63 - n % 64)).toInt64.toUInt64 &&& Int64.toUInt64 63)).toInt64) h rfl dX1_countUpTo_63 ?_
        refine r_lstore (pc := 64) (lo2 := [(5, .long (((-1 : Int64).toUInt64 >>> ((nI (63 - n % 64)).toInt64.toUInt64 &&& Int64.toUInt64 63)).toInt64)), (0, .ref (G.2.1 + (b + 1))), (1, .int (nI L)), (3, .int (nI n)), (4, .int (nI (cS (bW (σ.2 (b + 2)) L) (n / 64 * 64))))]) h (by decide) rfl dX1_countUpTo_64 ?_
        refine r_iload (pc := 66) h 4 rfl dX1_countUpTo_66 ?_
        refine r_aload_n (pc := 68) h 1 rfl rfl dX1_countUpTo_68 ?_
        refine g_1_words (pc := 69) hb h mw_3_0 dX1_countUpTo_69 ?_
        refine r_iload_n (pc := 72) h 2 rfl rfl dX1_countUpTo_72 ?_
        refine r_iload_n (pc := 73) h 3 rfl rfl dX1_countUpTo_73 ?_
        refine r_cSi (pc := 74) (As := [.int (nI L), .int (nI n)]) (st := [.ref (G.2.1 + (b + 2)), .int (nI (cS (bW (σ.2 (b + 2)) L) (n / 64 * 64)))]) h lk_RX1_29 (c_wordOf x.2.1 G σ L n (by omega)) (by decide) rfl rfl (by first | decide | exact Nat.le_of_ble_eq_true rfl) (by decide) dX1_countUpTo_74 (fun r1 s2 q3 => ?_)
        rw [q3.1, q3.2]
        refine r_lald (pc := 77) h (a_wd hb) (L * 16 + n / 64) rfl (by omega) dX1_countUpTo_77 ?_
        refine r_lload (pc := 78) h 0 rfl dX1_countUpTo_78 ?_
        refine r_land (pc := 80) (v := (σ.2 (b + 2) (L * 16 + n / 64)) &&& (((-1 : Int64).toUInt64 >>> ((nI (63 - n % 64)).toInt64.toUInt64 &&& Int64.toUInt64 63)).toInt64)) h rfl dX1_countUpTo_80 ?_
        refine r_cSi (pc := 81) (As := [.long ((σ.2 (b + 2) (L * 16 + n / 64)) &&& (((-1 : Int64).toUInt64 >>> ((nI (63 - n % 64)).toInt64.toUInt64 &&& Int64.toUInt64 63)).toInt64))]) (st := [.int (nI (cS (bW (σ.2 (b + 2)) L) (n / 64 * 64)))]) h lk_RX1_54 (c_bitCount x.2.1 G σ ((σ.2 (b + 2) (L * 16 + n / 64)) &&& (((-1 : Int64).toUInt64 >>> ((nI (63 - n % 64)).toInt64.toUInt64 &&& Int64.toUInt64 63)).toInt64))) (by decide) rfl rfl (by first | decide | exact Nat.le_of_ble_eq_true rfl) (by decide) dX1_countUpTo_81 (fun r4 s5 q6 => ?_)
        rw [q6.1, q6.2]
        refine r_iadd (pc := 84) (v := nI (cS (bW (σ.2 (b + 2)) L) (n + 1))) h ((nI_add _ _).trans (congrArg nI cu_last)) dX1_countUpTo_84 ?_
        exact hret _ _ (⟨rfl, rfl⟩) 85 _ dX1_countUpTo_85
      · skip
        rw [nI_leI (by omega) (by omega)] at c24
        refine r_iload (pc := 27) h 3 rfl dX1_countUpTo_27 ?_
        refine r_aload_n (pc := 29) h 0 rfl rfl dX1_countUpTo_29 ?_
        refine g_1_words (pc := 30) hb h mw_3_0 dX1_countUpTo_30 ?_
        refine r_iload_n (pc := 33) h 1 rfl rfl dX1_countUpTo_33 ?_
        refine r_bipush (pc := 34) (v := nI 16) h (by decide) dX1_countUpTo_34 ?_
        refine r_imul (pc := 36) (v := nI (L * 16)) h (pk_mul _ _) dX1_countUpTo_36 ?_
        refine r_iload (pc := 37) h 4 rfl dX1_countUpTo_37 ?_
        refine r_iadd (pc := 39) (v := nI ((L * 16) + i)) h (nI_add _ _) dX1_countUpTo_39 ?_
        refine r_lald (pc := 40) h (a_wd hb) ((L * 16) + i) rfl (by omega) dX1_countUpTo_40 ?_
        refine r_cSi (pc := 41) (As := [.long (σ.2 (b + 2) ((L * 16) + i))]) (st := [.int (nI (cS (bW (σ.2 (b + 2)) L) (i * 64)))]) h lk_RX1_54 (c_bitCount x.2.1 G σ (σ.2 (b + 2) ((L * 16) + i))) (by decide) rfl rfl (by first | decide | exact Nat.le_of_ble_eq_true rfl) (by decide) dX1_countUpTo_41 (fun r7 s8 q9 => ?_)
        rw [q9.1, q9.2]
        refine r_iadd (pc := 44) (v := nI (cS (bW (σ.2 (b + 2)) L) ((i + 1) * 64))) h ((nI_add _ _).trans (congrArg nI cu_step)) dX1_countUpTo_44 ?_
        refine r_istore (pc := 45) (lo2 := [(4, .int (nI (cS (bW (σ.2 (b + 2)) L) ((i + 1) * 64)))), (0, .ref (G.2.1 + (b + 1))), (1, .int (nI L)), (3, .int (nI n)), (5, .int (nI i))]) h (by decide) rfl dX1_countUpTo_45 ?_
        refine r_iinc (pc := 47) (v := nI (i + 1)) (lo2 := [(5, .int (nI (i + 1))), (4, .int (nI (cS (bW (σ.2 (b + 2)) L) ((i + 1) * 64)))), (0, .ref (G.2.1 + (b + 1))), (1, .int (nI L)), (3, .int (nI n))]) h 4 rfl (iinc1 _) (by decide) rfl dX1_countUpTo_47 ?_
        refine r_goto (pc := 50) (tgt := 18) h (by decide) dX1_countUpTo_50 ?_
        refine r_sub (lo2 := [(0, .ref (G.2.1 + (b + 1))), (1, .int (nI L)), (3, .int (nI n)), (4, .int (nI (cS (bW (σ.2 (b + 2)) L) ((i + 1) * 64)))), (5, .int (nI (i + 1)))]) [2, 3, 4, 1, 0] rfl ?_
        exact ih18 (i + 1) (by omega) (by omega)
  refine r_sub (lo2 := [(0, .ref (G.2.1 + (b + 1))), (1, .int (nI L)), (3, .int (nI n)), (4, .int (nI 0)), (5, .int (nI 0))]) [3, 4, 2, 1, 0] rfl ?_
  exact lp18 _ 0 (by omega) (Nat.lt_succ_self _)

set_option maxRecDepth 100000 in
set_option maxHeartbeats 800000 in
theorem c_greatestOf (l : Launch) (G : Gl) (σ : Sg) (b : Nat) (hb : Blk b) (L : Nat) (hL : L < 12) : Ci l yX1_greatestOf cX1_greatestOf 3 .int ({ frames := 2, cells := 0, slots := 0, locals := 44 } : Room) G [.ref (G.2.1 + (b + 1)), .int (nI L)] σ (fun r σ2 => r = oI (lstB (bW (σ.2 (b + 2)) L) 1000) ∧ σ2 = σ) := by
  refine Ci_of (own := RX1) rfl (by decide +kernel) (lo := [(0, .ref (G.2.1 + (b + 1))), (1, .int (nI L))]) rfl (Nat.le_of_ble_eq_true rfl) (fun r s hp => by obtain ⟨rfl, rfl⟩ := hp; rfl) ?_
  intro x Q hxl h hret
  subst hxl
  refine r_sipush (pc := 0) (v := nI 999) h (by decide) dX1_greatestOf_0 ?_
  refine r_istore_n (pc := 3) (lo2 := [(2, .int (nI 999)), (0, .ref (G.2.1 + (b + 1))), (1, .int (nI L))]) h rfl (by decide) rfl dX1_greatestOf_3 ?_
  have lp4 : ∀ (fu : Nat) (i : Nat) (z : Int32), i ≤ 1000 → z = nI i + (-1) → lstB (bW (σ.2 (b + 2)) L) 1000 = lstB (bW (σ.2 (b + 2)) L) i → i < fu → V x G 3 0 0 Q σ 4 [(0, .ref (G.2.1 + (b + 1))), (1, .int (nI L)), (2, .int z)] [] := by
    intro fu
    induction fu with
    | zero => intro i z hi hz hs hfu; exact absurd hfu (Nat.not_lt_zero _)
    | succ fu ih4 =>
      intro i z hi hz hs hfu
      refine r_iload_n (pc := 4) h 2 rfl rfl dX1_greatestOf_4 ?_
      refine r_if_lt (pc := 5) (tgt := 25) h (by decide) dX1_greatestOf_5 (fun c5 => ?_) (fun c5 => ?_)
      · skip
        have e : i = 0 := by
          cases i with
          | zero => rfl
          | succ i => rw [pk_m1] at hz; subst hz; exact absurd c5 (nI_pos (by omega))
        subst e
        refine r_iconst (pc := 25) (v := (-1)) h (by decide) dX1_greatestOf_25 ?_
        exact hret _ _ (⟨by rw [hs]; rfl, rfl⟩) 26 _ dX1_greatestOf_26
      · skip
        obtain ⟨i, rfl⟩ : ∃ i2, i = i2 + 1 := ⟨i - 1, by cases i with | zero => (subst hz; exact absurd (by decide) c5) | succ i => rfl⟩
        rw [pk_m1] at hz
        subst hz
        refine r_aload_n (pc := 8) h 0 rfl rfl dX1_greatestOf_8 ?_
        refine r_iload_n (pc := 9) h 1 rfl rfl dX1_greatestOf_9 ?_
        refine r_iload_n (pc := 10) h 2 rfl rfl dX1_greatestOf_10 ?_
        refine r_cVi (pc := 11) (As := [.int (nI L), .int (nI i)]) (st := []) h lk_RX1_42 (c_has x.2.1 G σ b hb L i (by omega) (by omega)) (rc_1 hb) (by decide) rfl rfl (by first | decide | exact Nat.le_of_ble_eq_true rfl) (by decide) dX1_greatestOf_11 (fun r1 s2 q3 => ?_)
        rw [q3.1, q3.2]
        refine r_if_eq (pc := 14) (tgt := 19) h (by decide) dX1_greatestOf_14 (fun c14 => ?_) (fun c14 => ?_)
        · skip
          replace c14 := zB_0.mp c14
          refine r_iinc (pc := 19) (v := nI i + Int32.ofInt (-1)) (lo2 := [(2, .int (nI i + Int32.ofInt (-1))), (0, .ref (G.2.1 + (b + 1))), (1, .int (nI L))]) h 2 rfl rfl (by decide) rfl dX1_greatestOf_19 ?_
          refine r_goto (pc := 22) (tgt := 4) h (by decide) dX1_greatestOf_22 ?_
          refine r_sub (lo2 := [(0, .ref (G.2.1 + (b + 1))), (1, .int (nI L)), (2, .int (nI i + Int32.ofInt (-1)))]) [1, 2, 0] rfl ?_
          exact ih4 i (nI i + Int32.ofInt (-1)) (by omega) rfl (by rw [hs, lstB, c14]; rfl) (by omega)
        · skip
          replace c14 := zB_n0.mp c14
          refine r_iload_n (pc := 17) h 2 rfl rfl dX1_greatestOf_17 ?_
          exact hret _ _ (⟨by rw [hs, lstB, if_pos c14]; rfl, rfl⟩) 18 _ dX1_greatestOf_18
  refine r_sub (lo2 := [(0, .ref (G.2.1 + (b + 1))), (1, .int (nI L)), (2, .int (nI 999))]) [1, 2, 0] rfl ?_
  exact lp4 _ 1000 (nI 999) (by omega) (by decide) rfl (Nat.lt_succ_self _)

set_option maxRecDepth 100000 in
set_option maxHeartbeats 800000 in
theorem c_leastOfBoth (l : Launch) (G : Gl) (σ : Sg) (b : Nat) (hb : Blk b) (L K : Nat) (hL : L < 12) (hK : K < 12) (hc : Clr (σ.2 (b + 2)) L) : Ci l yX1_leastOfBoth cX1_leastOfBoth 6 .int ({ frames := 2, cells := 0, slots := 0, locals := 42 } : Room) G [.ref (G.2.1 + (b + 1)), .int (nI L), .int (nI K)] σ (fun r σ2 => r = oI (nxt (fun v => bW (σ.2 (b + 2)) L v && bW (σ.2 (b + 2)) K v) 0) ∧ σ2 = σ) := by
  refine Ci_of (own := RX1) rfl (by decide +kernel) (lo := [(0, .ref (G.2.1 + (b + 1))), (1, .int (nI L)), (2, .int (nI K))]) rfl (Nat.le_of_ble_eq_true rfl) (fun r s hp => by obtain ⟨rfl, rfl⟩ := hp; rfl) ?_
  intro x Q hxl h hret
  subst hxl
  refine r_iconst (pc := 0) (v := nI 0) h (by decide) dX1_leastOfBoth_0 ?_
  refine r_istore_n (pc := 1) (lo2 := [(3, .int (nI 0)), (0, .ref (G.2.1 + (b + 1))), (1, .int (nI L)), (2, .int (nI K))]) h rfl (by decide) rfl dX1_leastOfBoth_1 ?_
  have lp2 : ∀ (fu : Nat) (i : Nat), i ≤ 16 → (∀ v, v < i * 64 → (bW (σ.2 (b + 2)) L v && bW (σ.2 (b + 2)) K v) = false) → 16 - i < fu → V x G 6 0 0 Q σ 2 [(0, .ref (G.2.1 + (b + 1))), (1, .int (nI L)), (2, .int (nI K)), (3, .int (nI i))] [] := by
    intro fu
    induction fu with
    | zero => intro i hi hno hfu; exact absurd hfu (Nat.not_lt_zero _)
    | succ fu ih2 =>
      intro i hi hno hfu
      refine r_iload_n (pc := 2) h 3 rfl rfl dX1_leastOfBoth_2 ?_
      refine r_bipush (pc := 3) (v := nI 16) h (by decide) dX1_leastOfBoth_3 ?_
      refine r_icmp_ge (pc := 5) (tgt := 57) h (by decide) dX1_leastOfBoth_5 (fun c5 => ?_) (fun c5 => ?_)
      · skip
        rw [nI_leI (by omega) (by omega)] at c5
        refine r_iconst (pc := 57) (v := (-1)) h (by decide) dX1_leastOfBoth_57 ?_
        exact hret _ _ (⟨by rw [nxt_none (fun u _ h2 => hno u (by omega))]; rfl, rfl⟩) 58 _ dX1_leastOfBoth_58
      · skip
        rw [nI_leI (by omega) (by omega)] at c5
        refine r_aload_n (pc := 8) h 0 rfl rfl dX1_leastOfBoth_8 ?_
        refine g_1_words (pc := 9) hb h mw_3_0 dX1_leastOfBoth_9 ?_
        refine r_iload_n (pc := 12) h 1 rfl rfl dX1_leastOfBoth_12 ?_
        refine r_bipush (pc := 13) (v := nI 16) h (by decide) dX1_leastOfBoth_13 ?_
        refine r_imul (pc := 15) (v := nI (L * 16)) h (pk_mul _ _) dX1_leastOfBoth_15 ?_
        refine r_iload_n (pc := 16) h 3 rfl rfl dX1_leastOfBoth_16 ?_
        refine r_iadd (pc := 17) (v := nI ((L * 16) + i)) h (nI_add _ _) dX1_leastOfBoth_17 ?_
        refine r_lald (pc := 18) h (a_wd hb) ((L * 16) + i) rfl (by omega) dX1_leastOfBoth_18 ?_
        refine r_aload_n (pc := 19) h 0 rfl rfl dX1_leastOfBoth_19 ?_
        refine g_1_words (pc := 20) hb h mw_3_0 dX1_leastOfBoth_20 ?_
        refine r_iload_n (pc := 23) h 2 rfl rfl dX1_leastOfBoth_23 ?_
        refine r_bipush (pc := 24) (v := nI 16) h (by decide) dX1_leastOfBoth_24 ?_
        refine r_imul (pc := 26) (v := nI (K * 16)) h (pk_mul _ _) dX1_leastOfBoth_26 ?_
        refine r_iload_n (pc := 27) h 3 rfl rfl dX1_leastOfBoth_27 ?_
        refine r_iadd (pc := 28) (v := nI ((K * 16) + i)) h (nI_add _ _) dX1_leastOfBoth_28 ?_
        refine r_lald (pc := 29) h (a_wd hb) ((K * 16) + i) rfl (by omega) dX1_leastOfBoth_29 ?_
        refine r_land (pc := 30) (v := (σ.2 (b + 2) ((L * 16) + i)) &&& (σ.2 (b + 2) ((K * 16) + i))) h rfl dX1_leastOfBoth_30 ?_
        refine r_lstore (pc := 31) (lo2 := [(4, .long ((σ.2 (b + 2) ((L * 16) + i)) &&& (σ.2 (b + 2) ((K * 16) + i)))), (0, .ref (G.2.1 + (b + 1))), (1, .int (nI L)), (2, .int (nI K)), (3, .int (nI i))]) h (by decide) rfl dX1_leastOfBoth_31 ?_
        refine r_lload (pc := 33) h 0 rfl dX1_leastOfBoth_33 ?_
        refine r_lconst (pc := 35) (v := 0) h (by decide) dX1_leastOfBoth_35 ?_
        refine r_lcmp (pc := 36) (v := lg_cmp ((σ.2 (b + 2) ((L * 16) + i)) &&& (σ.2 (b + 2) ((K * 16) + i))) 0) h rfl dX1_leastOfBoth_36 ?_
        refine r_if_eq (pc := 37) (tgt := 51) h (by decide) dX1_leastOfBoth_37 (fun c37 => ?_) (fun c37 => ?_)
        · skip
          refine r_iinc (pc := 51) (v := nI (i + 1)) (lo2 := [(3, .int (nI (i + 1))), (4, .long ((σ.2 (b + 2) ((L * 16) + i)) &&& (σ.2 (b + 2) ((K * 16) + i)))), (0, .ref (G.2.1 + (b + 1))), (1, .int (nI L)), (2, .int (nI K))]) h 4 rfl (iinc1 _) (by decide) rfl dX1_leastOfBoth_51 ?_
          refine r_goto (pc := 54) (tgt := 2) h (by decide) dX1_leastOfBoth_54 ?_
          refine r_sub (lo2 := [(0, .ref (G.2.1 + (b + 1))), (1, .int (nI L)), (2, .int (nI K)), (3, .int (nI (i + 1)))]) [2, 3, 4, 0] rfl ?_
          exact ih2 (i + 1) (by omega) (sh_miss hno c37) (by omega)
        · skip
          refine r_iload_n (pc := 40) h 4 rfl rfl dX1_leastOfBoth_40 ?_
          refine r_bipush (pc := 41) (v := nI 64) h (by decide) dX1_leastOfBoth_41 ?_
          refine r_imul (pc := 43) (v := nI (i * 64)) h (pk_mul _ _) dX1_leastOfBoth_43 ?_
          refine r_lload (pc := 44) h 0 rfl dX1_leastOfBoth_44 ?_
          refine r_cSi (pc := 46) (As := [.long ((σ.2 (b + 2) ((L * 16) + i)) &&& (σ.2 (b + 2) ((K * 16) + i)))]) (st := [.int (nI (i * 64))]) h lk_RX1_35 (c_lowestBit x.2.1 G σ ((σ.2 (b + 2) ((L * 16) + i)) &&& (σ.2 (b + 2) ((K * 16) + i)))) (by decide) rfl rfl (by first | decide | exact Nat.le_of_ble_eq_true rfl) (by decide) dX1_leastOfBoth_46 (fun r1 s2 q3 => ?_)
          rw [q3.1, q3.2]
          refine r_iadd (pc := 49) (v := nI ((i * 64) + (popc (((σ.2 (b + 2) ((L * 16) + i)) &&& (σ.2 (b + 2) ((K * 16) + i)) &&& -((σ.2 (b + 2) ((L * 16) + i)) &&& (σ.2 (b + 2) ((K * 16) + i)))) - 1)))) h (nI_add _ _) dX1_leastOfBoth_49 ?_
          exact hret _ _ (⟨sh_hit (by omega) hno hc c37, rfl⟩) 50 _ dX1_leastOfBoth_50
  refine r_sub (lo2 := [(0, .ref (G.2.1 + (b + 1))), (1, .int (nI L)), (2, .int (nI K)), (3, .int (nI 0))]) [1, 2, 3, 0] rfl ?_
  exact lp2 _ 0 (by omega) (fun v h => absurd h (by omega)) (Nat.lt_succ_self _)

set_option maxRecDepth 100000 in
set_option maxHeartbeats 800000 in
theorem c_countOfEither (l : Launch) (G : Gl) (σ : Sg) (b : Nat) (hb : Blk b) (L K : Nat) (hL : L < 12) (hK : K < 12) (hc : Clr (σ.2 (b + 2)) L) (hk : Clr (σ.2 (b + 2)) K) : Ci l yX1_countOfEither cX1_countOfEither 5 .int ({ frames := 1, cells := 0, slots := 0, locals := 21 } : Room) G [.ref (G.2.1 + (b + 1)), .int (nI L), .int (nI K)] σ (fun r σ2 => r = nI (cS (fun v => bW (σ.2 (b + 2)) L v || bW (σ.2 (b + 2)) K v) 1000) ∧ σ2 = σ) := by
  refine Ci_of (own := RX1) rfl (by decide +kernel) (lo := [(0, .ref (G.2.1 + (b + 1))), (1, .int (nI L)), (2, .int (nI K))]) rfl (Nat.le_of_ble_eq_true rfl) (fun r s hp => by obtain ⟨rfl, rfl⟩ := hp; rfl) ?_
  intro x Q hxl h hret
  subst hxl
  refine r_iconst (pc := 0) (v := nI 0) h (by decide) dX1_countOfEither_0 ?_
  refine r_istore_n (pc := 1) (lo2 := [(3, .int (nI 0)), (0, .ref (G.2.1 + (b + 1))), (1, .int (nI L)), (2, .int (nI K))]) h rfl (by decide) rfl dX1_countOfEither_1 ?_
  refine r_iconst (pc := 2) (v := nI 0) h (by decide) dX1_countOfEither_2 ?_
  refine r_istore (pc := 3) (lo2 := [(4, .int (nI 0)), (3, .int (nI 0)), (0, .ref (G.2.1 + (b + 1))), (1, .int (nI L)), (2, .int (nI K))]) h (by decide) rfl dX1_countOfEither_3 ?_
  have lp5 : ∀ (fu : Nat) (i : Nat), i ≤ 16 → 16 - i < fu → V x G 5 0 0 Q σ 5 [(0, .ref (G.2.1 + (b + 1))), (1, .int (nI L)), (2, .int (nI K)), (3, .int (nI (cS (fun v => bW (σ.2 (b + 2)) L v || bW (σ.2 (b + 2)) K v) (i * 64)))), (4, .int (nI i))] [] := by
    intro fu
    induction fu with
    | zero => intro i hi hfu; exact absurd hfu (Nat.not_lt_zero _)
    | succ fu ih5 =>
      intro i hi hfu
      refine r_iload (pc := 5) h 4 rfl dX1_countOfEither_5 ?_
      refine r_bipush (pc := 7) (v := nI 16) h (by decide) dX1_countOfEither_7 ?_
      refine r_icmp_ge (pc := 9) (tgt := 49) h (by decide) dX1_countOfEither_9 (fun c9 => ?_) (fun c9 => ?_)
      · skip
        rw [nI_leI (by omega) (by omega)] at c9
        refine r_iload_n (pc := 49) h 3 rfl rfl dX1_countOfEither_49 ?_
        have e : i = 16 := by omega
        subst e
        exact hret _ _ (⟨congrArg nI (ei_end hc hk), rfl⟩) 50 _ dX1_countOfEither_50
      · skip
        rw [nI_leI (by omega) (by omega)] at c9
        refine r_iload_n (pc := 12) h 3 rfl rfl dX1_countOfEither_12 ?_
        refine r_aload_n (pc := 13) h 0 rfl rfl dX1_countOfEither_13 ?_
        refine g_1_words (pc := 14) hb h mw_3_0 dX1_countOfEither_14 ?_
        refine r_iload_n (pc := 17) h 1 rfl rfl dX1_countOfEither_17 ?_
        refine r_bipush (pc := 18) (v := nI 16) h (by decide) dX1_countOfEither_18 ?_
        refine r_imul (pc := 20) (v := nI (L * 16)) h (pk_mul _ _) dX1_countOfEither_20 ?_
        refine r_iload (pc := 21) h 4 rfl dX1_countOfEither_21 ?_
        refine r_iadd (pc := 23) (v := nI ((L * 16) + i)) h (nI_add _ _) dX1_countOfEither_23 ?_
        refine r_lald (pc := 24) h (a_wd hb) ((L * 16) + i) rfl (by omega) dX1_countOfEither_24 ?_
        refine r_aload_n (pc := 25) h 0 rfl rfl dX1_countOfEither_25 ?_
        refine g_1_words (pc := 26) hb h mw_3_0 dX1_countOfEither_26 ?_
        refine r_iload_n (pc := 29) h 2 rfl rfl dX1_countOfEither_29 ?_
        refine r_bipush (pc := 30) (v := nI 16) h (by decide) dX1_countOfEither_30 ?_
        refine r_imul (pc := 32) (v := nI (K * 16)) h (pk_mul _ _) dX1_countOfEither_32 ?_
        refine r_iload (pc := 33) h 4 rfl dX1_countOfEither_33 ?_
        refine r_iadd (pc := 35) (v := nI ((K * 16) + i)) h (nI_add _ _) dX1_countOfEither_35 ?_
        refine r_lald (pc := 36) h (a_wd hb) ((K * 16) + i) rfl (by omega) dX1_countOfEither_36 ?_
        refine r_lor (pc := 37) (v := (σ.2 (b + 2) ((L * 16) + i)) ||| (σ.2 (b + 2) ((K * 16) + i))) h rfl dX1_countOfEither_37 ?_
        refine r_cSi (pc := 38) (As := [.long ((σ.2 (b + 2) ((L * 16) + i)) ||| (σ.2 (b + 2) ((K * 16) + i)))]) (st := [.int (nI (cS (fun v => bW (σ.2 (b + 2)) L v || bW (σ.2 (b + 2)) K v) (i * 64)))]) h lk_RX1_54 (c_bitCount x.2.1 G σ ((σ.2 (b + 2) ((L * 16) + i)) ||| (σ.2 (b + 2) ((K * 16) + i)))) (by decide) rfl rfl (by first | decide | exact Nat.le_of_ble_eq_true rfl) (by decide) dX1_countOfEither_38 (fun r1 s2 q3 => ?_)
        rw [q3.1, q3.2]
        refine r_iadd (pc := 41) (v := nI (cS (fun v => bW (σ.2 (b + 2)) L v || bW (σ.2 (b + 2)) K v) ((i + 1) * 64))) h ((nI_add _ _).trans (congrArg nI ei_step)) dX1_countOfEither_41 ?_
        refine r_istore_n (pc := 42) (lo2 := [(3, .int (nI (cS (fun v => bW (σ.2 (b + 2)) L v || bW (σ.2 (b + 2)) K v) ((i + 1) * 64)))), (0, .ref (G.2.1 + (b + 1))), (1, .int (nI L)), (2, .int (nI K)), (4, .int (nI i))]) h rfl (by decide) rfl dX1_countOfEither_42 ?_
        refine r_iinc (pc := 43) (v := nI (i + 1)) (lo2 := [(4, .int (nI (i + 1))), (3, .int (nI (cS (fun v => bW (σ.2 (b + 2)) L v || bW (σ.2 (b + 2)) K v) ((i + 1) * 64)))), (0, .ref (G.2.1 + (b + 1))), (1, .int (nI L)), (2, .int (nI K))]) h 4 rfl (iinc1 _) (by decide) rfl dX1_countOfEither_43 ?_
        refine r_goto (pc := 46) (tgt := 5) h (by decide) dX1_countOfEither_46 ?_
        refine r_sub (lo2 := [(0, .ref (G.2.1 + (b + 1))), (1, .int (nI L)), (2, .int (nI K)), (3, .int (nI (cS (fun v => bW (σ.2 (b + 2)) L v || bW (σ.2 (b + 2)) K v) ((i + 1) * 64)))), (4, .int (nI (i + 1)))]) [2, 3, 4, 1, 0] rfl ?_
        exact ih5 (i + 1) (by omega) (by omega)
  refine r_sub (lo2 := [(0, .ref (G.2.1 + (b + 1))), (1, .int (nI L)), (2, .int (nI K)), (3, .int (nI 0)), (4, .int (nI 0))]) [2, 3, 4, 1, 0] rfl ?_
  exact lp5 _ 0 (by omega) (Nat.lt_succ_self _)

set_option maxRecDepth 100000 in
set_option maxHeartbeats 800000 in
theorem c_greatestGap (l : Launch) (G : Gl) (σ : Sg) (b : Nat) (hb : Blk b) (L : Nat) (hL : L < 12) (hc : Clr (σ.2 (b + 2)) L) : Ci l yX1_greatestGap cX1_greatestGap 6 .int ({ frames := 3, cells := 0, slots := 0, locals := 69 } : Room) G [.ref (G.2.1 + (b + 1)), .int (nI L)] σ (fun r σ2 => r = nI (gp (bW (σ.2 (b + 2)) L) 1000).2 ∧ σ2 = σ) := by
  refine Ci_of (own := RX1) rfl (by decide +kernel) (lo := [(0, .ref (G.2.1 + (b + 1))), (1, .int (nI L))]) rfl (Nat.le_of_ble_eq_true rfl) (fun r s hp => by obtain ⟨rfl, rfl⟩ := hp; rfl) ?_
  intro x Q hxl h hret
  subst hxl
  refine r_iconst (pc := 0) (v := nI 0) h (by decide) dX1_greatestGap_0 ?_
  refine r_istore_n (pc := 1) (lo2 := [(2, .int (nI 0)), (0, .ref (G.2.1 + (b + 1))), (1, .int (nI L))]) h rfl (by decide) rfl dX1_greatestGap_1 ?_
  refine r_aload_n (pc := 2) h 1 rfl rfl dX1_greatestGap_2 ?_
  refine r_iload_n (pc := 3) h 2 rfl rfl dX1_greatestGap_3 ?_
  refine r_iconst (pc := 4) (v := nI 0) h (by decide) dX1_greatestGap_4 ?_
  refine r_cVi (pc := 5) (As := [.int (nI L), .int (nI 0)]) (st := []) h lk_RX1_39 (c_nextFrom x.2.1 G σ b hb L 0 (by omega) (by omega) hc) (rc_1 hb) (by decide) rfl rfl (by first | decide | exact Nat.le_of_ble_eq_true rfl) (by decide) dX1_greatestGap_5 (fun r1 s2 q3 => ?_)
  rw [q3.1, q3.2]
  refine r_istore_n (pc := 8) (lo2 := [(3, .int (oI (nxt (bW (σ.2 (b + 2)) L) 0))), (2, .int (nI 0)), (0, .ref (G.2.1 + (b + 1))), (1, .int (nI L))]) h rfl (by decide) rfl dX1_greatestGap_8 ?_
  refine r_iconst (pc := 9) (v := nI 0) h (by decide) dX1_greatestGap_9 ?_
  refine r_istore (pc := 10) (lo2 := [(4, .int (nI 0)), (3, .int (oI (nxt (bW (σ.2 (b + 2)) L) 0))), (2, .int (nI 0)), (0, .ref (G.2.1 + (b + 1))), (1, .int (nI L))]) h (by decide) rfl dX1_greatestGap_10 ?_
  have lp12 : ∀ (fu : Nat) (i : Nat) (g : Nat) (o : Option Nat), i ≤ 1000 → g < 1000 → ((∃ v, o = some v ∧ v < 1000 ∧ i ≤ v ∧ (bW (σ.2 (b + 2)) L) v = true ∧ (gp (bW (σ.2 (b + 2)) L) (v + 1)).2 = g) ∨ (o = none ∧ (gp (bW (σ.2 (b + 2)) L) 1000).2 = g)) → 1000 - i < fu → V x G 6 0 0 Q σ 12 [(0, .ref (G.2.1 + (b + 1))), (1, .int (nI L)), (2, .int (nI g)), (3, .int (oI o)), (4, .int (nI i))] [] := by
    intro fu
    induction fu with
    | zero => intro i g o hi hg ho hfu; exact absurd hfu (Nat.not_lt_zero _)
    | succ fu ih12 =>
      intro i g o hi hg ho hfu
      refine r_iload (pc := 12) h 4 rfl dX1_greatestGap_12 ?_
      refine r_sipush (pc := 14) (v := nI 1000) h (by decide) dX1_greatestGap_14 ?_
      refine r_icmp_ge (pc := 17) (tgt := 59) h (by decide) dX1_greatestGap_17 (fun c17 => ?_) (fun c17 => ?_)
      · skip
        rw [nI_leI (by omega) (by omega)] at c17
        have hr : (gp (bW (σ.2 (b + 2)) L) 1000).2 = g := by
          rcases ho with ⟨v, -, h1, h2, -⟩ | ⟨-, q⟩
          · omega
          · exact q
        refine r_iload_n (pc := 59) h 2 rfl rfl dX1_greatestGap_59 ?_
        exact hret _ _ (⟨by rw [hr], rfl⟩) 60 _ dX1_greatestGap_60
      · skip
        rw [nI_leI (by omega) (by omega)] at c17
        refine r_iload_n (pc := 20) h 3 rfl rfl dX1_greatestGap_20 ?_
        refine r_iconst (pc := 21) (v := (-1)) h (by decide) dX1_greatestGap_21 ?_
        refine r_icmp_eq (pc := 22) (tgt := 59) h (by decide) dX1_greatestGap_22 (fun c22 => ?_) (fun c22 => ?_)
        · skip
          have hr : (gp (bW (σ.2 (b + 2)) L) 1000).2 = g := by
            rcases ho with ⟨v, rfl, h1, -⟩ | ⟨-, q⟩
            · exact absurd ((oI_eq (fun u hu => by cases hu; omega)).mp c22) (by simp)
            · exact q
          refine r_iload_n (pc := 59) h 2 rfl rfl dX1_greatestGap_59 ?_
          exact hret _ _ (⟨by rw [hr], rfl⟩) 60 _ dX1_greatestGap_60
        · skip
          obtain ⟨v, rfl, hv9, hiv, hv, hw⟩ : ∃ v, o = some v ∧ v < 1000 ∧ i ≤ v ∧ (bW (σ.2 (b + 2)) L) v = true ∧ (gp (bW (σ.2 (b + 2)) L) (v + 1)).2 = g := ho.resolve_right (fun q => c22 (by rw [q.1]; rfl))
          clear ho
          refine r_sub (lo2 := [(0, .ref (G.2.1 + (b + 1))), (1, .int (nI L)), (2, .int (nI g)), (3, .int (nI v)), (4, .int (nI i))]) [0, 1, 2, 3, 4] rfl ?_
          refine r_aload_n (pc := 25) h 0 rfl rfl dX1_greatestGap_25 ?_
          refine r_iload_n (pc := 26) h 1 rfl rfl dX1_greatestGap_26 ?_
          refine r_iload_n (pc := 27) h 3 rfl rfl dX1_greatestGap_27 ?_
          refine r_iconst (pc := 28) (v := nI 1) h (by decide) dX1_greatestGap_28 ?_
          refine r_iadd (pc := 29) (v := nI (v + 1)) h (nI_add _ _) dX1_greatestGap_29 ?_
          refine r_cVi (pc := 30) (As := [.int (nI L), .int (nI (v + 1))]) (st := []) h lk_RX1_39 (c_nextFrom x.2.1 G σ b hb L (v + 1) (by omega) (by omega) hc) (rc_1 hb) (by decide) rfl rfl (by first | decide | exact Nat.le_of_ble_eq_true rfl) (by decide) dX1_greatestGap_30 (fun r4 s5 q6 => ?_)
          rw [q6.1, q6.2]
          refine r_istore (pc := 33) (lo2 := [(5, .int (oI (nxt (bW (σ.2 (b + 2)) L) (v + 1)))), (0, .ref (G.2.1 + (b + 1))), (1, .int (nI L)), (2, .int (nI g)), (3, .int (nI v)), (4, .int (nI i))]) h (by decide) rfl dX1_greatestGap_33 ?_
          refine r_iload (pc := 35) h 0 rfl dX1_greatestGap_35 ?_
          refine r_iconst (pc := 37) (v := (-1)) h (by decide) dX1_greatestGap_37 ?_
          refine r_icmp_eq (pc := 38) (tgt := 50) h (by decide) dX1_greatestGap_38 (fun c38 => ?_) (fun c38 => ?_)
          · skip
            have hn := oI_nxt.mp c38
            rw [hn]
            refine r_sub (lo2 := [(5, .int (oI none)), (0, .ref (G.2.1 + (b + 1))), (1, .int (nI L)), (2, .int (nI g)), (3, .int (nI v)), (4, .int (nI i))]) [0, 1, 2, 3, 4, 5] rfl ?_
            refine r_iload (pc := 50) h 0 rfl dX1_greatestGap_50 ?_
            refine r_istore_n (pc := 52) (lo2 := [(3, .int (oI none)), (5, .int (oI none)), (0, .ref (G.2.1 + (b + 1))), (1, .int (nI L)), (2, .int (nI g)), (4, .int (nI i))]) h rfl (by decide) rfl dX1_greatestGap_52 ?_
            refine r_iinc (pc := 53) (v := nI (i + 1)) (lo2 := [(4, .int (nI (i + 1))), (3, .int (oI none)), (5, .int (oI none)), (0, .ref (G.2.1 + (b + 1))), (1, .int (nI L)), (2, .int (nI g))]) h 5 rfl (iinc1 _) (by decide) rfl dX1_greatestGap_53 ?_
            refine r_goto (pc := 56) (tgt := 12) h (by decide) dX1_greatestGap_56 ?_
            refine r_sub (lo2 := [(0, .ref (G.2.1 + (b + 1))), (1, .int (nI L)), (2, .int (nI g)), (3, .int (oI none)), (4, .int (nI (i + 1)))]) [3, 4, 5, 1, 0] rfl ?_
            exact ih12 (i + 1) g none (by omega) hg (Or.inr ⟨rfl, by rw [gp_end (by omega) hn]; exact hw⟩) (by omega)
          · skip
            obtain ⟨f, hf⟩ : ∃ f, nxt (bW (σ.2 (b + 2)) L) (v + 1) = some f := by
              cases e9 : nxt (bW (σ.2 (b + 2)) L) (v + 1) with
              | none => exact absurd (by rw [e9]; rfl) c38
              | some v9 => exact ⟨v9, rfl⟩
            have hgs := gp_step hv hf
            rw [hf]
            refine r_sub (lo2 := [(5, .int (nI f)), (0, .ref (G.2.1 + (b + 1))), (1, .int (nI L)), (2, .int (nI g)), (3, .int (nI v)), (4, .int (nI i))]) [0, 1, 2, 3, 4, 5] rfl ?_
            refine r_iload_n (pc := 41) h 3 rfl rfl dX1_greatestGap_41 ?_
            refine r_iload (pc := 42) h 0 rfl dX1_greatestGap_42 ?_
            refine r_iload_n (pc := 44) h 4 rfl rfl dX1_greatestGap_44 ?_
            refine r_isub (pc := 45) (v := nI (f - v)) h (pk_sub (by omega)) dX1_greatestGap_45 ?_
            refine r_mmax (pc := 46) (v := nI (max g (f - v))) h mw_21_11 (by decide) (by decide) (mm_maxN (by omega) (by omega)) dX1_greatestGap_46 ?_
            refine r_istore_n (pc := 49) (lo2 := [(2, .int (nI (max g (f - v)))), (5, .int (nI f)), (0, .ref (G.2.1 + (b + 1))), (1, .int (nI L)), (3, .int (nI v)), (4, .int (nI i))]) h rfl (by decide) rfl dX1_greatestGap_49 ?_
            refine r_iload (pc := 50) h 1 rfl dX1_greatestGap_50 ?_
            refine r_istore_n (pc := 52) (lo2 := [(3, .int (nI f)), (2, .int (nI (max g (f - v)))), (5, .int (nI f)), (0, .ref (G.2.1 + (b + 1))), (1, .int (nI L)), (4, .int (nI i))]) h rfl (by decide) rfl dX1_greatestGap_52 ?_
            refine r_iinc (pc := 53) (v := nI (i + 1)) (lo2 := [(4, .int (nI (i + 1))), (3, .int (nI f)), (2, .int (nI (max g (f - v)))), (5, .int (nI f)), (0, .ref (G.2.1 + (b + 1))), (1, .int (nI L))]) h 5 rfl (iinc1 _) (by decide) rfl dX1_greatestGap_53 ?_
            refine r_goto (pc := 56) (tgt := 12) h (by decide) dX1_greatestGap_56 ?_
            refine r_sub (lo2 := [(0, .ref (G.2.1 + (b + 1))), (1, .int (nI L)), (2, .int (nI (max g (f - v)))), (3, .int (nI f)), (4, .int (nI (i + 1)))]) [4, 5, 2, 1, 0] rfl ?_
            exact ih12 (i + 1) (max g (f - v)) (some f) (by omega) (by omega) (Or.inl ⟨f, rfl, (gp_step hv hf).2.1, by omega, (nxt_spec hf).2.2.1, by rw [(gp_step hv hf).1, hw]⟩) (by omega)
  refine r_sub (lo2 := [(0, .ref (G.2.1 + (b + 1))), (1, .int (nI L)), (2, .int (nI 0)), (3, .int (oI (nxt (bW (σ.2 (b + 2)) L) 0))), (4, .int (nI 0))]) [3, 4, 2, 1, 0] rfl ?_
  exact lp12 _ 0 0 _ (by omega) (by omega) (gap0 _) (Nat.lt_succ_self _)

