/-! LISTS: the sieve -/
/-- row N of w2 has what row N of w has, but for the multiples s * k with 2 ≤ s < t -/
def Str (w w2 : Nat → Int64) (N k t : Nat) : Prop := Off w w2 N ∧ ∀ v, v < 1024 → (bW w2 N v = true ↔ (bW w N v = true ∧ ¬ ∃ s, 2 ≤ s ∧ s < t ∧ v = s * k))
theorem str_0 (w : Nat → Int64) (N k : Nat) : Str w w N k 2 := ⟨Off.rf w N, fun v hv => ⟨fun h => ⟨h, fun ⟨s, a, b, c⟩ => by omega⟩, And.left⟩⟩
theorem str_s {w w2 : Nat → Int64} {N k t : Nat} (h : Str w w2 N k t) (ht : 2 ≤ t) (hk : t * k < 1000) : Str w (clrB w2 N (t * k)) N k (t + 1) := by
  refine ⟨h.1.tr (clrB_off (by omega)), fun v hv => ?_⟩
  rw [bW_clr (by omega), Bool.and_eq_true_iff, h.2 v hv, Bool.not_eq_true', decide_eq_false_iff_not]
  constructor
  · rintro ⟨⟨a, b⟩, c⟩
    refine ⟨a, ?_⟩
    rintro ⟨s, q1, q2, q3⟩
    rcases Nat.lt_or_ge s t with z | z
    · exact b ⟨s, q1, z, q3⟩
    · have : s = t := by omega
      subst this; exact c q3
  · rintro ⟨a, b⟩
    exact ⟨⟨a, fun ⟨s, q1, q2, q3⟩ => b ⟨s, q1, by omega, q3⟩⟩, fun q => b ⟨t, ht, by omega, q⟩⟩
theorem str_end {w w2 : Nat → Int64} {N k t : Nat} (h : Str w w2 N k t) (hk : 2 ≤ k) (ht : 2 ≤ t) (he : 1000 ≤ t ∨ 999 < t * k) : ∀ v, v < 1000 → (bW w2 N v = true ↔ (bW w N v = true ∧ ¬ (k < v ∧ v % k = 0))) := by
  intro v hv
  rw [h.2 v (by omega)]
  refine and_congr_right (fun _ => not_congr ?_)
  constructor
  · rintro ⟨s, a, b, c⟩
    refine ⟨?_, by rw [c]; exact Nat.mul_mod_left _ _⟩
    have := Nat.mul_le_mul_right k a
    omega
  · rintro ⟨a, b⟩
    have e : v / k * k = v := Nat.div_mul_cancel (Nat.dvd_of_mod_eq_zero b)
    refine ⟨v / k, ?_, ?_, e.symm⟩
    · rcases Nat.lt_or_ge (v / k) 2 with q | q
      · have := Nat.mul_le_mul_right k (show v / k ≤ 1 by omega)
        omega
      · exact q
    · rcases Nat.lt_or_ge (v / k) t with q | q
      · exact q
      · have h1 := Nat.mul_le_mul_right k q
        have h2 : v / k ≤ v := Nat.div_le_self _ _
        omega
/-- nobody in between is kept: nothing more is struck out -/
theorem svU_skip {S : Nat → Bool} : ∀ (m k : Nat), (∀ u, m ≤ u → u < m + k → ¬ (S u = true ∧ svU S m u = false)) → ∀ v, svU S (m + k) v = svU S m v
  | m, 0, _, v => rfl
  | m, k + 1, h, v => by
    have ih := svU_skip m k (fun u a b => h u a (by omega))
    rw [← Nat.add_assoc, svU, ih v, ih (m + k)]
    have h1 := h (m + k) (by omega) (by omega)
    cases e : S (m + k) with
    | false => simp
    | true =>
      cases e2 : svU S m (m + k) with
      | false => exact absurd ⟨e, e2⟩ h1
      | true => simp
theorem svU_skip2 {S : Nat → Bool} {m n : Nat} (hmn : m ≤ n) (h : ∀ u, m ≤ u → u < n → ¬ (S u = true ∧ svU S m u = false)) (v : Nat) : svU S n v = svU S m v := by
  obtain ⟨k, rfl⟩ := Nat.le.dest hmn
  exact svU_skip m k h v
theorem svU_past {S : Nat → Bool} {v : Nat} : ∀ k, svU S (v + k) v = svU S v v
  | 0 => rfl
  | k + 1 => by
    rw [← Nat.add_assoc, svU, svU_past k, decide_eq_false (show ¬ v + k < v by omega)]
    simp
/-- row N while the sieve is at m -/
def Svd (w1 : Nat → Int64) (N : Nat) (S : Nat → Bool) (m : Nat) : Prop := ∀ v, v < 1000 → (bW w1 N v = true ↔ (S v = true ∧ svU S m v = false))
theorem svU_2 (S : Nat → Bool) (v : Nat) : svU S 2 v = false := by simp [svU]
theorem svd_0 {w w1 : Nat → Int64} {N L : Nat} {c : Nat} (h : Mk w w1 N (rSet 2 L L c (bW w))) : Svd w1 N (bW w L) 2 := fun v hv => by
  rw [h.2 v (by omega), svU_2]
  exact ⟨fun q => ⟨q.2.elim id id, rfl⟩, fun q => ⟨hv, Or.inl q.1⟩⟩
theorem svd_step {w1 w2 : Nat → Int64} {N m k : Nat} {S : Nat → Bool} (h : Svd w1 N S m) (hm : 2 ≤ m) (hk : nxt (bW w1 N) m = some k) (hs : ∀ v, v < 1000 → (bW w2 N v = true ↔ (bW w1 N v = true ∧ ¬ (k < v ∧ v % k = 0)))) : Svd w2 N S (k + 1) := by
  obtain ⟨h1, h2, h3, h4⟩ := nxt_spec hk
  obtain ⟨h5, h6⟩ := (h k h2).mp h3
  have e : ∀ v, svU S k v = svU S m v := svU_skip2 h1 (fun u a b q => by
    have := (h u (by omega)).mpr q
    rw [h4 u a b] at this; cases this)
  intro v hv
  rw [hs v hv, h v hv, svU, e v, e k, h5, h6, decide_eq_true (show 1 < k by omega)]
  by_cases a : k < v ∧ v % k = 0
  · simp [a.1, a.2]
  · simp only [a, not_false_eq_true, and_true, Bool.true_and, Bool.not_false]
    have : (decide (k < v) && decide (v % k = 0)) = false := by
      by_cases b : k < v
      · have c : ¬ v % k = 0 := fun c => a ⟨b, c⟩
        simp [b, c]
      · simp [b]
    rw [this, Bool.or_false]
theorem svd_end {w w1 : Nat → Int64} {N L m : Nat} (h : Svd w1 N (bW w L) m) (hO : Off w w1 N) (hc : Clr w1 N) (he : nxt (bW w1 N) m = none) : Mk w w1 N (rSet 5 L 0 0 (bW w)) := by
  refine ⟨hO, fun v hv => ?_⟩
  rcases Nat.lt_or_ge v 1000 with q | q
  · have hn : ∀ u, m ≤ u → u < 1000 → ¬ (bW w L u = true ∧ svU (bW w L) m u = false) := fun u a b z => by
      have := (h u b).mpr z
      rw [nxt_specN he u a b] at this; cases this
    have e : svU (bW w L) v v = svU (bW w L) m v := by
      rcases Nat.lt_or_ge v m with z | z
      · obtain ⟨k, rfl⟩ := Nat.le.dest (Nat.le_of_lt z)
        exact (svU_past k).symm
      · exact svU_skip2 z (fun u a b => hn u a (by omega)) v
    rw [h v q]
    show _ ↔ (v < 1000 ∧ (bW w L v = true ∧ svU (bW w L) v v = false))
    rw [e]
    exact ⟨fun z => ⟨q, z⟩, And.right⟩
  · rw [hc v q hv]
    exact ⟨fun z => (by cases z), fun z => (by omega)⟩
theorem str_clr {w w2 : Nat → Int64} {N k t : Nat} (h : Str w w2 N k t) (hc : Clr w N) : Clr w2 N := fun v h1 h2 => by
  cases e : bW w2 N v with
  | false => rfl
  | true => have := ((h.2 v h2).mp e).1; rw [hc v h1 h2] at this; cases this
set_option maxRecDepth 100000 in
set_option maxHeartbeats 800000 in
theorem c_strikeOutMultiples (l : Launch) (G : Gl) (σ : Sg) (b : Nat) (hb : Blk b) (c : Int32) (w : Nat → Int64) (k d : Int32) (li pa fr : Nat → Int32) (L m : Nat) (hL : L < 12) (hm2 : 2 ≤ m) (hm : m < 1000) : Cv l yX1_strikeOutMultiples cX1_strikeOutMultiples 4 ({ frames := 1, cells := 0, slots := 0, locals := 21 } : Room) G [.ref (G.2.1 + (b + 1)), .int (nI L), .int (nI m)] (sB σ b c w k d li pa fr) (fun σ2 => ∃ w1, σ2 = sB σ b c w1 k d li pa fr ∧ (∃ t, Str w w1 L m t) ∧ ∀ v, v < 1000 → (bW w1 L v = true ↔ (bW w L v = true ∧ ¬ (m < v ∧ v % m = 0)))) := by
  refine Cv_of (own := RX1) rfl (by decide +kernel) (lo := [(0, .ref (G.2.1 + (b + 1))), (1, .int (nI L)), (2, .int (nI m))]) rfl (Nat.le_of_ble_eq_true rfl) ?_
  intro x Q hxl h hret
  subst hxl
  refine r_iconst (pc := 0) (v := nI 2) h (by decide) dX1_strikeOutMultiples_0 ?_
  refine r_istore_n (pc := 1) (lo2 := [(3, .int (nI 2)), (0, .ref (G.2.1 + (b + 1))), (1, .int (nI L)), (2, .int (nI m))]) h rfl (by decide) rfl dX1_strikeOutMultiples_1 ?_
  have lp2 : ∀ (fu : Nat) (t : Nat) (w1 : Nat → Int64), 2 ≤ t → t ≤ 1000 → Str w w1 L m t → 1000 - t < fu → V x G 4 0 0 Q (sB σ b c w1 k d li pa fr) 2 [(0, .ref (G.2.1 + (b + 1))), (1, .int (nI L)), (2, .int (nI m)), (3, .int (nI t))] [] := by
    intro fu
    induction fu with
    | zero => intro t w1 ht ht9 hs hfu; exact absurd hfu (Nat.not_lt_zero _)
    | succ fu ih2 =>
      intro t w1 ht ht9 hs hfu
      refine r_iload_n (pc := 2) h 3 rfl rfl dX1_strikeOutMultiples_2 ?_
      refine r_sipush (pc := 3) (v := nI 1000) h (by decide) dX1_strikeOutMultiples_3 ?_
      refine r_icmp_ge (pc := 6) (tgt := 48) h (by decide) dX1_strikeOutMultiples_6 (fun c6 => ?_) (fun c6 => ?_)
      · skip
        rw [nI_leI (by omega) (by omega)] at c6
        exact hret _ (⟨w1, rfl, ⟨t, hs⟩, str_end hs hm2 ht (by first | exact Or.inl c6 | exact Or.inr c15)⟩) 48 _ dX1_strikeOutMultiples_48
      · skip
        rw [nI_leI (by omega) (by omega)] at c6
        have htm : t * m ≤ 1000 * 1000 := Nat.mul_le_mul (by omega) (by omega)
        refine r_iload_n (pc := 9) h 3 rfl rfl dX1_strikeOutMultiples_9 ?_
        refine r_iload_n (pc := 10) h 2 rfl rfl dX1_strikeOutMultiples_10 ?_
        refine r_imul (pc := 11) (v := nI (t * m)) h (pk_mul _ _) dX1_strikeOutMultiples_11 ?_
        refine r_sipush (pc := 12) (v := nI 999) h (by decide) dX1_strikeOutMultiples_12 ?_
        refine r_icmp_gt (pc := 15) (tgt := 48) h (by decide) dX1_strikeOutMultiples_15 (fun c15 => ?_) (fun c15 => ?_)
        · skip
          rw [nI_ltI (by omega) (by omega)] at c15
          exact hret _ (⟨w1, rfl, ⟨t, hs⟩, str_end hs hm2 ht (by first | exact Or.inl c6 | exact Or.inr c15)⟩) 48 _ dX1_strikeOutMultiples_48
        · skip
          rw [nI_ltI (by omega) (by omega)] at c15
          refine r_aload_n (pc := 18) h 0 rfl rfl dX1_strikeOutMultiples_18 ?_
          refine g_1_words (pc := 19) hb h mw_3_0 dX1_strikeOutMultiples_19 ?_
          refine r_iload_n (pc := 22) h 1 rfl rfl dX1_strikeOutMultiples_22 ?_
          refine r_iload_n (pc := 23) h 3 rfl rfl dX1_strikeOutMultiples_23 ?_
          refine r_iload_n (pc := 24) h 2 rfl rfl dX1_strikeOutMultiples_24 ?_
          refine r_imul (pc := 25) (v := nI (t * m)) h (pk_mul _ _) dX1_strikeOutMultiples_25 ?_
          refine r_cSi (pc := 26) (As := [.int (nI L), .int (nI (t * m))]) (st := [.ref (G.2.1 + (b + 2))]) h lk_RX1_29 (c_wordOf x.2.1 G (sB σ b c w1 k d li pa fr) L (t * m) (by omega)) (by decide) rfl rfl (by first | decide | exact Nat.le_of_ble_eq_true rfl) (by decide) dX1_strikeOutMultiples_26 (fun r1 s2 q3 => ?_)
          rw [q3.1, q3.2]
          refine r_dup2 (pc := 29) h rfl rfl dX1_strikeOutMultiples_29 ?_
          refine r_lald (pc := 30) h (a_wd hb) (L * 16 + (t * m) / 64) rfl (by omega) dX1_strikeOutMultiples_30 ?_
          refine r_topl (e := w1 (L * 16 + (t * m) / 64)) (sB_wj _ _ _ _ _ _ _ _ _ _) ?_
          refine r_lconst (pc := 31) (v := 1) h (by decide) dX1_strikeOutMultiples_31 ?_
          refine r_iload_n (pc := 32) h 3 rfl rfl dX1_strikeOutMultiples_32 ?_
          refine r_iload_n (pc := 33) h 2 rfl rfl dX1_strikeOutMultiples_33 ?_
          refine r_imul (pc := 34) (v := nI (t * m)) h (pk_mul _ _) dX1_strikeOutMultiples_34 ?_
          refine r_lshl (pc := 35) (v := 1 <<< ((nI (t * m)).toInt64 &&& 63)) h rfl dX1_strikeOutMultiples_35 ?_
          refine r_ldc2 (pc := 36) (v := (-1 : Int64)) h mw_9_15 dX1_strikeOutMultiples_36 ?_
          refine r_lxor (pc := 39) (v := (1 <<< ((nI (t * m)).toInt64 &&& 63)) ^^^ (-1 : Int64)) h rfl dX1_strikeOutMultiples_39 ?_
          refine r_land (pc := 40) (v := (w1 (L * 16 + (t * m) / 64)) &&& ((1 <<< ((nI (t * m)).toInt64 &&& 63)) ^^^ (-1 : Int64))) h rfl dX1_strikeOutMultiples_40 ?_
          refine r_last (pc := 41) h (a_wd hb) (L * 16 + (t * m) / 64) rfl (by omega) dX1_strikeOutMultiples_41 ?_
          refine V.sg (sB_sw _ _ _ _ _ _ _ _ _ _ _) ?_
          refine r_iinc (pc := 42) (v := nI (t + 1)) (lo2 := [(3, .int (nI (t + 1))), (0, .ref (G.2.1 + (b + 1))), (1, .int (nI L)), (2, .int (nI m))]) h 3 rfl (iinc1 _) (by decide) rfl dX1_strikeOutMultiples_42 ?_
          refine r_goto (pc := 45) (tgt := 2) h (by decide) dX1_strikeOutMultiples_45 ?_
          refine r_sub (lo2 := [(0, .ref (G.2.1 + (b + 1))), (1, .int (nI L)), (2, .int (nI m)), (3, .int (nI (t + 1)))]) [1, 2, 3, 0] rfl ?_
          exact ih2 (t + 1) _ (by omega) (by omega) (str_s hs ht (by omega)) (by omega)
  refine r_sub (lo2 := [(0, .ref (G.2.1 + (b + 1))), (1, .int (nI L)), (2, .int (nI m)), (3, .int (nI 2))]) [1, 2, 3, 0] rfl ?_
  exact lp2 _ 2 w (by omega) (by omega) (str_0 w L m) (Nat.lt_succ_self _)

set_option maxRecDepth 100000 in
set_option maxHeartbeats 800000 in
theorem c_addSieved (l : Launch) (G : Gl) (σ : Sg) (b : Nat) (hb : Blk b) (N : Nat) (hN : N < 12) (w : Nat → Int64) (k d : Int32) (li pa fr : Nat → Int32) (L : Nat) (hL : L < N) (hc : Clr w L) : Ci l yX1_addSieved cX1_addSieved 5 .int ({ frames := 3, cells := 0, slots := 0, locals := 69 } : Room) G [.ref (G.2.1 + (b + 1)), .int (nI L)] (sB σ b (nI N) w k d li pa fr) (fun r σ2 => ∃ w1, r = nI N ∧ σ2 = sB σ b (nI (N + 1)) w1 k d li pa fr ∧ Mk w w1 N (rSet 5 L 0 0 (bW w))) := by
  refine Ci_of (own := RX1) rfl (by decide +kernel) (lo := [(0, .ref (G.2.1 + (b + 1))), (1, .int (nI L))]) rfl (Nat.le_of_ble_eq_true rfl) (fun r s hp => by obtain ⟨_, rfl, _⟩ := hp; rfl) ?_
  intro x Q hxl h hret
  subst hxl
  refine r_aload_n (pc := 0) h 0 rfl rfl dX1_addSieved_0 ?_
  refine r_iload_n (pc := 1) h 1 rfl rfl dX1_addSieved_1 ?_
  refine r_iload_n (pc := 2) h 1 rfl rfl dX1_addSieved_2 ?_
  refine r_cVi (pc := 3) (As := [.int (nI L), .int (nI L)]) (st := []) h lk_RX1_67 (c_addJoined x.2.1 G σ b hb N (by omega) w k d li pa fr L L (by omega) (by omega) hc hc) (rc_1 hb) (by decide) rfl rfl (by first | decide | exact Nat.le_of_ble_eq_true rfl) (by decide) dX1_addSieved_3 (fun r2 s3 q4 => ?_)
  obtain ⟨wz1, ewz1, ewz1s, hwz1⟩ := q4
  subst ewz1
  subst ewz1s
  refine r_istore_n (pc := 6) (lo2 := [(2, .int (nI N)), (0, .ref (G.2.1 + (b + 1))), (1, .int (nI L))]) h rfl (by decide) rfl dX1_addSieved_6 ?_
  refine r_aload_n (pc := 7) h 1 rfl rfl dX1_addSieved_7 ?_
  refine r_iload_n (pc := 8) h 0 rfl rfl dX1_addSieved_8 ?_
  refine r_iconst (pc := 9) (v := nI 2) h (by decide) dX1_addSieved_9 ?_
  refine r_cVi (pc := 10) (As := [.int (nI N), .int (nI 2)]) (st := []) h lk_RX1_39 (c_nextFrom x.2.1 G (sB σ b (nI (N + 1)) wz1 k d li pa fr) b hb N 2 (by omega) (by omega) (by rw [sB_w]; exact hwz1.clr)) (rc_1 hb) (by decide) rfl rfl (by first | decide | exact Nat.le_of_ble_eq_true rfl) (by decide) dX1_addSieved_10 (fun r5 s6 q7 => ?_)
  rw [q7.1, q7.2, sB_w]
  refine r_istore_n (pc := 13) (lo2 := [(3, .int (oI (nxt (bW wz1 N) 2))), (2, .int (nI N)), (0, .ref (G.2.1 + (b + 1))), (1, .int (nI L))]) h rfl (by decide) rfl dX1_addSieved_13 ?_
  refine r_iconst (pc := 14) (v := nI 0) h (by decide) dX1_addSieved_14 ?_
  refine r_istore (pc := 15) (lo2 := [(4, .int (nI 0)), (3, .int (oI (nxt (bW wz1 N) 2))), (2, .int (nI N)), (0, .ref (G.2.1 + (b + 1))), (1, .int (nI L))]) h (by decide) rfl dX1_addSieved_15 ?_
  have lp17 : ∀ (fu : Nat) (i : Nat) (m : Nat) (w1 : Nat → Int64), i + 2 ≤ m → m ≤ 1000 → Off w w1 N → Clr w1 N → Svd w1 N (bW w L) m → 1000 - i < fu → V x G 5 0 0 Q (sB σ b (nI (N + 1)) w1 k d li pa fr) 17 [(0, .ref (G.2.1 + (b + 1))), (2, .int (nI N)), (3, .int (oI (nxt (bW w1 N) m))), (4, .int (nI i))] [] := by
    intro fu
    induction fu with
    | zero => intro i m w1 hi hm hO hcl hS hfu; exact absurd hfu (Nat.not_lt_zero _)
    | succ fu ih17 =>
      intro i m w1 hi hm hO hcl hS hfu
      refine r_iload (pc := 17) h 3 rfl dX1_addSieved_17 ?_
      refine r_sipush (pc := 19) (v := nI 1000) h (by decide) dX1_addSieved_19 ?_
      refine r_icmp_ge (pc := 22) (tgt := 51) h (by decide) dX1_addSieved_22 (fun c22 => ?_) (fun c22 => ?_)
      · skip
        rw [nI_leI (by omega) (by omega)] at c22
        exact absurd c22 (by omega)
      · skip
        rw [nI_leI (by omega) (by omega)] at c22
        refine r_iload_n (pc := 25) h 2 rfl rfl dX1_addSieved_25 ?_
        refine r_iconst (pc := 26) (v := (-1)) h (by decide) dX1_addSieved_26 ?_
        refine r_icmp_eq (pc := 27) (tgt := 51) h (by decide) dX1_addSieved_27 (fun c27 => ?_) (fun c27 => ?_)
        · skip
          refine r_iload_n (pc := 51) h 1 rfl rfl dX1_addSieved_51 ?_
          exact hret _ _ (⟨w1, rfl, rfl, svd_end hS hO hcl (oI_nxt.mp c27)⟩) 52 _ dX1_addSieved_52
        · skip
          obtain ⟨k1, hk1⟩ : ∃ k1, nxt (bW w1 N) m = some k1 := by
            cases e9 : nxt (bW w1 N) m with
            | none => exact absurd (by rw [e9]; rfl) c27
            | some v9 => exact ⟨v9, rfl⟩
          obtain ⟨k11, k12, k13, k14⟩ := nxt_spec hk1
          rw [hk1]
          refine r_sub (lo2 := [(0, .ref (G.2.1 + (b + 1))), (2, .int (nI N)), (3, .int (nI k1)), (4, .int (nI i))]) [0, 1, 2, 3] rfl ?_
          refine r_aload_n (pc := 30) h 0 rfl rfl dX1_addSieved_30 ?_
          refine r_iload_n (pc := 31) h 1 rfl rfl dX1_addSieved_31 ?_
          refine r_iload_n (pc := 32) h 2 rfl rfl dX1_addSieved_32 ?_
          refine r_cVv (pc := 33) (As := [.int (nI N), .int (nI k1)]) (st := []) h lk_RX1_70 (c_strikeOutMultiples x.2.1 G σ b hb (nI (N + 1)) w1 k d li pa fr N k1 (by omega) (by omega) (by omega)) (rc_1 hb) (by decide) rfl rfl (by first | decide | exact Nat.le_of_ble_eq_true rfl) (by decide) dX1_addSieved_33 (fun s10 q11 => ?_)
          obtain ⟨wz8, ewz8, ⟨twz8, swz8⟩, hwz8⟩ := q11
          subst ewz8
          refine r_aload_n (pc := 36) h 0 rfl rfl dX1_addSieved_36 ?_
          refine r_iload_n (pc := 37) h 1 rfl rfl dX1_addSieved_37 ?_
          refine r_iload_n (pc := 38) h 2 rfl rfl dX1_addSieved_38 ?_
          refine r_iconst (pc := 39) (v := nI 1) h (by decide) dX1_addSieved_39 ?_
          refine r_iadd (pc := 40) (v := nI (k1 + 1)) h (nI_add _ _) dX1_addSieved_40 ?_
          refine r_cVi (pc := 41) (As := [.int (nI N), .int (nI (k1 + 1))]) (st := []) h lk_RX1_39 (c_nextFrom x.2.1 G (sB σ b (nI (N + 1)) wz8 k d li pa fr) b hb N (k1 + 1) (by omega) (by omega) (by rw [sB_w]; exact (str_clr swz8 hcl))) (rc_1 hb) (by decide) rfl rfl (by first | decide | exact Nat.le_of_ble_eq_true rfl) (by decide) dX1_addSieved_41 (fun r12 s13 q14 => ?_)
          rw [q14.1, q14.2, sB_w]
          refine r_istore_n (pc := 44) (lo2 := [(3, .int (oI (nxt (bW wz8 N) (k1 + 1)))), (0, .ref (G.2.1 + (b + 1))), (2, .int (nI N)), (4, .int (nI i))]) h rfl (by decide) rfl dX1_addSieved_44 ?_
          refine r_iinc (pc := 45) (v := nI (i + 1)) (lo2 := [(4, .int (nI (i + 1))), (3, .int (oI (nxt (bW wz8 N) (k1 + 1)))), (0, .ref (G.2.1 + (b + 1))), (2, .int (nI N))]) h 3 rfl (iinc1 _) (by decide) rfl dX1_addSieved_45 ?_
          refine r_goto (pc := 48) (tgt := 17) h (by decide) dX1_addSieved_48 ?_
          refine r_sub (lo2 := [(0, .ref (G.2.1 + (b + 1))), (2, .int (nI N)), (3, .int (oI (nxt (bW wz8 N) (k1 + 1)))), (4, .int (nI (i + 1)))]) [2, 3, 1, 0] rfl ?_
          exact ih17 (i + 1) (k1 + 1) wz8 (by omega) (by omega) (hO.tr swz8.1) (str_clr swz8 hcl) (svd_step hS (by omega) hk1 hwz8) (by omega)
  refine r_sub (lo2 := [(0, .ref (G.2.1 + (b + 1))), (2, .int (nI N)), (3, .int (oI (nxt (bW wz1 N) 2))), (4, .int (nI 0))]) [3, 2, 1, 0] rfl ?_
  exact lp17 _ 0 2 wz1 (by omega) (by omega) hwz1.1 hwz1.clr (svd_0 hwz1) (Nat.lt_succ_self _)

