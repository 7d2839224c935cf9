/-! LISTS: the makers, rule by rule -/
theorem mk_steps {w w1 : Nat → Int64} {N u q i : Nat} {M : Nat → Nat → Bool} (h : Mk w w1 N (fun v => ∃ j, j < i ∧ v = u + j * q)) (hq : 1 ≤ q) (he : 1000 ≤ i ∨ 999 < u + i * q) : Mk w w1 N (rSet 0 u q 0 M) := by
  refine h.iff (fun v hv => ?_)
  show _ ↔ (u ≤ v ∧ (v - u) % q = 0)
  constructor
  · rintro ⟨j, h1, rfl⟩
    exact ⟨Nat.le_add_right _ _, by rw [Nat.add_sub_cancel_left]; exact Nat.mul_mod_left _ _⟩
  · rintro ⟨h1, h2⟩
    have e : (v - u) / q * q = v - u := Nat.div_mul_cancel (Nat.dvd_of_mod_eq_zero h2)
    refine ⟨(v - u) / q, ?_, by omega⟩
    rcases he with h3 | h3
    · have : (v - u) / q ≤ v - u := Nat.div_le_self _ _
      omega
    · rcases Nat.lt_or_ge ((v - u) / q) i with h4 | h4
      · exact h4
      · have := Nat.mul_le_mul_right q h4
        omega
theorem st_steps {u q i v : Nat} : ((∃ j, j < i ∧ v = u + j * q) ∨ v = u + i * q) ↔ ∃ j, j < i + 1 ∧ v = u + j * q := by
  constructor
  · rintro (⟨j, h1, h2⟩ | h)
    · exact ⟨j, by omega, h2⟩
    · exact ⟨i, by omega, h⟩
  · rintro ⟨j, h1, h2⟩
    rcases Nat.lt_or_ge j i with q | q
    · exact Or.inl ⟨j, q, h2⟩
    · have : j = i := by omega
      subst this; exact Or.inr h2
theorem st_walk {S : Nat → Bool} {m v x : Nat} {P : Nat → Nat → Prop} (h : nxt S m = some v) : ((∃ u, u < m ∧ S u = true ∧ P u x) ∨ P v x) ↔ ∃ u, u < v + 1 ∧ S u = true ∧ P u x := by
  obtain ⟨h1, h2, h3, h4⟩ := nxt_spec h
  constructor
  · rintro (⟨u, a, b⟩ | a)
    · exact ⟨u, by omega, b⟩
    · exact ⟨v, by omega, h3, a⟩
  · rintro ⟨u, a, b, c⟩
    rcases Nat.lt_or_ge u m with q | q
    · exact Or.inl ⟨u, q, b, c⟩
    · rcases Nat.lt_or_ge u v with q2 | q2
      · rw [h4 u q q2] at b; cases b
      · have : u = v := by omega
        subst this; exact Or.inr c
theorem st_walkN {S : Nat → Bool} {m v x : Nat} {P : Nat → Nat → Prop} (h : nxt S m = some v) (hn : ¬ P v x) : (∃ u, u < m ∧ S u = true ∧ P u x) ↔ ∃ u, u < v + 1 ∧ S u = true ∧ P u x :=
  ⟨fun q => (st_walk h).mp (Or.inl q), fun q => ((st_walk h).mpr q).resolve_right hn⟩
/-- the walk is at its end -/
def EndW (S : Nat → Bool) (m : Nat) : Prop := ∀ u, m ≤ u → u < 1000 → S u = false
theorem endA {S : Nat → Bool} {m : Nat} (h : nxt S m = none) : EndW S m := nxt_specN h
theorem endB {S : Nat → Bool} {m i : Nat} (h : 1000 ≤ i) (hi : i ≤ m) : EndW S m := fun u h1 h2 => by omega
theorem mk_walk {w w1 : Nat → Int64} {N m : Nat} {S : Nat → Bool} {P : Nat → Nat → Prop} (h : Mk w w1 N (fun x => ∃ u, u < m ∧ S u = true ∧ P u x)) (hm : m ≤ 1000) (he : EndW S m) : Mk w w1 N (fun x => ∃ u, u < 1000 ∧ S u = true ∧ P u x) := by
  refine h.iff (fun v hv => ?_)
  constructor
  · rintro ⟨u, a, b⟩; exact ⟨u, by omega, b⟩
  · rintro ⟨u, a, b, c⟩
    rcases Nat.lt_or_ge u m with q | q
    · exact ⟨u, q, b, c⟩
    · rw [he u q a] at b; cases b
theorem smU_nxt {S : Nat → Bool} {m v : Nat} (h : nxt S m = some v) : smU S m + v = smU S (v + 1) := by
  obtain ⟨h1, h2, h3, h4⟩ := nxt_spec h
  obtain ⟨k, rfl⟩ := Nat.le.dest h1
  rw [smU, smU_skip m k (fun u a b => h4 u a b), if_pos h3]
theorem mk_bits {g : Bool → Bool → Bool} {w w1 : Nat → Int64} {N L K : Nat} (hO : Off w w1 N) (h : ∀ i, i < 16 → ∀ j, j < 64 → (w1 (N * 16 + i)).toBitVec.getLsbD j = g ((w (L * 16 + i)).toBitVec.getLsbD j) ((w (K * 16 + i)).toBitVec.getLsbD j)) (hL : Clr w L) (hK : Clr w K) (g0 : g false false = false) : Mk w w1 N (fun v => g (bW w L v) (bW w K v) = true) := by
  refine ⟨hO, fun v hv => ?_⟩
  have e : bW w1 N v = g (bW w L v) (bW w K v) := h (v / 64) (by omega) (v % 64) (Nat.mod_lt _ (by decide))
  rw [e]
  constructor
  · intro q
    refine ⟨?_, q⟩
    rcases Nat.lt_or_ge v 1000 with a | a
    · exact a
    · rw [hL v a hv, hK v a hv, g0] at q; cases q
  · exact And.right
theorem z_atX {w1 : Nat → Int64} {N i : Nat} {F : Nat → Int64} {X : Int64} (h0 : ∀ j, j < i → w1 (N * 16 + j) = F j) (hX : X = F i) : ∀ j, j < i + 1 → vp_updL w1 (N * 16 + i) X (N * 16 + j) = F j := fun j hj => by
  unfold vp_updL
  by_cases e : j = i
  · subst e; rw [if_pos rfl]; exact hX
  · rw [if_neg (by omega)]; exact h0 j (by omega)
theorem xor_m1 (a : Int64) {j : Nat} (hj : j < 64) : (a ^^^ (-1)).toBitVec.getLsbD j = !(a.toBitVec.getLsbD j) := by
  rw [xor_bit, m1_bit hj]; simp
theorem thin_end {S : Nat → Bool} {q x : Nat} (hx : x < 1000) : (∃ u, u < 1000 ∧ S u = true ∧ (cS S (u + 1) % q = 0 ∧ x = u)) ↔ (S x = true ∧ cS S (x + 1) % q = 0) :=
  ⟨fun ⟨u, _, b, c, d⟩ => by subst d; exact ⟨b, c⟩, fun ⟨a, b⟩ => ⟨x, hx, a, b, rfl⟩⟩
theorem mod_up {c q : Nat} (hq : 1 ≤ q) : (c + 1) % q = if c % q + 1 = q then 0 else c % q + 1 := by
  have h := Nat.mod_lt c hq
  have e : c + 1 = q * (c / q) + (c % q + 1) := by have := Nat.div_add_mod c q; omega
  by_cases h1 : c % q + 1 = q
  · rw [if_pos h1, e, h1, ← Nat.mul_succ, Nat.mul_mod_right]
  · rw [if_neg h1, e, Nat.mul_add_mod, Nat.mod_eq_of_lt (by omega)]
theorem st_thinN {S : Nat → Bool} {m v q x : Nat} (h : nxt S m = some v) (h0 : ¬ cS S (v + 1) % q = 0) : (∃ u, u < m ∧ S u = true ∧ (cS S (u + 1) % q = 0 ∧ x = u)) ↔ ∃ u, u < v + 1 ∧ S u = true ∧ (cS S (u + 1) % q = 0 ∧ x = u) := st_walkN (P := fun u x => cS S (u + 1) % q = 0 ∧ x = u) h (fun q => h0 q.1)
theorem st_thin {S : Nat → Bool} {m v q x : Nat} (h : nxt S m = some v) (h0 : cS S (v + 1) % q = 0) : ((∃ u, u < m ∧ S u = true ∧ (cS S (u + 1) % q = 0 ∧ x = u)) ∨ x = v) ↔ ∃ u, u < v + 1 ∧ S u = true ∧ (cS S (u + 1) % q = 0 ∧ x = u) :=
  ⟨fun a => (st_walk (P := fun u x => cS S (u + 1) % q = 0 ∧ x = u) h).mp (a.imp id (fun b => ⟨h0, b⟩)), fun a => ((st_walk (P := fun u x => cS S (u + 1) % q = 0 ∧ x = u) h).mpr a).imp id And.right⟩
set_option maxRecDepth 100000 in
set_option maxHeartbeats 800000 in
theorem c_addSteps (l : Launch) (G : Gl) (σ : Sg) (b : Nat) (hb : Blk b) (N : Nat) (hN : N < 12) (w : Nat → Int64) (k d : Int32) (li pa fr : Nat → Int32) (u q : Nat) (hu : u < 1000) (hq : 1 ≤ q) (hq9 : q ≤ 99) : Ci l yX1_addSteps cX1_addSteps 5 .int ({ frames := 2, cells := 0, slots := 0, locals := 44 } : Room) G [.ref (G.2.1 + (b + 1)), .int (nI u), .int (nI q)] (sB σ b (nI N) w k d li pa fr) (fun r σ2 => ∃ w1, r = nI N ∧ σ2 = sB σ b (nI (N + 1)) w1 k d li pa fr ∧ Mk w w1 N (rSet 0 u q 0 (bW w))) := by
  refine Ci_of (own := RX1) rfl (by decide +kernel) (lo := [(0, .ref (G.2.1 + (b + 1))), (1, .int (nI u)), (2, .int (nI q))]) rfl (Nat.le_of_ble_eq_true rfl) (fun r s hp => by obtain ⟨_, rfl, _⟩ := hp; rfl) ?_
  intro x Q hxl h hret
  subst hxl
  refine r_aload_n (pc := 0) h 0 rfl rfl dX1_addSteps_0 ?_
  refine r_cVi (pc := 1) (As := []) (st := []) h lk_RX1_59 (c_addEmpty x.2.1 G σ b hb N (by omega) w k d li pa fr) (rc_1 hb) (by decide) rfl rfl (by first | decide | exact Nat.le_of_ble_eq_true rfl) (by decide) dX1_addSteps_1 (fun r2 s3 q4 => ?_)
  obtain ⟨wz1, ewz1, ewz1s, hwz1⟩ := q4
  subst ewz1
  subst ewz1s
  refine r_istore_n (pc := 4) (lo2 := [(3, .int (nI N)), (0, .ref (G.2.1 + (b + 1))), (1, .int (nI u)), (2, .int (nI q))]) h rfl (by decide) rfl dX1_addSteps_4 ?_
  refine r_iconst (pc := 5) (v := nI 0) h (by decide) dX1_addSteps_5 ?_
  refine r_istore (pc := 6) (lo2 := [(4, .int (nI 0)), (3, .int (nI N)), (0, .ref (G.2.1 + (b + 1))), (1, .int (nI u)), (2, .int (nI q))]) h (by decide) rfl dX1_addSteps_6 ?_
  have lp8 : ∀ (fu : Nat) (i : Nat) (w1 : Nat → Int64), i ≤ 1000 → Mk w w1 N (fun v => ∃ j, j < i ∧ v = u + j * q) → 1000 - i < fu → V x G 5 0 0 Q (sB σ b (nI (N + 1)) w1 k d li pa fr) 8 [(0, .ref (G.2.1 + (b + 1))), (1, .int (nI u)), (2, .int (nI q)), (3, .int (nI N)), (4, .int (nI i))] [] := by
    intro fu
    induction fu with
    | zero => intro i w1 hi hM hfu; exact absurd hfu (Nat.not_lt_zero _)
    | succ fu ih8 =>
      intro i w1 hi hM hfu
      refine r_iload (pc := 8) h 4 rfl dX1_addSteps_8 ?_
      refine r_sipush (pc := 10) (v := nI 1000) h (by decide) dX1_addSteps_10 ?_
      refine r_icmp_ge (pc := 13) (tgt := 45) h (by decide) dX1_addSteps_13 (fun c13 => ?_) (fun c13 => ?_)
      · skip
        rw [nI_leI (by omega) (by omega)] at c13
        refine r_iload_n (pc := 45) h 3 rfl rfl dX1_addSteps_45 ?_
        exact hret _ _ (⟨w1, rfl, rfl, mk_steps hM hq (by first | exact Or.inl c13 | exact Or.inr c25)⟩) 46 _ dX1_addSteps_46
      · skip
        rw [nI_leI (by omega) (by omega)] at c13
        have hiq : i * q ≤ 1000 * 99 := Nat.mul_le_mul (by omega) (by omega)
        refine r_iload_n (pc := 16) h 1 rfl rfl dX1_addSteps_16 ?_
        refine r_iload (pc := 17) h 4 rfl dX1_addSteps_17 ?_
        refine r_iload_n (pc := 19) h 2 rfl rfl dX1_addSteps_19 ?_
        refine r_imul (pc := 20) (v := nI (i * q)) h (pk_mul _ _) dX1_addSteps_20 ?_
        refine r_iadd (pc := 21) (v := nI (u + (i * q))) h (nI_add _ _) dX1_addSteps_21 ?_
        refine r_sipush (pc := 22) (v := nI 999) h (by decide) dX1_addSteps_22 ?_
        refine r_icmp_gt (pc := 25) (tgt := 45) h (by decide) dX1_addSteps_25 (fun c25 => ?_) (fun c25 => ?_)
        · skip
          rw [nI_ltI (by omega) (by omega)] at c25
          refine r_iload_n (pc := 45) h 3 rfl rfl dX1_addSteps_45 ?_
          exact hret _ _ (⟨w1, rfl, rfl, mk_steps hM hq (by first | exact Or.inl c13 | exact Or.inr c25)⟩) 46 _ dX1_addSteps_46
        · skip
          rw [nI_ltI (by omega) (by omega)] at c25
          refine r_aload_n (pc := 28) h 0 rfl rfl dX1_addSteps_28 ?_
          refine r_iload_n (pc := 29) h 3 rfl rfl dX1_addSteps_29 ?_
          refine r_iload_n (pc := 30) h 1 rfl rfl dX1_addSteps_30 ?_
          refine r_iload (pc := 31) h 4 rfl dX1_addSteps_31 ?_
          refine r_iload_n (pc := 33) h 2 rfl rfl dX1_addSteps_33 ?_
          refine r_imul (pc := 34) (v := nI (i * q)) h (pk_mul _ _) dX1_addSteps_34 ?_
          refine r_iadd (pc := 35) (v := nI (u + (i * q))) h (nI_add _ _) dX1_addSteps_35 ?_
          refine r_cVv (pc := 36) (As := [.int (nI N), .int (nI (u + (i * q)))]) (st := []) h lk_RX1_63 (c_put x.2.1 G σ b hb (nI (N + 1)) w1 k d li pa fr N (u + (i * q)) (by omega) (by omega)) (rc_1 hb) (by decide) rfl rfl (by first | decide | exact Nat.le_of_ble_eq_true rfl) (by decide) dX1_addSteps_36 (fun s6 q7 => ?_)
          subst q7
          refine r_iinc (pc := 39) (v := nI (i + 1)) (lo2 := [(4, .int (nI (i + 1))), (0, .ref (G.2.1 + (b + 1))), (1, .int (nI u)), (2, .int (nI q)), (3, .int (nI N))]) h 4 rfl (iinc1 _) (by decide) rfl dX1_addSteps_39 ?_
          refine r_goto (pc := 42) (tgt := 8) h (by decide) dX1_addSteps_42 ?_
          refine r_sub (lo2 := [(0, .ref (G.2.1 + (b + 1))), (1, .int (nI u)), (2, .int (nI q)), (3, .int (nI N)), (4, .int (nI (i + 1)))]) [1, 2, 3, 4, 0] rfl ?_
          exact ih8 (i + 1) _ (by omega) ((mk_put hM _).iff (fun v hv => st_steps)) (by omega)
  refine r_sub (lo2 := [(0, .ref (G.2.1 + (b + 1))), (1, .int (nI u)), (2, .int (nI q)), (3, .int (nI N)), (4, .int (nI 0))]) [2, 3, 4, 1, 0] rfl ?_
  exact lp8 _ 0 wz1 (by omega) (hwz1.iff (fun v hv => ⟨fun q => q.elim, fun ⟨j, q, _⟩ => absurd q (Nat.not_lt_zero j)⟩)) (Nat.lt_succ_self _)

set_option maxRecDepth 100000 in
set_option maxHeartbeats 800000 in
theorem c_addScaled (l : Launch) (G : Gl) (σ : Sg) (b : Nat) (hb : Blk b) (N : Nat) (hN : N < 12) (w : Nat → Int64) (k d : Int32) (li pa fr : Nat → Int32) (L : Nat) (hL : L < N) (hc : Clr w L) (q z : Nat) (hq : q ≤ 9) (hz : z ≤ 99) : Ci l yX1_addScaled cX1_addScaled 7 .int ({ frames := 3, cells := 0, slots := 0, locals := 69 } : Room) G [.ref (G.2.1 + (b + 1)), .int (nI L), .int (nI q), .int (nI z)] (sB σ b (nI N) w k d li pa fr) (fun r σ2 => ∃ w1, r = nI N ∧ σ2 = sB σ b (nI (N + 1)) w1 k d li pa fr ∧ Mk w w1 N (rSet 1 L q z (bW w))) := by
  refine Ci_of (own := RX1) rfl (by decide +kernel) (lo := [(0, .ref (G.2.1 + (b + 1))), (1, .int (nI L)), (2, .int (nI q)), (3, .int (nI z))]) rfl (Nat.le_of_ble_eq_true rfl) (fun r s hp => by obtain ⟨_, rfl, _⟩ := hp; rfl) ?_
  intro x Q hxl h hret
  subst hxl
  refine r_aload_n (pc := 0) h 0 rfl rfl dX1_addScaled_0 ?_
  refine r_cVi (pc := 1) (As := []) (st := []) h lk_RX1_59 (c_addEmpty x.2.1 G σ b hb N (by omega) w k d li pa fr) (rc_1 hb) (by decide) rfl rfl (by first | decide | exact Nat.le_of_ble_eq_true rfl) (by decide) dX1_addScaled_1 (fun r2 s3 q4 => ?_)
  obtain ⟨wz1, ewz1, ewz1s, hwz1⟩ := q4
  subst ewz1
  subst ewz1s
  refine r_istore (pc := 4) (lo2 := [(4, .int (nI N)), (0, .ref (G.2.1 + (b + 1))), (1, .int (nI L)), (2, .int (nI q)), (3, .int (nI z))]) h (by decide) rfl dX1_addScaled_4 ?_
  refine r_aload_n (pc := 6) h 1 rfl rfl dX1_addScaled_6 ?_
  refine r_iload_n (pc := 7) h 2 rfl rfl dX1_addScaled_7 ?_
  refine r_iconst (pc := 8) (v := nI 0) h (by decide) dX1_addScaled_8 ?_
  refine r_cVi (pc := 9) (As := [.int (nI L), .int (nI 0)]) (st := []) h lk_RX1_39 (c_nextFrom x.2.1 G (sB σ b (nI (N + 1)) wz1 k d li pa fr) b hb L 0 (by omega) (by omega) (by rw [sB_w]; exact hwz1.clrL (by omega) hc)) (rc_1 hb) (by decide) rfl rfl (by first | decide | exact Nat.le_of_ble_eq_true rfl) (by decide) dX1_addScaled_9 (fun r5 s6 q7 => ?_)
  rw [q7.1, q7.2, sB_w, hwz1.nxt (by omega)]
  refine r_istore (pc := 12) (lo2 := [(5, .int (oI (nxt (bW w L) 0))), (4, .int (nI N)), (0, .ref (G.2.1 + (b + 1))), (1, .int (nI L)), (2, .int (nI q)), (3, .int (nI z))]) h (by decide) rfl dX1_addScaled_12 ?_
  refine r_iconst (pc := 14) (v := nI 0) h (by decide) dX1_addScaled_14 ?_
  refine r_istore (pc := 15) (lo2 := [(6, .int (nI 0)), (5, .int (oI (nxt (bW w L) 0))), (4, .int (nI N)), (0, .ref (G.2.1 + (b + 1))), (1, .int (nI L)), (2, .int (nI q)), (3, .int (nI z))]) h (by decide) rfl dX1_addScaled_15 ?_
  have lp17 : ∀ (fu : Nat) (i : Nat) (m : Nat) (w1 : Nat → Int64), i ≤ m → m ≤ 1000 → Mk w w1 N (fun x => ∃ u, u < m ∧ bW w L u = true ∧ x = u * q + z) → 1000 - i < fu → V x G 7 0 0 Q (sB σ b (nI (N + 1)) w1 k d li pa fr) 17 [(0, .ref (G.2.1 + (b + 1))), (1, .int (nI L)), (2, .int (nI q)), (3, .int (nI z)), (4, .int (nI N)), (5, .int (oI (nxt (bW w L) m))), (6, .int (nI i))] [] := by
    intro fu
    induction fu with
    | zero => intro i m w1 hi hm hM hfu; exact absurd hfu (Nat.not_lt_zero _)
    | succ fu ih17 =>
      intro i m w1 hi hm hM hfu
      refine r_iload (pc := 17) h 6 rfl dX1_addScaled_17 ?_
      refine r_sipush (pc := 19) (v := nI 1000) h (by decide) dX1_addScaled_19 ?_
      refine r_icmp_ge (pc := 22) (tgt := 60) h (by decide) dX1_addScaled_22 (fun c22 => ?_) (fun c22 => ?_)
      · skip
        rw [nI_leI (by omega) (by omega)] at c22
        refine r_iload (pc := 60) h 4 rfl dX1_addScaled_60 ?_
        exact hret _ _ (⟨w1, rfl, rfl, (mk_walk hM hm (by first | exact endA (oI_nxt.mp c28) | exact endB c22 hi)).iff (fun x hx => Iff.rfl)⟩) 62 _ dX1_addScaled_62
      · skip
        rw [nI_leI (by omega) (by omega)] at c22
        refine r_iload (pc := 25) h 5 rfl dX1_addScaled_25 ?_
        refine r_iconst (pc := 27) (v := (-1)) h (by decide) dX1_addScaled_27 ?_
        refine r_icmp_eq (pc := 28) (tgt := 60) h (by decide) dX1_addScaled_28 (fun c28 => ?_) (fun c28 => ?_)
        · skip
          refine r_iload (pc := 60) h 4 rfl dX1_addScaled_60 ?_
          exact hret _ _ (⟨w1, rfl, rfl, (mk_walk hM hm (by first | exact endA (oI_nxt.mp c28) | exact endB c22 hi)).iff (fun x hx => Iff.rfl)⟩) 62 _ dX1_addScaled_62
        · skip
          obtain ⟨v, hv⟩ : ∃ v, nxt (bW w L) m = some v := by
            cases e9 : nxt (bW w L) m with
            | none => exact absurd (by rw [e9]; rfl) c28
            | some v9 => exact ⟨v9, rfl⟩
          obtain ⟨v1, v2, v3, v4⟩ := nxt_spec hv
          rw [hv]
          refine r_sub (lo2 := [(0, .ref (G.2.1 + (b + 1))), (1, .int (nI L)), (2, .int (nI q)), (3, .int (nI z)), (4, .int (nI N)), (5, .int (nI v)), (6, .int (nI i))]) [0, 1, 2, 3, 4, 5, 6] rfl ?_
          have hvq : v * q ≤ 1000 * 9 := Nat.mul_le_mul (by omega) (by omega)
          refine r_aload_n (pc := 31) h 0 rfl rfl dX1_addScaled_31 ?_
          refine r_iload (pc := 32) h 4 rfl dX1_addScaled_32 ?_
          refine r_iload (pc := 34) h 5 rfl dX1_addScaled_34 ?_
          refine r_iload_n (pc := 36) h 2 rfl rfl dX1_addScaled_36 ?_
          refine r_imul (pc := 37) (v := nI (v * q)) h (pk_mul _ _) dX1_addScaled_37 ?_
          refine r_iload_n (pc := 38) h 3 rfl rfl dX1_addScaled_38 ?_
          refine r_iadd (pc := 39) (v := nI ((v * q) + z)) h (nI_add _ _) dX1_addScaled_39 ?_
          refine r_cVv (pc := 40) (As := [.int (nI N), .int (nI ((v * q) + z))]) (st := []) h lk_RX1_63 (c_put x.2.1 G σ b hb (nI (N + 1)) w1 k d li pa fr N ((v * q) + z) (by omega) (by omega)) (rc_1 hb) (by decide) rfl rfl (by first | decide | exact Nat.le_of_ble_eq_true rfl) (by decide) dX1_addScaled_40 (fun s9 q10 => ?_)
          subst q10
          refine r_aload_n (pc := 43) h 0 rfl rfl dX1_addScaled_43 ?_
          refine r_iload_n (pc := 44) h 1 rfl rfl dX1_addScaled_44 ?_
          refine r_iload (pc := 45) h 5 rfl dX1_addScaled_45 ?_
          refine r_iconst (pc := 47) (v := nI 1) h (by decide) dX1_addScaled_47 ?_
          refine r_iadd (pc := 48) (v := nI (v + 1)) h (nI_add _ _) dX1_addScaled_48 ?_
          refine r_cVi (pc := 49) (As := [.int (nI L), .int (nI (v + 1))]) (st := []) h lk_RX1_39 (c_nextFrom x.2.1 G (sB σ b (nI (N + 1)) (putB w1 N ((v * q) + z)) k d li pa fr) b hb L (v + 1) (by omega) (by omega) (by rw [sB_w]; exact (mk_put hM ((v * q) + z)).clrL (by omega) hc)) (rc_1 hb) (by decide) rfl rfl (by first | decide | exact Nat.le_of_ble_eq_true rfl) (by decide) dX1_addScaled_49 (fun r11 s12 q13 => ?_)
          rw [q13.1, q13.2, sB_w, (mk_put hM ((v * q) + z)).nxt (by omega)]
          refine r_istore (pc := 52) (lo2 := [(5, .int (oI (nxt (bW w L) (v + 1)))), (0, .ref (G.2.1 + (b + 1))), (1, .int (nI L)), (2, .int (nI q)), (3, .int (nI z)), (4, .int (nI N)), (6, .int (nI i))]) h (by decide) rfl dX1_addScaled_52 ?_
          refine r_iinc (pc := 54) (v := nI (i + 1)) (lo2 := [(6, .int (nI (i + 1))), (5, .int (oI (nxt (bW w L) (v + 1)))), (0, .ref (G.2.1 + (b + 1))), (1, .int (nI L)), (2, .int (nI q)), (3, .int (nI z)), (4, .int (nI N))]) h 6 rfl (iinc1 _) (by decide) rfl dX1_addScaled_54 ?_
          refine r_goto (pc := 57) (tgt := 17) h (by decide) dX1_addScaled_57 ?_
          refine r_sub (lo2 := [(0, .ref (G.2.1 + (b + 1))), (1, .int (nI L)), (2, .int (nI q)), (3, .int (nI z)), (4, .int (nI N)), (5, .int (oI (nxt (bW w L) (v + 1)))), (6, .int (nI (i + 1)))]) [2, 3, 4, 5, 6, 1, 0] rfl ?_
          exact ih17 (i + 1) (v + 1) _ (by omega) (by omega) ((mk_put hM _).iff (fun x hx => st_walk (P := fun u x => x = u * q + z) hv)) (by omega)
  refine r_sub (lo2 := [(0, .ref (G.2.1 + (b + 1))), (1, .int (nI L)), (2, .int (nI q)), (3, .int (nI z)), (4, .int (nI N)), (5, .int (oI (nxt (bW w L) 0))), (6, .int (nI 0))]) [3, 4, 5, 6, 2, 1, 0] rfl ?_
  exact lp17 _ 0 0 wz1 (by omega) (by omega) (hwz1.iff (fun v hv => ⟨fun q => q.elim, fun ⟨j, q, _⟩ => absurd q (Nat.not_lt_zero j)⟩)) (Nat.lt_succ_self _)

set_option maxRecDepth 100000 in
set_option maxHeartbeats 800000 in
theorem c_addThinned (l : Launch) (G : Gl) (σ : Sg) (b : Nat) (hb : Blk b) (N : Nat) (hN : N < 12) (w : Nat → Int64) (k d : Int32) (li pa fr : Nat → Int32) (L : Nat) (hL : L < N) (hc : Clr w L) (q : Nat) (hq1 : 1 ≤ q) (hq : q ≤ 9) : Ci l yX1_addThinned cX1_addThinned 7 .int ({ frames := 3, cells := 0, slots := 0, locals := 69 } : Room) G [.ref (G.2.1 + (b + 1)), .int (nI L), .int (nI q)] (sB σ b (nI N) w k d li pa fr) (fun r σ2 => ∃ w1, r = nI N ∧ σ2 = sB σ b (nI (N + 1)) w1 k d li pa fr ∧ Mk w w1 N (rSet 6 L q 0 (bW w))) := by
  refine Ci_of (own := RX1) rfl (by decide +kernel) (lo := [(0, .ref (G.2.1 + (b + 1))), (1, .int (nI L)), (2, .int (nI q))]) rfl (Nat.le_of_ble_eq_true rfl) (fun r s hp => by obtain ⟨_, rfl, _⟩ := hp; rfl) ?_
  intro x Q hxl h hret
  subst hxl
  refine r_aload_n (pc := 0) h 0 rfl rfl dX1_addThinned_0 ?_
  refine r_cVi (pc := 1) (As := []) (st := []) h lk_RX1_59 (c_addEmpty x.2.1 G σ b hb N (by omega) w k d li pa fr) (rc_1 hb) (by decide) rfl rfl (by first | decide | exact Nat.le_of_ble_eq_true rfl) (by decide) dX1_addThinned_1 (fun r2 s3 q4 => ?_)
  obtain ⟨wz1, ewz1, ewz1s, hwz1⟩ := q4
  subst ewz1
  subst ewz1s
  refine r_istore_n (pc := 4) (lo2 := [(3, .int (nI N)), (0, .ref (G.2.1 + (b + 1))), (1, .int (nI L)), (2, .int (nI q))]) h rfl (by decide) rfl dX1_addThinned_4 ?_
  refine r_aload_n (pc := 5) h 1 rfl rfl dX1_addThinned_5 ?_
  refine r_iload_n (pc := 6) h 2 rfl rfl dX1_addThinned_6 ?_
  refine r_iconst (pc := 7) (v := nI 0) h (by decide) dX1_addThinned_7 ?_
  refine r_cVi (pc := 8) (As := [.int (nI L), .int (nI 0)]) (st := []) h lk_RX1_39 (c_nextFrom x.2.1 G (sB σ b (nI (N + 1)) wz1 k d li pa fr) b hb L 0 (by omega) (by omega) (by rw [sB_w]; exact hwz1.clrL (by omega) hc)) (rc_1 hb) (by decide) rfl rfl (by first | decide | exact Nat.le_of_ble_eq_true rfl) (by decide) dX1_addThinned_8 (fun r5 s6 q7 => ?_)
  rw [q7.1, q7.2, sB_w, hwz1.nxt (by omega)]
  refine r_istore (pc := 11) (lo2 := [(4, .int (oI (nxt (bW w L) 0))), (3, .int (nI N)), (0, .ref (G.2.1 + (b + 1))), (1, .int (nI L)), (2, .int (nI q))]) h (by decide) rfl dX1_addThinned_11 ?_
  refine r_iconst (pc := 13) (v := nI 0) h (by decide) dX1_addThinned_13 ?_
  refine r_istore (pc := 14) (lo2 := [(5, .int (nI 0)), (4, .int (oI (nxt (bW w L) 0))), (3, .int (nI N)), (0, .ref (G.2.1 + (b + 1))), (1, .int (nI L)), (2, .int (nI q))]) h (by decide) rfl dX1_addThinned_14 ?_
  refine r_iconst (pc := 16) (v := nI 0) h (by decide) dX1_addThinned_16 ?_
  refine r_istore (pc := 17) (lo2 := [(6, .int (nI 0)), (5, .int (nI 0)), (4, .int (oI (nxt (bW w L) 0))), (3, .int (nI N)), (0, .ref (G.2.1 + (b + 1))), (1, .int (nI L)), (2, .int (nI q))]) h (by decide) rfl dX1_addThinned_17 ?_
  have lp19 : ∀ (fu : Nat) (i : Nat) (m : Nat) (w1 : Nat → Int64), i ≤ m → m ≤ 1000 → Mk w w1 N (fun x => ∃ u, u < m ∧ bW w L u = true ∧ (cS (bW w L) (u + 1) % q = 0 ∧ x = u)) → 1000 - i < fu → V x G 7 0 0 Q (sB σ b (nI (N + 1)) w1 k d li pa fr) 19 [(0, .ref (G.2.1 + (b + 1))), (1, .int (nI L)), (2, .int (nI q)), (3, .int (nI N)), (4, .int (oI (nxt (bW w L) m))), (5, .int (nI (cS (bW w L) m % q))), (6, .int (nI i))] [] := by
    intro fu
    induction fu with
    | zero => intro i m w1 hi hm hM hfu; exact absurd hfu (Nat.not_lt_zero _)
    | succ fu ih19 =>
      intro i m w1 hi hm hM hfu
      refine r_iload (pc := 19) h 6 rfl dX1_addThinned_19 ?_
      refine r_sipush (pc := 21) (v := nI 1000) h (by decide) dX1_addThinned_21 ?_
      refine r_icmp_ge (pc := 24) (tgt := 69) h (by decide) dX1_addThinned_24 (fun c24 => ?_) (fun c24 => ?_)
      · skip
        rw [nI_leI (by omega) (by omega)] at c24
        refine r_iload_n (pc := 69) h 3 rfl rfl dX1_addThinned_69 ?_
        exact hret _ _ (⟨w1, rfl, rfl, (mk_walk hM hm (by first | exact endA (oI_nxt.mp c30) | exact endB c24 hi)).iff (fun x hx => thin_end hx)⟩) 70 _ dX1_addThinned_70
      · skip
        rw [nI_leI (by omega) (by omega)] at c24
        refine r_iload (pc := 27) h 4 rfl dX1_addThinned_27 ?_
        refine r_iconst (pc := 29) (v := (-1)) h (by decide) dX1_addThinned_29 ?_
        refine r_icmp_eq (pc := 30) (tgt := 69) h (by decide) dX1_addThinned_30 (fun c30 => ?_) (fun c30 => ?_)
        · skip
          refine r_iload_n (pc := 69) h 3 rfl rfl dX1_addThinned_69 ?_
          exact hret _ _ (⟨w1, rfl, rfl, (mk_walk hM hm (by first | exact endA (oI_nxt.mp c30) | exact endB c24 hi)).iff (fun x hx => thin_end hx)⟩) 70 _ dX1_addThinned_70
        · skip
          obtain ⟨v, hv⟩ : ∃ v, nxt (bW w L) m = some v := by
            cases e9 : nxt (bW w L) m with
            | none => exact absurd (by rw [e9]; rfl) c30
            | some v9 => exact ⟨v9, rfl⟩
          obtain ⟨v1, v2, v3, v4⟩ := nxt_spec hv
          rw [hv]
          refine r_sub (lo2 := [(0, .ref (G.2.1 + (b + 1))), (1, .int (nI L)), (2, .int (nI q)), (3, .int (nI N)), (4, .int (nI v)), (5, .int (nI (cS (bW w L) m % q))), (6, .int (nI i))]) [0, 1, 2, 3, 4, 5, 6] rfl ?_
          have hcs := nxt_cS hv
          have hmod := Nat.mod_lt (cS (bW w L) m) hq1
          refine r_iinc (pc := 33) (v := nI ((cS (bW w L) m % q) + 1)) (lo2 := [(5, .int (nI ((cS (bW w L) m % q) + 1))), (0, .ref (G.2.1 + (b + 1))), (1, .int (nI L)), (2, .int (nI q)), (3, .int (nI N)), (4, .int (nI v)), (6, .int (nI i))]) h 5 rfl (iinc1 _) (by decide) rfl dX1_addThinned_33 ?_
          refine r_iload (pc := 36) h 0 rfl dX1_addThinned_36 ?_
          refine r_iload_n (pc := 38) h 3 rfl rfl dX1_addThinned_38 ?_
          refine r_icmp_ne (pc := 39) (tgt := 52) h (by decide) dX1_addThinned_39 (fun c39 => ?_) (fun c39 => ?_)
          · skip
            rw [nI_eq (by omega) (by omega)] at c39
            have e5 : cS (bW w L) m % q + 1 = cS (bW w L) (v + 1) % q := by rw [hcs.2, mod_up hq1, if_neg c39]
            rw [e5]
            refine r_aload_n (pc := 52) h 1 rfl rfl dX1_addThinned_52 ?_
            refine r_iload_n (pc := 53) h 2 rfl rfl dX1_addThinned_53 ?_
            refine r_iload (pc := 54) h 5 rfl dX1_addThinned_54 ?_
            refine r_iconst (pc := 56) (v := nI 1) h (by decide) dX1_addThinned_56 ?_
            refine r_iadd (pc := 57) (v := nI (v + 1)) h (nI_add _ _) dX1_addThinned_57 ?_
            refine r_cVi (pc := 58) (As := [.int (nI L), .int (nI (v + 1))]) (st := []) h lk_RX1_39 (c_nextFrom x.2.1 G (sB σ b (nI (N + 1)) w1 k d li pa fr) b hb L (v + 1) (by omega) (by omega) (by rw [sB_w]; exact hM.clrL (by omega) hc)) (rc_1 hb) (by decide) rfl rfl (by first | decide | exact Nat.le_of_ble_eq_true rfl) (by decide) dX1_addThinned_58 (fun r8 s9 q10 => ?_)
            rw [q10.1, q10.2, sB_w, hM.nxt (by omega)]
            refine r_istore (pc := 61) (lo2 := [(4, .int (oI (nxt (bW w L) (v + 1)))), (5, .int (nI (cS (bW w L) (v + 1) % q))), (0, .ref (G.2.1 + (b + 1))), (1, .int (nI L)), (2, .int (nI q)), (3, .int (nI N)), (6, .int (nI i))]) h (by decide) rfl dX1_addThinned_61 ?_
            refine r_iinc (pc := 63) (v := nI (i + 1)) (lo2 := [(6, .int (nI (i + 1))), (4, .int (oI (nxt (bW w L) (v + 1)))), (5, .int (nI (cS (bW w L) (v + 1) % q))), (0, .ref (G.2.1 + (b + 1))), (1, .int (nI L)), (2, .int (nI q)), (3, .int (nI N))]) h 6 rfl (iinc1 _) (by decide) rfl dX1_addThinned_63 ?_
            refine r_goto (pc := 66) (tgt := 19) h (by decide) dX1_addThinned_66 ?_
            refine r_sub (lo2 := [(0, .ref (G.2.1 + (b + 1))), (1, .int (nI L)), (2, .int (nI q)), (3, .int (nI N)), (4, .int (oI (nxt (bW w L) (v + 1)))), (5, .int (nI (cS (bW w L) (v + 1) % q))), (6, .int (nI (i + 1)))]) [3, 4, 5, 6, 1, 2, 0] rfl ?_
            exact ih19 (i + 1) (v + 1) _ (by omega) (by omega) (hM.iff (fun x hx => st_thinN hv (by omega))) (by omega)
          · skip
            rw [nI_eq (by omega) (by omega)] at c39
            have e5 : cS (bW w L) (v + 1) % q = 0 := by rw [hcs.2, mod_up hq1, if_pos c39]
            refine r_aload_n (pc := 42) h 1 rfl rfl dX1_addThinned_42 ?_
            refine r_iload_n (pc := 43) h 4 rfl rfl dX1_addThinned_43 ?_
            refine r_iload (pc := 44) h 5 rfl dX1_addThinned_44 ?_
            refine r_cVv (pc := 46) (As := [.int (nI N), .int (nI v)]) (st := []) h lk_RX1_63 (c_put x.2.1 G σ b hb (nI (N + 1)) w1 k d li pa fr N v (by omega) (by omega)) (rc_1 hb) (by decide) rfl rfl (by first | decide | exact Nat.le_of_ble_eq_true rfl) (by decide) dX1_addThinned_46 (fun s12 q13 => ?_)
            subst q13
            refine r_iconst (pc := 49) (v := nI (cS (bW w L) (v + 1) % q)) h (by rw [e5]; rfl) dX1_addThinned_49 ?_
            refine r_istore (pc := 50) (lo2 := [(5, .int (nI (cS (bW w L) (v + 1) % q))), (0, .ref (G.2.1 + (b + 1))), (1, .int (nI L)), (2, .int (nI q)), (3, .int (nI N)), (4, .int (nI v)), (6, .int (nI i))]) h (by decide) rfl dX1_addThinned_50 ?_
            refine r_aload_n (pc := 52) h 1 rfl rfl dX1_addThinned_52 ?_
            refine r_iload_n (pc := 53) h 2 rfl rfl dX1_addThinned_53 ?_
            refine r_iload (pc := 54) h 5 rfl dX1_addThinned_54 ?_
            refine r_iconst (pc := 56) (v := nI 1) h (by decide) dX1_addThinned_56 ?_
            refine r_iadd (pc := 57) (v := nI (v + 1)) h (nI_add _ _) dX1_addThinned_57 ?_
            refine r_cVi (pc := 58) (As := [.int (nI L), .int (nI (v + 1))]) (st := []) h lk_RX1_39 (c_nextFrom x.2.1 G (sB σ b (nI (N + 1)) (putB w1 N v) k d li pa fr) b hb L (v + 1) (by omega) (by omega) (by rw [sB_w]; exact (mk_put hM v).clrL (by omega) hc)) (rc_1 hb) (by decide) rfl rfl (by first | decide | exact Nat.le_of_ble_eq_true rfl) (by decide) dX1_addThinned_58 (fun r14 s15 q16 => ?_)
            rw [q16.1, q16.2, sB_w, (mk_put hM v).nxt (by omega)]
            refine r_istore (pc := 61) (lo2 := [(4, .int (oI (nxt (bW w L) (v + 1)))), (5, .int (nI (cS (bW w L) (v + 1) % q))), (0, .ref (G.2.1 + (b + 1))), (1, .int (nI L)), (2, .int (nI q)), (3, .int (nI N)), (6, .int (nI i))]) h (by decide) rfl dX1_addThinned_61 ?_
            refine r_iinc (pc := 63) (v := nI (i + 1)) (lo2 := [(6, .int (nI (i + 1))), (4, .int (oI (nxt (bW w L) (v + 1)))), (5, .int (nI (cS (bW w L) (v + 1) % q))), (0, .ref (G.2.1 + (b + 1))), (1, .int (nI L)), (2, .int (nI q)), (3, .int (nI N))]) h 6 rfl (iinc1 _) (by decide) rfl dX1_addThinned_63 ?_
            refine r_goto (pc := 66) (tgt := 19) h (by decide) dX1_addThinned_66 ?_
            refine r_sub (lo2 := [(0, .ref (G.2.1 + (b + 1))), (1, .int (nI L)), (2, .int (nI q)), (3, .int (nI N)), (4, .int (oI (nxt (bW w L) (v + 1)))), (5, .int (nI (cS (bW w L) (v + 1) % q))), (6, .int (nI (i + 1)))]) [3, 4, 5, 6, 1, 2, 0] rfl ?_
            exact ih19 (i + 1) (v + 1) _ (by omega) (by omega) ((mk_put hM _).iff (fun x hx => st_thin hv e5)) (by omega)
  refine r_sub (lo2 := [(0, .ref (G.2.1 + (b + 1))), (1, .int (nI L)), (2, .int (nI q)), (3, .int (nI N)), (4, .int (oI (nxt (bW w L) 0))), (5, .int (nI 0)), (6, .int (nI 0))]) [4, 5, 6, 3, 2, 1, 0] rfl ?_
  exact lp19 _ 0 0 wz1 (by omega) (by omega) (hwz1.iff (fun v hv => ⟨fun q => q.elim, fun ⟨j, q, _⟩ => absurd q (Nat.not_lt_zero j)⟩)) (Nat.lt_succ_self _)

set_option maxRecDepth 100000 in
set_option maxHeartbeats 800000 in
theorem c_addAddedUp (l : Launch) (G : Gl) (σ : Sg) (b : Nat) (hb : Blk b) (N : Nat) (hN : N < 12) (w : Nat → Int64) (k d : Int32) (li pa fr : Nat → Int32) (L : Nat) (hL : L < N) (hc : Clr w L)  : Ci l yX1_addAddedUp cX1_addAddedUp 6 .int ({ frames := 3, cells := 0, slots := 0, locals := 69 } : Room) G [.ref (G.2.1 + (b + 1)), .int (nI L)] (sB σ b (nI N) w k d li pa fr) (fun r σ2 => ∃ w1, r = nI N ∧ σ2 = sB σ b (nI (N + 1)) w1 k d li pa fr ∧ Mk w w1 N (rSet 7 L 0 0 (bW w))) := by
  refine Ci_of (own := RX1) rfl (by decide +kernel) (lo := [(0, .ref (G.2.1 + (b + 1))), (1, .int (nI L))]) rfl (Nat.le_of_ble_eq_true rfl) (fun r s hp => by obtain ⟨_, rfl, _⟩ := hp; rfl) ?_
  intro x Q hxl h hret
  subst hxl
  refine r_aload_n (pc := 0) h 0 rfl rfl dX1_addAddedUp_0 ?_
  refine r_cVi (pc := 1) (As := []) (st := []) h lk_RX1_59 (c_addEmpty x.2.1 G σ b hb N (by omega) w k d li pa fr) (rc_1 hb) (by decide) rfl rfl (by first | decide | exact Nat.le_of_ble_eq_true rfl) (by decide) dX1_addAddedUp_1 (fun r2 s3 q4 => ?_)
  obtain ⟨wz1, ewz1, ewz1s, hwz1⟩ := q4
  subst ewz1
  subst ewz1s
  refine r_istore_n (pc := 4) (lo2 := [(2, .int (nI N)), (0, .ref (G.2.1 + (b + 1))), (1, .int (nI L))]) h rfl (by decide) rfl dX1_addAddedUp_4 ?_
  refine r_iconst (pc := 5) (v := nI 0) h (by decide) dX1_addAddedUp_5 ?_
  refine r_istore_n (pc := 6) (lo2 := [(3, .int (nI 0)), (2, .int (nI N)), (0, .ref (G.2.1 + (b + 1))), (1, .int (nI L))]) h rfl (by decide) rfl dX1_addAddedUp_6 ?_
  refine r_aload_n (pc := 7) h 2 rfl rfl dX1_addAddedUp_7 ?_
  refine r_iload_n (pc := 8) h 3 rfl rfl dX1_addAddedUp_8 ?_
  refine r_iconst (pc := 9) (v := nI 0) h (by decide) dX1_addAddedUp_9 ?_
  refine r_cVi (pc := 10) (As := [.int (nI L), .int (nI 0)]) (st := []) h lk_RX1_39 (c_nextFrom x.2.1 G (sB σ b (nI (N + 1)) wz1 k d li pa fr) b hb L 0 (by omega) (by omega) (by rw [sB_w]; exact hwz1.clrL (by omega) hc)) (rc_1 hb) (by decide) rfl rfl (by first | decide | exact Nat.le_of_ble_eq_true rfl) (by decide) dX1_addAddedUp_10 (fun r5 s6 q7 => ?_)
  rw [q7.1, q7.2, sB_w, hwz1.nxt (by omega)]
  refine r_istore (pc := 13) (lo2 := [(4, .int (oI (nxt (bW w L) 0))), (3, .int (nI 0)), (2, .int (nI N)), (0, .ref (G.2.1 + (b + 1))), (1, .int (nI L))]) h (by decide) rfl dX1_addAddedUp_13 ?_
  refine r_iconst (pc := 15) (v := nI 0) h (by decide) dX1_addAddedUp_15 ?_
  refine r_istore (pc := 16) (lo2 := [(5, .int (nI 0)), (4, .int (oI (nxt (bW w L) 0))), (3, .int (nI 0)), (2, .int (nI N)), (0, .ref (G.2.1 + (b + 1))), (1, .int (nI L))]) h (by decide) rfl dX1_addAddedUp_16 ?_
  have lp18 : ∀ (fu : Nat) (i : Nat) (m : Nat) (w1 : Nat → Int64), i ≤ m → m ≤ 1000 → Mk w w1 N (fun x => ∃ u, u < m ∧ bW w L u = true ∧ x = smU (bW w L) (u + 1)) → 1000 - i < fu → V x G 6 0 0 Q (sB σ b (nI (N + 1)) w1 k d li pa fr) 18 [(0, .ref (G.2.1 + (b + 1))), (1, .int (nI L)), (2, .int (nI N)), (3, .int (nI (smU (bW w L) m))), (4, .int (oI (nxt (bW w L) m))), (5, .int (nI i))] [] := by
    intro fu
    induction fu with
    | zero => intro i m w1 hi hm hM hfu; exact absurd hfu (Nat.not_lt_zero _)
    | succ fu ih18 =>
      intro i m w1 hi hm hM hfu
      refine r_iload (pc := 18) h 5 rfl dX1_addAddedUp_18 ?_
      refine r_sipush (pc := 20) (v := nI 1000) h (by decide) dX1_addAddedUp_20 ?_
      refine r_icmp_ge (pc := 23) (tgt := 60) h (by decide) dX1_addAddedUp_23 (fun c23 => ?_) (fun c23 => ?_)
      · skip
        rw [nI_leI (by omega) (by omega)] at c23
        refine r_iload_n (pc := 60) h 2 rfl rfl dX1_addAddedUp_60 ?_
        exact hret _ _ (⟨w1, rfl, rfl, (mk_walk hM hm (by first | exact endA (oI_nxt.mp c29) | exact endB c23 hi)).iff (fun x hx => Iff.rfl)⟩) 61 _ dX1_addAddedUp_61
      · skip
        rw [nI_leI (by omega) (by omega)] at c23
        refine r_iload (pc := 26) h 4 rfl dX1_addAddedUp_26 ?_
        refine r_iconst (pc := 28) (v := (-1)) h (by decide) dX1_addAddedUp_28 ?_
        refine r_icmp_eq (pc := 29) (tgt := 60) h (by decide) dX1_addAddedUp_29 (fun c29 => ?_) (fun c29 => ?_)
        · skip
          refine r_iload_n (pc := 60) h 2 rfl rfl dX1_addAddedUp_60 ?_
          exact hret _ _ (⟨w1, rfl, rfl, (mk_walk hM hm (by first | exact endA (oI_nxt.mp c29) | exact endB c23 hi)).iff (fun x hx => Iff.rfl)⟩) 61 _ dX1_addAddedUp_61
        · skip
          obtain ⟨v, hv⟩ : ∃ v, nxt (bW w L) m = some v := by
            cases e9 : nxt (bW w L) m with
            | none => exact absurd (by rw [e9]; rfl) c29
            | some v9 => exact ⟨v9, rfl⟩
          obtain ⟨v1, v2, v3, v4⟩ := nxt_spec hv
          rw [hv]
          refine r_sub (lo2 := [(0, .ref (G.2.1 + (b + 1))), (1, .int (nI L)), (2, .int (nI N)), (3, .int (nI (smU (bW w L) m))), (4, .int (nI v)), (5, .int (nI i))]) [0, 1, 2, 3, 4, 5] rfl ?_
          have hsm := smU_le (bW w L) (v + 1)
          have hsq : (v + 1) * (v + 1) ≤ 1000 * 1000 := Nat.mul_le_mul (by omega) (by omega)
          refine r_iload_n (pc := 32) h 3 rfl rfl dX1_addAddedUp_32 ?_
          refine r_iload (pc := 33) h 4 rfl dX1_addAddedUp_33 ?_
          refine r_iadd (pc := 35) (v := nI (smU (bW w L) (v + 1))) h ((nI_add _ _).trans (congrArg nI (smU_nxt hv))) dX1_addAddedUp_35 ?_
          refine r_istore_n (pc := 36) (lo2 := [(3, .int (nI (smU (bW w L) (v + 1)))), (0, .ref (G.2.1 + (b + 1))), (1, .int (nI L)), (2, .int (nI N)), (4, .int (nI v)), (5, .int (nI i))]) h rfl (by decide) rfl dX1_addAddedUp_36 ?_
          refine r_aload_n (pc := 37) h 1 rfl rfl dX1_addAddedUp_37 ?_
          refine r_iload_n (pc := 38) h 3 rfl rfl dX1_addAddedUp_38 ?_
          refine r_iload_n (pc := 39) h 0 rfl rfl dX1_addAddedUp_39 ?_
          refine r_cVv (pc := 40) (As := [.int (nI N), .int (nI (smU (bW w L) (v + 1)))]) (st := []) h lk_RX1_63 (c_put x.2.1 G σ b hb (nI (N + 1)) w1 k d li pa fr N (smU (bW w L) (v + 1)) (by omega) (by omega)) (rc_1 hb) (by decide) rfl rfl (by first | decide | exact Nat.le_of_ble_eq_true rfl) (by decide) dX1_addAddedUp_40 (fun s9 q10 => ?_)
          subst q10
          refine r_aload_n (pc := 43) h 1 rfl rfl dX1_addAddedUp_43 ?_
          refine r_iload_n (pc := 44) h 2 rfl rfl dX1_addAddedUp_44 ?_
          refine r_iload (pc := 45) h 4 rfl dX1_addAddedUp_45 ?_
          refine r_iconst (pc := 47) (v := nI 1) h (by decide) dX1_addAddedUp_47 ?_
          refine r_iadd (pc := 48) (v := nI (v + 1)) h (nI_add _ _) dX1_addAddedUp_48 ?_
          refine r_cVi (pc := 49) (As := [.int (nI L), .int (nI (v + 1))]) (st := []) h lk_RX1_39 (c_nextFrom x.2.1 G (sB σ b (nI (N + 1)) (putB w1 N (smU (bW w L) (v + 1))) k d li pa fr) b hb L (v + 1) (by omega) (by omega) (by rw [sB_w]; exact (mk_put hM (smU (bW w L) (v + 1))).clrL (by omega) hc)) (rc_1 hb) (by decide) rfl rfl (by first | decide | exact Nat.le_of_ble_eq_true rfl) (by decide) dX1_addAddedUp_49 (fun r11 s12 q13 => ?_)
          rw [q13.1, q13.2, sB_w, (mk_put hM (smU (bW w L) (v + 1))).nxt (by omega)]
          refine r_istore (pc := 52) (lo2 := [(4, .int (oI (nxt (bW w L) (v + 1)))), (3, .int (nI (smU (bW w L) (v + 1)))), (0, .ref (G.2.1 + (b + 1))), (1, .int (nI L)), (2, .int (nI N)), (5, .int (nI i))]) h (by decide) rfl dX1_addAddedUp_52 ?_
          refine r_iinc (pc := 54) (v := nI (i + 1)) (lo2 := [(5, .int (nI (i + 1))), (4, .int (oI (nxt (bW w L) (v + 1)))), (3, .int (nI (smU (bW w L) (v + 1)))), (0, .ref (G.2.1 + (b + 1))), (1, .int (nI L)), (2, .int (nI N))]) h 5 rfl (iinc1 _) (by decide) rfl dX1_addAddedUp_54 ?_
          refine r_goto (pc := 57) (tgt := 18) h (by decide) dX1_addAddedUp_57 ?_
          refine r_sub (lo2 := [(0, .ref (G.2.1 + (b + 1))), (1, .int (nI L)), (2, .int (nI N)), (3, .int (nI (smU (bW w L) (v + 1)))), (4, .int (oI (nxt (bW w L) (v + 1)))), (5, .int (nI (i + 1)))]) [3, 4, 5, 2, 1, 0] rfl ?_
          exact ih18 (i + 1) (v + 1) _ (by omega) (by omega) ((mk_put hM _).iff (fun x hx => st_walk (P := fun u x => x = smU (bW w L) (u + 1)) hv)) (by omega)
  refine r_sub (lo2 := [(0, .ref (G.2.1 + (b + 1))), (1, .int (nI L)), (2, .int (nI N)), (3, .int (nI 0)), (4, .int (oI (nxt (bW w L) 0))), (5, .int (nI 0))]) [4, 5, 3, 2, 1, 0] rfl ?_
  exact lp18 _ 0 0 wz1 (by omega) (by omega) (hwz1.iff (fun v hv => ⟨fun q => q.elim, fun ⟨j, q, _⟩ => absurd q (Nat.not_lt_zero j)⟩)) (Nat.lt_succ_self _)

set_option maxRecDepth 100000 in
set_option maxHeartbeats 800000 in
theorem c_addJoined (l : Launch) (G : Gl) (σ : Sg) (b : Nat) (hb : Blk b) (N : Nat) (hN : N < 12) (w : Nat → Int64) (k d : Int32) (li pa fr : Nat → Int32) (L K : Nat) (hL : L < N) (hK : K < N) (hc : Clr w L) (hk : Clr w K) : Ci l yX1_addJoined cX1_addJoined 5 .int ({ frames := 1, cells := 0, slots := 0, locals := 22 } : Room) G [.ref (G.2.1 + (b + 1)), .int (nI L), .int (nI K)] (sB σ b (nI N) w k d li pa fr) (fun r σ2 => ∃ w1, r = nI N ∧ σ2 = sB σ b (nI (N + 1)) w1 k d li pa fr ∧ Mk w w1 N (rSet 2 L K 0 (bW w))) := by
  refine Ci_of (own := RX1) rfl (by decide +kernel) (lo := [(0, .ref (G.2.1 + (b + 1))), (1, .int (nI L)), (2, .int (nI K))]) rfl (Nat.le_of_ble_eq_true rfl) (fun r s hp => by obtain ⟨_, rfl, _⟩ := hp; rfl) ?_
  intro x Q hxl h hret
  subst hxl
  refine r_aload_n (pc := 0) h 0 rfl rfl dX1_addJoined_0 ?_
  refine r_cVi (pc := 1) (As := []) (st := []) h lk_RX1_59 (c_addEmpty x.2.1 G σ b hb N (by omega) w k d li pa fr) (rc_1 hb) (by decide) rfl rfl (by first | decide | exact Nat.le_of_ble_eq_true rfl) (by decide) dX1_addJoined_1 (fun r2 s3 q4 => ?_)
  obtain ⟨wz1, ewz1, ewz1s, hwz1⟩ := q4
  subst ewz1
  subst ewz1s
  refine r_istore_n (pc := 4) (lo2 := [(3, .int (nI N)), (0, .ref (G.2.1 + (b + 1))), (1, .int (nI L)), (2, .int (nI K))]) h rfl (by decide) rfl dX1_addJoined_4 ?_
  refine r_iconst (pc := 5) (v := nI 0) h (by decide) dX1_addJoined_5 ?_
  refine r_istore (pc := 6) (lo2 := [(4, .int (nI 0)), (3, .int (nI N)), (0, .ref (G.2.1 + (b + 1))), (1, .int (nI L)), (2, .int (nI K))]) h (by decide) rfl dX1_addJoined_6 ?_
  have lp8 : ∀ (fu : Nat) (i : Nat) (w1 : Nat → Int64), i ≤ 16 → Off w w1 N → (∀ j, j < i → w1 (N * 16 + j) = (w (L * 16 + j)) ||| (w (K * 16 + j))) → 16 - i < fu → V x G 5 0 0 Q (sB σ b (nI (N + 1)) w1 k d li pa fr) 8 [(0, .ref (G.2.1 + (b + 1))), (1, .int (nI L)), (2, .int (nI K)), (3, .int (nI N)), (4, .int (nI i))] [] := by
    intro fu
    induction fu with
    | zero => intro i w1 hi hO h0 hfu; exact absurd hfu (Nat.not_lt_zero _)
    | succ fu ih8 =>
      intro i w1 hi hO h0 hfu
      refine r_iload (pc := 8) h 4 rfl dX1_addJoined_8 ?_
      refine r_bipush (pc := 10) (v := nI 16) h (by decide) dX1_addJoined_10 ?_
      refine r_icmp_ge (pc := 12) (tgt := 58) h (by decide) dX1_addJoined_12 (fun c12 => ?_) (fun c12 => ?_)
      · skip
        rw [nI_leI (by omega) (by omega)] at c12
        refine r_iload_n (pc := 58) h 3 rfl rfl dX1_addJoined_58 ?_
        exact hret _ _ (⟨w1, rfl, rfl, (mk_bits (g := or) hO (fun i hi j hj => by rw [h0 i (by omega)]; rw [or_bit]) hc hk rfl).iff (fun v hv => Bool.or_eq_true_iff)⟩) 59 _ dX1_addJoined_59
      · skip
        rw [nI_leI (by omega) (by omega)] at c12
        refine r_aload_n (pc := 15) h 0 rfl rfl dX1_addJoined_15 ?_
        refine g_1_words (pc := 16) hb h mw_3_0 dX1_addJoined_16 ?_
        refine r_iload_n (pc := 19) h 3 rfl rfl dX1_addJoined_19 ?_
        refine r_bipush (pc := 20) (v := nI 16) h (by decide) dX1_addJoined_20 ?_
        refine r_imul (pc := 22) (v := nI (N * 16)) h (pk_mul _ _) dX1_addJoined_22 ?_
        refine r_iload (pc := 23) h 4 rfl dX1_addJoined_23 ?_
        refine r_iadd (pc := 25) (v := nI ((N * 16) + i)) h (nI_add _ _) dX1_addJoined_25 ?_
        refine r_aload_n (pc := 26) h 0 rfl rfl dX1_addJoined_26 ?_
        refine g_1_words (pc := 27) hb h mw_3_0 dX1_addJoined_27 ?_
        refine r_iload_n (pc := 30) h 1 rfl rfl dX1_addJoined_30 ?_
        refine r_bipush (pc := 31) (v := nI 16) h (by decide) dX1_addJoined_31 ?_
        refine r_imul (pc := 33) (v := nI (L * 16)) h (pk_mul _ _) dX1_addJoined_33 ?_
        refine r_iload (pc := 34) h 4 rfl dX1_addJoined_34 ?_
        refine r_iadd (pc := 36) (v := nI ((L * 16) + i)) h (nI_add _ _) dX1_addJoined_36 ?_
        refine r_lald (pc := 37) h (a_wd hb) ((L * 16) + i) rfl (by omega) dX1_addJoined_37 ?_
        refine r_topl (e := w1 ((L * 16) + i)) (sB_wj _ _ _ _ _ _ _ _ _ _) ?_
        refine r_topl (e := w (L * 16 + i)) (hO _ (by omega)) ?_
        refine r_aload_n (pc := 38) h 0 rfl rfl dX1_addJoined_38 ?_
        refine g_1_words (pc := 39) hb h mw_3_0 dX1_addJoined_39 ?_
        refine r_iload_n (pc := 42) h 2 rfl rfl dX1_addJoined_42 ?_
        refine r_bipush (pc := 43) (v := nI 16) h (by decide) dX1_addJoined_43 ?_
        refine r_imul (pc := 45) (v := nI (K * 16)) h (pk_mul _ _) dX1_addJoined_45 ?_
        refine r_iload (pc := 46) h 4 rfl dX1_addJoined_46 ?_
        refine r_iadd (pc := 48) (v := nI ((K * 16) + i)) h (nI_add _ _) dX1_addJoined_48 ?_
        refine r_lald (pc := 49) h (a_wd hb) ((K * 16) + i) rfl (by omega) dX1_addJoined_49 ?_
        refine r_topl (e := w1 ((K * 16) + i)) (sB_wj _ _ _ _ _ _ _ _ _ _) ?_
        refine r_topl (e := w (K * 16 + i)) (hO _ (by omega)) ?_
        refine r_lor (pc := 50) (v := (w (L * 16 + i)) ||| (w (K * 16 + i))) h rfl dX1_addJoined_50 ?_
        refine r_last (pc := 51) h (a_wd hb) ((N * 16) + i) rfl (by omega) dX1_addJoined_51 ?_
        refine V.sg (sB_sw _ _ _ _ _ _ _ _ _ _ _) ?_
        refine r_iinc (pc := 52) (v := nI (i + 1)) (lo2 := [(4, .int (nI (i + 1))), (0, .ref (G.2.1 + (b + 1))), (1, .int (nI L)), (2, .int (nI K)), (3, .int (nI N))]) h 4 rfl (iinc1 _) (by decide) rfl dX1_addJoined_52 ?_
        refine r_goto (pc := 55) (tgt := 8) h (by decide) dX1_addJoined_55 ?_
        refine r_sub (lo2 := [(0, .ref (G.2.1 + (b + 1))), (1, .int (nI L)), (2, .int (nI K)), (3, .int (nI N)), (4, .int (nI (i + 1)))]) [1, 2, 3, 4, 0] rfl ?_
        exact ih8 (i + 1) _ (by omega) (z_step hO (by omega) _) (z_atX h0 rfl) (by omega)
  refine r_sub (lo2 := [(0, .ref (G.2.1 + (b + 1))), (1, .int (nI L)), (2, .int (nI K)), (3, .int (nI N)), (4, .int (nI 0))]) [2, 3, 4, 1, 0] rfl ?_
  exact lp8 _ 0 wz1 (by omega) hwz1.1 (fun j hj => absurd hj (Nat.not_lt_zero j)) (Nat.lt_succ_self _)

set_option maxRecDepth 100000 in
set_option maxHeartbeats 800000 in
theorem c_addShared (l : Launch) (G : Gl) (σ : Sg) (b : Nat) (hb : Blk b) (N : Nat) (hN : N < 12) (w : Nat → Int64) (k d : Int32) (li pa fr : Nat → Int32) (L K : Nat) (hL : L < N) (hK : K < N) (hc : Clr w L) (hk : Clr w K) : Ci l yX1_addShared cX1_addShared 5 .int ({ frames := 1, cells := 0, slots := 0, locals := 22 } : Room) G [.ref (G.2.1 + (b + 1)), .int (nI L), .int (nI K)] (sB σ b (nI N) w k d li pa fr) (fun r σ2 => ∃ w1, r = nI N ∧ σ2 = sB σ b (nI (N + 1)) w1 k d li pa fr ∧ Mk w w1 N (rSet 3 L K 0 (bW w))) := by
  refine Ci_of (own := RX1) rfl (by decide +kernel) (lo := [(0, .ref (G.2.1 + (b + 1))), (1, .int (nI L)), (2, .int (nI K))]) rfl (Nat.le_of_ble_eq_true rfl) (fun r s hp => by obtain ⟨_, rfl, _⟩ := hp; rfl) ?_
  intro x Q hxl h hret
  subst hxl
  refine r_aload_n (pc := 0) h 0 rfl rfl dX1_addShared_0 ?_
  refine r_cVi (pc := 1) (As := []) (st := []) h lk_RX1_59 (c_addEmpty x.2.1 G σ b hb N (by omega) w k d li pa fr) (rc_1 hb) (by decide) rfl rfl (by first | decide | exact Nat.le_of_ble_eq_true rfl) (by decide) dX1_addShared_1 (fun r2 s3 q4 => ?_)
  obtain ⟨wz1, ewz1, ewz1s, hwz1⟩ := q4
  subst ewz1
  subst ewz1s
  refine r_istore_n (pc := 4) (lo2 := [(3, .int (nI N)), (0, .ref (G.2.1 + (b + 1))), (1, .int (nI L)), (2, .int (nI K))]) h rfl (by decide) rfl dX1_addShared_4 ?_
  refine r_iconst (pc := 5) (v := nI 0) h (by decide) dX1_addShared_5 ?_
  refine r_istore (pc := 6) (lo2 := [(4, .int (nI 0)), (3, .int (nI N)), (0, .ref (G.2.1 + (b + 1))), (1, .int (nI L)), (2, .int (nI K))]) h (by decide) rfl dX1_addShared_6 ?_
  have lp8 : ∀ (fu : Nat) (i : Nat) (w1 : Nat → Int64), i ≤ 16 → Off w w1 N → (∀ j, j < i → w1 (N * 16 + j) = (w (L * 16 + j)) &&& (w (K * 16 + j))) → 16 - i < fu → V x G 5 0 0 Q (sB σ b (nI (N + 1)) w1 k d li pa fr) 8 [(0, .ref (G.2.1 + (b + 1))), (1, .int (nI L)), (2, .int (nI K)), (3, .int (nI N)), (4, .int (nI i))] [] := by
    intro fu
    induction fu with
    | zero => intro i w1 hi hO h0 hfu; exact absurd hfu (Nat.not_lt_zero _)
    | succ fu ih8 =>
      intro i w1 hi hO h0 hfu
      refine r_iload (pc := 8) h 4 rfl dX1_addShared_8 ?_
      refine r_bipush (pc := 10) (v := nI 16) h (by decide) dX1_addShared_10 ?_
      refine r_icmp_ge (pc := 12) (tgt := 58) h (by decide) dX1_addShared_12 (fun c12 => ?_) (fun c12 => ?_)
      · skip
        rw [nI_leI (by omega) (by omega)] at c12
        refine r_iload_n (pc := 58) h 3 rfl rfl dX1_addShared_58 ?_
        exact hret _ _ (⟨w1, rfl, rfl, (mk_bits (g := and) hO (fun i hi j hj => by rw [h0 i (by omega)]; rw [and_bit]) hc hk rfl).iff (fun v hv => Bool.and_eq_true_iff)⟩) 59 _ dX1_addShared_59
      · skip
        rw [nI_leI (by omega) (by omega)] at c12
        refine r_aload_n (pc := 15) h 0 rfl rfl dX1_addShared_15 ?_
        refine g_1_words (pc := 16) hb h mw_3_0 dX1_addShared_16 ?_
        refine r_iload_n (pc := 19) h 3 rfl rfl dX1_addShared_19 ?_
        refine r_bipush (pc := 20) (v := nI 16) h (by decide) dX1_addShared_20 ?_
        refine r_imul (pc := 22) (v := nI (N * 16)) h (pk_mul _ _) dX1_addShared_22 ?_
        refine r_iload (pc := 23) h 4 rfl dX1_addShared_23 ?_
        refine r_iadd (pc := 25) (v := nI ((N * 16) + i)) h (nI_add _ _) dX1_addShared_25 ?_
        refine r_aload_n (pc := 26) h 0 rfl rfl dX1_addShared_26 ?_
        refine g_1_words (pc := 27) hb h mw_3_0 dX1_addShared_27 ?_
        refine r_iload_n (pc := 30) h 1 rfl rfl dX1_addShared_30 ?_
        refine r_bipush (pc := 31) (v := nI 16) h (by decide) dX1_addShared_31 ?_
        refine r_imul (pc := 33) (v := nI (L * 16)) h (pk_mul _ _) dX1_addShared_33 ?_
        refine r_iload (pc := 34) h 4 rfl dX1_addShared_34 ?_
        refine r_iadd (pc := 36) (v := nI ((L * 16) + i)) h (nI_add _ _) dX1_addShared_36 ?_
        refine r_lald (pc := 37) h (a_wd hb) ((L * 16) + i) rfl (by omega) dX1_addShared_37 ?_
        refine r_topl (e := w1 ((L * 16) + i)) (sB_wj _ _ _ _ _ _ _ _ _ _) ?_
        refine r_topl (e := w (L * 16 + i)) (hO _ (by omega)) ?_
        refine r_aload_n (pc := 38) h 0 rfl rfl dX1_addShared_38 ?_
        refine g_1_words (pc := 39) hb h mw_3_0 dX1_addShared_39 ?_
        refine r_iload_n (pc := 42) h 2 rfl rfl dX1_addShared_42 ?_
        refine r_bipush (pc := 43) (v := nI 16) h (by decide) dX1_addShared_43 ?_
        refine r_imul (pc := 45) (v := nI (K * 16)) h (pk_mul _ _) dX1_addShared_45 ?_
        refine r_iload (pc := 46) h 4 rfl dX1_addShared_46 ?_
        refine r_iadd (pc := 48) (v := nI ((K * 16) + i)) h (nI_add _ _) dX1_addShared_48 ?_
        refine r_lald (pc := 49) h (a_wd hb) ((K * 16) + i) rfl (by omega) dX1_addShared_49 ?_
        refine r_topl (e := w1 ((K * 16) + i)) (sB_wj _ _ _ _ _ _ _ _ _ _) ?_
        refine r_topl (e := w (K * 16 + i)) (hO _ (by omega)) ?_
        refine r_land (pc := 50) (v := (w (L * 16 + i)) &&& (w (K * 16 + i))) h rfl dX1_addShared_50 ?_
        refine r_last (pc := 51) h (a_wd hb) ((N * 16) + i) rfl (by omega) dX1_addShared_51 ?_
        refine V.sg (sB_sw _ _ _ _ _ _ _ _ _ _ _) ?_
        refine r_iinc (pc := 52) (v := nI (i + 1)) (lo2 := [(4, .int (nI (i + 1))), (0, .ref (G.2.1 + (b + 1))), (1, .int (nI L)), (2, .int (nI K)), (3, .int (nI N))]) h 4 rfl (iinc1 _) (by decide) rfl dX1_addShared_52 ?_
        refine r_goto (pc := 55) (tgt := 8) h (by decide) dX1_addShared_55 ?_
        refine r_sub (lo2 := [(0, .ref (G.2.1 + (b + 1))), (1, .int (nI L)), (2, .int (nI K)), (3, .int (nI N)), (4, .int (nI (i + 1)))]) [1, 2, 3, 4, 0] rfl ?_
        exact ih8 (i + 1) _ (by omega) (z_step hO (by omega) _) (z_atX h0 rfl) (by omega)
  refine r_sub (lo2 := [(0, .ref (G.2.1 + (b + 1))), (1, .int (nI L)), (2, .int (nI K)), (3, .int (nI N)), (4, .int (nI 0))]) [2, 3, 4, 1, 0] rfl ?_
  exact lp8 _ 0 wz1 (by omega) hwz1.1 (fun j hj => absurd hj (Nat.not_lt_zero j)) (Nat.lt_succ_self _)

set_option maxRecDepth 100000 in
set_option maxHeartbeats 800000 in
theorem c_addWithout (l : Launch) (G : Gl) (σ : Sg) (b : Nat) (hb : Blk b) (N : Nat) (hN : N < 12) (w : Nat → Int64) (k d : Int32) (li pa fr : Nat → Int32) (L K : Nat) (hL : L < N) (hK : K < N) (hc : Clr w L) (hk : Clr w K) : Ci l yX1_addWithout cX1_addWithout 5 .int ({ frames := 1, cells := 0, slots := 0, locals := 22 } : Room) G [.ref (G.2.1 + (b + 1)), .int (nI L), .int (nI K)] (sB σ b (nI N) w k d li pa fr) (fun r σ2 => ∃ w1, r = nI N ∧ σ2 = sB σ b (nI (N + 1)) w1 k d li pa fr ∧ Mk w w1 N (rSet 4 L K 0 (bW w))) := by
  refine Ci_of (own := RX1) rfl (by decide +kernel) (lo := [(0, .ref (G.2.1 + (b + 1))), (1, .int (nI L)), (2, .int (nI K))]) rfl (Nat.le_of_ble_eq_true rfl) (fun r s hp => by obtain ⟨_, rfl, _⟩ := hp; rfl) ?_
  intro x Q hxl h hret
  subst hxl
  refine r_aload_n (pc := 0) h 0 rfl rfl dX1_addWithout_0 ?_
  refine r_cVi (pc := 1) (As := []) (st := []) h lk_RX1_59 (c_addEmpty x.2.1 G σ b hb N (by omega) w k d li pa fr) (rc_1 hb) (by decide) rfl rfl (by first | decide | exact Nat.le_of_ble_eq_true rfl) (by decide) dX1_addWithout_1 (fun r2 s3 q4 => ?_)
  obtain ⟨wz1, ewz1, ewz1s, hwz1⟩ := q4
  subst ewz1
  subst ewz1s
  refine r_istore_n (pc := 4) (lo2 := [(3, .int (nI N)), (0, .ref (G.2.1 + (b + 1))), (1, .int (nI L)), (2, .int (nI K))]) h rfl (by decide) rfl dX1_addWithout_4 ?_
  refine r_iconst (pc := 5) (v := nI 0) h (by decide) dX1_addWithout_5 ?_
  refine r_istore (pc := 6) (lo2 := [(4, .int (nI 0)), (3, .int (nI N)), (0, .ref (G.2.1 + (b + 1))), (1, .int (nI L)), (2, .int (nI K))]) h (by decide) rfl dX1_addWithout_6 ?_
  have lp8 : ∀ (fu : Nat) (i : Nat) (w1 : Nat → Int64), i ≤ 16 → Off w w1 N → (∀ j, j < i → w1 (N * 16 + j) = (w (L * 16 + j)) &&& ((w (K * 16 + j)) ^^^ (-1))) → 16 - i < fu → V x G 5 0 0 Q (sB σ b (nI (N + 1)) w1 k d li pa fr) 8 [(0, .ref (G.2.1 + (b + 1))), (1, .int (nI L)), (2, .int (nI K)), (3, .int (nI N)), (4, .int (nI i))] [] := by
    intro fu
    induction fu with
    | zero => intro i w1 hi hO h0 hfu; exact absurd hfu (Nat.not_lt_zero _)
    | succ fu ih8 =>
      intro i w1 hi hO h0 hfu
      refine r_iload (pc := 8) h 4 rfl dX1_addWithout_8 ?_
      refine r_bipush (pc := 10) (v := nI 16) h (by decide) dX1_addWithout_10 ?_
      refine r_icmp_ge (pc := 12) (tgt := 62) h (by decide) dX1_addWithout_12 (fun c12 => ?_) (fun c12 => ?_)
      · skip
        rw [nI_leI (by omega) (by omega)] at c12
        refine r_iload_n (pc := 62) h 3 rfl rfl dX1_addWithout_62 ?_
        exact hret _ _ (⟨w1, rfl, rfl, (mk_bits (g := (fun a b => a && !b)) hO (fun i hi j hj => by rw [h0 i (by omega)]; rw [and_bit, xor_m1 _ hj]) hc hk rfl).iff (fun v hv => (by rw [Bool.and_eq_true_iff, Bool.not_eq_true']; exact Iff.rfl))⟩) 63 _ dX1_addWithout_63
      · skip
        rw [nI_leI (by omega) (by omega)] at c12
        refine r_aload_n (pc := 15) h 0 rfl rfl dX1_addWithout_15 ?_
        refine g_1_words (pc := 16) hb h mw_3_0 dX1_addWithout_16 ?_
        refine r_iload_n (pc := 19) h 3 rfl rfl dX1_addWithout_19 ?_
        refine r_bipush (pc := 20) (v := nI 16) h (by decide) dX1_addWithout_20 ?_
        refine r_imul (pc := 22) (v := nI (N * 16)) h (pk_mul _ _) dX1_addWithout_22 ?_
        refine r_iload (pc := 23) h 4 rfl dX1_addWithout_23 ?_
        refine r_iadd (pc := 25) (v := nI ((N * 16) + i)) h (nI_add _ _) dX1_addWithout_25 ?_
        refine r_aload_n (pc := 26) h 0 rfl rfl dX1_addWithout_26 ?_
        refine g_1_words (pc := 27) hb h mw_3_0 dX1_addWithout_27 ?_
        refine r_iload_n (pc := 30) h 1 rfl rfl dX1_addWithout_30 ?_
        refine r_bipush (pc := 31) (v := nI 16) h (by decide) dX1_addWithout_31 ?_
        refine r_imul (pc := 33) (v := nI (L * 16)) h (pk_mul _ _) dX1_addWithout_33 ?_
        refine r_iload (pc := 34) h 4 rfl dX1_addWithout_34 ?_
        refine r_iadd (pc := 36) (v := nI ((L * 16) + i)) h (nI_add _ _) dX1_addWithout_36 ?_
        refine r_lald (pc := 37) h (a_wd hb) ((L * 16) + i) rfl (by omega) dX1_addWithout_37 ?_
        refine r_topl (e := w1 ((L * 16) + i)) (sB_wj _ _ _ _ _ _ _ _ _ _) ?_
        refine r_topl (e := w (L * 16 + i)) (hO _ (by omega)) ?_
        refine r_aload_n (pc := 38) h 0 rfl rfl dX1_addWithout_38 ?_
        refine g_1_words (pc := 39) hb h mw_3_0 dX1_addWithout_39 ?_
        refine r_iload_n (pc := 42) h 2 rfl rfl dX1_addWithout_42 ?_
        refine r_bipush (pc := 43) (v := nI 16) h (by decide) dX1_addWithout_43 ?_
        refine r_imul (pc := 45) (v := nI (K * 16)) h (pk_mul _ _) dX1_addWithout_45 ?_
        refine r_iload (pc := 46) h 4 rfl dX1_addWithout_46 ?_
        refine r_iadd (pc := 48) (v := nI ((K * 16) + i)) h (nI_add _ _) dX1_addWithout_48 ?_
        refine r_lald (pc := 49) h (a_wd hb) ((K * 16) + i) rfl (by omega) dX1_addWithout_49 ?_
        refine r_topl (e := w1 ((K * 16) + i)) (sB_wj _ _ _ _ _ _ _ _ _ _) ?_
        refine r_topl (e := w (K * 16 + i)) (hO _ (by omega)) ?_
        refine r_ldc2 (pc := 50) (v := (-1 : Int64)) h mw_9_15 dX1_addWithout_50 ?_
        refine r_lxor (pc := 53) (v := (w (K * 16 + i)) ^^^ (-1 : Int64)) h rfl dX1_addWithout_53 ?_
        refine r_land (pc := 54) (v := (w (L * 16 + i)) &&& ((w (K * 16 + i)) ^^^ (-1 : Int64))) h rfl dX1_addWithout_54 ?_
        refine r_last (pc := 55) h (a_wd hb) ((N * 16) + i) rfl (by omega) dX1_addWithout_55 ?_
        refine V.sg (sB_sw _ _ _ _ _ _ _ _ _ _ _) ?_
        refine r_iinc (pc := 56) (v := nI (i + 1)) (lo2 := [(4, .int (nI (i + 1))), (0, .ref (G.2.1 + (b + 1))), (1, .int (nI L)), (2, .int (nI K)), (3, .int (nI N))]) h 4 rfl (iinc1 _) (by decide) rfl dX1_addWithout_56 ?_
        refine r_goto (pc := 59) (tgt := 8) h (by decide) dX1_addWithout_59 ?_
        refine r_sub (lo2 := [(0, .ref (G.2.1 + (b + 1))), (1, .int (nI L)), (2, .int (nI K)), (3, .int (nI N)), (4, .int (nI (i + 1)))]) [1, 2, 3, 4, 0] rfl ?_
        exact ih8 (i + 1) _ (by omega) (z_step hO (by omega) _) (z_atX h0 rfl) (by omega)
  refine r_sub (lo2 := [(0, .ref (G.2.1 + (b + 1))), (1, .int (nI L)), (2, .int (nI K)), (3, .int (nI N)), (4, .int (nI 0))]) [2, 3, 4, 1, 0] rfl ?_
  exact lp8 _ 0 wz1 (by omega) hwz1.1 (fun j hj => absurd hj (Nat.not_lt_zero j)) (Nat.lt_succ_self _)

