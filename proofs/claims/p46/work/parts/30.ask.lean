/-! STATE: what it answers -/
theorem oI_ath {S : Nat → Bool} {k : Nat} : oI (ath S k) = -1 ↔ ath S k = none := oI_eq (fun v h => by have := (ath_spec h).1; omega)
theorem oI_nextO {A : Ab} {i : Nat} : oI (nextO A i) = -1 ↔ nextO A i = none := oI_ath
noncomputable def upV (A : Ab) (u : Int32) : Int32 := if rdB A u then oI (nextO A (toN u)) else -1
theorem rdB_lt {A : Ab} {i : Nat} (hR : A.2.1 ≤ 4) (hi : i < A.2.1) : rdB A (nI i) = true := by
  refine decide_eq_true ⟨?_, (nI_ltI (by omega) (by omega)).mpr hi⟩
  show nI 0 ≤ nI i
  rw [nI_leI (by omega) (by omega)]; omega
theorem upV_N {A : Ab} {i : Nat} (hR : A.2.1 ≤ 4) (hi : i < A.2.1) : upV A (nI i) = oI (nextO A i) := by
  unfold upV
  rw [rdB_lt hR hi, toN_nI (by omega)]
  rfl
theorem roomL_at {A : Ab} {c : Int32} (h : A.1 ≤ 12 ∧ c = nI A.1) : zB (decide (c < nI 12)) = zB (roomL A) := by
  rw [h.2]
  exact congrArg zB (decide_eq_decide.mpr (nI_ltI (by omega) (by omega)))
theorem roomR_at {A : Ab} {c : Int32} (h : A.2.1 ≤ 4 ∧ c = nI A.2.1) : zB (decide (c < nI 4)) = zB (roomR A) := by
  rw [h.2]
  exact congrArg zB (decide_eq_decide.mpr (nI_ltI (by omega) (by omega)))
theorem liB_at {A : Ab} {c u : Int32} (h : A.1 ≤ 12 ∧ c = nI A.1) : zB (decide (0 ≤ u ∧ u < c)) = zB (liB A u) := by rw [h.2]; rfl
theorem rdB_at {A : Ab} {c u : Int32} (h : A.2.1 ≤ 4 ∧ c = nI A.2.1) : zB (decide (0 ≤ u ∧ u < c)) = zB (rdB A u) := by rw [h.2]; rfl
theorem nxt_rel {A : Ab} {w : Nat → Int64} {L g p : Nat} (h : ∀ v, v < 1000 → bW w L v = mem (aU A) L v) (hg : g ≤ 1000) (hp : cS (mem (aU A) L) g = p) : nxt (bW w L) g = ath (mem (aU A) L) p := (nxt_cong h).trans (nxt_ath hp hg)
theorem c_isReadG (l : Launch) (G : Gl) (σ : Sg) (b : Nat) (hb : Blk b) (R : Nat) (hR : R ≤ 4) (hk : σ.1 (b + 3) 3 = nI R) (u : Int32) : Ci l yX2_isRead cX2_isRead 3 .boolean ({ frames := 0, cells := 0, slots := 0, locals := 0 } : Room) G [.ref (G.2.1 + (b + 3)), .int u] σ (fun r σ2 => r = zB (anyR (σ.1 (b + 4)) u R) ∧ σ2 = σ) := by
  have h := c_isRead l G σ b hb (σ.1 (b + 1) 1) (σ.2 (b + 2)) R hR (σ.1 (b + 3) 4) (σ.1 (b + 4)) (σ.1 (b + 5)) (σ.1 (b + 6)) u
  rw [← hk, sB_self] at h
  exact h
theorem whyN_le (A : Ab) : whyN A ≤ 2 := by
  unfold whyN
  split
  · omega
  · split <;> omega
theorem why_read {A : Ab} {c : Int32} {w : Nat → Int64} {k d : Int32} {l p f : Nat → Int32} (h : RelC A c w k d l p f) : anyR l (nI (A.1 - 1)) A.2.1 = anyN (aL A) (A.1 - 1) A.2.1 := by
  have := h.1.1
  exact anyR_N (by omega) (fun r hr => ⟨(h.2.2.2.2 r hr).2.1, by have := (h.2.2.2.2 r hr).1; omega⟩)
/-- the reader that would read the least -/
noncomputable def lstN (A : Ab) : Nat → Option Nat × Nat
  | 0 => (none, 1000)
  | n + 1 => match nextO A n with
    | none => lstN A n
    | some v => if v < (lstN A n).2 then (some n, v) else lstN A n
theorem lstN_none {A : Ab} {n : Nat} (h : nextO A n = none) : lstN A (n + 1) = lstN A n := by rw [lstN, h]
theorem lstN_lt {A : Ab} {n v : Nat} (h : nextO A n = some v) (hv : v < (lstN A n).2) : lstN A (n + 1) = (some n, v) := by rw [lstN, h]; exact if_pos hv
theorem lstN_ge {A : Ab} {n v : Nat} (h : nextO A n = some v) (hv : (lstN A n).2 ≤ v) : lstN A (n + 1) = lstN A n := by rw [lstN, h]; exact if_neg (by omega)
theorem lstN_le (A : Ab) : ∀ n, (lstN A n).2 ≤ 1000
  | 0 => Nat.le_refl _
  | n + 1 => by
    cases h : nextO A n with
    | none => rw [lstN_none h]; exact lstN_le A n
    | some v =>
      have := (ath_spec h).1
      rcases Nat.lt_or_ge v (lstN A n).2 with q | q
      · rw [lstN_lt h q]; show v ≤ 1000; omega
      · rw [lstN_ge h q]; exact lstN_le A n
/-- how many must be skipped to come to n or more -/
noncomputable def skU (A : Ab) (r n : Nat) : Int32 := match ath (mem (aU A) (aL A r)) (max (cS (mem (aU A) (aL A r)) n) (aP A r)) with
  | none => -1
  | some _ => nI (max (cS (mem (aU A) (aL A r)) n) (aP A r) - aP A r)
theorem skU_hit {A : Ab} {r n m v i : Nat} (hv : nxt (mem (aU A) (aL A r)) m = some v) (hc : cS (mem (aU A) (aL A r)) m = aP A r + i) (hm : i = 0 ∨ m ≤ n) (hn : n ≤ v) : skU A r n = nI i := by
  obtain ⟨h1, h2, h3, h4⟩ := nxt_spec hv
  have e0 := (nxt_cS hv).1
  have e : max (cS (mem (aU A) (aL A r)) n) (aP A r) = aP A r + i := by
    have := cS_mono (mem (aU A) (aL A r)) hn
    rcases hm with q | q
    · omega
    · have := cS_mono (mem (aU A) (aL A r)) q
      omega
  unfold skU
  rw [e, ath_some h2 h3 (e0.trans hc)]
  show nI (aP A r + i - aP A r) = nI i
  rw [Nat.add_sub_cancel_left]
theorem skU_none {A : Ab} {r n m i : Nat} (hv : nxt (mem (aU A) (aL A r)) m = none) (hm9 : m ≤ 1000) (hc : cS (mem (aU A) (aL A r)) m = aP A r + i) (hm : i = 0 ∨ m ≤ n) : skU A r n = -1 := by
  have e0 := nxt_cSN hm9 hv
  have : cS (mem (aU A) (aL A r)) 1000 ≤ max (cS (mem (aU A) (aL A r)) n) (aP A r) := by
    rcases hm with q | q
    · omega
    · have := cS_mono (mem (aU A) (aL A r)) q
      omega
  unfold skU
  rw [ath_none this]
theorem nxt_end (S : Nat → Bool) {m : Nat} (h : 1000 ≤ m) : nxt S m = none := nxt_none (fun u a b => by omega)
set_option maxRecDepth 100000 in
set_option maxHeartbeats 800000 in
theorem c_first (l : Launch) (G : Gl) (σ : Sg) (t1 t2 t3 : Bool) : Ci l yX3_first cX3_first 3 .int ({ frames := 0, cells := 0, slots := 0, locals := 0 } : Room) G [.int (zB t1), .int (zB t2), .int (zB t3)] σ (fun r σ2 => r = nI (fst3 t1 t2 t3) ∧ σ2 = σ) := by
  refine Ci_of (own := RX3) rfl (by decide +kernel) (lo := [(0, .int (zB t1)), (1, .int (zB t2)), (2, .int (zB t3))]) rfl (Nat.le_of_ble_eq_true rfl) (fun r s hp => by obtain ⟨rfl, _⟩ := hp; rfl) ?_
  intro x Q hxl h hret
  subst hxl
  refine r_iload_n (pc := 0) h 0 rfl rfl dX3_first_0 ?_
  refine r_if_ne (pc := 1) (tgt := 6) h (by decide) dX3_first_1 (fun c1 => ?_) (fun c1 => ?_)
  · skip
    replace c1 := zB_n0.mp c1
    refine r_iload_n (pc := 6) h 1 rfl rfl dX3_first_6 ?_
    refine r_if_ne (pc := 7) (tgt := 12) h (by decide) dX3_first_7 (fun c7 => ?_) (fun c7 => ?_)
    · skip
      replace c7 := zB_n0.mp c7
      refine r_iload_n (pc := 12) h 2 rfl rfl dX3_first_12 ?_
      refine r_if_eq (pc := 13) (tgt := 20) h (by decide) dX3_first_13 (fun c13 => ?_) (fun c13 => ?_)
      · skip
        replace c13 := zB_0.mp c13
        refine r_iconst (pc := 20) (v := nI 3) h (by decide) dX3_first_20 ?_
        exact hret _ _ (⟨by rw [show fst3 t1 t2 t3 = 3 from by simp [fst3, c1, c7, c13]], rfl⟩) 21 _ dX3_first_21
      · skip
        replace c13 := zB_n0.mp c13
        refine r_iconst (pc := 16) (v := nI 0) h (by decide) dX3_first_16 ?_
        refine r_goto (pc := 17) (tgt := 21) h (by decide) dX3_first_17 ?_
        exact hret _ _ (⟨by rw [show fst3 t1 t2 t3 = 0 from by simp [fst3, c1, c7, c13]], rfl⟩) 21 _ dX3_first_21
    · skip
      replace c7 := zB_0.mp c7
      refine r_iconst (pc := 10) (v := nI 2) h (by decide) dX3_first_10 ?_
      exact hret _ _ (⟨by rw [show fst3 t1 t2 t3 = 2 from by simp [fst3, c1, c7]], rfl⟩) 11 _ dX3_first_11
  · skip
    replace c1 := zB_0.mp c1
    refine r_iconst (pc := 4) (v := nI 1) h (by decide) dX3_first_4 ?_
    exact hret _ _ (⟨by rw [show fst3 t1 t2 t3 = 1 from by simp [fst3, c1]], rfl⟩) 5 _ dX3_first_5

set_option maxRecDepth 100000 in
set_option maxHeartbeats 800000 in
theorem c_reasonAgainstDrop (l : Launch) (G : Gl) (σ : Sg) (b : Nat) (hb : Blk b) (A : Ab) (hr : RelB A σ b) : Ci l yX3_reasonAgainstDrop cX3_reasonAgainstDrop 1 .int ({ frames := 1, cells := 0, slots := 0, locals := 22 } : Room) G [.ref (G.2.1 + b)] σ (fun r σ2 => r = nI (whyN A) ∧ σ2 = σ) := by
  refine Ci_of (own := RX3) rfl (by decide +kernel) (lo := [(0, .ref (G.2.1 + b))]) rfl (Nat.le_of_ble_eq_true rfl) (fun r s hp => by obtain ⟨rfl, _⟩ := hp; rfl) ?_
  intro x Q hxl h hret
  subst hxl
  have hN12 := hr.1.1
  have hR4 := hr.2.1.1
  have hwy := whyN_le A
  refine r_aload_n (pc := 0) h 0 rfl rfl dX3_reasonAgainstDrop_0 ?_
  refine g_3_lists (pc := 1) hb h mw_2_15 dX3_reasonAgainstDrop_1 ?_
  refine g_1_count (pc := 4) hb h mw_6_23 dX3_reasonAgainstDrop_4 ?_
  refine r_topi (b := nI A.1) hr.1.2 ?_
  refine r_if_ne (pc := 7) (tgt := 12) h (by decide) dX3_reasonAgainstDrop_7 (fun c7 => ?_) (fun c7 => ?_)
  · skip
    rw [zI0, nI_eq (by omega) (by omega)] at c7
    refine r_aload_n (pc := 12) h 0 rfl rfl dX3_reasonAgainstDrop_12 ?_
    refine g_3_readers (pc := 13) hb h mw_2_19 dX3_reasonAgainstDrop_13 ?_
    refine r_aload_n (pc := 16) h 0 rfl rfl dX3_reasonAgainstDrop_16 ?_
    refine g_3_lists (pc := 17) hb h mw_2_15 dX3_reasonAgainstDrop_17 ?_
    refine g_1_count (pc := 20) hb h mw_6_23 dX3_reasonAgainstDrop_20 ?_
    refine r_topi (b := nI A.1) hr.1.2 ?_
    refine r_iconst (pc := 23) (v := nI 1) h (by decide) dX3_reasonAgainstDrop_23 ?_
    refine r_isub (pc := 24) (v := nI (A.1 - 1)) h (pk_sub (by omega)) dX3_reasonAgainstDrop_24 ?_
    refine r_cVi (pc := 25) (As := [.int (nI (A.1 - 1))]) (st := []) h lk_RX3_116 (c_isReadG x.2.1 G σ b hb A.2.1 hr.2.1.1 hr.2.1.2 (nI (A.1 - 1))) (rc_2 hb) (by decide) rfl rfl (by first | decide | exact Nat.le_of_ble_eq_true rfl) (by decide) dX3_reasonAgainstDrop_25 (fun r1 s2 q3 => ?_)
    rw [q3.1, q3.2]
    refine r_topi (b := zB (anyN (aL A) (A.1 - 1) A.2.1)) (congrArg zB (why_read hr)) ?_
    refine r_if_eq (pc := 28) (tgt := 35) h (by decide) dX3_reasonAgainstDrop_28 (fun c28 => ?_) (fun c28 => ?_)
    · skip
      replace c28 := zB_0.mp c28
      refine r_iconst (pc := 35) (v := nI 0) h (by decide) dX3_reasonAgainstDrop_35 ?_
      exact hret _ _ (⟨by rw [show whyN A = 0 from by simp [whyN, c7, c28]], rfl⟩) 36 _ dX3_reasonAgainstDrop_36
    · skip
      replace c28 := zB_n0.mp c28
      refine r_iconst (pc := 31) (v := nI 2) h (by decide) dX3_reasonAgainstDrop_31 ?_
      refine r_goto (pc := 32) (tgt := 36) h (by decide) dX3_reasonAgainstDrop_32 ?_
      exact hret _ _ (⟨by rw [show whyN A = 2 from by simp [whyN, c7, c28]], rfl⟩) 36 _ dX3_reasonAgainstDrop_36
  · skip
    rw [zI0, nI_eq (by omega) (by omega)] at c7
    refine r_iconst (pc := 10) (v := nI 1) h (by decide) dX3_reasonAgainstDrop_10 ?_
    exact hret _ _ (⟨by rw [show whyN A = 1 from by simp [whyN, c7]], rfl⟩) 11 _ dX3_reasonAgainstDrop_11

set_option maxRecDepth 100000 in
set_option maxHeartbeats 800000 in
theorem c_upcoming (l : Launch) (G : Gl) (σ : Sg) (b : Nat) (hb : Blk b) (A : Ab) (hr : RelB A σ b) (u : Int32) : Ci l yX3_upcoming cX3_upcoming 2 .int ({ frames := 3, cells := 0, slots := 0, locals := 69 } : Room) G [.ref (G.2.1 + b), .int u] σ (fun r σ2 => r = upV A u ∧ σ2 = σ) := by
  refine Ci_of (own := RX3) rfl (by decide +kernel) (lo := [(0, .ref (G.2.1 + b)), (1, .int u)]) rfl (Nat.le_of_ble_eq_true rfl) (fun r s hp => by obtain ⟨rfl, _⟩ := hp; rfl) ?_
  intro x Q hxl h hret
  subst hxl
  have hN12 := hr.1.1
  have hR4 := hr.2.1.1
  have hwy := whyN_le A
  refine r_aload_n (pc := 0) h 0 rfl rfl dX3_upcoming_0 ?_
  refine g_3_readers (pc := 1) hb h mw_2_19 dX3_upcoming_1 ?_
  refine r_iload_n (pc := 4) h 1 rfl rfl dX3_upcoming_4 ?_
  refine r_cVi (pc := 5) (As := [.int u]) (st := []) h lk_RX3_61 (c_isReader x.2.1 G σ b hb u) (rc_2 hb) (by decide) rfl rfl (by first | decide | exact Nat.le_of_ble_eq_true rfl) (by decide) dX3_upcoming_5 (fun r1 s2 q3 => ?_)
  rw [q3.1, q3.2]
  refine r_topi (b := zB (rdB A u)) (rdB_at hr.2.1) ?_
  refine r_if_ne (pc := 8) (tgt := 13) h (by decide) dX3_upcoming_8 (fun c8 => ?_) (fun c8 => ?_)
  · skip
    replace c8 := zB_n0.mp c8
    obtain ⟨i, rfl, hi⟩ := rdB_nI hr.2.1.1 c8
    obtain ⟨q1, q2, q3, g, hg, q4, q5⟩ := hr.2.2.2.2 i hi
    obtain ⟨p1, p2, p3⟩ := hr.2.2.2.1 _ q1
    refine r_aload_n (pc := 13) h 0 rfl rfl dX3_upcoming_13 ?_
    refine g_3_lists (pc := 14) hb h mw_2_15 dX3_upcoming_14 ?_
    refine r_aload_n (pc := 17) h 0 rfl rfl dX3_upcoming_17 ?_
    refine g_3_readers (pc := 18) hb h mw_2_19 dX3_upcoming_18 ?_
    refine g_2_list (pc := 21) hb h mw_9_9 dX3_upcoming_21 ?_
    refine r_iload_n (pc := 24) h 1 rfl rfl dX3_upcoming_24 ?_
    refine r_iald (pc := 25) h (a_li hb) i rfl (by omega) dX3_upcoming_25 ?_
    refine r_topi (b := nI (aL A i)) q2 ?_
    refine r_aload_n (pc := 26) h 0 rfl rfl dX3_upcoming_26 ?_
    refine g_3_readers (pc := 27) hb h mw_2_19 dX3_upcoming_27 ?_
    refine g_2_from (pc := 30) hb h mw_9_10 dX3_upcoming_30 ?_
    refine r_iload_n (pc := 33) h 1 rfl rfl dX3_upcoming_33 ?_
    refine r_iald (pc := 34) h (a_fr hb) i rfl (by omega) dX3_upcoming_34 ?_
    refine r_topi (b := nI g) q4 ?_
    refine r_cVi (pc := 35) (As := [.int (nI (aL A i)), .int (nI g)]) (st := []) h lk_RX3_126 (c_nextFrom x.2.1 G σ b hb (aL A i) g (by omega) (by omega) p2) (rc_1 hb) (by decide) rfl rfl (by first | decide | exact Nat.le_of_ble_eq_true rfl) (by decide) dX3_upcoming_35 (fun r4 s5 q6 => ?_)
    rw [q6.1, q6.2]
    refine r_topi (b := oI (nextO A i)) (congrArg oI (nxt_rel p3 hg q5)) ?_
    exact hret _ _ (⟨(upV_N hr.2.1.1 hi).symm, rfl⟩) 38 _ dX3_upcoming_38
  · skip
    replace c8 := zB_0.mp c8
    refine r_iconst (pc := 11) (v := (-1)) h (by decide) dX3_upcoming_11 ?_
    exact hret _ _ (⟨by unfold upV; rw [c8]; rfl, rfl⟩) 12 _ dX3_upcoming_12

set_option maxRecDepth 100000 in
set_option maxHeartbeats 800000 in
theorem c_readerOfLeast (l : Launch) (G : Gl) (σ : Sg) (b : Nat) (hb : Blk b) (A : Ab) (hr : RelB A σ b) : Ci l yX3_readerOfLeast cX3_readerOfLeast 5 .int ({ frames := 4, cells := 0, slots := 0, locals := 90 } : Room) G [.ref (G.2.1 + b)] σ (fun r σ2 => r = oI (lstN A A.2.1).1 ∧ σ2 = σ) := by
  refine Ci_of (own := RX3) rfl (by decide +kernel) (lo := [(0, .ref (G.2.1 + b))]) rfl (Nat.le_of_ble_eq_true rfl) (fun r s hp => by obtain ⟨rfl, _⟩ := hp; rfl) ?_
  intro x Q hxl h hret
  subst hxl
  have hN12 := hr.1.1
  have hR4 := hr.2.1.1
  have hwy := whyN_le A
  refine r_iconst (pc := 0) (v := (-1)) h (by decide) dX3_readerOfLeast_0 ?_
  refine r_istore_n (pc := 1) (lo2 := [(1, .int (-1)), (0, .ref (G.2.1 + b))]) h rfl (by decide) rfl dX3_readerOfLeast_1 ?_
  refine r_sipush (pc := 2) (v := nI 1000) h (by decide) dX3_readerOfLeast_2 ?_
  refine r_istore_n (pc := 5) (lo2 := [(2, .int (nI 1000)), (1, .int (-1)), (0, .ref (G.2.1 + b))]) h rfl (by decide) rfl dX3_readerOfLeast_5 ?_
  refine r_iconst (pc := 6) (v := nI 0) h (by decide) dX3_readerOfLeast_6 ?_
  refine r_istore_n (pc := 7) (lo2 := [(3, .int (nI 0)), (2, .int (nI 1000)), (1, .int (-1)), (0, .ref (G.2.1 + b))]) h rfl (by decide) rfl dX3_readerOfLeast_7 ?_
  have lp8 : ∀ (fu : Nat) (i : Nat) (o : Option Nat) (m : Nat), i ≤ A.2.1 → m ≤ 1000 → lstN A i = (o, m) → A.2.1 - i < fu → V x G 5 0 0 Q σ 8 [(0, .ref (G.2.1 + b)), (1, .int (oI o)), (2, .int (nI m)), (3, .int (nI i))] [] := by
    intro fu
    induction fu with
    | zero => intro i o m hi hm ho hfu; exact absurd hfu (Nat.not_lt_zero _)
    | succ fu ih8 =>
      intro i o m hi hm ho hfu
      refine r_iload_n (pc := 8) h 3 rfl rfl dX3_readerOfLeast_8 ?_
      refine r_aload_n (pc := 9) h 0 rfl rfl dX3_readerOfLeast_9 ?_
      refine g_3_readers (pc := 10) hb h mw_2_19 dX3_readerOfLeast_10 ?_
      refine g_2_count (pc := 13) hb h mw_7_0 dX3_readerOfLeast_13 ?_
      refine r_topi (b := nI A.2.1) hr.2.1.2 ?_
      refine r_icmp_ge (pc := 16) (tgt := 49) h (by decide) dX3_readerOfLeast_16 (fun c16 => ?_) (fun c16 => ?_)
      · skip
        rw [nI_leI (by omega) (by omega)] at c16
        refine r_iload_n (pc := 49) h 1 rfl rfl dX3_readerOfLeast_49 ?_
        have ei : i = A.2.1 := by omega
        subst ei
        exact hret _ _ (⟨by rw [ho], rfl⟩) 50 _ dX3_readerOfLeast_50
      · skip
        rw [nI_leI (by omega) (by omega)] at c16
        refine r_aload_n (pc := 19) h 0 rfl rfl dX3_readerOfLeast_19 ?_
        refine r_iload_n (pc := 20) h 3 rfl rfl dX3_readerOfLeast_20 ?_
        refine r_cVi (pc := 21) (As := [.int (nI i)]) (st := []) h lk_RX3_64 (c_upcoming x.2.1 G σ b hb A hr (nI i)) (rc_3 hb) (by decide) rfl rfl (by first | decide | exact Nat.le_of_ble_eq_true rfl) (by decide) dX3_readerOfLeast_21 (fun r1 s2 q3 => ?_)
        rw [q3.1, q3.2, upV_N hr.2.1.1 (by omega)]
        refine r_istore (pc := 24) (lo2 := [(4, .int (oI (nextO A i))), (0, .ref (G.2.1 + b)), (1, .int (oI o)), (2, .int (nI m)), (3, .int (nI i))]) h (by decide) rfl dX3_readerOfLeast_24 ?_
        refine r_iload (pc := 26) h 0 rfl dX3_readerOfLeast_26 ?_
        refine r_iconst (pc := 28) (v := (-1)) h (by decide) dX3_readerOfLeast_28 ?_
        refine r_icmp_eq (pc := 29) (tgt := 43) h (by decide) dX3_readerOfLeast_29 (fun c29 => ?_) (fun c29 => ?_)
        · skip
          refine r_iinc (pc := 43) (v := nI (i + 1)) (lo2 := [(3, .int (nI (i + 1))), (4, .int (oI (nextO A i))), (0, .ref (G.2.1 + b)), (1, .int (oI o)), (2, .int (nI m))]) h 4 rfl (iinc1 _) (by decide) rfl dX3_readerOfLeast_43 ?_
          refine r_goto (pc := 46) (tgt := 8) h (by decide) dX3_readerOfLeast_46 ?_
          refine r_sub (lo2 := [(0, .ref (G.2.1 + b)), (1, .int (oI o)), (2, .int (nI m)), (3, .int (nI (i + 1)))]) [2, 3, 4, 0] rfl ?_
          exact ih8 (i + 1) o m (by omega) hm (by first | rw [lstN_none (oI_nextO.mp c29)]; exact ho | rw [lstN_ge hv (by rw [ho]; exact c35)]; exact ho) (by omega)
        · skip
          obtain ⟨v, hv⟩ : ∃ v, nextO A i = some v := by
            cases e9 : nextO A i with
            | none => exact absurd (by rw [e9]; rfl) c29
            | some v9 => exact ⟨v9, rfl⟩
          have v9 := (ath_spec hv).1
          rw [hv]
          refine r_sub (lo2 := [(4, .int (nI v)), (0, .ref (G.2.1 + b)), (1, .int (oI o)), (2, .int (nI m)), (3, .int (nI i))]) [0, 1, 2, 3, 4] rfl ?_
          refine r_iload (pc := 32) h 0 rfl dX3_readerOfLeast_32 ?_
          refine r_iload_n (pc := 34) h 3 rfl rfl dX3_readerOfLeast_34 ?_
          refine r_icmp_ge (pc := 35) (tgt := 43) h (by decide) dX3_readerOfLeast_35 (fun c35 => ?_) (fun c35 => ?_)
          · skip
            rw [nI_leI (by omega) (by omega)] at c35
            refine r_iinc (pc := 43) (v := nI (i + 1)) (lo2 := [(3, .int (nI (i + 1))), (4, .int (nI v)), (0, .ref (G.2.1 + b)), (1, .int (oI o)), (2, .int (nI m))]) h 4 rfl (iinc1 _) (by decide) rfl dX3_readerOfLeast_43 ?_
            refine r_goto (pc := 46) (tgt := 8) h (by decide) dX3_readerOfLeast_46 ?_
            refine r_sub (lo2 := [(0, .ref (G.2.1 + b)), (1, .int (oI o)), (2, .int (nI m)), (3, .int (nI (i + 1)))]) [2, 3, 4, 0] rfl ?_
            exact ih8 (i + 1) o m (by omega) hm (by first | rw [lstN_none (oI_nextO.mp c29)]; exact ho | rw [lstN_ge hv (by rw [ho]; exact c35)]; exact ho) (by omega)
          · skip
            rw [nI_leI (by omega) (by omega)] at c35
            refine r_iload_n (pc := 38) h 4 rfl rfl dX3_readerOfLeast_38 ?_
            refine r_istore_n (pc := 39) (lo2 := [(1, .int (nI i)), (4, .int (nI v)), (0, .ref (G.2.1 + b)), (2, .int (nI m)), (3, .int (nI i))]) h rfl (by decide) rfl dX3_readerOfLeast_39 ?_
            refine r_iload (pc := 40) h 1 rfl dX3_readerOfLeast_40 ?_
            refine r_istore_n (pc := 42) (lo2 := [(2, .int (nI v)), (1, .int (nI i)), (4, .int (nI v)), (0, .ref (G.2.1 + b)), (3, .int (nI i))]) h rfl (by decide) rfl dX3_readerOfLeast_42 ?_
            refine r_iinc (pc := 43) (v := nI (i + 1)) (lo2 := [(3, .int (nI (i + 1))), (2, .int (nI v)), (1, .int (nI i)), (4, .int (nI v)), (0, .ref (G.2.1 + b))]) h 4 rfl (iinc1 _) (by decide) rfl dX3_readerOfLeast_43 ?_
            refine r_goto (pc := 46) (tgt := 8) h (by decide) dX3_readerOfLeast_46 ?_
            refine r_sub (lo2 := [(0, .ref (G.2.1 + b)), (1, .int (nI i)), (2, .int (nI v)), (3, .int (nI (i + 1)))]) [4, 2, 1, 0] rfl ?_
            exact ih8 (i + 1) (some i) v (by omega) (by omega) (lstN_lt hv (by rw [ho]; omega)) (by omega)
  refine r_sub (lo2 := [(0, .ref (G.2.1 + b)), (1, .int (-1)), (2, .int (nI 1000)), (3, .int (nI 0))]) [3, 2, 1, 0] rfl ?_
  exact lp8 _ 0 none 1000 (by omega) (by omega) rfl (Nat.lt_succ_self _)

set_option maxRecDepth 100000 in
set_option maxHeartbeats 800000 in
theorem c_skipsUntil (l : Launch) (G : Gl) (σ : Sg) (b : Nat) (hb : Blk b) (A : Ab) (hr : RelB A σ b) (r n : Nat) (hi : r < A.2.1) (hn : n < 1000) : Ci l yX3_skipsUntil cX3_skipsUntil 6 .int ({ frames := 4, cells := 0, slots := 0, locals := 90 } : Room) G [.ref (G.2.1 + b), .int (nI r), .int (nI n)] σ (fun r1 σ2 => r1 = skU A r n ∧ σ2 = σ) := by
  refine Ci_of (own := RX3) rfl (by decide +kernel) (lo := [(0, .ref (G.2.1 + b)), (1, .int (nI r)), (2, .int (nI n))]) rfl (Nat.le_of_ble_eq_true rfl) (fun _ s hp => by obtain ⟨rfl, _⟩ := hp; rfl) ?_
  intro x Q hxl h hret
  subst hxl
  have hN12 := hr.1.1
  have hR4 := hr.2.1.1
  have hwy := whyN_le A
  obtain ⟨q1, q2, q3, g, hg, q4, q5⟩ := hr.2.2.2.2 r hi
  obtain ⟨p1, p2, p3⟩ := hr.2.2.2.1 _ q1
  refine r_aload_n (pc := 0) h 0 rfl rfl dX3_skipsUntil_0 ?_
  refine g_3_readers (pc := 1) hb h mw_2_19 dX3_skipsUntil_1 ?_
  refine g_2_list (pc := 4) hb h mw_9_9 dX3_skipsUntil_4 ?_
  refine r_iload_n (pc := 7) h 1 rfl rfl dX3_skipsUntil_7 ?_
  refine r_iald (pc := 8) h (a_li hb) r rfl (by omega) dX3_skipsUntil_8 ?_
  refine r_topi (b := nI (aL A r)) q2 ?_
  refine r_istore_n (pc := 9) (lo2 := [(3, .int (nI (aL A r))), (0, .ref (G.2.1 + b)), (1, .int (nI r)), (2, .int (nI n))]) h rfl (by decide) rfl dX3_skipsUntil_9 ?_
  refine r_aload_n (pc := 10) h 1 rfl rfl dX3_skipsUntil_10 ?_
  refine r_iload_n (pc := 11) h 2 rfl rfl dX3_skipsUntil_11 ?_
  refine r_cVi (pc := 12) (As := [.int (nI r)]) (st := []) h lk_RX3_64 (c_upcoming x.2.1 G σ b hb A hr (nI r)) (rc_3 hb) (by decide) rfl rfl (by first | decide | exact Nat.le_of_ble_eq_true rfl) (by decide) dX3_skipsUntil_12 (fun r1 s2 q3 => ?_)
  rw [q3.1, q3.2, upV_N hr.2.1.1 (by omega)]
  refine r_topi (b := oI (nxt (mem (aU A) (aL A r)) g)) (congrArg oI (nxt_ath q5 hg).symm) ?_
  refine r_istore (pc := 15) (lo2 := [(4, .int (oI (nxt (mem (aU A) (aL A r)) g))), (3, .int (nI (aL A r))), (0, .ref (G.2.1 + b)), (1, .int (nI r)), (2, .int (nI n))]) h (by decide) rfl dX3_skipsUntil_15 ?_
  refine r_iconst (pc := 17) (v := nI 0) h (by decide) dX3_skipsUntil_17 ?_
  refine r_istore (pc := 18) (lo2 := [(5, .int (nI 0)), (4, .int (oI (nxt (mem (aU A) (aL A r)) g))), (3, .int (nI (aL A r))), (0, .ref (G.2.1 + b)), (1, .int (nI r)), (2, .int (nI n))]) h (by decide) rfl dX3_skipsUntil_18 ?_
  have lp20 : ∀ (fu : Nat) (i : Nat) (m : Nat), i ≤ 1000 → m ≤ 1000 → cS (mem (aU A) (aL A r)) m = aP A r + i → (i = 0 ∨ m ≤ n) → 1000 - i < fu → V x G 6 0 0 Q σ 20 [(0, .ref (G.2.1 + b)), (2, .int (nI n)), (3, .int (nI (aL A r))), (4, .int (oI (nxt (mem (aU A) (aL A r)) m))), (5, .int (nI i))] [] := by
    intro fu
    induction fu with
    | zero => intro i m hi2 hm hc hmn hfu; exact absurd hfu (Nat.not_lt_zero _)
    | succ fu ih20 =>
      intro i m hi2 hm hc hmn hfu
      refine r_iload (pc := 20) h 4 rfl dX3_skipsUntil_20 ?_
      refine r_sipush (pc := 22) (v := nI 1000) h (by decide) dX3_skipsUntil_22 ?_
      refine r_icmp_ge (pc := 25) (tgt := 63) h (by decide) dX3_skipsUntil_25 (fun c25 => ?_) (fun c25 => ?_)
      · skip
        rw [nI_leI (by omega) (by omega)] at c25
        refine r_iconst (pc := 63) (v := (-1)) h (by decide) dX3_skipsUntil_63 ?_
        exact hret _ _ (⟨(skU_none (nxt_end _ (by have := cS_le (mem (aU A) (aL A r)) m; omega)) hm hc hmn).symm, rfl⟩) 64 _ dX3_skipsUntil_64
      · skip
        rw [nI_leI (by omega) (by omega)] at c25
        refine r_iload (pc := 28) h 3 rfl dX3_skipsUntil_28 ?_
        refine r_iconst (pc := 30) (v := (-1)) h (by decide) dX3_skipsUntil_30 ?_
        refine r_icmp_eq (pc := 31) (tgt := 63) h (by decide) dX3_skipsUntil_31 (fun c31 => ?_) (fun c31 => ?_)
        · skip
          refine r_iconst (pc := 63) (v := (-1)) h (by decide) dX3_skipsUntil_63 ?_
          exact hret _ _ (⟨(skU_none (oI_nxt.mp c31) hm hc hmn).symm, rfl⟩) 64 _ dX3_skipsUntil_64
        · skip
          obtain ⟨v, hv⟩ : ∃ v, nxt (mem (aU A) (aL A r)) m = some v := by
            cases e9 : nxt (mem (aU A) (aL A r)) m with
            | none => exact absurd (by rw [e9]; rfl) c31
            | some v9 => exact ⟨v9, rfl⟩
          obtain ⟨v1, v2, v3, v4⟩ := nxt_spec hv
          rw [hv]
          refine r_sub (lo2 := [(0, .ref (G.2.1 + b)), (2, .int (nI n)), (3, .int (nI (aL A r))), (4, .int (nI v)), (5, .int (nI i))]) [0, 1, 2, 3, 4] rfl ?_
          refine r_iload (pc := 34) h 3 rfl dX3_skipsUntil_34 ?_
          refine r_iload_n (pc := 36) h 1 rfl rfl dX3_skipsUntil_36 ?_
          refine r_icmp_lt (pc := 37) (tgt := 43) h (by decide) dX3_skipsUntil_37 (fun c37 => ?_) (fun c37 => ?_)
          · skip
            rw [nI_ltI (by omega) (by omega)] at c37
            refine r_aload_n (pc := 43) h 0 rfl rfl dX3_skipsUntil_43 ?_
            refine g_3_lists (pc := 44) hb h mw_2_15 dX3_skipsUntil_44 ?_
            refine r_iload_n (pc := 47) h 2 rfl rfl dX3_skipsUntil_47 ?_
            refine r_iload (pc := 48) h 3 rfl dX3_skipsUntil_48 ?_
            refine r_iconst (pc := 50) (v := nI 1) h (by decide) dX3_skipsUntil_50 ?_
            refine r_iadd (pc := 51) (v := nI (v + 1)) h (nI_add _ _) dX3_skipsUntil_51 ?_
            refine r_cVi (pc := 52) (As := [.int (nI (aL A r)), .int (nI (v + 1))]) (st := []) h lk_RX3_126 (c_nextFrom x.2.1 G σ b hb (aL A r) (v + 1) (by omega) (by omega) p2) (rc_1 hb) (by decide) rfl rfl (by first | decide | exact Nat.le_of_ble_eq_true rfl) (by decide) dX3_skipsUntil_52 (fun r4 s5 q6 => ?_)
            rw [q6.1, q6.2, nxt_cong p3]
            refine r_istore (pc := 55) (lo2 := [(4, .int (oI (nxt (mem (aU A) (aL A r)) (v + 1)))), (0, .ref (G.2.1 + b)), (2, .int (nI n)), (3, .int (nI (aL A r))), (5, .int (nI i))]) h (by decide) rfl dX3_skipsUntil_55 ?_
            refine r_iinc (pc := 57) (v := nI (i + 1)) (lo2 := [(5, .int (nI (i + 1))), (4, .int (oI (nxt (mem (aU A) (aL A r)) (v + 1)))), (0, .ref (G.2.1 + b)), (2, .int (nI n)), (3, .int (nI (aL A r)))]) h 4 rfl (iinc1 _) (by decide) rfl dX3_skipsUntil_57 ?_
            refine r_goto (pc := 60) (tgt := 20) h (by decide) dX3_skipsUntil_60 ?_
            refine r_sub (lo2 := [(0, .ref (G.2.1 + b)), (2, .int (nI n)), (3, .int (nI (aL A r))), (4, .int (oI (nxt (mem (aU A) (aL A r)) (v + 1)))), (5, .int (nI (i + 1)))]) [2, 3, 4, 1, 0] rfl ?_
            exact ih20 (i + 1) (v + 1) (by omega) (by omega) (by rw [(nxt_cS hv).2, hc]; rfl) (Or.inr (by omega)) (by omega)
          · skip
            rw [nI_ltI (by omega) (by omega)] at c37
            refine r_iload (pc := 40) h 4 rfl dX3_skipsUntil_40 ?_
            exact hret _ _ (⟨(skU_hit hv hc hmn (by omega)).symm, rfl⟩) 42 _ dX3_skipsUntil_42
  refine r_sub (lo2 := [(0, .ref (G.2.1 + b)), (2, .int (nI n)), (3, .int (nI (aL A r))), (4, .int (oI (nxt (mem (aU A) (aL A r)) g))), (5, .int (nI 0))]) [3, 5, 2, 1, 0] rfl ?_
  exact lp20 _ 0 g (by omega) hg q5 (Or.inl rfl) (Nat.lt_succ_self _)

theorem ob_read {A : Ab} {b0 : Bool} {c1 c2 c3 : Int32} {c : Int32} {w : Nat → Int64} {k d : Int32} {l p f : Nat → Int32} (hr : RelC A c w k d l p f) (h : (upV A c1 = -1 ∧ b0 = false) ∨ (¬ upV A c1 = -1 ∧ b0 = true)) : nI (fst3 (rdB A c1) true b0) = nI (ob A 110 c1 c2 c3) := by
  show _ = nI (fst3 (rdB A c1) true (nextO A (toN c1)).isSome)
  cases e : rdB A c1 with
  | false => rfl
  | true =>
    obtain ⟨i, rfl, hi⟩ := rdB_nI hr.2.1.1 e
    have := hr.2.1.1
    rw [upV_N hr.2.1.1 hi, oI_nextO] at h
    rw [toN_nI (by omega)]
    rcases h with ⟨h1, rfl⟩ | ⟨h1, rfl⟩
    · rw [h1]; rfl
    · cases e2 : nextO A i with
      | none => exact absurd e2 h1
      | some v => rfl
set_option maxRecDepth 100000 in
set_option maxHeartbeats 800000 in
theorem c_objection (l : Launch) (G : Gl) (σ : Sg) (b : Nat) (hb : Blk b) (A : Ab) (hr : RelB A σ b) (K : Nat) (hK : K = 115 ∨ K = 120 ∨ K = 106 ∨ K = 104 ∨ K = 119 ∨ K = 118 ∨ K = 117 ∨ K = 101 ∨ K = 100 ∨ K = 114 ∨ K = 110 ∨ K = 107 ∨ K = 122 ∨ K = 113) (u1 u2 u3 : Int32) : Ci l yX3_objection cX3_objection 5 .int ({ frames := 4, cells := 0, slots := 0, locals := 90 } : Room) G [.ref (G.2.1 + b), .int (nI K), .int u1, .int u2, .int u3] σ (fun r σ2 => r = nI (ob A K u1 u2 u3) ∧ σ2 = σ) := by
  refine Ci_of (own := RX3) rfl (by decide +kernel) (lo := [(0, .ref (G.2.1 + b)), (1, .int (nI K)), (2, .int u1), (3, .int u2), (4, .int u3)]) rfl (Nat.le_of_ble_eq_true rfl) (fun r s hp => by obtain ⟨rfl, _⟩ := hp; rfl) ?_
  intro x Q hxl h hret
  subst hxl
  have hN12 := hr.1.1
  have hR4 := hr.2.1.1
  have hwy := whyN_le A
  refine r_iload_n (pc := 0) h 1 rfl rfl dX3_objection_0 ?_
  rcases hK with rfl | rfl | rfl | rfl | rfl | rfl | rfl | rfl | rfl | rfl | rfl | rfl | rfl | rfl
  · skip
    refine r_tabIn (pc := 1) (off := 107) (tgt := 108) h (by decide) (by decide) (by decide) (by decide) dX3_objection_1 ?_
    refine r_iconst (pc := 108) (v := nI 1) h (by decide) dX3_objection_108 ?_
    refine r_iload_n (pc := 109) h 2 rfl rfl dX3_objection_109 ?_
    refine r_iconst (pc := 110) (v := nI 0) h (by decide) dX3_objection_110 ?_
    refine r_sipush (pc := 111) (v := nI 999) h (by decide) dX3_objection_111 ?_
    refine r_cNi (pc := 114) (idx := 40) (host := RX5) (As := [.int u1, .int (nI 0), .int (nI 999)]) (st := [.int (nI 1)]) h lkn_isWithin (fun s hs => hs.2) (c_isWithin x.2.1 G σ u1 (nI 0) (nI 999)) (by decide) rfl rfl (by first | decide | exact Nat.le_of_ble_eq_true rfl) (by decide) dX3_objection_114 (fun r1 s2 q3 => ?_)
    rw [q3.1, q3.2]
    refine r_topi (b := zB (inB (nI 0) (nI 999) u1)) rfl ?_
    refine r_if_eq (pc := 117) (tgt := 134) h (by decide) dX3_objection_117 (fun c117 => ?_) (fun c117 => ?_)
    · skip
      replace c117 := zB_0.mp c117
      refine r_iconst (pc := 134) (v := nI 0) h (by decide) dX3_objection_134 ?_
      refine r_aload_n (pc := 135) h 0 rfl rfl dX3_objection_135 ?_
      refine g_3_lists (pc := 136) hb h mw_2_15 dX3_objection_136 ?_
      refine r_cVi (pc := 139) (As := []) (st := [.int (nI 0), .int (nI 1)]) h lk_RX3_44 (c_hasRoomL x.2.1 G σ b hb) (rc_1 hb) (by decide) rfl rfl (by first | decide | exact Nat.le_of_ble_eq_true rfl) (by decide) dX3_objection_139 (fun r4 s5 q6 => ?_)
      rw [q6.1, q6.2]
      refine r_topi (b := zB (roomL A)) (roomL_at hr.1) ?_
      refine r_cSi (pc := 142) (As := [.int (nI 1), .int (nI 0), .int (zB (roomL A))]) (st := []) h lk_RX3_48 (c_first x.2.1 G σ true false (roomL A)) (by decide) rfl rfl (by first | decide | exact Nat.le_of_ble_eq_true rfl) (by decide) dX3_objection_142 (fun r7 s8 q9 => ?_)
      rw [q9.1, q9.2]
      exact hret _ _ (⟨by simp [ob, c117], rfl⟩) 145 _ dX3_objection_145
    · skip
      replace c117 := zB_n0.mp c117
      refine r_iload_n (pc := 120) h 3 rfl rfl dX3_objection_120 ?_
      refine r_iconst (pc := 121) (v := nI 1) h (by decide) dX3_objection_121 ?_
      refine r_bipush (pc := 122) (v := nI 99) h (by decide) dX3_objection_122 ?_
      refine r_cNi (pc := 124) (idx := 40) (host := RX5) (As := [.int u2, .int (nI 1), .int (nI 99)]) (st := [.int (nI 1)]) h lkn_isWithin (fun s hs => hs.2) (c_isWithin x.2.1 G σ u2 (nI 1) (nI 99)) (by decide) rfl rfl (by first | decide | exact Nat.le_of_ble_eq_true rfl) (by decide) dX3_objection_124 (fun r10 s11 q12 => ?_)
      rw [q12.1, q12.2]
      refine r_topi (b := zB (inB (nI 1) (nI 99) u2)) rfl ?_
      refine r_if_eq (pc := 127) (tgt := 134) h (by decide) dX3_objection_127 (fun c127 => ?_) (fun c127 => ?_)
      · skip
        replace c127 := zB_0.mp c127
        refine r_iconst (pc := 134) (v := nI 0) h (by decide) dX3_objection_134 ?_
        refine r_aload_n (pc := 135) h 0 rfl rfl dX3_objection_135 ?_
        refine g_3_lists (pc := 136) hb h mw_2_15 dX3_objection_136 ?_
        refine r_cVi (pc := 139) (As := []) (st := [.int (nI 0), .int (nI 1)]) h lk_RX3_44 (c_hasRoomL x.2.1 G σ b hb) (rc_1 hb) (by decide) rfl rfl (by first | decide | exact Nat.le_of_ble_eq_true rfl) (by decide) dX3_objection_139 (fun r13 s14 q15 => ?_)
        rw [q15.1, q15.2]
        refine r_topi (b := zB (roomL A)) (roomL_at hr.1) ?_
        refine r_cSi (pc := 142) (As := [.int (nI 1), .int (nI 0), .int (zB (roomL A))]) (st := []) h lk_RX3_48 (c_first x.2.1 G σ true false (roomL A)) (by decide) rfl rfl (by first | decide | exact Nat.le_of_ble_eq_true rfl) (by decide) dX3_objection_142 (fun r16 s17 q18 => ?_)
        rw [q18.1, q18.2]
        exact hret _ _ (⟨by simp [ob, c117, c127], rfl⟩) 145 _ dX3_objection_145
      · skip
        replace c127 := zB_n0.mp c127
        refine r_iconst (pc := 130) (v := nI 1) h (by decide) dX3_objection_130 ?_
        refine r_goto (pc := 131) (tgt := 135) h (by decide) dX3_objection_131 ?_
        refine r_aload_n (pc := 135) h 0 rfl rfl dX3_objection_135 ?_
        refine g_3_lists (pc := 136) hb h mw_2_15 dX3_objection_136 ?_
        refine r_cVi (pc := 139) (As := []) (st := [.int (nI 1), .int (nI 1)]) h lk_RX3_44 (c_hasRoomL x.2.1 G σ b hb) (rc_1 hb) (by decide) rfl rfl (by first | decide | exact Nat.le_of_ble_eq_true rfl) (by decide) dX3_objection_139 (fun r19 s20 q21 => ?_)
        rw [q21.1, q21.2]
        refine r_topi (b := zB (roomL A)) (roomL_at hr.1) ?_
        refine r_cSi (pc := 142) (As := [.int (nI 1), .int (nI 1), .int (zB (roomL A))]) (st := []) h lk_RX3_48 (c_first x.2.1 G σ true true (roomL A)) (by decide) rfl rfl (by first | decide | exact Nat.le_of_ble_eq_true rfl) (by decide) dX3_objection_142 (fun r22 s23 q24 => ?_)
        rw [q24.1, q24.2]
        exact hret _ _ (⟨by simp [ob, c117, c127], rfl⟩) 145 _ dX3_objection_145
  · skip
    refine r_tabIn (pc := 1) (off := 145) (tgt := 146) h (by decide) (by decide) (by decide) (by decide) dX3_objection_1 ?_
    refine r_aload_n (pc := 146) h 0 rfl rfl dX3_objection_146 ?_
    refine g_3_lists (pc := 147) hb h mw_2_15 dX3_objection_147 ?_
    refine r_iload_n (pc := 150) h 2 rfl rfl dX3_objection_150 ?_
    refine r_cVi (pc := 151) (As := [.int u1]) (st := []) h lk_RX3_52 (c_isList x.2.1 G σ b hb u1) (rc_1 hb) (by decide) rfl rfl (by first | decide | exact Nat.le_of_ble_eq_true rfl) (by decide) dX3_objection_151 (fun r25 s26 q27 => ?_)
    rw [q27.1, q27.2]
    refine r_topi (b := zB (liB A u1)) (liB_at hr.1) ?_
    refine r_iload_n (pc := 154) h 3 rfl rfl dX3_objection_154 ?_
    refine r_iconst (pc := 155) (v := nI 1) h (by decide) dX3_objection_155 ?_
    refine r_bipush (pc := 156) (v := nI 9) h (by decide) dX3_objection_156 ?_
    refine r_cNi (pc := 158) (idx := 40) (host := RX5) (As := [.int u2, .int (nI 1), .int (nI 9)]) (st := [.int (zB (liB A u1))]) h lkn_isWithin (fun s hs => hs.2) (c_isWithin x.2.1 G σ u2 (nI 1) (nI 9)) (by decide) rfl rfl (by first | decide | exact Nat.le_of_ble_eq_true rfl) (by decide) dX3_objection_158 (fun r28 s29 q30 => ?_)
    rw [q30.1, q30.2]
    refine r_topi (b := zB (inB (nI 1) (nI 9) u2)) rfl ?_
    refine r_if_eq (pc := 161) (tgt := 179) h (by decide) dX3_objection_161 (fun c161 => ?_) (fun c161 => ?_)
    · skip
      replace c161 := zB_0.mp c161
      refine r_iconst (pc := 179) (v := nI 0) h (by decide) dX3_objection_179 ?_
      refine r_aload_n (pc := 180) h 0 rfl rfl dX3_objection_180 ?_
      refine g_3_lists (pc := 181) hb h mw_2_15 dX3_objection_181 ?_
      refine r_cVi (pc := 184) (As := []) (st := [.int (nI 0), .int (zB (liB A u1))]) h lk_RX3_44 (c_hasRoomL x.2.1 G σ b hb) (rc_1 hb) (by decide) rfl rfl (by first | decide | exact Nat.le_of_ble_eq_true rfl) (by decide) dX3_objection_184 (fun r31 s32 q33 => ?_)
      rw [q33.1, q33.2]
      refine r_topi (b := zB (roomL A)) (roomL_at hr.1) ?_
      refine r_cSi (pc := 187) (As := [.int (zB (liB A u1)), .int (nI 0), .int (zB (roomL A))]) (st := []) h lk_RX3_48 (c_first x.2.1 G σ (liB A u1) false (roomL A)) (by decide) rfl rfl (by first | decide | exact Nat.le_of_ble_eq_true rfl) (by decide) dX3_objection_187 (fun r34 s35 q36 => ?_)
      rw [q36.1, q36.2]
      exact hret _ _ (⟨by simp [ob, c161], rfl⟩) 190 _ dX3_objection_190
    · skip
      replace c161 := zB_n0.mp c161
      refine r_iload (pc := 164) h 4 rfl dX3_objection_164 ?_
      refine r_iconst (pc := 166) (v := nI 0) h (by decide) dX3_objection_166 ?_
      refine r_bipush (pc := 167) (v := nI 99) h (by decide) dX3_objection_167 ?_
      refine r_cNi (pc := 169) (idx := 40) (host := RX5) (As := [.int u3, .int (nI 0), .int (nI 99)]) (st := [.int (zB (liB A u1))]) h lkn_isWithin (fun s hs => hs.2) (c_isWithin x.2.1 G σ u3 (nI 0) (nI 99)) (by decide) rfl rfl (by first | decide | exact Nat.le_of_ble_eq_true rfl) (by decide) dX3_objection_169 (fun r37 s38 q39 => ?_)
      rw [q39.1, q39.2]
      refine r_topi (b := zB (inB (nI 0) (nI 99) u3)) rfl ?_
      refine r_if_eq (pc := 172) (tgt := 179) h (by decide) dX3_objection_172 (fun c172 => ?_) (fun c172 => ?_)
      · skip
        replace c172 := zB_0.mp c172
        refine r_iconst (pc := 179) (v := nI 0) h (by decide) dX3_objection_179 ?_
        refine r_aload_n (pc := 180) h 0 rfl rfl dX3_objection_180 ?_
        refine g_3_lists (pc := 181) hb h mw_2_15 dX3_objection_181 ?_
        refine r_cVi (pc := 184) (As := []) (st := [.int (nI 0), .int (zB (liB A u1))]) h lk_RX3_44 (c_hasRoomL x.2.1 G σ b hb) (rc_1 hb) (by decide) rfl rfl (by first | decide | exact Nat.le_of_ble_eq_true rfl) (by decide) dX3_objection_184 (fun r40 s41 q42 => ?_)
        rw [q42.1, q42.2]
        refine r_topi (b := zB (roomL A)) (roomL_at hr.1) ?_
        refine r_cSi (pc := 187) (As := [.int (zB (liB A u1)), .int (nI 0), .int (zB (roomL A))]) (st := []) h lk_RX3_48 (c_first x.2.1 G σ (liB A u1) false (roomL A)) (by decide) rfl rfl (by first | decide | exact Nat.le_of_ble_eq_true rfl) (by decide) dX3_objection_187 (fun r43 s44 q45 => ?_)
        rw [q45.1, q45.2]
        exact hret _ _ (⟨by simp [ob, c161, c172], rfl⟩) 190 _ dX3_objection_190
      · skip
        replace c172 := zB_n0.mp c172
        refine r_iconst (pc := 175) (v := nI 1) h (by decide) dX3_objection_175 ?_
        refine r_goto (pc := 176) (tgt := 180) h (by decide) dX3_objection_176 ?_
        refine r_aload_n (pc := 180) h 0 rfl rfl dX3_objection_180 ?_
        refine g_3_lists (pc := 181) hb h mw_2_15 dX3_objection_181 ?_
        refine r_cVi (pc := 184) (As := []) (st := [.int (nI 1), .int (zB (liB A u1))]) h lk_RX3_44 (c_hasRoomL x.2.1 G σ b hb) (rc_1 hb) (by decide) rfl rfl (by first | decide | exact Nat.le_of_ble_eq_true rfl) (by decide) dX3_objection_184 (fun r46 s47 q48 => ?_)
        rw [q48.1, q48.2]
        refine r_topi (b := zB (roomL A)) (roomL_at hr.1) ?_
        refine r_cSi (pc := 187) (As := [.int (zB (liB A u1)), .int (nI 1), .int (zB (roomL A))]) (st := []) h lk_RX3_48 (c_first x.2.1 G σ (liB A u1) true (roomL A)) (by decide) rfl rfl (by first | decide | exact Nat.le_of_ble_eq_true rfl) (by decide) dX3_objection_187 (fun r49 s50 q51 => ?_)
        rw [q51.1, q51.2]
        exact hret _ _ (⟨by simp [ob, c161, c172], rfl⟩) 190 _ dX3_objection_190
  · skip
    refine r_tabIn (pc := 1) (off := 190) (tgt := 191) h (by decide) (by decide) (by decide) (by decide) dX3_objection_1 ?_
    refine r_aload_n (pc := 191) h 0 rfl rfl dX3_objection_191 ?_
    refine g_3_lists (pc := 192) hb h mw_2_15 dX3_objection_192 ?_
    refine r_iload_n (pc := 195) h 2 rfl rfl dX3_objection_195 ?_
    refine r_cVi (pc := 196) (As := [.int u1]) (st := []) h lk_RX3_52 (c_isList x.2.1 G σ b hb u1) (rc_1 hb) (by decide) rfl rfl (by first | decide | exact Nat.le_of_ble_eq_true rfl) (by decide) dX3_objection_196 (fun r52 s53 q54 => ?_)
    rw [q54.1, q54.2]
    refine r_topi (b := zB (liB A u1)) (liB_at hr.1) ?_
    refine r_if_eq (pc := 199) (tgt := 217) h (by decide) dX3_objection_199 (fun c199 => ?_) (fun c199 => ?_)
    · skip
      replace c199 := zB_0.mp c199
      refine r_iconst (pc := 217) (v := nI 0) h (by decide) dX3_objection_217 ?_
      refine r_iconst (pc := 218) (v := nI 1) h (by decide) dX3_objection_218 ?_
      refine r_aload_n (pc := 219) h 0 rfl rfl dX3_objection_219 ?_
      refine g_3_lists (pc := 220) hb h mw_2_15 dX3_objection_220 ?_
      refine r_cVi (pc := 223) (As := []) (st := [.int (nI 1), .int (nI 0)]) h lk_RX3_44 (c_hasRoomL x.2.1 G σ b hb) (rc_1 hb) (by decide) rfl rfl (by first | decide | exact Nat.le_of_ble_eq_true rfl) (by decide) dX3_objection_223 (fun r55 s56 q57 => ?_)
      rw [q57.1, q57.2]
      refine r_topi (b := zB (roomL A)) (roomL_at hr.1) ?_
      refine r_cSi (pc := 226) (As := [.int (nI 0), .int (nI 1), .int (zB (roomL A))]) (st := []) h lk_RX3_48 (c_first x.2.1 G σ false true (roomL A)) (by decide) rfl rfl (by first | decide | exact Nat.le_of_ble_eq_true rfl) (by decide) dX3_objection_226 (fun r58 s59 q60 => ?_)
      rw [q60.1, q60.2]
      exact hret _ _ (⟨by simp [ob, c199], rfl⟩) 229 _ dX3_objection_229
    · skip
      replace c199 := zB_n0.mp c199
      refine r_aload_n (pc := 202) h 0 rfl rfl dX3_objection_202 ?_
      refine g_3_lists (pc := 203) hb h mw_2_15 dX3_objection_203 ?_
      refine r_iload_n (pc := 206) h 3 rfl rfl dX3_objection_206 ?_
      refine r_cVi (pc := 207) (As := [.int u2]) (st := []) h lk_RX3_52 (c_isList x.2.1 G σ b hb u2) (rc_1 hb) (by decide) rfl rfl (by first | decide | exact Nat.le_of_ble_eq_true rfl) (by decide) dX3_objection_207 (fun r61 s62 q63 => ?_)
      rw [q63.1, q63.2]
      refine r_topi (b := zB (liB A u2)) (liB_at hr.1) ?_
      refine r_if_eq (pc := 210) (tgt := 217) h (by decide) dX3_objection_210 (fun c210 => ?_) (fun c210 => ?_)
      · skip
        replace c210 := zB_0.mp c210
        refine r_iconst (pc := 217) (v := nI 0) h (by decide) dX3_objection_217 ?_
        refine r_iconst (pc := 218) (v := nI 1) h (by decide) dX3_objection_218 ?_
        refine r_aload_n (pc := 219) h 0 rfl rfl dX3_objection_219 ?_
        refine g_3_lists (pc := 220) hb h mw_2_15 dX3_objection_220 ?_
        refine r_cVi (pc := 223) (As := []) (st := [.int (nI 1), .int (nI 0)]) h lk_RX3_44 (c_hasRoomL x.2.1 G σ b hb) (rc_1 hb) (by decide) rfl rfl (by first | decide | exact Nat.le_of_ble_eq_true rfl) (by decide) dX3_objection_223 (fun r64 s65 q66 => ?_)
        rw [q66.1, q66.2]
        refine r_topi (b := zB (roomL A)) (roomL_at hr.1) ?_
        refine r_cSi (pc := 226) (As := [.int (nI 0), .int (nI 1), .int (zB (roomL A))]) (st := []) h lk_RX3_48 (c_first x.2.1 G σ false true (roomL A)) (by decide) rfl rfl (by first | decide | exact Nat.le_of_ble_eq_true rfl) (by decide) dX3_objection_226 (fun r67 s68 q69 => ?_)
        rw [q69.1, q69.2]
        exact hret _ _ (⟨by simp [ob, c199, c210], rfl⟩) 229 _ dX3_objection_229
      · skip
        replace c210 := zB_n0.mp c210
        refine r_iconst (pc := 213) (v := nI 1) h (by decide) dX3_objection_213 ?_
        refine r_goto (pc := 214) (tgt := 218) h (by decide) dX3_objection_214 ?_
        refine r_iconst (pc := 218) (v := nI 1) h (by decide) dX3_objection_218 ?_
        refine r_aload_n (pc := 219) h 0 rfl rfl dX3_objection_219 ?_
        refine g_3_lists (pc := 220) hb h mw_2_15 dX3_objection_220 ?_
        refine r_cVi (pc := 223) (As := []) (st := [.int (nI 1), .int (nI 1)]) h lk_RX3_44 (c_hasRoomL x.2.1 G σ b hb) (rc_1 hb) (by decide) rfl rfl (by first | decide | exact Nat.le_of_ble_eq_true rfl) (by decide) dX3_objection_223 (fun r70 s71 q72 => ?_)
        rw [q72.1, q72.2]
        refine r_topi (b := zB (roomL A)) (roomL_at hr.1) ?_
        refine r_cSi (pc := 226) (As := [.int (nI 1), .int (nI 1), .int (zB (roomL A))]) (st := []) h lk_RX3_48 (c_first x.2.1 G σ true true (roomL A)) (by decide) rfl rfl (by first | decide | exact Nat.le_of_ble_eq_true rfl) (by decide) dX3_objection_226 (fun r73 s74 q75 => ?_)
        rw [q75.1, q75.2]
        exact hret _ _ (⟨by simp [ob, c199, c210], rfl⟩) 229 _ dX3_objection_229
  · skip
    refine r_tabIn (pc := 1) (off := 190) (tgt := 191) h (by decide) (by decide) (by decide) (by decide) dX3_objection_1 ?_
    refine r_aload_n (pc := 191) h 0 rfl rfl dX3_objection_191 ?_
    refine g_3_lists (pc := 192) hb h mw_2_15 dX3_objection_192 ?_
    refine r_iload_n (pc := 195) h 2 rfl rfl dX3_objection_195 ?_
    refine r_cVi (pc := 196) (As := [.int u1]) (st := []) h lk_RX3_52 (c_isList x.2.1 G σ b hb u1) (rc_1 hb) (by decide) rfl rfl (by first | decide | exact Nat.le_of_ble_eq_true rfl) (by decide) dX3_objection_196 (fun r76 s77 q78 => ?_)
    rw [q78.1, q78.2]
    refine r_topi (b := zB (liB A u1)) (liB_at hr.1) ?_
    refine r_if_eq (pc := 199) (tgt := 217) h (by decide) dX3_objection_199 (fun c199 => ?_) (fun c199 => ?_)
    · skip
      replace c199 := zB_0.mp c199
      refine r_iconst (pc := 217) (v := nI 0) h (by decide) dX3_objection_217 ?_
      refine r_iconst (pc := 218) (v := nI 1) h (by decide) dX3_objection_218 ?_
      refine r_aload_n (pc := 219) h 0 rfl rfl dX3_objection_219 ?_
      refine g_3_lists (pc := 220) hb h mw_2_15 dX3_objection_220 ?_
      refine r_cVi (pc := 223) (As := []) (st := [.int (nI 1), .int (nI 0)]) h lk_RX3_44 (c_hasRoomL x.2.1 G σ b hb) (rc_1 hb) (by decide) rfl rfl (by first | decide | exact Nat.le_of_ble_eq_true rfl) (by decide) dX3_objection_223 (fun r79 s80 q81 => ?_)
      rw [q81.1, q81.2]
      refine r_topi (b := zB (roomL A)) (roomL_at hr.1) ?_
      refine r_cSi (pc := 226) (As := [.int (nI 0), .int (nI 1), .int (zB (roomL A))]) (st := []) h lk_RX3_48 (c_first x.2.1 G σ false true (roomL A)) (by decide) rfl rfl (by first | decide | exact Nat.le_of_ble_eq_true rfl) (by decide) dX3_objection_226 (fun r82 s83 q84 => ?_)
      rw [q84.1, q84.2]
      exact hret _ _ (⟨by simp [ob, c199], rfl⟩) 229 _ dX3_objection_229
    · skip
      replace c199 := zB_n0.mp c199
      refine r_aload_n (pc := 202) h 0 rfl rfl dX3_objection_202 ?_
      refine g_3_lists (pc := 203) hb h mw_2_15 dX3_objection_203 ?_
      refine r_iload_n (pc := 206) h 3 rfl rfl dX3_objection_206 ?_
      refine r_cVi (pc := 207) (As := [.int u2]) (st := []) h lk_RX3_52 (c_isList x.2.1 G σ b hb u2) (rc_1 hb) (by decide) rfl rfl (by first | decide | exact Nat.le_of_ble_eq_true rfl) (by decide) dX3_objection_207 (fun r85 s86 q87 => ?_)
      rw [q87.1, q87.2]
      refine r_topi (b := zB (liB A u2)) (liB_at hr.1) ?_
      refine r_if_eq (pc := 210) (tgt := 217) h (by decide) dX3_objection_210 (fun c210 => ?_) (fun c210 => ?_)
      · skip
        replace c210 := zB_0.mp c210
        refine r_iconst (pc := 217) (v := nI 0) h (by decide) dX3_objection_217 ?_
        refine r_iconst (pc := 218) (v := nI 1) h (by decide) dX3_objection_218 ?_
        refine r_aload_n (pc := 219) h 0 rfl rfl dX3_objection_219 ?_
        refine g_3_lists (pc := 220) hb h mw_2_15 dX3_objection_220 ?_
        refine r_cVi (pc := 223) (As := []) (st := [.int (nI 1), .int (nI 0)]) h lk_RX3_44 (c_hasRoomL x.2.1 G σ b hb) (rc_1 hb) (by decide) rfl rfl (by first | decide | exact Nat.le_of_ble_eq_true rfl) (by decide) dX3_objection_223 (fun r88 s89 q90 => ?_)
        rw [q90.1, q90.2]
        refine r_topi (b := zB (roomL A)) (roomL_at hr.1) ?_
        refine r_cSi (pc := 226) (As := [.int (nI 0), .int (nI 1), .int (zB (roomL A))]) (st := []) h lk_RX3_48 (c_first x.2.1 G σ false true (roomL A)) (by decide) rfl rfl (by first | decide | exact Nat.le_of_ble_eq_true rfl) (by decide) dX3_objection_226 (fun r91 s92 q93 => ?_)
        rw [q93.1, q93.2]
        exact hret _ _ (⟨by simp [ob, c199, c210], rfl⟩) 229 _ dX3_objection_229
      · skip
        replace c210 := zB_n0.mp c210
        refine r_iconst (pc := 213) (v := nI 1) h (by decide) dX3_objection_213 ?_
        refine r_goto (pc := 214) (tgt := 218) h (by decide) dX3_objection_214 ?_
        refine r_iconst (pc := 218) (v := nI 1) h (by decide) dX3_objection_218 ?_
        refine r_aload_n (pc := 219) h 0 rfl rfl dX3_objection_219 ?_
        refine g_3_lists (pc := 220) hb h mw_2_15 dX3_objection_220 ?_
        refine r_cVi (pc := 223) (As := []) (st := [.int (nI 1), .int (nI 1)]) h lk_RX3_44 (c_hasRoomL x.2.1 G σ b hb) (rc_1 hb) (by decide) rfl rfl (by first | decide | exact Nat.le_of_ble_eq_true rfl) (by decide) dX3_objection_223 (fun r94 s95 q96 => ?_)
        rw [q96.1, q96.2]
        refine r_topi (b := zB (roomL A)) (roomL_at hr.1) ?_
        refine r_cSi (pc := 226) (As := [.int (nI 1), .int (nI 1), .int (zB (roomL A))]) (st := []) h lk_RX3_48 (c_first x.2.1 G σ true true (roomL A)) (by decide) rfl rfl (by first | decide | exact Nat.le_of_ble_eq_true rfl) (by decide) dX3_objection_226 (fun r97 s98 q99 => ?_)
        rw [q99.1, q99.2]
        exact hret _ _ (⟨by simp [ob, c199, c210], rfl⟩) 229 _ dX3_objection_229
  · skip
    refine r_tabIn (pc := 1) (off := 190) (tgt := 191) h (by decide) (by decide) (by decide) (by decide) dX3_objection_1 ?_
    refine r_aload_n (pc := 191) h 0 rfl rfl dX3_objection_191 ?_
    refine g_3_lists (pc := 192) hb h mw_2_15 dX3_objection_192 ?_
    refine r_iload_n (pc := 195) h 2 rfl rfl dX3_objection_195 ?_
    refine r_cVi (pc := 196) (As := [.int u1]) (st := []) h lk_RX3_52 (c_isList x.2.1 G σ b hb u1) (rc_1 hb) (by decide) rfl rfl (by first | decide | exact Nat.le_of_ble_eq_true rfl) (by decide) dX3_objection_196 (fun r100 s101 q102 => ?_)
    rw [q102.1, q102.2]
    refine r_topi (b := zB (liB A u1)) (liB_at hr.1) ?_
    refine r_if_eq (pc := 199) (tgt := 217) h (by decide) dX3_objection_199 (fun c199 => ?_) (fun c199 => ?_)
    · skip
      replace c199 := zB_0.mp c199
      refine r_iconst (pc := 217) (v := nI 0) h (by decide) dX3_objection_217 ?_
      refine r_iconst (pc := 218) (v := nI 1) h (by decide) dX3_objection_218 ?_
      refine r_aload_n (pc := 219) h 0 rfl rfl dX3_objection_219 ?_
      refine g_3_lists (pc := 220) hb h mw_2_15 dX3_objection_220 ?_
      refine r_cVi (pc := 223) (As := []) (st := [.int (nI 1), .int (nI 0)]) h lk_RX3_44 (c_hasRoomL x.2.1 G σ b hb) (rc_1 hb) (by decide) rfl rfl (by first | decide | exact Nat.le_of_ble_eq_true rfl) (by decide) dX3_objection_223 (fun r103 s104 q105 => ?_)
      rw [q105.1, q105.2]
      refine r_topi (b := zB (roomL A)) (roomL_at hr.1) ?_
      refine r_cSi (pc := 226) (As := [.int (nI 0), .int (nI 1), .int (zB (roomL A))]) (st := []) h lk_RX3_48 (c_first x.2.1 G σ false true (roomL A)) (by decide) rfl rfl (by first | decide | exact Nat.le_of_ble_eq_true rfl) (by decide) dX3_objection_226 (fun r106 s107 q108 => ?_)
      rw [q108.1, q108.2]
      exact hret _ _ (⟨by simp [ob, c199], rfl⟩) 229 _ dX3_objection_229
    · skip
      replace c199 := zB_n0.mp c199
      refine r_aload_n (pc := 202) h 0 rfl rfl dX3_objection_202 ?_
      refine g_3_lists (pc := 203) hb h mw_2_15 dX3_objection_203 ?_
      refine r_iload_n (pc := 206) h 3 rfl rfl dX3_objection_206 ?_
      refine r_cVi (pc := 207) (As := [.int u2]) (st := []) h lk_RX3_52 (c_isList x.2.1 G σ b hb u2) (rc_1 hb) (by decide) rfl rfl (by first | decide | exact Nat.le_of_ble_eq_true rfl) (by decide) dX3_objection_207 (fun r109 s110 q111 => ?_)
      rw [q111.1, q111.2]
      refine r_topi (b := zB (liB A u2)) (liB_at hr.1) ?_
      refine r_if_eq (pc := 210) (tgt := 217) h (by decide) dX3_objection_210 (fun c210 => ?_) (fun c210 => ?_)
      · skip
        replace c210 := zB_0.mp c210
        refine r_iconst (pc := 217) (v := nI 0) h (by decide) dX3_objection_217 ?_
        refine r_iconst (pc := 218) (v := nI 1) h (by decide) dX3_objection_218 ?_
        refine r_aload_n (pc := 219) h 0 rfl rfl dX3_objection_219 ?_
        refine g_3_lists (pc := 220) hb h mw_2_15 dX3_objection_220 ?_
        refine r_cVi (pc := 223) (As := []) (st := [.int (nI 1), .int (nI 0)]) h lk_RX3_44 (c_hasRoomL x.2.1 G σ b hb) (rc_1 hb) (by decide) rfl rfl (by first | decide | exact Nat.le_of_ble_eq_true rfl) (by decide) dX3_objection_223 (fun r112 s113 q114 => ?_)
        rw [q114.1, q114.2]
        refine r_topi (b := zB (roomL A)) (roomL_at hr.1) ?_
        refine r_cSi (pc := 226) (As := [.int (nI 0), .int (nI 1), .int (zB (roomL A))]) (st := []) h lk_RX3_48 (c_first x.2.1 G σ false true (roomL A)) (by decide) rfl rfl (by first | decide | exact Nat.le_of_ble_eq_true rfl) (by decide) dX3_objection_226 (fun r115 s116 q117 => ?_)
        rw [q117.1, q117.2]
        exact hret _ _ (⟨by simp [ob, c199, c210], rfl⟩) 229 _ dX3_objection_229
      · skip
        replace c210 := zB_n0.mp c210
        refine r_iconst (pc := 213) (v := nI 1) h (by decide) dX3_objection_213 ?_
        refine r_goto (pc := 214) (tgt := 218) h (by decide) dX3_objection_214 ?_
        refine r_iconst (pc := 218) (v := nI 1) h (by decide) dX3_objection_218 ?_
        refine r_aload_n (pc := 219) h 0 rfl rfl dX3_objection_219 ?_
        refine g_3_lists (pc := 220) hb h mw_2_15 dX3_objection_220 ?_
        refine r_cVi (pc := 223) (As := []) (st := [.int (nI 1), .int (nI 1)]) h lk_RX3_44 (c_hasRoomL x.2.1 G σ b hb) (rc_1 hb) (by decide) rfl rfl (by first | decide | exact Nat.le_of_ble_eq_true rfl) (by decide) dX3_objection_223 (fun r118 s119 q120 => ?_)
        rw [q120.1, q120.2]
        refine r_topi (b := zB (roomL A)) (roomL_at hr.1) ?_
        refine r_cSi (pc := 226) (As := [.int (nI 1), .int (nI 1), .int (zB (roomL A))]) (st := []) h lk_RX3_48 (c_first x.2.1 G σ true true (roomL A)) (by decide) rfl rfl (by first | decide | exact Nat.le_of_ble_eq_true rfl) (by decide) dX3_objection_226 (fun r121 s122 q123 => ?_)
        rw [q123.1, q123.2]
        exact hret _ _ (⟨by simp [ob, c199, c210], rfl⟩) 229 _ dX3_objection_229
  · skip
    refine r_tabIn (pc := 1) (off := 229) (tgt := 230) h (by decide) (by decide) (by decide) (by decide) dX3_objection_1 ?_
    refine r_aload_n (pc := 230) h 0 rfl rfl dX3_objection_230 ?_
    refine g_3_lists (pc := 231) hb h mw_2_15 dX3_objection_231 ?_
    refine r_iload_n (pc := 234) h 2 rfl rfl dX3_objection_234 ?_
    refine r_cVi (pc := 235) (As := [.int u1]) (st := []) h lk_RX3_52 (c_isList x.2.1 G σ b hb u1) (rc_1 hb) (by decide) rfl rfl (by first | decide | exact Nat.le_of_ble_eq_true rfl) (by decide) dX3_objection_235 (fun r124 s125 q126 => ?_)
    rw [q126.1, q126.2]
    refine r_topi (b := zB (liB A u1)) (liB_at hr.1) ?_
    refine r_iconst (pc := 238) (v := nI 1) h (by decide) dX3_objection_238 ?_
    refine r_aload_n (pc := 239) h 0 rfl rfl dX3_objection_239 ?_
    refine g_3_lists (pc := 240) hb h mw_2_15 dX3_objection_240 ?_
    refine r_cVi (pc := 243) (As := []) (st := [.int (nI 1), .int (zB (liB A u1))]) h lk_RX3_44 (c_hasRoomL x.2.1 G σ b hb) (rc_1 hb) (by decide) rfl rfl (by first | decide | exact Nat.le_of_ble_eq_true rfl) (by decide) dX3_objection_243 (fun r127 s128 q129 => ?_)
    rw [q129.1, q129.2]
    refine r_topi (b := zB (roomL A)) (roomL_at hr.1) ?_
    refine r_cSi (pc := 246) (As := [.int (zB (liB A u1)), .int (nI 1), .int (zB (roomL A))]) (st := []) h lk_RX3_48 (c_first x.2.1 G σ (liB A u1) true (roomL A)) (by decide) rfl rfl (by first | decide | exact Nat.le_of_ble_eq_true rfl) (by decide) dX3_objection_246 (fun r130 s131 q132 => ?_)
    rw [q132.1, q132.2]
    exact hret _ _ (⟨rfl, rfl⟩) 249 _ dX3_objection_249
  · skip
    refine r_tabIn (pc := 1) (off := 229) (tgt := 230) h (by decide) (by decide) (by decide) (by decide) dX3_objection_1 ?_
    refine r_aload_n (pc := 230) h 0 rfl rfl dX3_objection_230 ?_
    refine g_3_lists (pc := 231) hb h mw_2_15 dX3_objection_231 ?_
    refine r_iload_n (pc := 234) h 2 rfl rfl dX3_objection_234 ?_
    refine r_cVi (pc := 235) (As := [.int u1]) (st := []) h lk_RX3_52 (c_isList x.2.1 G σ b hb u1) (rc_1 hb) (by decide) rfl rfl (by first | decide | exact Nat.le_of_ble_eq_true rfl) (by decide) dX3_objection_235 (fun r133 s134 q135 => ?_)
    rw [q135.1, q135.2]
    refine r_topi (b := zB (liB A u1)) (liB_at hr.1) ?_
    refine r_iconst (pc := 238) (v := nI 1) h (by decide) dX3_objection_238 ?_
    refine r_aload_n (pc := 239) h 0 rfl rfl dX3_objection_239 ?_
    refine g_3_lists (pc := 240) hb h mw_2_15 dX3_objection_240 ?_
    refine r_cVi (pc := 243) (As := []) (st := [.int (nI 1), .int (zB (liB A u1))]) h lk_RX3_44 (c_hasRoomL x.2.1 G σ b hb) (rc_1 hb) (by decide) rfl rfl (by first | decide | exact Nat.le_of_ble_eq_true rfl) (by decide) dX3_objection_243 (fun r136 s137 q138 => ?_)
    rw [q138.1, q138.2]
    refine r_topi (b := zB (roomL A)) (roomL_at hr.1) ?_
    refine r_cSi (pc := 246) (As := [.int (zB (liB A u1)), .int (nI 1), .int (zB (roomL A))]) (st := []) h lk_RX3_48 (c_first x.2.1 G σ (liB A u1) true (roomL A)) (by decide) rfl rfl (by first | decide | exact Nat.le_of_ble_eq_true rfl) (by decide) dX3_objection_246 (fun r139 s140 q141 => ?_)
    rw [q141.1, q141.2]
    exact hret _ _ (⟨rfl, rfl⟩) 249 _ dX3_objection_249
  · skip
    refine r_tabIn (pc := 1) (off := 249) (tgt := 250) h (by decide) (by decide) (by decide) (by decide) dX3_objection_1 ?_
    refine r_aload_n (pc := 250) h 0 rfl rfl dX3_objection_250 ?_
    refine g_3_lists (pc := 251) hb h mw_2_15 dX3_objection_251 ?_
    refine r_iload_n (pc := 254) h 2 rfl rfl dX3_objection_254 ?_
    refine r_cVi (pc := 255) (As := [.int u1]) (st := []) h lk_RX3_52 (c_isList x.2.1 G σ b hb u1) (rc_1 hb) (by decide) rfl rfl (by first | decide | exact Nat.le_of_ble_eq_true rfl) (by decide) dX3_objection_255 (fun r142 s143 q144 => ?_)
    rw [q144.1, q144.2]
    refine r_topi (b := zB (liB A u1)) (liB_at hr.1) ?_
    refine r_iload_n (pc := 258) h 3 rfl rfl dX3_objection_258 ?_
    refine r_iconst (pc := 259) (v := nI 1) h (by decide) dX3_objection_259 ?_
    refine r_bipush (pc := 260) (v := nI 9) h (by decide) dX3_objection_260 ?_
    refine r_cNi (pc := 262) (idx := 40) (host := RX5) (As := [.int u2, .int (nI 1), .int (nI 9)]) (st := [.int (zB (liB A u1))]) h lkn_isWithin (fun s hs => hs.2) (c_isWithin x.2.1 G σ u2 (nI 1) (nI 9)) (by decide) rfl rfl (by first | decide | exact Nat.le_of_ble_eq_true rfl) (by decide) dX3_objection_262 (fun r145 s146 q147 => ?_)
    rw [q147.1, q147.2]
    refine r_topi (b := zB (inB (nI 1) (nI 9) u2)) rfl ?_
    refine r_aload_n (pc := 265) h 0 rfl rfl dX3_objection_265 ?_
    refine g_3_lists (pc := 266) hb h mw_2_15 dX3_objection_266 ?_
    refine r_cVi (pc := 269) (As := []) (st := [.int (zB (inB (nI 1) (nI 9) u2)), .int (zB (liB A u1))]) h lk_RX3_44 (c_hasRoomL x.2.1 G σ b hb) (rc_1 hb) (by decide) rfl rfl (by first | decide | exact Nat.le_of_ble_eq_true rfl) (by decide) dX3_objection_269 (fun r148 s149 q150 => ?_)
    rw [q150.1, q150.2]
    refine r_topi (b := zB (roomL A)) (roomL_at hr.1) ?_
    refine r_cSi (pc := 272) (As := [.int (zB (liB A u1)), .int (zB (inB (nI 1) (nI 9) u2)), .int (zB (roomL A))]) (st := []) h lk_RX3_48 (c_first x.2.1 G σ (liB A u1) (inB (nI 1) (nI 9) u2) (roomL A)) (by decide) rfl rfl (by first | decide | exact Nat.le_of_ble_eq_true rfl) (by decide) dX3_objection_272 (fun r151 s152 q153 => ?_)
    rw [q153.1, q153.2]
    exact hret _ _ (⟨rfl, rfl⟩) 275 _ dX3_objection_275
  · skip
    refine r_tabIn (pc := 1) (off := 275) (tgt := 276) h (by decide) (by decide) (by decide) (by decide) dX3_objection_1 ?_
    refine r_iconst (pc := 276) (v := nI 1) h (by decide) dX3_objection_276 ?_
    refine r_iconst (pc := 277) (v := nI 1) h (by decide) dX3_objection_277 ?_
    refine r_aload_n (pc := 278) h 0 rfl rfl dX3_objection_278 ?_
    refine r_cVi (pc := 279) (As := []) (st := [.int (nI 1), .int (nI 1)]) h lk_RX3_56 (c_reasonAgainstDrop x.2.1 G σ b hb A hr) (rc_3 hb) (by decide) rfl rfl (by first | decide | exact Nat.le_of_ble_eq_true rfl) (by decide) dX3_objection_279 (fun r154 s155 q156 => ?_)
    rw [q156.1, q156.2]
    refine r_if_ne (pc := 282) (tgt := 289) h (by decide) dX3_objection_282 (fun c282 => ?_) (fun c282 => ?_)
    · skip
      rw [zI0, nI_eq (by omega) (by omega)] at c282
      refine r_iconst (pc := 289) (v := nI 0) h (by decide) dX3_objection_289 ?_
      refine r_cSi (pc := 290) (As := [.int (nI 1), .int (nI 1), .int (nI 0)]) (st := []) h lk_RX3_48 (c_first x.2.1 G σ true true false) (by decide) rfl rfl (by first | decide | exact Nat.le_of_ble_eq_true rfl) (by decide) dX3_objection_290 (fun r157 s158 q159 => ?_)
      rw [q159.1, q159.2]
      exact hret _ _ (⟨by simp [ob, c282], rfl⟩) 293 _ dX3_objection_293
    · skip
      rw [zI0, nI_eq (by omega) (by omega)] at c282
      refine r_iconst (pc := 285) (v := nI 1) h (by decide) dX3_objection_285 ?_
      refine r_goto (pc := 286) (tgt := 290) h (by decide) dX3_objection_286 ?_
      refine r_cSi (pc := 290) (As := [.int (nI 1), .int (nI 1), .int (nI 1)]) (st := []) h lk_RX3_48 (c_first x.2.1 G σ true true true) (by decide) rfl rfl (by first | decide | exact Nat.le_of_ble_eq_true rfl) (by decide) dX3_objection_290 (fun r160 s161 q162 => ?_)
      rw [q162.1, q162.2]
      exact hret _ _ (⟨by simp [ob, c282], rfl⟩) 293 _ dX3_objection_293
  · skip
    refine r_tabIn (pc := 1) (off := 293) (tgt := 294) h (by decide) (by decide) (by decide) (by decide) dX3_objection_1 ?_
    refine r_aload_n (pc := 294) h 0 rfl rfl dX3_objection_294 ?_
    refine g_3_lists (pc := 295) hb h mw_2_15 dX3_objection_295 ?_
    refine r_iload_n (pc := 298) h 2 rfl rfl dX3_objection_298 ?_
    refine r_cVi (pc := 299) (As := [.int u1]) (st := []) h lk_RX3_52 (c_isList x.2.1 G σ b hb u1) (rc_1 hb) (by decide) rfl rfl (by first | decide | exact Nat.le_of_ble_eq_true rfl) (by decide) dX3_objection_299 (fun r163 s164 q165 => ?_)
    rw [q165.1, q165.2]
    refine r_topi (b := zB (liB A u1)) (liB_at hr.1) ?_
    refine r_iconst (pc := 302) (v := nI 1) h (by decide) dX3_objection_302 ?_
    refine r_aload_n (pc := 303) h 0 rfl rfl dX3_objection_303 ?_
    refine g_3_readers (pc := 304) hb h mw_2_19 dX3_objection_304 ?_
    refine r_cVi (pc := 307) (As := []) (st := [.int (nI 1), .int (zB (liB A u1))]) h lk_RX3_60 (c_hasRoomR x.2.1 G σ b hb) (rc_2 hb) (by decide) rfl rfl (by first | decide | exact Nat.le_of_ble_eq_true rfl) (by decide) dX3_objection_307 (fun r166 s167 q168 => ?_)
    rw [q168.1, q168.2]
    refine r_topi (b := zB (roomR A)) (roomR_at hr.2.1) ?_
    refine r_cSi (pc := 310) (As := [.int (zB (liB A u1)), .int (nI 1), .int (zB (roomR A))]) (st := []) h lk_RX3_48 (c_first x.2.1 G σ (liB A u1) true (roomR A)) (by decide) rfl rfl (by first | decide | exact Nat.le_of_ble_eq_true rfl) (by decide) dX3_objection_310 (fun r169 s170 q171 => ?_)
    rw [q171.1, q171.2]
    exact hret _ _ (⟨rfl, rfl⟩) 313 _ dX3_objection_313
  · skip
    refine r_tabIn (pc := 1) (off := 313) (tgt := 314) h (by decide) (by decide) (by decide) (by decide) dX3_objection_1 ?_
    refine r_aload_n (pc := 314) h 0 rfl rfl dX3_objection_314 ?_
    refine g_3_readers (pc := 315) hb h mw_2_19 dX3_objection_315 ?_
    refine r_iload_n (pc := 318) h 2 rfl rfl dX3_objection_318 ?_
    refine r_cVi (pc := 319) (As := [.int u1]) (st := []) h lk_RX3_61 (c_isReader x.2.1 G σ b hb u1) (rc_2 hb) (by decide) rfl rfl (by first | decide | exact Nat.le_of_ble_eq_true rfl) (by decide) dX3_objection_319 (fun r172 s173 q174 => ?_)
    rw [q174.1, q174.2]
    refine r_topi (b := zB (rdB A u1)) (rdB_at hr.2.1) ?_
    refine r_iconst (pc := 322) (v := nI 1) h (by decide) dX3_objection_322 ?_
    refine r_aload_n (pc := 323) h 0 rfl rfl dX3_objection_323 ?_
    refine r_iload_n (pc := 324) h 2 rfl rfl dX3_objection_324 ?_
    refine r_cVi (pc := 325) (As := [.int u1]) (st := [.int (nI 1), .int (zB (rdB A u1))]) h lk_RX3_64 (c_upcoming x.2.1 G σ b hb A hr u1) (rc_3 hb) (by decide) rfl rfl (by first | decide | exact Nat.le_of_ble_eq_true rfl) (by decide) dX3_objection_325 (fun r175 s176 q177 => ?_)
    rw [q177.1, q177.2]
    refine r_iconst (pc := 328) (v := (-1)) h (by decide) dX3_objection_328 ?_
    refine r_icmp_eq (pc := 329) (tgt := 336) h (by decide) dX3_objection_329 (fun c329 => ?_) (fun c329 => ?_)
    · skip
      
      refine r_iconst (pc := 336) (v := nI 0) h (by decide) dX3_objection_336 ?_
      refine r_cSi (pc := 337) (As := [.int (zB (rdB A u1)), .int (nI 1), .int (nI 0)]) (st := []) h lk_RX3_48 (c_first x.2.1 G σ (rdB A u1) true false) (by decide) rfl rfl (by first | decide | exact Nat.le_of_ble_eq_true rfl) (by decide) dX3_objection_337 (fun r178 s179 q180 => ?_)
      rw [q180.1, q180.2]
      exact hret _ _ (⟨ob_read hr (Or.inl ⟨c329, rfl⟩), rfl⟩) 340 _ dX3_objection_340
    · skip
      refine r_iconst (pc := 332) (v := nI 1) h (by decide) dX3_objection_332 ?_
      refine r_goto (pc := 333) (tgt := 337) h (by decide) dX3_objection_333 ?_
      refine r_cSi (pc := 337) (As := [.int (zB (rdB A u1)), .int (nI 1), .int (nI 1)]) (st := []) h lk_RX3_48 (c_first x.2.1 G σ (rdB A u1) true true) (by decide) rfl rfl (by first | decide | exact Nat.le_of_ble_eq_true rfl) (by decide) dX3_objection_337 (fun r181 s182 q183 => ?_)
      rw [q183.1, q183.2]
      exact hret _ _ (⟨ob_read hr (Or.inr ⟨c329, rfl⟩), rfl⟩) 340 _ dX3_objection_340
  · skip
    refine r_tabIn (pc := 1) (off := 340) (tgt := 341) h (by decide) (by decide) (by decide) (by decide) dX3_objection_1 ?_
    refine r_aload_n (pc := 341) h 0 rfl rfl dX3_objection_341 ?_
    refine g_3_readers (pc := 342) hb h mw_2_19 dX3_objection_342 ?_
    refine r_iload_n (pc := 345) h 2 rfl rfl dX3_objection_345 ?_
    refine r_cVi (pc := 346) (As := [.int u1]) (st := []) h lk_RX3_61 (c_isReader x.2.1 G σ b hb u1) (rc_2 hb) (by decide) rfl rfl (by first | decide | exact Nat.le_of_ble_eq_true rfl) (by decide) dX3_objection_346 (fun r184 s185 q186 => ?_)
    rw [q186.1, q186.2]
    refine r_topi (b := zB (rdB A u1)) (rdB_at hr.2.1) ?_
    refine r_iload_n (pc := 349) h 3 rfl rfl dX3_objection_349 ?_
    refine r_iconst (pc := 350) (v := nI 1) h (by decide) dX3_objection_350 ?_
    refine r_bipush (pc := 351) (v := nI 99) h (by decide) dX3_objection_351 ?_
    refine r_cNi (pc := 353) (idx := 40) (host := RX5) (As := [.int u2, .int (nI 1), .int (nI 99)]) (st := [.int (zB (rdB A u1))]) h lkn_isWithin (fun s hs => hs.2) (c_isWithin x.2.1 G σ u2 (nI 1) (nI 99)) (by decide) rfl rfl (by first | decide | exact Nat.le_of_ble_eq_true rfl) (by decide) dX3_objection_353 (fun r187 s188 q189 => ?_)
    rw [q189.1, q189.2]
    refine r_topi (b := zB (inB (nI 1) (nI 99) u2)) rfl ?_
    refine r_iconst (pc := 356) (v := nI 1) h (by decide) dX3_objection_356 ?_
    refine r_cSi (pc := 357) (As := [.int (zB (rdB A u1)), .int (zB (inB (nI 1) (nI 99) u2)), .int (nI 1)]) (st := []) h lk_RX3_48 (c_first x.2.1 G σ (rdB A u1) (inB (nI 1) (nI 99) u2) true) (by decide) rfl rfl (by first | decide | exact Nat.le_of_ble_eq_true rfl) (by decide) dX3_objection_357 (fun r190 s191 q192 => ?_)
    rw [q192.1, q192.2]
    exact hret _ _ (⟨rfl, rfl⟩) 360 _ dX3_objection_360
  · skip
    refine r_tabIn (pc := 1) (off := 360) (tgt := 361) h (by decide) (by decide) (by decide) (by decide) dX3_objection_1 ?_
    refine r_aload_n (pc := 361) h 0 rfl rfl dX3_objection_361 ?_
    refine g_3_readers (pc := 362) hb h mw_2_19 dX3_objection_362 ?_
    refine r_iload_n (pc := 365) h 2 rfl rfl dX3_objection_365 ?_
    refine r_cVi (pc := 366) (As := [.int u1]) (st := []) h lk_RX3_61 (c_isReader x.2.1 G σ b hb u1) (rc_2 hb) (by decide) rfl rfl (by first | decide | exact Nat.le_of_ble_eq_true rfl) (by decide) dX3_objection_366 (fun r193 s194 q195 => ?_)
    rw [q195.1, q195.2]
    refine r_topi (b := zB (rdB A u1)) (rdB_at hr.2.1) ?_
    refine r_iconst (pc := 369) (v := nI 1) h (by decide) dX3_objection_369 ?_
    refine r_iconst (pc := 370) (v := nI 1) h (by decide) dX3_objection_370 ?_
    refine r_cSi (pc := 371) (As := [.int (zB (rdB A u1)), .int (nI 1), .int (nI 1)]) (st := []) h lk_RX3_48 (c_first x.2.1 G σ (rdB A u1) true true) (by decide) rfl rfl (by first | decide | exact Nat.le_of_ble_eq_true rfl) (by decide) dX3_objection_371 (fun r196 s197 q198 => ?_)
    rw [q198.1, q198.2]
    exact hret _ _ (⟨rfl, rfl⟩) 374 _ dX3_objection_374
  · skip
    refine r_tabIn (pc := 1) (off := 360) (tgt := 361) h (by decide) (by decide) (by decide) (by decide) dX3_objection_1 ?_
    refine r_aload_n (pc := 361) h 0 rfl rfl dX3_objection_361 ?_
    refine g_3_readers (pc := 362) hb h mw_2_19 dX3_objection_362 ?_
    refine r_iload_n (pc := 365) h 2 rfl rfl dX3_objection_365 ?_
    refine r_cVi (pc := 366) (As := [.int u1]) (st := []) h lk_RX3_61 (c_isReader x.2.1 G σ b hb u1) (rc_2 hb) (by decide) rfl rfl (by first | decide | exact Nat.le_of_ble_eq_true rfl) (by decide) dX3_objection_366 (fun r199 s200 q201 => ?_)
    rw [q201.1, q201.2]
    refine r_topi (b := zB (rdB A u1)) (rdB_at hr.2.1) ?_
    refine r_iconst (pc := 369) (v := nI 1) h (by decide) dX3_objection_369 ?_
    refine r_iconst (pc := 370) (v := nI 1) h (by decide) dX3_objection_370 ?_
    refine r_cSi (pc := 371) (As := [.int (zB (rdB A u1)), .int (nI 1), .int (nI 1)]) (st := []) h lk_RX3_48 (c_first x.2.1 G σ (rdB A u1) true true) (by decide) rfl rfl (by first | decide | exact Nat.le_of_ble_eq_true rfl) (by decide) dX3_objection_371 (fun r202 s203 q204 => ?_)
    rw [q204.1, q204.2]
    exact hret _ _ (⟨rfl, rfl⟩) 374 _ dX3_objection_374

