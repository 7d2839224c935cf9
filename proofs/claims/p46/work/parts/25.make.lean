/-! LISTS: the makers. Mk: the row N of w2 is made and holds S; the other rows are those of w -/
def Mk (w w2 : Nat → Int64) (N : Nat) (S : Nat → Prop) : Prop := Off w w2 N ∧ ∀ v, v < 1024 → (bW w2 N v = true ↔ (v < 1000 ∧ S v))
theorem Mk.iff {w w2 : Nat → Int64} {N : Nat} {S T : Nat → Prop} (h : Mk w w2 N S) (e : ∀ v, v < 1000 → (S v ↔ T v)) : Mk w w2 N T := ⟨h.1, fun v hv => by rw [h.2 v hv]; exact and_congr_right (fun q => e v q)⟩
theorem Mk.clr {w w2 : Nat → Int64} {N : Nat} {S : Nat → Prop} (h : Mk w w2 N S) : Clr w2 N := fun v h1 h2 => by
  cases e : bW w2 N v with
  | false => rfl
  | true => have := ((h.2 v h2).mp e).1; omega
theorem Mk.nxt {w w2 : Nat → Int64} {N L : Nat} {S : Nat → Prop} (h : Mk w w2 N S) (hL : L ≠ N) (n : Nat) : nxt (bW w2 L) n = nxt (bW w L) n := nxt_cong (fun v hv => bW_off h.1 hL (by omega))
theorem Mk.clrL {w w2 : Nat → Int64} {N L : Nat} {S : Nat → Prop} (h : Mk w w2 N S) (hL : L ≠ N) (hc : Clr w L) : Clr w2 L := hc.off h.1 hL
def putB (w : Nat → Int64) (L m : Nat) : Nat → Int64 := if m < 1000 then setB w L m else w
theorem putB_1 {w : Nat → Int64} {L m : Nat} (h : m < 1000) : putB w L m = setB w L m := if_pos h
theorem putB_0 {w : Nat → Int64} {L m : Nat} (h : ¬ m < 1000) : putB w L m = w := if_neg h
theorem mk_put {w w1 : Nat → Int64} {N : Nat} {S : Nat → Prop} (h : Mk w w1 N S) (m : Nat) : Mk w (putB w1 N m) N (fun v => S v ∨ v = m) := by
  by_cases e : m < 1000
  · rw [putB_1 e]
    refine ⟨h.1.tr (setB_off (by omega)), fun v hv => ?_⟩
    rw [bW_set (by omega), Bool.or_eq_true, h.2 v hv, decide_eq_true_iff]
    constructor
    · rintro (⟨h1, h2⟩ | h1)
      · exact ⟨h1, Or.inl h2⟩
      · exact ⟨by omega, Or.inr h1⟩
    · rintro ⟨h1, h2 | h2⟩
      · exact Or.inl ⟨h1, h2⟩
      · exact Or.inr h2
  · rw [putB_0 e]
    exact h.iff (fun v hv => ⟨Or.inl, fun q => q.elim id (fun q => by omega)⟩)
theorem mk_empty {w w1 : Nat → Int64} {N : Nat} (h : Off w w1 N) (h0 : ∀ i, i < 16 → w1 (N * 16 + i) = 0) : Mk w w1 N (fun _ => False) := by
  refine ⟨h, fun v hv => ?_⟩
  unfold bW
  rw [h0 (v / 64) (by omega)]
  constructor
  · intro q; rw [show (0 : Int64).toBitVec = 0#64 from rfl] at q; simp at q
  · rintro ⟨_, q⟩; exact q.elim
theorem z_step {w w1 : Nat → Int64} {N i : Nat} (h : Off w w1 N) (hi : i < 16) (x : Int64) : Off w (vp_updL w1 (N * 16 + i) x) N := fun j hj => by
  unfold vp_updL
  rw [if_neg (by omega)]
  exact h j hj
theorem z_at {w1 : Nat → Int64} {N i : Nat} (h0 : ∀ j, j < i → w1 (N * 16 + j) = 0) : ∀ j, j < i + 1 → vp_updL w1 (N * 16 + i) 0 (N * 16 + j) = 0 := fun j hj => by
  unfold vp_updL
  split
  · rfl
  · exact h0 j (by omega)
set_option maxRecDepth 100000 in
set_option maxHeartbeats 800000 in
theorem c_addEmpty (l : Launch) (G : Gl) (σ : Sg) (b : Nat) (hb : Blk b) (N : Nat) (hN : N < 12) (w : Nat → Int64) (k d : Int32) (li pa fr : Nat → Int32) : Ci l yX1_addEmpty cX1_addEmpty 3 .int ({ frames := 0, cells := 0, slots := 0, locals := 0 } : Room) G [.ref (G.2.1 + (b + 1))] (sB σ b (nI N) w k d li pa fr) (fun r σ2 => ∃ w1, r = nI N ∧ σ2 = sB σ b (nI (N + 1)) w1 k d li pa fr ∧ Mk w w1 N (fun _ => False)) := by
  refine Ci_of (own := RX1) rfl (by decide +kernel) (lo := [(0, .ref (G.2.1 + (b + 1)))]) rfl (Nat.le_of_ble_eq_true rfl) (fun r s hp => by obtain ⟨_, rfl, _⟩ := hp; rfl) ?_
  intro x Q hxl h hret
  subst hxl
  refine r_aload_n (pc := 0) h 0 rfl rfl dX1_addEmpty_0 ?_
  refine g_1_count (pc := 1) hb h mw_8_4 dX1_addEmpty_1 ?_
  refine r_topi (b := nI N) (sB_c _ _ _ _ _ _ _ _ _) ?_
  refine r_istore_n (pc := 4) (lo2 := [(1, .int (nI N)), (0, .ref (G.2.1 + (b + 1)))]) h rfl (by decide) rfl dX1_addEmpty_4 ?_
  refine r_iconst (pc := 5) (v := nI 0) h (by decide) dX1_addEmpty_5 ?_
  refine r_istore_n (pc := 6) (lo2 := [(2, .int (nI 0)), (1, .int (nI N)), (0, .ref (G.2.1 + (b + 1)))]) h rfl (by decide) rfl dX1_addEmpty_6 ?_
  have lp7 : ∀ (fu : Nat) (i : Nat) (w1 : Nat → Int64), i ≤ 16 → Off w w1 N → (∀ j, j < i → w1 (N * 16 + j) = 0) → 16 - i < fu → V x G 3 0 0 Q (sB σ b (nI N) w1 k d li pa fr) 7 [(0, .ref (G.2.1 + (b + 1))), (1, .int (nI N)), (2, .int (nI i))] [] := by
    intro fu
    induction fu with
    | zero => intro i w1 hi hO h0 hfu; exact absurd hfu (Nat.not_lt_zero _)
    | succ fu ih7 =>
      intro i w1 hi hO h0 hfu
      refine r_iload_n (pc := 7) h 2 rfl rfl dX1_addEmpty_7 ?_
      refine r_bipush (pc := 8) (v := nI 16) h (by decide) dX1_addEmpty_8 ?_
      refine r_icmp_ge (pc := 10) (tgt := 31) h (by decide) dX1_addEmpty_10 (fun c10 => ?_) (fun c10 => ?_)
      · skip
        rw [nI_leI (by omega) (by omega)] at c10
        refine r_aload_n (pc := 31) h 0 rfl rfl dX1_addEmpty_31 ?_
        refine r_dup (pc := 32) h rfl dX1_addEmpty_32 ?_
        refine g_1_count (pc := 33) hb h mw_8_4 dX1_addEmpty_33 ?_
        refine r_topi (b := nI N) (sB_c _ _ _ _ _ _ _ _ _) ?_
        refine r_iconst (pc := 36) (v := nI 1) h (by decide) dX1_addEmpty_36 ?_
        refine r_iadd (pc := 37) (v := nI (N + 1)) h (nI_add _ _) dX1_addEmpty_37 ?_
        refine p_1_count (pc := 38) hb h mw_8_4 dX1_addEmpty_38 ?_
        refine V.sg (sB_sc _ _ _ _ _ _ _ _ _ _) ?_
        refine r_iload_n (pc := 41) h 1 rfl rfl dX1_addEmpty_41 ?_
        exact hret _ _ (⟨w1, rfl, rfl, mk_empty hO (fun j hj => h0 j (by omega))⟩) 42 _ dX1_addEmpty_42
      · skip
        rw [nI_leI (by omega) (by omega)] at c10
        refine r_aload_n (pc := 13) h 0 rfl rfl dX1_addEmpty_13 ?_
        refine g_1_words (pc := 14) hb h mw_3_0 dX1_addEmpty_14 ?_
        refine r_iload_n (pc := 17) h 1 rfl rfl dX1_addEmpty_17 ?_
        refine r_bipush (pc := 18) (v := nI 16) h (by decide) dX1_addEmpty_18 ?_
        refine r_imul (pc := 20) (v := nI (N * 16)) h (pk_mul _ _) dX1_addEmpty_20 ?_
        refine r_iload_n (pc := 21) h 2 rfl rfl dX1_addEmpty_21 ?_
        refine r_iadd (pc := 22) (v := nI ((N * 16) + i)) h (nI_add _ _) dX1_addEmpty_22 ?_
        refine r_lconst (pc := 23) (v := 0) h (by decide) dX1_addEmpty_23 ?_
        refine r_last (pc := 24) h (a_wd hb) ((N * 16) + i) rfl (by omega) dX1_addEmpty_24 ?_
        refine V.sg (sB_sw _ _ _ _ _ _ _ _ _ _ _) ?_
        refine r_iinc (pc := 25) (v := nI (i + 1)) (lo2 := [(2, .int (nI (i + 1))), (0, .ref (G.2.1 + (b + 1))), (1, .int (nI N))]) h 2 rfl (iinc1 _) (by decide) rfl dX1_addEmpty_25 ?_
        refine r_goto (pc := 28) (tgt := 7) h (by decide) dX1_addEmpty_28 ?_
        refine r_sub (lo2 := [(0, .ref (G.2.1 + (b + 1))), (1, .int (nI N)), (2, .int (nI (i + 1)))]) [1, 2, 0] rfl ?_
        exact ih7 (i + 1) _ (by omega) (z_step hO (by omega) 0) (z_at h0) (by omega)
  refine r_sub (lo2 := [(0, .ref (G.2.1 + (b + 1))), (1, .int (nI N)), (2, .int (nI 0))]) [2, 1, 0] rfl ?_
  exact lp7 _ 0 w (by omega) (Off.rf w N) (fun j hj => absurd hj (Nat.not_lt_zero j)) (Nat.lt_succ_self _)

set_option maxRecDepth 100000 in
set_option maxHeartbeats 800000 in
theorem c_put (l : Launch) (G : Gl) (σ : Sg) (b : Nat) (hb : Blk b) (c : Int32) (w : Nat → Int64) (k d : Int32) (li pa fr : Nat → Int32) (L m : Nat) (hL : L < 12) (hm : m < 2 ^ 31) : Cv l yX1_put cX1_put 3 ({ frames := 1, cells := 0, slots := 0, locals := 22 } : Room) G [.ref (G.2.1 + (b + 1)), .int (nI L), .int (nI m)] (sB σ b c w k d li pa fr) (fun σ2 => σ2 = sB σ b c (putB w L m) k d li pa fr) := by
  refine Cv_of (own := RX1) rfl (by decide +kernel) (lo := [(0, .ref (G.2.1 + (b + 1))), (1, .int (nI L)), (2, .int (nI m))]) rfl (Nat.le_of_ble_eq_true rfl) ?_
  intro x Q hxl h hret
  subst hxl
  refine r_iload_n (pc := 0) h 2 rfl rfl dX1_put_0 ?_
  refine r_iconst (pc := 1) (v := nI 0) h (by decide) dX1_put_1 ?_
  refine r_sipush (pc := 2) (v := nI 999) h (by decide) dX1_put_2 ?_
  refine r_cNi (pc := 5) (idx := 25) (host := RX5) (As := [.int (nI m), .int (nI 0), .int (nI 999)]) (st := []) h lkn_isWithin (fun s hs => hs.1) (c_isWithinN x.2.1 G (sB σ b c w k d li pa fr) m (by omega)) (by decide) rfl rfl (by first | decide | exact Nat.le_of_ble_eq_true rfl) (by decide) dX1_put_5 (fun r1 s2 q3 => ?_)
  rw [q3.1, q3.2]
  refine r_if_eq (pc := 8) (tgt := 27) h (by decide) dX1_put_8 (fun c8 => ?_) (fun c8 => ?_)
  · skip
    replace c8 := zB_0.mp c8
    simp only [decide_eq_true_iff, decide_eq_false_iff_not] at c8
    exact hret _ (by rw [putB_0 c8]) 27 _ dX1_put_27
  · skip
    replace c8 := zB_n0.mp c8
    simp only [decide_eq_true_iff, decide_eq_false_iff_not] at c8
    refine r_aload_n (pc := 11) h 0 rfl rfl dX1_put_11 ?_
    refine g_1_words (pc := 12) hb h mw_3_0 dX1_put_12 ?_
    refine r_iload_n (pc := 15) h 1 rfl rfl dX1_put_15 ?_
    refine r_iload_n (pc := 16) h 2 rfl rfl dX1_put_16 ?_
    refine r_cSi (pc := 17) (As := [.int (nI L), .int (nI m)]) (st := [.ref (G.2.1 + (b + 2))]) h lk_RX1_29 (c_wordOf x.2.1 G (sB σ b c w k d li pa fr) L m (by omega)) (by decide) rfl rfl (by first | decide | exact Nat.le_of_ble_eq_true rfl) (by decide) dX1_put_17 (fun r4 s5 q6 => ?_)
    rw [q6.1, q6.2]
    refine r_dup2 (pc := 20) h rfl rfl dX1_put_20 ?_
    refine r_lald (pc := 21) h (a_wd hb) (L * 16 + m / 64) rfl (by omega) dX1_put_21 ?_
    refine r_topl (e := w (L * 16 + m / 64)) (sB_wj _ _ _ _ _ _ _ _ _ _) ?_
    refine r_lconst (pc := 22) (v := 1) h (by decide) dX1_put_22 ?_
    refine r_iload_n (pc := 23) h 2 rfl rfl dX1_put_23 ?_
    refine r_lshl (pc := 24) (v := 1 <<< ((nI m).toInt64 &&& 63)) h rfl dX1_put_24 ?_
    refine r_lor (pc := 25) (v := (w (L * 16 + m / 64)) ||| (1 <<< ((nI m).toInt64 &&& 63))) h rfl dX1_put_25 ?_
    refine r_last (pc := 26) h (a_wd hb) (L * 16 + m / 64) rfl (by omega) dX1_put_26 ?_
    refine V.sg (sB_sw _ _ _ _ _ _ _ _ _ _ _) ?_
    exact hret _ (by rw [putB_1 c8]; rfl) 27 _ dX1_put_27

