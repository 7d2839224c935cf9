/-! STATE: its actions -/
theorem sB_cw (σ : Sg) (b : Nat) (c : Int32) (w : Nat → Int64) (k d : Int32) (l p f : Nat → Int32) (F : Nat → Int64) : (((sB σ b c w k d l p f).1, va_up (sB σ b c w k d l p f).2 (b + 2) F) : Sg) = sB σ b c F k d l p f := by
  apply Prod.ext
  · rfl
  · funext q
    by_cases h : q = b + 2
    · subst h; simp [sB, va_up]
    · simp [sB, va_up, h]
def emptyA : Ab := (0, 0, nI 0, (fun _ => (0, 0, 0, 0)), (fun _ => 0), (fun _ => 0))
theorem relC_empty (w : Nat → Int64) (l p f : Nat → Int32) : RelC emptyA (nI 0) w (nI 0) (nI 0) l p f :=
  ⟨⟨by decide, rfl⟩, ⟨by decide, rfl⟩, rfl, fun L hL => absurd hL (Nat.not_lt_zero L), fun r hr => absurd hr (Nat.not_lt_zero r)⟩
theorem skN_none {A : Ab} {i n j g : Nat} (hc : cS (mem (aU A) (aL A i)) g = aP A i + j) (hg : g ≤ 1000) (hn : nxt (mem (aU A) (aL A i)) g = none) (hj : j ≤ n) : skN A i n = j := by
  have := nxt_cSN hg hn
  unfold skN cntL
  omega
theorem skN_all {A : Ab} {i n g : Nat} (hc : cS (mem (aU A) (aL A i)) g = aP A i + n) (hg : g ≤ 1000) : skN A i n = n := by
  have := cS_mono (mem (aU A) (aL A i)) hg
  unfold skN cntL
  omega
theorem upd_ne {p1 pa : Nat → Int32} {i : Nat} {v : Int32} (h : ∀ j, j ≠ i → p1 j = pa j) : ∀ j, j ≠ i → upd p1 i v j = pa j := fun j hj => (pk_un hj).trans (h j hj)
theorem cS_up {S : Nat → Bool} {v P : Nat} (hs : S v = true) (hc : cS S v = P) : cS S (v + 1) = P + 1 := by rw [cS, if_pos hs, hc]
theorem fst3_le (a b c : Bool) : fst3 a b c ≤ 3 := by cases a <;> cases b <;> cases c <;> decide
theorem ob_le (A : Ab) (K : Nat) (a b c : Int32) : ob A K a b c ≤ 3 := by
  unfold ob
  split <;> first | exact fst3_le _ _ _ | exact Nat.le_refl _
set_option maxRecDepth 100000 in
set_option maxHeartbeats 800000 in
theorem c_copyL (l : Launch) (G : Gl) (σ : Sg) (b : Nat) (hb : Blk b) (c : Int32) (w : Nat → Int64) (k d : Int32) (li pa fr : Nat → Int32) (b2 : Nat) (hb2 : Blk b2) (hd : b2 + 7 ≤ b ∨ b + 7 ≤ b2) : Cv l yX1_copyFrom cX1_copyFrom 2 ({ frames := 1, cells := 0, slots := 0, locals := 60 } : Room) G [.ref (G.2.1 + (b + 1)), .ref (G.2.1 + (b2 + 1))] (sB σ b c w k d li pa fr) (fun σ2 => ∃ w1, σ2 = sB σ b (σ.1 (b2 + 1) 1) w1 k d li pa fr ∧ ∀ j, j < 192 → w1 j = σ.2 (b2 + 2) j) := by
  refine Cv_of (own := RX1) rfl (by decide +kernel) (lo := [(0, .ref (G.2.1 + (b + 1))), (1, .ref (G.2.1 + (b2 + 1)))]) rfl (Nat.le_of_ble_eq_true rfl) ?_
  intro x Q hxl h hret
  subst hxl
  refine r_aload_n (pc := 0) h 0 rfl rfl dX1_copyFrom_0 ?_
  refine r_aload_n (pc := 1) h 1 rfl rfl dX1_copyFrom_1 ?_
  refine g_1_count (pc := 2) hb2 h mw_8_4 dX1_copyFrom_2 ?_
  refine r_topi (b := σ.1 (b2 + 1) 1) (sB_off1 (by omega) _) ?_
  refine p_1_count (pc := 5) hb h mw_8_4 dX1_copyFrom_5 ?_
  refine V.sg (sB_sc _ _ _ _ _ _ _ _ _ _) ?_
  refine r_aload_n (pc := 8) h 1 rfl rfl dX1_copyFrom_8 ?_
  refine g_1_words (pc := 9) hb2 h mw_3_0 dX1_copyFrom_9 ?_
  refine r_iconst (pc := 12) (v := nI 0) h (by decide) dX1_copyFrom_12 ?_
  refine r_aload_n (pc := 13) h 0 rfl rfl dX1_copyFrom_13 ?_
  refine g_1_words (pc := 14) hb h mw_3_0 dX1_copyFrom_14 ?_
  refine r_iconst (pc := 17) (v := nI 0) h (by decide) dX1_copyFrom_17 ?_
  refine r_aload_n (pc := 18) h 0 rfl rfl dX1_copyFrom_18 ?_
  refine g_1_words (pc := 19) hb h mw_3_0 dX1_copyFrom_19 ?_
  refine r_alenL (pc := 22) (v := 192) h (a_wd hb) (by decide) dX1_copyFrom_22 ?_
  refine r_copyL (pc := 23) (c0 := b2 + 2) (c1 := b + 2) (n := 192) h (a_wd hb2) (a_wd hb) (by decide) mw_14_13 (by decide) (by decide) dX1_copyFrom_23 ?_
  refine V.sg (sB_cw _ _ _ _ _ _ _ _ _ _) ?_
  exact hret _ (⟨_, rfl, fun j hj => by rw [pk_cpy_in (by omega) (by omega), Nat.zero_add, Nat.sub_zero]; exact sB_off2 (by omega) j⟩) 26 _ dX1_copyFrom_26

set_option maxRecDepth 100000 in
set_option maxHeartbeats 800000 in
theorem c_copyS (l : Launch) (G : Gl) (σ : Sg) (b : Nat) (hb : Blk b) (b2 : Nat) (hb2 : Blk b2) (hd : b2 + 7 ≤ b ∨ b + 7 ≤ b2) (A : Ab) (hr : RelB A σ b2) : Cv l yX3_copyFrom cX3_copyFrom 2 ({ frames := 2, cells := 0, slots := 0, locals := 81 } : Room) G [.ref (G.2.1 + b), .ref (G.2.1 + b2)] σ (fun σ2 => Up A σ b σ2) := by
  refine Cv_of (own := RX3) rfl (by decide +kernel) (lo := [(0, .ref (G.2.1 + b)), (1, .ref (G.2.1 + b2))]) rfl (Nat.le_of_ble_eq_true rfl) ?_
  intro x Q hxl h hret
  subst hxl
  refine V.sg (show σ = sB σ b (σ.1 (b + 1) 1) (σ.2 (b + 2)) (σ.1 (b + 3) 3) (σ.1 (b + 3) 4) (σ.1 (b + 4)) (σ.1 (b + 5)) (σ.1 (b + 6)) from (sB_self σ b).symm) ?_
  refine r_aload_n (pc := 0) h 0 rfl rfl dX3_copyFrom_0 ?_
  refine g_3_lists (pc := 1) hb h mw_2_15 dX3_copyFrom_1 ?_
  refine r_aload_n (pc := 4) h 1 rfl rfl dX3_copyFrom_4 ?_
  refine g_3_lists (pc := 5) hb2 h mw_2_15 dX3_copyFrom_5 ?_
  refine r_cVv (pc := 8) (As := [.ref (G.2.1 + (b2 + 1))]) (st := []) h lk_RX3_25 (c_copyL x.2.1 G σ b hb (σ.1 (b + 1) 1) (σ.2 (b + 2)) (σ.1 (b + 3) 3) (σ.1 (b + 3) 4) (σ.1 (b + 4)) (σ.1 (b + 5)) (σ.1 (b + 6)) b2 hb2 hd) (rc_1 hb) (by decide) rfl rfl (by first | decide | exact Nat.le_of_ble_eq_true rfl) (by decide) dX3_copyFrom_8 (fun s2 q3 => ?_)
  obtain ⟨w1, e1, k1⟩ := q3
  subst e1
  refine r_aload_n (pc := 11) h 0 rfl rfl dX3_copyFrom_11 ?_
  refine g_3_readers (pc := 12) hb h mw_2_19 dX3_copyFrom_12 ?_
  refine r_aload_n (pc := 15) h 1 rfl rfl dX3_copyFrom_15 ?_
  refine g_3_readers (pc := 16) hb2 h mw_2_19 dX3_copyFrom_16 ?_
  refine r_cVv (pc := 19) (As := [.ref (G.2.1 + (b2 + 3))]) (st := []) h lk_RX3_29 (c_copyR x.2.1 G σ b hb (σ.1 (b2 + 1) 1) w1 (σ.1 (b + 3) 3) (σ.1 (b + 3) 4) (σ.1 (b + 4)) (σ.1 (b + 5)) (σ.1 (b + 6)) b2 hb2 hd) (rc_2 hb) (by decide) rfl rfl (by first | decide | exact Nat.le_of_ble_eq_true rfl) (by decide) dX3_copyFrom_19 (fun s5 q6 => ?_)
  obtain ⟨l1, p1, f1, e2, k2, k3, k4⟩ := q6
  subst e2
  exact hret _ (⟨_, _, _, _, _, _, _, rfl, hr.cong k1 k2 k3 k4⟩) 22 _ dX3_copyFrom_22

set_option maxRecDepth 100000 in
set_option maxHeartbeats 800000 in
theorem c_empty (l : Launch) (G : Gl) (σ : Sg) (b : Nat) (hb : Blk b) : Cv l yX3_empty cX3_empty 1 ({ frames := 0, cells := 0, slots := 0, locals := 0 } : Room) G [.ref (G.2.1 + b)] σ (fun σ2 => Up emptyA σ b σ2) := by
  refine Cv_of (own := RX3) rfl (by decide +kernel) (lo := [(0, .ref (G.2.1 + b))]) rfl (Nat.le_of_ble_eq_true rfl) ?_
  intro x Q hxl h hret
  subst hxl
  refine V.sg (show σ = sB σ b (σ.1 (b + 1) 1) (σ.2 (b + 2)) (σ.1 (b + 3) 3) (σ.1 (b + 3) 4) (σ.1 (b + 4)) (σ.1 (b + 5)) (σ.1 (b + 6)) from (sB_self σ b).symm) ?_
  refine r_aload_n (pc := 0) h 0 rfl rfl dX3_empty_0 ?_
  refine g_3_lists (pc := 1) hb h mw_2_15 dX3_empty_1 ?_
  refine r_iconst (pc := 4) (v := nI 0) h (by decide) dX3_empty_4 ?_
  refine p_1_count (pc := 5) hb h mw_6_23 dX3_empty_5 ?_
  refine V.sg (sB_sc _ _ _ _ _ _ _ _ _ _) ?_
  refine r_aload_n (pc := 8) h 0 rfl rfl dX3_empty_8 ?_
  refine g_3_readers (pc := 9) hb h mw_2_19 dX3_empty_9 ?_
  refine r_iconst (pc := 12) (v := nI 0) h (by decide) dX3_empty_12 ?_
  refine p_2_count (pc := 13) hb h mw_7_0 dX3_empty_13 ?_
  refine V.sg (sB_sk _ _ _ _ _ _ _ _ _ _) ?_
  refine r_aload_n (pc := 16) h 0 rfl rfl dX3_empty_16 ?_
  refine g_3_readers (pc := 17) hb h mw_2_19 dX3_empty_17 ?_
  refine r_iconst (pc := 20) (v := nI 0) h (by decide) dX3_empty_20 ?_
  refine p_2_readings (pc := 21) hb h mw_7_1 dX3_empty_21 ?_
  refine V.sg (sB_sd _ _ _ _ _ _ _ _ _ _) ?_
  exact hret _ (⟨_, _, _, _, _, _, _, rfl, relC_empty _ _ _ _⟩) 24 _ dX3_empty_24

set_option maxRecDepth 100000 in
set_option maxHeartbeats 800000 in
theorem c_readOne (l : Launch) (G : Gl) (σ : Sg) (b : Nat) (hb : Blk b) (A : Ab) (w : Nat → Int64) (li pa fr : Nat → Int32) (hr : RelC A (nI A.1) w (nI A.2.1) A.2.2.1 li pa fr) (i v : Nat) (hi : i < A.2.1) (hv : nextO A i = some v) : Ci l yX3_readOne cX3_readOne 3 .int ({ frames := 3, cells := 0, slots := 0, locals := 69 } : Room) G [.ref (G.2.1 + b), .int (nI i)] (sB σ b (nI A.1) w (nI A.2.1) A.2.2.1 li pa fr) (fun r σ2 => r = oI (nextO A i) ∧ Up (A.1, A.2.1, A.2.2.1 + nI 1, aU A, aL A, va_up (aP A) i (aP A i + 1)) σ b σ2) := by
  refine Ci_of (own := RX3) rfl (by decide +kernel) (lo := [(0, .ref (G.2.1 + b)), (1, .int (nI i))]) rfl (Nat.le_of_ble_eq_true rfl) (fun r s hp => by obtain ⟨rfl, _⟩ := hp; rfl) ?_
  intro x Q hxl h hret
  subst hxl
  have hN12 := hr.1.1
  have hR4 := hr.2.1.1
  obtain ⟨o1, o2, o3, g, hg, o4, o5⟩ := hr.2.2.2.2 i hi
  obtain ⟨p1, p2, p3⟩ := hr.2.2.2.1 _ o1
  obtain ⟨v1, v2, v3⟩ := ath_spec hv
  refine r_aload_n (pc := 0) h 0 rfl rfl dX3_readOne_0 ?_
  refine g_3_lists (pc := 1) hb h mw_2_15 dX3_readOne_1 ?_
  refine r_aload_n (pc := 4) h 0 rfl rfl dX3_readOne_4 ?_
  refine g_3_readers (pc := 5) hb h mw_2_19 dX3_readOne_5 ?_
  refine g_2_list (pc := 8) hb h mw_9_9 dX3_readOne_8 ?_
  refine r_iload_n (pc := 11) h 1 rfl rfl dX3_readOne_11 ?_
  refine r_iald (pc := 12) h (a_li hb) i rfl (by omega) dX3_readOne_12 ?_
  refine r_topi (b := li i) (sB_lj _ _ _ _ _ _ _ _ _ _) ?_
  refine r_topi (b := nI (aL A i)) o2 ?_
  refine r_aload_n (pc := 13) h 0 rfl rfl dX3_readOne_13 ?_
  refine g_3_readers (pc := 14) hb h mw_2_19 dX3_readOne_14 ?_
  refine g_2_from (pc := 17) hb h mw_9_10 dX3_readOne_17 ?_
  refine r_iload_n (pc := 20) h 1 rfl rfl dX3_readOne_20 ?_
  refine r_iald (pc := 21) h (a_fr hb) i rfl (by omega) dX3_readOne_21 ?_
  refine r_topi (b := fr i) (sB_fj _ _ _ _ _ _ _ _ _ _) ?_
  refine r_topi (b := nI g) o4 ?_
  refine r_cVi (pc := 22) (As := [.int (nI (aL A i)), .int (nI g)]) (st := []) h lk_RX3_126 (c_nextFrom x.2.1 G (sB σ b (nI A.1) w (nI A.2.1) A.2.2.1 li pa fr) b hb (aL A i) g (by omega) (by omega) (by rw [sB_w]; exact p2)) (rc_1 hb) (by decide) rfl rfl (by first | decide | exact Nat.le_of_ble_eq_true rfl) (by decide) dX3_readOne_22 (fun r1 s2 q3 => ?_)
  rw [q3.1, q3.2, sB_w]
  refine r_topi (b := nI v) ((congrArg oI (nxt_rel p3 hg o5)).trans (congrArg oI hv)) ?_
  refine r_istore_n (pc := 25) (lo2 := [(2, .int (nI v)), (0, .ref (G.2.1 + b)), (1, .int (nI i))]) h rfl (by decide) rfl dX3_readOne_25 ?_
  refine r_aload_n (pc := 26) h 1 rfl rfl dX3_readOne_26 ?_
  refine g_3_readers (pc := 27) hb h mw_2_19 dX3_readOne_27 ?_
  refine r_iload_n (pc := 30) h 2 rfl rfl dX3_readOne_30 ?_
  refine r_iload_n (pc := 31) h 0 rfl rfl dX3_readOne_31 ?_
  refine r_cVv (pc := 32) (As := [.int (nI i), .int (nI v)]) (st := []) h lk_RX3_129 (c_pass x.2.1 G σ b hb (nI A.1) w (nI A.2.1) A.2.2.1 li pa fr i (by omega) v) (rc_2 hb) (by decide) rfl rfl (by first | decide | exact Nat.le_of_ble_eq_true rfl) (by decide) dX3_readOne_32 (fun s5 q6 => ?_)
  subst q6
  refine r_aload_n (pc := 35) h 1 rfl rfl dX3_readOne_35 ?_
  refine g_3_readers (pc := 36) hb h mw_2_19 dX3_readOne_36 ?_
  refine r_dup (pc := 39) h rfl dX3_readOne_39 ?_
  refine g_2_readings (pc := 40) hb h mw_7_1 dX3_readOne_40 ?_
  refine r_topi (b := A.2.2.1) (sB_d _ _ _ _ _ _ _ _ _) ?_
  refine r_iconst (pc := 43) (v := nI 1) h (by decide) dX3_readOne_43 ?_
  refine r_iadd (pc := 44) (v := A.2.2.1 + (nI 1)) h rfl dX3_readOne_44 ?_
  refine p_2_readings (pc := 45) hb h mw_7_1 dX3_readOne_45 ?_
  refine V.sg (sB_sd _ _ _ _ _ _ _ _ _ _) ?_
  refine r_iload_n (pc := 48) h 0 rfl rfl dX3_readOne_48 ?_
  exact hret _ _ (⟨by rw [hv]; rfl, _, _, _, _, _, _, _, rfl, relC_read hr hi (by rw [pk_us, o3]; exact nI_add _ _) pk_us (by omega) (cS_up v2 v3) (fun j hj => pk_un hj) (fun j hj => pk_un hj)⟩) 49 _ dX3_readOne_49

set_option maxRecDepth 100000 in
set_option maxHeartbeats 800000 in
theorem c_skipSome (l : Launch) (G : Gl) (σ : Sg) (b : Nat) (hb : Blk b) (A : Ab) (w : Nat → Int64) (li pa fr : Nat → Int32) (hr : RelC A (nI A.1) w (nI A.2.1) A.2.2.1 li pa fr) (i n : Nat) (hi : i < A.2.1) (hn : n ≤ 99) : Ci l yX3_skipSome cX3_skipSome 5 .int ({ frames := 3, cells := 0, slots := 0, locals := 69 } : Room) G [.ref (G.2.1 + b), .int (nI i), .int (nI n)] (sB σ b (nI A.1) w (nI A.2.1) A.2.2.1 li pa fr) (fun r σ2 => r = nI (skN A i n) ∧ Up (A.1, A.2.1, A.2.2.1, aU A, aL A, va_up (aP A) i (aP A i + skN A i n)) σ b σ2) := by
  refine Ci_of (own := RX3) rfl (by decide +kernel) (lo := [(0, .ref (G.2.1 + b)), (1, .int (nI i)), (2, .int (nI n))]) rfl (Nat.le_of_ble_eq_true rfl) (fun r s hp => by obtain ⟨rfl, _⟩ := hp; rfl) ?_
  intro x Q hxl h hret
  subst hxl
  have hN12 := hr.1.1
  have hR4 := hr.2.1.1
  obtain ⟨o1, o2, o3, g, hg, o4, o5⟩ := hr.2.2.2.2 i hi
  obtain ⟨p1, p2, p3⟩ := hr.2.2.2.1 _ o1
  refine r_iconst (pc := 0) (v := nI 0) h (by decide) dX3_skipSome_0 ?_
  refine r_istore_n (pc := 1) (lo2 := [(3, .int (nI 0)), (0, .ref (G.2.1 + b)), (1, .int (nI i)), (2, .int (nI n))]) h rfl (by decide) rfl dX3_skipSome_1 ?_
  have lp2 : ∀ (fu : Nat) (j : Nat) (g1 : Nat) (p1 : Nat → Int32) (f1 : Nat → Int32), j ≤ n → g1 ≤ 1000 → p1 i = nI (aP A i + j) → f1 i = nI g1 → cS (mem (aU A) (aL A i)) g1 = aP A i + j → (∀ m, m ≠ i → p1 m = pa m) → (∀ m, m ≠ i → f1 m = fr m) → n - j < fu → V x G 5 0 0 Q (sB σ b (nI A.1) w (nI A.2.1) A.2.2.1 li p1 f1) 2 [(0, .ref (G.2.1 + b)), (1, .int (nI i)), (2, .int (nI n)), (3, .int (nI j))] [] := by
    intro fu
    induction fu with
    | zero => intro j g1 p1 f1 hj hg1 h1 h2 hc ho1 ho2 hfu; exact absurd hfu (Nat.not_lt_zero _)
    | succ fu ih2 =>
      intro j g1 p1 f1 hj hg1 h1 h2 hc ho1 ho2 hfu
      refine r_iload_n (pc := 2) h 3 rfl rfl dX3_skipSome_2 ?_
      refine r_iload_n (pc := 3) h 2 rfl rfl dX3_skipSome_3 ?_
      refine r_icmp_ge (pc := 4) (tgt := 58) h (by decide) dX3_skipSome_4 (fun c4 => ?_) (fun c4 => ?_)
      · skip
        rw [nI_leI (by omega) (by omega)] at c4
        refine r_iload_n (pc := 58) h 2 rfl rfl dX3_skipSome_58 ?_
        have ej : j = n := by omega
        subst ej
        exact hret _ _ (⟨by rw [skN_all hc hg1], _, _, _, _, _, _, _, rfl, by rw [skN_all hc hg1]; exact relC_read hr hi h1 h2 hg1 hc ho1 ho2⟩) 59 _ dX3_skipSome_59
      · skip
        rw [nI_leI (by omega) (by omega)] at c4
        refine r_aload_n (pc := 7) h 0 rfl rfl dX3_skipSome_7 ?_
        refine g_3_lists (pc := 8) hb h mw_2_15 dX3_skipSome_8 ?_
        refine r_aload_n (pc := 11) h 0 rfl rfl dX3_skipSome_11 ?_
        refine g_3_readers (pc := 12) hb h mw_2_19 dX3_skipSome_12 ?_
        refine g_2_list (pc := 15) hb h mw_9_9 dX3_skipSome_15 ?_
        refine r_iload_n (pc := 18) h 1 rfl rfl dX3_skipSome_18 ?_
        refine r_iald (pc := 19) h (a_li hb) i rfl (by omega) dX3_skipSome_19 ?_
        refine r_topi (b := li i) (sB_lj _ _ _ _ _ _ _ _ _ _) ?_
        refine r_topi (b := nI (aL A i)) o2 ?_
        refine r_aload_n (pc := 20) h 0 rfl rfl dX3_skipSome_20 ?_
        refine g_3_readers (pc := 21) hb h mw_2_19 dX3_skipSome_21 ?_
        refine g_2_from (pc := 24) hb h mw_9_10 dX3_skipSome_24 ?_
        refine r_iload_n (pc := 27) h 1 rfl rfl dX3_skipSome_27 ?_
        refine r_iald (pc := 28) h (a_fr hb) i rfl (by omega) dX3_skipSome_28 ?_
        refine r_topi (b := f1 i) (sB_fj _ _ _ _ _ _ _ _ _ _) ?_
        refine r_topi (b := nI g1) h2 ?_
        refine r_cVi (pc := 29) (As := [.int (nI (aL A i)), .int (nI g1)]) (st := []) h lk_RX3_126 (c_nextFrom x.2.1 G (sB σ b (nI A.1) w (nI A.2.1) A.2.2.1 li p1 f1) b hb (aL A i) g1 (by omega) (by omega) (by rw [sB_w]; exact p2)) (rc_1 hb) (by decide) rfl rfl (by first | decide | exact Nat.le_of_ble_eq_true rfl) (by decide) dX3_skipSome_29 (fun r1 s2 q3 => ?_)
        rw [q3.1, q3.2, sB_w, nxt_cong p3]
        refine r_istore (pc := 32) (lo2 := [(4, .int (oI (nxt (mem (aU A) (aL A i)) g1))), (0, .ref (G.2.1 + b)), (1, .int (nI i)), (2, .int (nI n)), (3, .int (nI j))]) h (by decide) rfl dX3_skipSome_32 ?_
        refine r_iload (pc := 34) h 0 rfl dX3_skipSome_34 ?_
        refine r_iconst (pc := 36) (v := (-1)) h (by decide) dX3_skipSome_36 ?_
        refine r_icmp_ne (pc := 37) (tgt := 42) h (by decide) dX3_skipSome_37 (fun c37 => ?_) (fun c37 => ?_)
        · skip
          obtain ⟨v, hv⟩ : ∃ v, nxt (mem (aU A) (aL A i)) g1 = some v := by
            cases e9 : nxt (mem (aU A) (aL A i)) g1 with
            | none => exact absurd (by rw [e9]; rfl) c37
            | some v9 => exact ⟨v9, rfl⟩
          obtain ⟨v1, v2, v3, v4⟩ := nxt_spec hv
          rw [hv]
          refine r_sub (lo2 := [(4, .int (nI v)), (0, .ref (G.2.1 + b)), (1, .int (nI i)), (2, .int (nI n)), (3, .int (nI j))]) [0, 1, 2, 3, 4] rfl ?_
          refine r_aload_n (pc := 42) h 1 rfl rfl dX3_skipSome_42 ?_
          refine g_3_readers (pc := 43) hb h mw_2_19 dX3_skipSome_43 ?_
          refine r_iload_n (pc := 46) h 2 rfl rfl dX3_skipSome_46 ?_
          refine r_iload (pc := 47) h 0 rfl dX3_skipSome_47 ?_
          refine r_cVv (pc := 49) (As := [.int (nI i), .int (nI v)]) (st := []) h lk_RX3_129 (c_pass x.2.1 G σ b hb (nI A.1) w (nI A.2.1) A.2.2.1 li p1 f1 i (by omega) v) (rc_2 hb) (by decide) rfl rfl (by first | decide | exact Nat.le_of_ble_eq_true rfl) (by decide) dX3_skipSome_49 (fun s5 q6 => ?_)
          subst q6
          refine r_iinc (pc := 52) (v := nI (j + 1)) (lo2 := [(3, .int (nI (j + 1))), (4, .int (nI v)), (0, .ref (G.2.1 + b)), (1, .int (nI i)), (2, .int (nI n))]) h 4 rfl (iinc1 _) (by decide) rfl dX3_skipSome_52 ?_
          refine r_goto (pc := 55) (tgt := 2) h (by decide) dX3_skipSome_55 ?_
          refine r_sub (lo2 := [(0, .ref (G.2.1 + b)), (1, .int (nI i)), (2, .int (nI n)), (3, .int (nI (j + 1)))]) [2, 3, 4, 0] rfl ?_
          exact ih2 (j + 1) (v + 1) _ _ (by omega) (by omega) (by rw [pk_us, h1]; exact nI_add _ _) pk_us (by rw [(nxt_cS hv).2, hc]; rfl) (upd_ne ho1) (upd_ne ho2) (by omega)
        · skip
          refine r_iload_n (pc := 40) h 4 rfl rfl dX3_skipSome_40 ?_
          exact hret _ _ (⟨by rw [skN_none hc hg1 (oI_nxt.mp c37) hj], _, _, _, _, _, _, _, rfl, by rw [skN_none hc hg1 (oI_nxt.mp c37) hj]; exact relC_read hr hi h1 h2 hg1 hc ho1 ho2⟩) 41 _ dX3_skipSome_41
  refine r_sub (lo2 := [(0, .ref (G.2.1 + b)), (1, .int (nI i)), (2, .int (nI n)), (3, .int (nI 0))]) [1, 2, 3, 0] rfl ?_
  exact lp2 _ 0 g pa fr (by omega) hg o3 o4 o5 (fun _ _ => rfl) (fun _ _ => rfl) (Nat.lt_succ_self _)

set_option maxRecDepth 100000 in
set_option maxHeartbeats 800000 in
theorem c_carryOutC (l : Launch) (G : Gl) (σ : Sg) (b : Nat) (hb : Blk b) (A : Ab) (w : Nat → Int64) (li pa fr : Nat → Int32) (hr : RelC A (nI A.1) w (nI A.2.1) A.2.2.1 li pa fr) (K : Nat) (hK : K = 115 ∨ K = 120 ∨ K = 106 ∨ K = 104 ∨ K = 119 ∨ K = 118 ∨ K = 117 ∨ K = 101 ∨ K = 100 ∨ K = 114 ∨ K = 110 ∨ K = 107 ∨ K = 122 ∨ K = 113) (u1 u2 u3 : Int32) (h0 : ob A K u1 u2 u3 = 0) : Ci l yX3_carryOut cX3_carryOut 5 .int ({ frames := 4, cells := 0, slots := 0, locals := 95 } : Room) G [.ref (G.2.1 + b), .int (nI K), .int u1, .int u2, .int u3] (sB σ b (nI A.1) w (nI A.2.1) A.2.2.1 li pa fr) (fun r σ2 => r = (co A K u1 u2 u3).1 ∧ Up (co A K u1 u2 u3).2 σ b σ2) := by
  refine Ci_of (own := RX3) rfl (by decide +kernel) (lo := [(0, .ref (G.2.1 + b)), (1, .int (nI K)), (2, .int u1), (3, .int u2), (4, .int u3)]) rfl (Nat.le_of_ble_eq_true rfl) (fun r s hp => by obtain ⟨rfl, _⟩ := hp; rfl) ?_
  intro x Q hxl h hret
  subst hxl
  have hN12 := hr.1.1
  have hR4 := hr.2.1.1
  refine r_iload_n (pc := 0) h 1 rfl rfl dX3_carryOut_0 ?_
  rcases hK with rfl | rfl | rfl | rfl | rfl | rfl | rfl | rfl | rfl | rfl | rfl | rfl | rfl | rfl
  · skip
    obtain ⟨m, n, rfl, rfl, hm, hn1, hn9, hN⟩ := ob_115 h0
    refine r_tabIn (pc := 1) (off := 107) (tgt := 108) h (by decide) (by decide) (by decide) (by decide) dX3_carryOut_1 ?_
    refine r_aload_n (pc := 108) h 0 rfl rfl dX3_carryOut_108 ?_
    refine g_3_lists (pc := 109) hb h mw_2_15 dX3_carryOut_109 ?_
    refine r_iload_n (pc := 112) h 2 rfl rfl dX3_carryOut_112 ?_
    refine r_iload_n (pc := 113) h 3 rfl rfl dX3_carryOut_113 ?_
    refine r_cVi (pc := 114) (As := [.int (nI m), .int (nI n)]) (st := []) h lk_RX3_68 (c_addSteps x.2.1 G σ b hb A.1 (by omega) w (nI A.2.1) A.2.2.1 li pa fr m n (by omega) (by omega) (by omega)) (rc_1 hb) (by decide) rfl rfl (by first | decide | exact Nat.le_of_ble_eq_true rfl) (by decide) dX3_carryOut_114 (fun r2 s3 q4 => ?_)
    obtain ⟨wz1, ewz1, ewz1s, hwz1⟩ := q4
    subst ewz1
    subst ewz1s
    exact hret _ _ (⟨rfl, _, _, _, _, _, _, _, rfl, by show RelC (mkA A (0, toN (nI m), toN (nI n), 0)) _ _ _ _ _ _ _; rw [toN_nI (show m < 2 ^ 31 by omega), toN_nI (show n < 2 ^ 31 by omega)]; exact relC_make hr (0, m, n, 0) hN (show m < 1000 ∧ 1 ≤ n ∧ n ≤ 99 from ⟨hm, hn1, hn9⟩) hwz1⟩) 117 _ dX3_carryOut_117
  · skip
    obtain ⟨L, m, n, rfl, rfl, rfl, hL, hm1, hm9, hn9, hN⟩ := ob_120 hN12 h0
    refine r_tabIn (pc := 1) (off := 117) (tgt := 118) h (by decide) (by decide) (by decide) (by decide) dX3_carryOut_1 ?_
    refine r_aload_n (pc := 118) h 0 rfl rfl dX3_carryOut_118 ?_
    refine g_3_lists (pc := 119) hb h mw_2_15 dX3_carryOut_119 ?_
    refine r_iload_n (pc := 122) h 2 rfl rfl dX3_carryOut_122 ?_
    refine r_iload_n (pc := 123) h 3 rfl rfl dX3_carryOut_123 ?_
    refine r_iload (pc := 124) h 4 rfl dX3_carryOut_124 ?_
    refine r_cVi (pc := 126) (As := [.int (nI L), .int (nI m), .int (nI n)]) (st := []) h lk_RX3_72 (c_addScaled x.2.1 G σ b hb A.1 (by omega) w (nI A.2.1) A.2.2.1 li pa fr L (by omega) (hr.2.2.2.1 L hL).2.1 m n (by omega) (by omega)) (rc_1 hb) (by decide) rfl rfl (by first | decide | exact Nat.le_of_ble_eq_true rfl) (by decide) dX3_carryOut_126 (fun r6 s7 q8 => ?_)
    obtain ⟨wz5, ewz5, ewz5s, hwz5⟩ := q8
    subst ewz5
    subst ewz5s
    exact hret _ _ (⟨rfl, _, _, _, _, _, _, _, rfl, by show RelC (mkA A (1, toN (nI L), toN (nI m), toN (nI n))) _ _ _ _ _ _ _; rw [toN_nI (show L < 2 ^ 31 by omega), toN_nI (show m < 2 ^ 31 by omega), toN_nI (show n < 2 ^ 31 by omega)]; exact relC_make hr (1, L, m, n) hN (show L < A.1 ∧ 1 ≤ m ∧ m ≤ 9 ∧ n ≤ 99 from ⟨hL, hm1, hm9, hn9⟩) hwz5⟩) 129 _ dX3_carryOut_129
  · skip
    obtain ⟨L, M, rfl, rfl, hL, hM, hN⟩ := ob_LL hN12 h0
    refine r_tabIn (pc := 1) (off := 129) (tgt := 130) h (by decide) (by decide) (by decide) (by decide) dX3_carryOut_1 ?_
    refine r_aload_n (pc := 130) h 0 rfl rfl dX3_carryOut_130 ?_
    refine g_3_lists (pc := 131) hb h mw_2_15 dX3_carryOut_131 ?_
    refine r_iload_n (pc := 134) h 2 rfl rfl dX3_carryOut_134 ?_
    refine r_iload_n (pc := 135) h 3 rfl rfl dX3_carryOut_135 ?_
    refine r_cVi (pc := 136) (As := [.int (nI L), .int (nI M)]) (st := []) h lk_RX3_76 (c_addJoined x.2.1 G σ b hb A.1 (by omega) w (nI A.2.1) A.2.2.1 li pa fr L M (by omega) (by omega) (hr.2.2.2.1 L hL).2.1 (hr.2.2.2.1 M hM).2.1) (rc_1 hb) (by decide) rfl rfl (by first | decide | exact Nat.le_of_ble_eq_true rfl) (by decide) dX3_carryOut_136 (fun r10 s11 q12 => ?_)
    obtain ⟨wz9, ewz9, ewz9s, hwz9⟩ := q12
    subst ewz9
    subst ewz9s
    exact hret _ _ (⟨rfl, _, _, _, _, _, _, _, rfl, by show RelC (mkA A (2, toN (nI L), toN (nI M), 0)) _ _ _ _ _ _ _; rw [toN_nI (show L < 2 ^ 31 by omega), toN_nI (show M < 2 ^ 31 by omega)]; exact relC_make hr (2, L, M, 0) hN (show L < A.1 ∧ M < A.1 from ⟨hL, hM⟩) hwz9⟩) 139 _ dX3_carryOut_139
  · skip
    obtain ⟨L, M, rfl, rfl, hL, hM, hN⟩ := ob_LL hN12 h0
    refine r_tabIn (pc := 1) (off := 139) (tgt := 140) h (by decide) (by decide) (by decide) (by decide) dX3_carryOut_1 ?_
    refine r_aload_n (pc := 140) h 0 rfl rfl dX3_carryOut_140 ?_
    refine g_3_lists (pc := 141) hb h mw_2_15 dX3_carryOut_141 ?_
    refine r_iload_n (pc := 144) h 2 rfl rfl dX3_carryOut_144 ?_
    refine r_iload_n (pc := 145) h 3 rfl rfl dX3_carryOut_145 ?_
    refine r_cVi (pc := 146) (As := [.int (nI L), .int (nI M)]) (st := []) h lk_RX3_79 (c_addShared x.2.1 G σ b hb A.1 (by omega) w (nI A.2.1) A.2.2.1 li pa fr L M (by omega) (by omega) (hr.2.2.2.1 L hL).2.1 (hr.2.2.2.1 M hM).2.1) (rc_1 hb) (by decide) rfl rfl (by first | decide | exact Nat.le_of_ble_eq_true rfl) (by decide) dX3_carryOut_146 (fun r14 s15 q16 => ?_)
    obtain ⟨wz13, ewz13, ewz13s, hwz13⟩ := q16
    subst ewz13
    subst ewz13s
    exact hret _ _ (⟨rfl, _, _, _, _, _, _, _, rfl, by show RelC (mkA A (3, toN (nI L), toN (nI M), 0)) _ _ _ _ _ _ _; rw [toN_nI (show L < 2 ^ 31 by omega), toN_nI (show M < 2 ^ 31 by omega)]; exact relC_make hr (3, L, M, 0) hN (show L < A.1 ∧ M < A.1 from ⟨hL, hM⟩) hwz13⟩) 149 _ dX3_carryOut_149
  · skip
    obtain ⟨L, M, rfl, rfl, hL, hM, hN⟩ := ob_LL hN12 h0
    refine r_tabIn (pc := 1) (off := 149) (tgt := 150) h (by decide) (by decide) (by decide) (by decide) dX3_carryOut_1 ?_
    refine r_aload_n (pc := 150) h 0 rfl rfl dX3_carryOut_150 ?_
    refine g_3_lists (pc := 151) hb h mw_2_15 dX3_carryOut_151 ?_
    refine r_iload_n (pc := 154) h 2 rfl rfl dX3_carryOut_154 ?_
    refine r_iload_n (pc := 155) h 3 rfl rfl dX3_carryOut_155 ?_
    refine r_cVi (pc := 156) (As := [.int (nI L), .int (nI M)]) (st := []) h lk_RX3_82 (c_addWithout x.2.1 G σ b hb A.1 (by omega) w (nI A.2.1) A.2.2.1 li pa fr L M (by omega) (by omega) (hr.2.2.2.1 L hL).2.1 (hr.2.2.2.1 M hM).2.1) (rc_1 hb) (by decide) rfl rfl (by first | decide | exact Nat.le_of_ble_eq_true rfl) (by decide) dX3_carryOut_156 (fun r18 s19 q20 => ?_)
    obtain ⟨wz17, ewz17, ewz17s, hwz17⟩ := q20
    subst ewz17
    subst ewz17s
    exact hret _ _ (⟨rfl, _, _, _, _, _, _, _, rfl, by show RelC (mkA A (4, toN (nI L), toN (nI M), 0)) _ _ _ _ _ _ _; rw [toN_nI (show L < 2 ^ 31 by omega), toN_nI (show M < 2 ^ 31 by omega)]; exact relC_make hr (4, L, M, 0) hN (show L < A.1 ∧ M < A.1 from ⟨hL, hM⟩) hwz17⟩) 159 _ dX3_carryOut_159
  · skip
    obtain ⟨L, rfl, hL, hN⟩ := ob_L hN12 h0
    refine r_tabIn (pc := 1) (off := 159) (tgt := 160) h (by decide) (by decide) (by decide) (by decide) dX3_carryOut_1 ?_
    refine r_aload_n (pc := 160) h 0 rfl rfl dX3_carryOut_160 ?_
    refine g_3_lists (pc := 161) hb h mw_2_15 dX3_carryOut_161 ?_
    refine r_iload_n (pc := 164) h 2 rfl rfl dX3_carryOut_164 ?_
    refine r_cVi (pc := 165) (As := [.int (nI L)]) (st := []) h lk_RX3_85 (c_addSieved x.2.1 G σ b hb A.1 (by omega) w (nI A.2.1) A.2.2.1 li pa fr L (by omega) (hr.2.2.2.1 L hL).2.1) (rc_1 hb) (by decide) rfl rfl (by first | decide | exact Nat.le_of_ble_eq_true rfl) (by decide) dX3_carryOut_165 (fun r22 s23 q24 => ?_)
    obtain ⟨wz21, ewz21, ewz21s, hwz21⟩ := q24
    subst ewz21
    subst ewz21s
    exact hret _ _ (⟨rfl, _, _, _, _, _, _, _, rfl, by show RelC (mkA A (5, toN (nI L), 0, 0)) _ _ _ _ _ _ _; rw [toN_nI (show L < 2 ^ 31 by omega)]; exact relC_make hr (5, L, 0, 0) hN (show L < A.1 from hL) hwz21⟩) 168 _ dX3_carryOut_168
  · skip
    obtain ⟨L, rfl, hL, hN⟩ := ob_L hN12 h0
    refine r_tabIn (pc := 1) (off := 178) (tgt := 179) h (by decide) (by decide) (by decide) (by decide) dX3_carryOut_1 ?_
    refine r_aload_n (pc := 179) h 0 rfl rfl dX3_carryOut_179 ?_
    refine g_3_lists (pc := 180) hb h mw_2_15 dX3_carryOut_180 ?_
    refine r_iload_n (pc := 183) h 2 rfl rfl dX3_carryOut_183 ?_
    refine r_cVi (pc := 184) (As := [.int (nI L)]) (st := []) h lk_RX3_91 (c_addAddedUp x.2.1 G σ b hb A.1 (by omega) w (nI A.2.1) A.2.2.1 li pa fr L (by omega) (hr.2.2.2.1 L hL).2.1) (rc_1 hb) (by decide) rfl rfl (by first | decide | exact Nat.le_of_ble_eq_true rfl) (by decide) dX3_carryOut_184 (fun r26 s27 q28 => ?_)
    obtain ⟨wz25, ewz25, ewz25s, hwz25⟩ := q28
    subst ewz25
    subst ewz25s
    exact hret _ _ (⟨rfl, _, _, _, _, _, _, _, rfl, by show RelC (mkA A (7, toN (nI L), 0, 0)) _ _ _ _ _ _ _; rw [toN_nI (show L < 2 ^ 31 by omega)]; exact relC_make hr (7, L, 0, 0) hN (show L < A.1 from hL) hwz25⟩) 187 _ dX3_carryOut_187
  · skip
    obtain ⟨L, m, rfl, rfl, hL, hm1, hm9, hN⟩ := ob_101 hN12 h0
    refine r_tabIn (pc := 1) (off := 168) (tgt := 169) h (by decide) (by decide) (by decide) (by decide) dX3_carryOut_1 ?_
    refine r_aload_n (pc := 169) h 0 rfl rfl dX3_carryOut_169 ?_
    refine g_3_lists (pc := 170) hb h mw_2_15 dX3_carryOut_170 ?_
    refine r_iload_n (pc := 173) h 2 rfl rfl dX3_carryOut_173 ?_
    refine r_iload_n (pc := 174) h 3 rfl rfl dX3_carryOut_174 ?_
    refine r_cVi (pc := 175) (As := [.int (nI L), .int (nI m)]) (st := []) h lk_RX3_88 (c_addThinned x.2.1 G σ b hb A.1 (by omega) w (nI A.2.1) A.2.2.1 li pa fr L (by omega) (hr.2.2.2.1 L hL).2.1 m (by omega) (by omega)) (rc_1 hb) (by decide) rfl rfl (by first | decide | exact Nat.le_of_ble_eq_true rfl) (by decide) dX3_carryOut_175 (fun r30 s31 q32 => ?_)
    obtain ⟨wz29, ewz29, ewz29s, hwz29⟩ := q32
    subst ewz29
    subst ewz29s
    exact hret _ _ (⟨rfl, _, _, _, _, _, _, _, rfl, by show RelC (mkA A (6, toN (nI L), toN (nI m), 0)) _ _ _ _ _ _ _; rw [toN_nI (show L < 2 ^ 31 by omega), toN_nI (show m < 2 ^ 31 by omega)]; exact relC_make hr (6, L, m, 0) hN (show L < A.1 ∧ 1 ≤ m ∧ m ≤ 9 from ⟨hL, hm1, hm9⟩) hwz29⟩) 178 _ dX3_carryOut_178
  · skip
    obtain ⟨hN1, hn0⟩ := ob_100 h0
    refine r_tabIn (pc := 1) (off := 187) (tgt := 188) h (by decide) (by decide) (by decide) (by decide) dX3_carryOut_1 ?_
    refine r_aload_n (pc := 188) h 0 rfl rfl dX3_carryOut_188 ?_
    refine g_3_lists (pc := 189) hb h mw_2_15 dX3_carryOut_189 ?_
    refine r_dup (pc := 192) h rfl dX3_carryOut_192 ?_
    refine g_1_count (pc := 193) hb h mw_6_23 dX3_carryOut_193 ?_
    refine r_topi (b := nI A.1) (sB_c _ _ _ _ _ _ _ _ _) ?_
    refine r_iconst (pc := 196) (v := nI 1) h (by decide) dX3_carryOut_196 ?_
    refine r_isub (pc := 197) (v := nI (A.1 - 1)) h (pk_sub (by omega)) dX3_carryOut_197 ?_
    refine p_1_count (pc := 198) hb h mw_6_23 dX3_carryOut_198 ?_
    refine V.sg (sB_sc _ _ _ _ _ _ _ _ _ _) ?_
    refine r_aload_n (pc := 201) h 0 rfl rfl dX3_carryOut_201 ?_
    refine g_3_lists (pc := 202) hb h mw_2_15 dX3_carryOut_202 ?_
    refine g_1_count (pc := 205) hb h mw_6_23 dX3_carryOut_205 ?_
    refine r_topi (b := nI (A.1 - 1)) (sB_c _ _ _ _ _ _ _ _ _) ?_
    exact hret _ _ (⟨rfl, _, _, _, _, _, _, _, rfl, relC_drop hr hn0⟩) 208 _ dX3_carryOut_208
  · skip
    obtain ⟨L, rfl, hL, hR⟩ := ob_114 hN12 h0
    refine r_tabIn (pc := 1) (off := 208) (tgt := 209) h (by decide) (by decide) (by decide) (by decide) dX3_carryOut_1 ?_
    refine r_aload_n (pc := 209) h 0 rfl rfl dX3_carryOut_209 ?_
    refine g_3_readers (pc := 210) hb h mw_2_19 dX3_carryOut_210 ?_
    refine r_iload_n (pc := 213) h 2 rfl rfl dX3_carryOut_213 ?_
    refine r_cVi (pc := 214) (As := [.int (nI L)]) (st := []) h lk_RX3_94 (c_addR x.2.1 G σ b hb (nI A.1) w A.2.1 (by omega) A.2.2.1 li pa fr (nI L)) (rc_2 hb) (by decide) rfl rfl (by first | decide | exact Nat.le_of_ble_eq_true rfl) (by decide) dX3_carryOut_214 (fun r33 s34 q35 => ?_)
    obtain ⟨e1, e2⟩ := q35
    subst e1
    subst e2
    exact hret _ _ (⟨rfl, _, _, _, _, _, _, _, rfl, by show RelC (A.1, A.2.1 + 1, A.2.2.1, aU A, va_up (aL A) A.2.1 (toN (nI L)), va_up (aP A) A.2.1 0) _ _ _ _ _ _ _; rw [toN_nI (show L < 2 ^ 31 by omega)]; exact relC_begin hr hR hL⟩) 217 _ dX3_carryOut_217
  · skip
    obtain ⟨i, v, rfl, hi, hv⟩ := ob_110 hR4 h0
    refine r_tabIn (pc := 1) (off := 217) (tgt := 218) h (by decide) (by decide) (by decide) (by decide) dX3_carryOut_1 ?_
    refine r_aload_n (pc := 218) h 0 rfl rfl dX3_carryOut_218 ?_
    refine r_iload_n (pc := 219) h 2 rfl rfl dX3_carryOut_219 ?_
    refine r_cVi (pc := 220) (As := [.int (nI i)]) (st := []) h lk_RX3_97 (c_readOne x.2.1 G σ b hb A w li pa fr hr i v hi hv) (rc_3 hb) (by decide) rfl rfl (by first | decide | exact Nat.le_of_ble_eq_true rfl) (by decide) dX3_carryOut_220 (fun r36 s37 q38 => ?_)
    obtain ⟨e1, e2⟩ := q38
    subst e1
    exact hret _ _ (⟨by show _ = oI (nextO A (toN (nI i))); rw [toN_nI (show i < 2 ^ 31 by omega)], by show Up (A.1, A.2.1, A.2.2.1 + 1, aU A, aL A, va_up (aP A) (toN (nI i)) (aP A (toN (nI i)) + 1)) _ _ _; rw [toN_nI (show i < 2 ^ 31 by omega)]; exact e2⟩) 223 _ dX3_carryOut_223
  · skip
    obtain ⟨i, n, rfl, rfl, hi, hn1, hn9⟩ := ob_107 hR4 h0
    refine r_tabIn (pc := 1) (off := 223) (tgt := 224) h (by decide) (by decide) (by decide) (by decide) dX3_carryOut_1 ?_
    refine r_aload_n (pc := 224) h 0 rfl rfl dX3_carryOut_224 ?_
    refine r_iload_n (pc := 225) h 2 rfl rfl dX3_carryOut_225 ?_
    refine r_iload_n (pc := 226) h 3 rfl rfl dX3_carryOut_226 ?_
    refine r_cVi (pc := 227) (As := [.int (nI i), .int (nI n)]) (st := []) h lk_RX3_100 (c_skipSome x.2.1 G σ b hb A w li pa fr hr i n hi (by omega)) (rc_3 hb) (by decide) rfl rfl (by first | decide | exact Nat.le_of_ble_eq_true rfl) (by decide) dX3_carryOut_227 (fun r39 s40 q41 => ?_)
    obtain ⟨e1, e2⟩ := q41
    subst e1
    exact hret _ _ (⟨by show _ = nI (skN A (toN (nI i)) (toN (nI n))); rw [toN_nI (show i < 2 ^ 31 by omega), toN_nI (show n < 2 ^ 31 by omega)], by show Up (A.1, A.2.1, A.2.2.1, aU A, aL A, va_up (aP A) (toN (nI i)) (aP A (toN (nI i)) + skN A (toN (nI i)) (toN (nI n)))) _ _ _; rw [toN_nI (show i < 2 ^ 31 by omega), toN_nI (show n < 2 ^ 31 by omega)]; exact e2⟩) 230 _ dX3_carryOut_230
  · skip
    obtain ⟨i, rfl, hi⟩ := ob_R hR4 h0
    refine r_tabIn (pc := 1) (off := 230) (tgt := 231) h (by decide) (by decide) (by decide) (by decide) dX3_carryOut_1 ?_
    refine r_aload_n (pc := 231) h 0 rfl rfl dX3_carryOut_231 ?_
    refine g_3_readers (pc := 232) hb h mw_2_19 dX3_carryOut_232 ?_
    refine r_iload_n (pc := 235) h 2 rfl rfl dX3_carryOut_235 ?_
    refine r_cVi (pc := 236) (As := [.int (nI i)]) (st := []) h lk_RX3_103 (c_sendBack x.2.1 G σ b hb (nI A.1) w (nI A.2.1) A.2.2.1 li pa fr i (by omega)) (rc_2 hb) (by decide) rfl rfl (by first | decide | exact Nat.le_of_ble_eq_true rfl) (by decide) dX3_carryOut_236 (fun r42 s43 q44 => ?_)
    obtain ⟨e1, e2⟩ := q44
    subst e1
    subst e2
    exact hret _ _ (⟨by show _ = nI (aP A (toN (nI i))); rw [toN_nI (show i < 2 ^ 31 by omega)]; exact (hr.2.2.2.2 i hi).2.2.1, _, _, _, _, _, _, _, rfl, by show RelC (A.1, A.2.1, A.2.2.1, aU A, aL A, va_up (aP A) (toN (nI i)) 0) _ _ _ _ _ _ _; rw [toN_nI (show i < 2 ^ 31 by omega)]; exact relC_read hr hi pk_us pk_us (by omega) rfl (fun j hj => pk_un hj) (fun j hj => pk_un hj)⟩) 239 _ dX3_carryOut_239
  · skip
    obtain ⟨i, rfl, hi⟩ := ob_R hR4 h0
    refine r_tabIn (pc := 1) (off := 239) (tgt := 240) h (by decide) (by decide) (by decide) (by decide) dX3_carryOut_1 ?_
    refine r_aload_n (pc := 240) h 0 rfl rfl dX3_carryOut_240 ?_
    refine g_3_readers (pc := 241) hb h mw_2_19 dX3_carryOut_241 ?_
    refine r_iload_n (pc := 244) h 2 rfl rfl dX3_carryOut_244 ?_
    refine r_cVi (pc := 245) (As := [.int (nI i)]) (st := []) h lk_RX3_106 (c_remove x.2.1 G σ b hb (nI A.1) w A.2.1 (by omega) A.2.2.1 li pa fr i (by omega)) (rc_2 hb) (by decide) rfl rfl (by first | decide | exact Nat.le_of_ble_eq_true rfl) (by decide) dX3_carryOut_245 (fun r45 s46 q47 => ?_)
    obtain ⟨e1, l1, p1, f1, e2, k1, k2, k3⟩ := q47
    subst e1
    subst e2
    exact hret _ _ (⟨rfl, _, _, _, _, _, _, _, rfl, by show RelC (A.1, A.2.1 - 1, A.2.2.1, aU A, (fun j => if toN (nI i) ≤ j then aL A (j + 1) else aL A j), (fun j => if toN (nI i) ≤ j then aP A (j + 1) else aP A j)) _ _ _ _ _ _ _; rw [toN_nI (show i < 2 ^ 31 by omega)]; exact relC_stop hr hi k1 k2 k3⟩) 248 _ dX3_carryOut_248

theorem c_carryOut (l : Launch) (G : Gl) (σ : Sg) (b : Nat) (hb : Blk b) (A : Ab) (hr : RelB A σ b) (K : Nat) (hK : K = 115 ∨ K = 120 ∨ K = 106 ∨ K = 104 ∨ K = 119 ∨ K = 118 ∨ K = 117 ∨ K = 101 ∨ K = 100 ∨ K = 114 ∨ K = 110 ∨ K = 107 ∨ K = 122 ∨ K = 113) (u1 u2 u3 : Int32) (h0 : ob A K u1 u2 u3 = 0) : Ci l yX3_carryOut cX3_carryOut 5 .int ({ frames := 4, cells := 0, slots := 0, locals := 95 } : Room) G [.ref (G.2.1 + b), .int (nI K), .int u1, .int u2, .int u3] σ (fun r σ2 => r = (co A K u1 u2 u3).1 ∧ Up (co A K u1 u2 u3).2 σ b σ2) := by
  have h := c_carryOutC l G σ b hb A (σ.2 (b + 2)) (σ.1 (b + 4)) (σ.1 (b + 5)) (σ.1 (b + 6)) hr.norm K hK u1 u2 u3 h0
  rw [← sB_rel hr] at h
  exact h

set_option maxRecDepth 100000 in
set_option maxHeartbeats 800000 in
theorem c_attempt (l : Launch) (G : Gl) (σ : Sg) (b : Nat) (hb : Blk b) (A : Ab) (hr : RelB A σ b) (K : Nat) (hK : K = 115 ∨ K = 120 ∨ K = 106 ∨ K = 104 ∨ K = 119 ∨ K = 118 ∨ K = 117 ∨ K = 101 ∨ K = 100 ∨ K = 114 ∨ K = 110 ∨ K = 107 ∨ K = 122 ∨ K = 113) (u1 u2 u3 : Int32) : Ci l yX3_attempt cX3_attempt 5 .int ({ frames := 5, cells := 0, slots := 0, locals := 119 } : Room) G [.ref (G.2.1 + b), .int (nI K), .int u1, .int u2, .int u3] σ (fun r σ2 => r = (att A K u1 u2 u3).1 ∧ Up (att A K u1 u2 u3).2 σ b σ2) := by
  refine Ci_of (own := RX3) rfl (by decide +kernel) (lo := [(0, .ref (G.2.1 + b)), (1, .int (nI K)), (2, .int u1), (3, .int u2), (4, .int u3)]) rfl (Nat.le_of_ble_eq_true rfl) (fun r s hp => by obtain ⟨rfl, _⟩ := hp; rfl) ?_
  intro x Q hxl h hret
  subst hxl
  have hN12 := hr.1.1
  have hR4 := hr.2.1.1
  have hwy := whyN_le A
  have hob := ob_le A K u1 u2 u3
  refine r_aload_n (pc := 0) h 0 rfl rfl dX3_attempt_0 ?_
  refine r_iload_n (pc := 1) h 1 rfl rfl dX3_attempt_1 ?_
  refine r_iload_n (pc := 2) h 2 rfl rfl dX3_attempt_2 ?_
  refine r_iload_n (pc := 3) h 3 rfl rfl dX3_attempt_3 ?_
  refine r_iload (pc := 4) h 4 rfl dX3_attempt_4 ?_
  refine r_cVi (pc := 6) (As := [.int (nI K), .int u1, .int u2, .int u3]) (st := []) h lk_RX3_109 (c_objection x.2.1 G σ b hb A hr K hK u1 u2 u3) (rc_3 hb) (by decide) rfl rfl (by first | decide | exact Nat.le_of_ble_eq_true rfl) (by decide) dX3_attempt_6 (fun r1 s2 q3 => ?_)
  rw [q3.1, q3.2]
  refine r_if_ne (pc := 9) (tgt := 24) h (by decide) dX3_attempt_9 (fun c9 => ?_) (fun c9 => ?_)
  · skip
    rw [zI0, nI_eq (by omega) (by omega)] at c9
    refine r_iconst (pc := 24) (v := (-1)) h (by decide) dX3_attempt_24 ?_
    exact hret _ _ (⟨by unfold att; rw [if_neg c9], by unfold att; rw [if_neg c9]; exact Up.rf hr⟩) 25 _ dX3_attempt_25
  · skip
    rw [zI0, nI_eq (by omega) (by omega)] at c9
    refine r_aload_n (pc := 12) h 0 rfl rfl dX3_attempt_12 ?_
    refine r_iload_n (pc := 13) h 1 rfl rfl dX3_attempt_13 ?_
    refine r_iload_n (pc := 14) h 2 rfl rfl dX3_attempt_14 ?_
    refine r_iload_n (pc := 15) h 3 rfl rfl dX3_attempt_15 ?_
    refine r_iload (pc := 16) h 4 rfl dX3_attempt_16 ?_
    refine r_cVi (pc := 18) (As := [.int (nI K), .int u1, .int u2, .int u3]) (st := []) h lk_RX3_113 (c_carryOut x.2.1 G σ b hb A hr K hK u1 u2 u3 c9) (rc_3 hb) (by decide) rfl rfl (by first | decide | exact Nat.le_of_ble_eq_true rfl) (by decide) dX3_attempt_18 (fun r4 s5 q6 => ?_)
    obtain ⟨e1, e2⟩ := q6
    subst e1
    refine r_goto (pc := 21) (tgt := 25) h (by decide) dX3_attempt_21 ?_
    exact hret _ _ (⟨by unfold att; rw [if_pos c9], by unfold att; rw [if_pos c9]; exact e2⟩) 25 _ dX3_attempt_25

