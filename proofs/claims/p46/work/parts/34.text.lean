/-! HISTORY -/
theorem his_back {n o : Nat} {H : Nat → Ab} {A : Ab} {σ σ2 : Sg} (hn : 1 ≤ n) (hn14 : n ≤ 14) (ho : o < 14) (h3 : σ.1 11 1 = nI o) (h4 : ∀ k, k < n → RelB (H k) σ (13 + 7 * ((o + k) % 14))) (h : Up A (sI σ 11 2 (nI (n - 1))) 4 σ2) : HisC (n - 1) H σ2 := by
  have e := h.out
  refine ⟨⟨by omega, by rw [e.i 11 2 (by omega)]; exact sI_s _ _ _ _⟩, o, ho, by rw [e.i 11 1 (by omega), sI_n _ _ _ _ (by decide)]; exact h3, fun k hk => ?_⟩
  exact ((h4 k (by omega)).o (out_sI σ 11 2 _) (by omega)).o e (by omega)
theorem pushN_1 {n : Nat} (h : n < 14) : pushN n = n + 1 := if_pos h
theorem pushH_1 {n : Nat} {H : Nat → Ab} {A : Ab} (h : n < 14) : pushH n H A = va_up H n A := if_pos h
theorem pushN_2 : pushN 14 = 14 := rfl
theorem pushH_2 {H : Nat → Ab} {A : Ab} : pushH 14 H A = va_up (fun k => H (k + 1)) 13 A := rfl
set_option maxRecDepth 100000 in
set_option maxHeartbeats 800000 in
theorem c_forget (l : Launch) (G : Gl) (σ : Sg) : Cv l yX0_forget cX0_forget 1 ({ frames := 0, cells := 0, slots := 0, locals := 0 } : Room) G [.ref (G.2.1 + 11)] σ (fun σ2 => σ2 = sI σ 11 2 (nI 0)) := by
  refine Cv_of (own := RX0) rfl (by decide +kernel) (lo := [(0, .ref (G.2.1 + 11))]) rfl (Nat.le_of_ble_eq_true rfl) ?_
  intro x Q hxl h hret
  subst hxl
  refine r_aload_n (pc := 0) h 0 rfl rfl dX0_forget_0 ?_
  refine r_iconst (pc := 1) (v := nI 0) h (by decide) dX0_forget_1 ?_
  refine p_0_count (pc := 2) h mw_7_6 dX0_forget_2 ?_
  exact hret _ (rfl) 5 _ dX0_forget_5

set_option maxRecDepth 100000 in
set_option maxHeartbeats 800000 in
theorem c_remember (l : Launch) (G : Gl) (σ : Sg) (A : Ab) (hr : RelB A σ 4) (n : Nat) (H : Nat → Ab) (hh : HisC n H σ) : Cv l yX0_remember cX0_remember 2 ({ frames := 3, cells := 0, slots := 0, locals := 102 } : Room) G [.ref (G.2.1 + 11), .ref (G.2.1 + 4)] σ (fun σ2 => HisC (pushN n) (pushH n H A) σ2 ∧ Out 11 111 σ σ2) := by
  refine Cv_of (own := RX0) rfl (by decide +kernel) (lo := [(0, .ref (G.2.1 + 11)), (1, .ref (G.2.1 + 4))]) rfl (Nat.le_of_ble_eq_true rfl) ?_
  intro x Q hxl h hret
  subst hxl
  obtain ⟨⟨hn, hc⟩, o, ho, h3, h4⟩ := hh
  refine r_aload_n (pc := 0) h 0 rfl rfl dX0_remember_0 ?_
  refine g_0_states (pc := 1) h mw_3_12 dX0_remember_1 ?_
  refine r_aload_n (pc := 4) h 0 rfl rfl dX0_remember_4 ?_
  refine g_0_oldest (pc := 5) h mw_14_4 dX0_remember_5 ?_
  refine r_topi (b := nI o) h3 ?_
  refine r_aload_n (pc := 8) h 0 rfl rfl dX0_remember_8 ?_
  refine g_0_count (pc := 9) h mw_7_6 dX0_remember_9 ?_
  refine r_topi (b := nI n) hc ?_
  refine r_iadd (pc := 12) (v := nI (o + n)) h (nI_add _ _) dX0_remember_12 ?_
  refine r_bipush (pc := 13) (v := nI 14) h (by decide) dX0_remember_13 ?_
  refine r_irem (pc := 15) (v := nI ((o + n) % 14)) h (by decide) (pk_rem (by omega) (by omega) (by omega)) dX0_remember_15 ?_
  refine r_aald (pc := 16) h a_hs ((o + n) % 14) rfl (by omega) dX0_remember_16 ?_
  refine r_aload_n (pc := 17) h 1 rfl rfl dX0_remember_17 ?_
  refine r_cVv (pc := 18) (As := [.ref (G.2.1 + 4)]) (st := []) h lk_RX0_25 (c_copyS x.2.1 G σ (13 + 7 * ((o + n) % 14)) (blk_h _ (by omega)) 4 blk_4 (by omega) A hr) (rc_3 (blk_h _ (by omega))) (by decide) rfl rfl (by first | decide | exact Nat.le_of_ble_eq_true rfl) (by decide) dX0_remember_18 (fun s2 q3 => ?_)
  have k2 : s2.1 11 2 = nI n := (q3.out.i 11 2 (by omega)).trans hc
  have k1 : s2.1 11 1 = nI o := (q3.out.i 11 1 (by omega)).trans h3
  have k0 := q3
  refine r_aload_n (pc := 21) h 0 rfl rfl dX0_remember_21 ?_
  refine g_0_count (pc := 22) h mw_7_6 dX0_remember_22 ?_
  refine r_topi (b := nI n) k2 ?_
  refine r_bipush (pc := 25) (v := nI 14) h (by decide) dX0_remember_25 ?_
  refine r_icmp_ge (pc := 27) (tgt := 43) h (by decide) dX0_remember_27 (fun c27 => ?_) (fun c27 => ?_)
  · skip
    rw [nI_leI (by omega) (by omega)] at c27
    refine r_aload_n (pc := 43) h 0 rfl rfl dX0_remember_43 ?_
    refine r_aload_n (pc := 44) h 0 rfl rfl dX0_remember_44 ?_
    refine g_0_oldest (pc := 45) h mw_14_4 dX0_remember_45 ?_
    refine r_topi (b := nI o) k1 ?_
    refine r_iconst (pc := 48) (v := nI 1) h (by decide) dX0_remember_48 ?_
    refine r_iadd (pc := 49) (v := nI (o + 1)) h (nI_add _ _) dX0_remember_49 ?_
    refine r_bipush (pc := 50) (v := nI 14) h (by decide) dX0_remember_50 ?_
    refine r_irem (pc := 52) (v := nI ((o + 1) % 14)) h (by decide) (pk_rem (by omega) (by omega) (by omega)) dX0_remember_52 ?_
    refine p_0_oldest (pc := 53) h mw_14_4 dX0_remember_53 ?_
    have en : n = 14 := by omega
    subst en
    exact hret _ (⟨by rw [pushN_2, pushH_2]; exact his_push2 ho hc h4 k0, (k0.out.wd (by omega) (by omega)).tr ((out_sI _ 11 1 _).wd (by omega) (by omega))⟩) 56 _ dX0_remember_56
  · skip
    rw [nI_leI (by omega) (by omega)] at c27
    refine r_aload_n (pc := 30) h 0 rfl rfl dX0_remember_30 ?_
    refine r_dup (pc := 31) h rfl dX0_remember_31 ?_
    refine g_0_count (pc := 32) h mw_7_6 dX0_remember_32 ?_
    refine r_topi (b := nI n) k2 ?_
    refine r_iconst (pc := 35) (v := nI 1) h (by decide) dX0_remember_35 ?_
    refine r_iadd (pc := 36) (v := nI (n + 1)) h (nI_add _ _) dX0_remember_36 ?_
    refine p_0_count (pc := 37) h mw_7_6 dX0_remember_37 ?_
    refine r_goto (pc := 40) (tgt := 56) h (by decide) dX0_remember_40 ?_
    exact hret _ (⟨by rw [pushN_1 (by omega), pushH_1 (by omega)]; exact his_push1 (by omega) ho h3 h4 k0, (k0.out.wd (by omega) (by omega)).tr ((out_sI _ 11 2 _).wd (by omega) (by omega))⟩) 56 _ dX0_remember_56

set_option maxRecDepth 100000 in
set_option maxHeartbeats 800000 in
theorem c_takeBack (l : Launch) (G : Gl) (σ : Sg) (n : Nat) (hn1 : 1 ≤ n) (H : Nat → Ab) (hh : HisC n H σ) : Cv l yX0_takeBack cX0_takeBack 2 ({ frames := 3, cells := 0, slots := 0, locals := 102 } : Room) G [.ref (G.2.1 + 11), .ref (G.2.1 + 4)] σ (fun σ2 => HisC (n - 1) H σ2 ∧ RelB (H (n - 1)) σ2 4 ∧ Out 4 12 σ σ2) := by
  refine Cv_of (own := RX0) rfl (by decide +kernel) (lo := [(0, .ref (G.2.1 + 11)), (1, .ref (G.2.1 + 4))]) rfl (Nat.le_of_ble_eq_true rfl) ?_
  intro x Q hxl h hret
  subst hxl
  obtain ⟨⟨hn, hc⟩, o, ho, h3, h4⟩ := hh
  refine r_aload_n (pc := 0) h 0 rfl rfl dX0_takeBack_0 ?_
  refine r_dup (pc := 1) h rfl dX0_takeBack_1 ?_
  refine g_0_count (pc := 2) h mw_7_6 dX0_takeBack_2 ?_
  refine r_topi (b := nI n) hc ?_
  refine r_iconst (pc := 5) (v := nI 1) h (by decide) dX0_takeBack_5 ?_
  refine r_isub (pc := 6) (v := nI (n - 1)) h (pk_sub (by omega)) dX0_takeBack_6 ?_
  refine p_0_count (pc := 7) h mw_7_6 dX0_takeBack_7 ?_
  refine r_aload_n (pc := 10) h 1 rfl rfl dX0_takeBack_10 ?_
  refine r_aload_n (pc := 11) h 0 rfl rfl dX0_takeBack_11 ?_
  refine g_0_states (pc := 12) h mw_3_12 dX0_takeBack_12 ?_
  refine r_aload_n (pc := 15) h 0 rfl rfl dX0_takeBack_15 ?_
  refine g_0_oldest (pc := 16) h mw_14_4 dX0_takeBack_16 ?_
  refine r_topi (b := nI o) ((sI_n _ _ _ _ (by decide)).trans h3) ?_
  refine r_aload_n (pc := 19) h 0 rfl rfl dX0_takeBack_19 ?_
  refine g_0_count (pc := 20) h mw_7_6 dX0_takeBack_20 ?_
  refine r_topi (b := nI (n - 1)) (sI_s _ _ _ _) ?_
  refine r_iadd (pc := 23) (v := nI (o + (n - 1))) h (nI_add _ _) dX0_takeBack_23 ?_
  refine r_bipush (pc := 24) (v := nI 14) h (by decide) dX0_takeBack_24 ?_
  refine r_irem (pc := 26) (v := nI ((o + (n - 1)) % 14)) h (by decide) (pk_rem (by omega) (by omega) (by omega)) dX0_takeBack_26 ?_
  refine r_aald (pc := 27) h a_hs ((o + (n - 1)) % 14) rfl (by omega) dX0_takeBack_27 ?_
  refine r_cVv (pc := 28) (As := [.ref (G.2.1 + (13 + 7 * ((o + (n - 1)) % 14)))]) (st := []) h lk_RX0_25 (c_copyS x.2.1 G (sI σ 11 2 (nI (n - 1))) 4 blk_4 (13 + 7 * ((o + (n - 1)) % 14)) (blk_h _ (by omega)) (by omega) (H (n - 1)) ((h4 (n - 1) (by omega)).o (out_sI σ 11 2 _) (by omega))) (rc_3 blk_4) (by decide) rfl rfl (by first | decide | exact Nat.le_of_ble_eq_true rfl) (by decide) dX0_takeBack_28 (fun s2 q3 => ?_)
  have k0 := q3
  exact hret _ (⟨his_back hn1 hn ho h3 h4 k0, k0.rel, ((out_sI σ 11 2 _).wd (by omega) (by omega)).tr (k0.out.wd (by omega) (by omega))⟩) 31 _ dX0_takeBack_31

/-! TEXT -/
theorem text_add {n : Nat} {tx : Nat → Nat} {σ : Sg} (ht : TextC n tx σ) (hn : n < 120) {c : Nat} (hc : c < 256) : TextC (n + 1) (va_up tx n c) (sI (sI σ 2 n (nI c)) 1 1 (nI (n + 1))) := by
  refine ⟨⟨hn, sI_s _ _ _ _⟩, fun i hi => ?_⟩
  rw [sI_o _ _ _ _ (by decide)]
  by_cases e : i = n
  · subst e; rw [sI_s, va_s]; exact ⟨rfl, hc⟩
  · rw [sI_n _ _ _ _ e, va_n _ _ e]; exact ht.2 i (by omega)
theorem i2c_n0 : ∀ c, c < 256 → ((nI c).toUInt32 % 65536).toInt32 = nI c := by decide +kernel
theorem nar_c0 : ∀ c, c < 256 → vp_nar .char (nI c) = nI c := by decide +kernel
set_option maxRecDepth 100000 in
set_option maxHeartbeats 800000 in
theorem c_addT (l : Launch) (G : Gl) (σ : Sg) (n : Nat) (tx : Nat → Nat) (ht : TextC n tx σ) (hn : n < 120) (c : Nat) (hc : c < 256) : Ci l yX4_add cX4_add 2 .int ({ frames := 0, cells := 0, slots := 0, locals := 0 } : Room) G [.ref (G.2.1 + 1), .int (nI c)] σ (fun r σ2 => r = nI (n + 1) ∧ TextC (n + 1) (va_up tx n c) σ2 ∧ Out 1 3 σ σ2) := by
  refine Ci_of (own := RX4) rfl (by decide +kernel) (lo := [(0, .ref (G.2.1 + 1)), (1, .int (nI c))]) rfl (Nat.le_of_ble_eq_true rfl) (fun r s hp => by obtain ⟨rfl, _⟩ := hp; rfl) ?_
  intro x Q hxl h hret
  subst hxl
  have hn9 := ht.1.1
  refine r_aload_n (pc := 0) h 0 rfl rfl dX4_add_0 ?_
  refine g_4_signs (pc := 1) h mw_2_6 dX4_add_1 ?_
  refine r_aload_n (pc := 4) h 0 rfl rfl dX4_add_4 ?_
  refine g_4_length (pc := 5) h mw_5_0 dX4_add_5 ?_
  refine r_topi (b := nI n) ht.1.2 ?_
  refine r_iload_n (pc := 8) h 1 rfl rfl dX4_add_8 ?_
  refine r_cast (pc := 9) (w := nI c) h a_sg n rfl (by omega) (nar_c0 c hc) dX4_add_9 ?_
  refine r_aload_n (pc := 10) h 0 rfl rfl dX4_add_10 ?_
  refine r_dup (pc := 11) h rfl dX4_add_11 ?_
  refine g_4_length (pc := 12) h mw_5_0 dX4_add_12 ?_
  refine r_topi (b := nI n) ((congrFun (sI_o _ _ _ _ (by decide)) _).trans ht.1.2) ?_
  refine r_iconst (pc := 15) (v := nI 1) h (by decide) dX4_add_15 ?_
  refine r_iadd (pc := 16) (v := nI (n + 1)) h (nI_add _ _) dX4_add_16 ?_
  refine p_4_length (pc := 17) h mw_5_0 dX4_add_17 ?_
  refine r_aload_n (pc := 20) h 0 rfl rfl dX4_add_20 ?_
  refine g_4_length (pc := 21) h mw_5_0 dX4_add_21 ?_
  refine r_topi (b := nI (n + 1)) (sI_s _ _ _ _) ?_
  exact hret _ _ (⟨rfl, text_add ht hn hc, (((out_sI σ 2 n (nI c)).wd (by omega) (by omega)).tr ((out_sI _ 1 1 _).wd (by omega) (by omega)) : Out 1 3 σ _)⟩) 24 _ dX4_add_24

/-- does the text begin with an L -/
def begB (n : Nat) (tx : Nat → Nat) : Bool := decide (0 < n ∧ tx 0 = 76)
set_option maxRecDepth 100000 in
set_option maxHeartbeats 800000 in
theorem c_begin (l : Launch) (G : Gl) (σ : Sg) (n : Nat) (tx : Nat → Nat) (ht : TextC n tx σ) (a e k : Int32) (nu : Nat → Int32) : Cv l yX4_begin cX4_begin 2 ({ frames := 0, cells := 0, slots := 0, locals := 0 } : Room) G [.ref (G.2.1 + 1)] (tB σ a e k nu) (fun σ2 => σ2 = tB σ (if begB n tx then nI 1 else nI 0) (if begB n tx then -1 else nI 0) k nu) := by
  refine Cv_of (own := RX4) rfl (by decide +kernel) (lo := [(0, .ref (G.2.1 + 1))]) rfl (Nat.le_of_ble_eq_true rfl) ?_
  intro x Q hxl h hret
  subst hxl
  have hn9 := ht.1.1
  refine r_aload_n (pc := 0) h 0 rfl rfl dX4_begin_0 ?_
  refine g_4_length (pc := 1) h mw_5_0 dX4_begin_1 ?_
  refine r_topi (b := nI n) ((tB_l _ _ _ _ _).trans ht.1.2) ?_
  refine r_if_le (pc := 4) (tgt := 22) h (by decide) dX4_begin_4 (fun c4 => ?_) (fun c4 => ?_)
  · skip
    rw [zI0, nI_leI (by omega) (by omega)] at c4
    refine r_iconst (pc := 22) (v := nI 0) h (by decide) dX4_begin_22 ?_
    refine r_istore_n (pc := 23) (lo2 := [(1, .int (nI 0)), (0, .ref (G.2.1 + 1))]) h rfl (by decide) rfl dX4_begin_23 ?_
    refine r_aload_n (pc := 24) h 1 rfl rfl dX4_begin_24 ?_
    refine r_iload_n (pc := 25) h 0 rfl rfl dX4_begin_25 ?_
    refine r_if_eq (pc := 26) (tgt := 33) h (by decide) dX4_begin_26 (fun _ => ?_) (fun c26 => absurd c26 (by decide))
    refine r_iconst (pc := 33) (v := nI 0) h (by decide) dX4_begin_33 ?_
    refine p_4_at (pc := 34) h mw_5_17 dX4_begin_34 ?_
    refine V.sg (tB_sa _ _ _ _ _ _) ?_
    refine r_aload_n (pc := 37) h 1 rfl rfl dX4_begin_37 ?_
    refine r_iload_n (pc := 38) h 0 rfl rfl dX4_begin_38 ?_
    refine r_if_eq (pc := 39) (tgt := 46) h (by decide) dX4_begin_39 (fun _ => ?_) (fun c39 => absurd c39 (by decide))
    refine r_iconst (pc := 46) (v := nI 0) h (by decide) dX4_begin_46 ?_
    refine p_4_error (pc := 47) h mw_5_12 dX4_begin_47 ?_
    refine V.sg (tB_se _ _ _ _ _ _) ?_
    exact hret _ (by rw [show begB n tx = false from decide_eq_false (by omega)]; rfl) 50 _ dX4_begin_50
  · skip
    rw [zI0, nI_leI (by omega) (by omega)] at c4
    refine r_aload_n (pc := 7) h 0 rfl rfl dX4_begin_7 ?_
    refine g_4_signs (pc := 8) h mw_2_6 dX4_begin_8 ?_
    refine r_iconst (pc := 11) (v := nI 0) h (by decide) dX4_begin_11 ?_
    refine r_cald (pc := 12) h a_sg 0 rfl (by omega) dX4_begin_12 ?_
    refine r_topi (b := nI (tx 0)) ((tB_s _ _ _ _ _ _).trans (ht.2 0 (by omega)).1) ?_
    have t12 := (ht.2 0 (by omega)).2
    refine r_bipush (pc := 13) (v := nI 76) h (by decide) dX4_begin_13 ?_
    refine r_icmp_ne (pc := 15) (tgt := 22) h (by decide) dX4_begin_15 (fun c15 => ?_) (fun c15 => ?_)
    · skip
      rw [nI_eq (by omega) (by omega)] at c15
      refine r_iconst (pc := 22) (v := nI 0) h (by decide) dX4_begin_22 ?_
      refine r_istore_n (pc := 23) (lo2 := [(1, .int (nI 0)), (0, .ref (G.2.1 + 1))]) h rfl (by decide) rfl dX4_begin_23 ?_
      refine r_aload_n (pc := 24) h 1 rfl rfl dX4_begin_24 ?_
      refine r_iload_n (pc := 25) h 0 rfl rfl dX4_begin_25 ?_
      refine r_if_eq (pc := 26) (tgt := 33) h (by decide) dX4_begin_26 (fun _ => ?_) (fun c26 => absurd c26 (by decide))
      refine r_iconst (pc := 33) (v := nI 0) h (by decide) dX4_begin_33 ?_
      refine p_4_at (pc := 34) h mw_5_17 dX4_begin_34 ?_
      refine V.sg (tB_sa _ _ _ _ _ _) ?_
      refine r_aload_n (pc := 37) h 1 rfl rfl dX4_begin_37 ?_
      refine r_iload_n (pc := 38) h 0 rfl rfl dX4_begin_38 ?_
      refine r_if_eq (pc := 39) (tgt := 46) h (by decide) dX4_begin_39 (fun _ => ?_) (fun c39 => absurd c39 (by decide))
      refine r_iconst (pc := 46) (v := nI 0) h (by decide) dX4_begin_46 ?_
      refine p_4_error (pc := 47) h mw_5_12 dX4_begin_47 ?_
      refine V.sg (tB_se _ _ _ _ _ _) ?_
      exact hret _ (by rw [show begB n tx = false from decide_eq_false (by omega)]; rfl) 50 _ dX4_begin_50
    · skip
      rw [nI_eq (by omega) (by omega)] at c15
      refine r_iconst (pc := 18) (v := nI 1) h (by decide) dX4_begin_18 ?_
      refine r_goto (pc := 19) (tgt := 23) h (by decide) dX4_begin_19 ?_
      refine r_istore_n (pc := 23) (lo2 := [(1, .int (nI 1)), (0, .ref (G.2.1 + 1))]) h rfl (by decide) rfl dX4_begin_23 ?_
      refine r_aload_n (pc := 24) h 1 rfl rfl dX4_begin_24 ?_
      refine r_iload_n (pc := 25) h 0 rfl rfl dX4_begin_25 ?_
      refine r_if_eq (pc := 26) (tgt := 33) h (by decide) dX4_begin_26 (fun c26 => absurd c26 (by decide)) (fun _ => ?_)
      refine r_iconst (pc := 29) (v := nI 1) h (by decide) dX4_begin_29 ?_
      refine r_goto (pc := 30) (tgt := 34) h (by decide) dX4_begin_30 ?_
      refine p_4_at (pc := 34) h mw_5_17 dX4_begin_34 ?_
      refine V.sg (tB_sa _ _ _ _ _ _) ?_
      refine r_aload_n (pc := 37) h 1 rfl rfl dX4_begin_37 ?_
      refine r_iload_n (pc := 38) h 0 rfl rfl dX4_begin_38 ?_
      refine r_if_eq (pc := 39) (tgt := 46) h (by decide) dX4_begin_39 (fun c39 => absurd c39 (by decide)) (fun _ => ?_)
      refine r_iconst (pc := 42) (v := (-1)) h (by decide) dX4_begin_42 ?_
      refine r_goto (pc := 43) (tgt := 47) h (by decide) dX4_begin_43 ?_
      refine p_4_error (pc := 47) h mw_5_12 dX4_begin_47 ?_
      refine V.sg (tB_se _ _ _ _ _ _) ?_
      exact hret _ (by rw [show begB n tx = true from decide_eq_true ⟨by omega, by omega⟩]; rfl) 50 _ dX4_begin_50

set_option maxRecDepth 100000 in
set_option maxHeartbeats 800000 in
theorem c_hasMore (l : Launch) (G : Gl) (σ : Sg) (n : Nat) (tx : Nat → Nat) (ht : TextC n tx σ) (a : Nat) (ha : a ≤ n) (e : Option Nat) (he : ∀ v, e = some v → v < 2 ^ 31) (k : Int32) (nu : Nat → Int32) : Ci l yX4_hasMore cX4_hasMore 1 .boolean ({ frames := 0, cells := 0, slots := 0, locals := 0 } : Room) G [.ref (G.2.1 + 1)] (tB σ (nI a) (oI e) k nu) (fun r σ2 => r = zB (decide (e = none) && decide (a < n)) ∧ σ2 = tB σ (nI a) (oI e) k nu) := by
  refine Ci_of (own := RX4) rfl (by decide +kernel) (lo := [(0, .ref (G.2.1 + 1))]) rfl (Nat.le_of_ble_eq_true rfl) (fun r s hp => by obtain ⟨rfl, rfl⟩ := hp; exact zB_nar _) ?_
  intro x Q hxl h hret
  subst hxl
  have hn9 := ht.1.1
  refine r_aload_n (pc := 0) h 0 rfl rfl dX4_hasMore_0 ?_
  refine g_4_error (pc := 1) h mw_5_12 dX4_hasMore_1 ?_
  refine r_topi (b := oI e) (tB_e _ _ _ _ _) ?_
  refine r_iconst (pc := 4) (v := (-1)) h (by decide) dX4_hasMore_4 ?_
  refine r_icmp_ne (pc := 5) (tgt := 23) h (by decide) dX4_hasMore_5 (fun c5 => ?_) (fun c5 => ?_)
  · skip
    refine r_iconst (pc := 23) (v := nI 0) h (by decide) dX4_hasMore_23 ?_
    exact hret _ _ (⟨by rw [decide_eq_false (show ¬ e = none from fun q => c5 (by rw [q]; rfl))]; rfl, rfl⟩) 24 _ dX4_hasMore_24
  · skip
    refine r_aload_n (pc := 8) h 0 rfl rfl dX4_hasMore_8 ?_
    refine g_4_at (pc := 9) h mw_5_17 dX4_hasMore_9 ?_
    refine r_topi (b := nI a) (tB_a _ _ _ _ _) ?_
    refine r_aload_n (pc := 12) h 0 rfl rfl dX4_hasMore_12 ?_
    refine g_4_length (pc := 13) h mw_5_0 dX4_hasMore_13 ?_
    refine r_topi (b := nI n) ((tB_l _ _ _ _ _).trans ht.1.2) ?_
    refine r_icmp_ge (pc := 16) (tgt := 23) h (by decide) dX4_hasMore_16 (fun c16 => ?_) (fun c16 => ?_)
    · skip
      rw [nI_leI (by omega) (by omega)] at c16
      refine r_iconst (pc := 23) (v := nI 0) h (by decide) dX4_hasMore_23 ?_
      exact hret _ _ (⟨by rw [decide_eq_false (show ¬ a < n by omega), Bool.and_false]; rfl, rfl⟩) 24 _ dX4_hasMore_24
    · skip
      rw [nI_leI (by omega) (by omega)] at c16
      refine r_iconst (pc := 19) (v := nI 1) h (by decide) dX4_hasMore_19 ?_
      refine r_goto (pc := 20) (tgt := 24) h (by decide) dX4_hasMore_20 ?_
      exact hret _ _ (⟨by rw [show (decide (e = none) && decide (a < n)) = true from by rw [decide_eq_true ((oI_eq he).mp c5), decide_eq_true (show a < n by omega)]; rfl]; rfl, rfl⟩) 24 _ dX4_hasMore_24

set_option maxRecDepth 100000 in
set_option maxHeartbeats 800000 in
theorem c_digitHere (l : Launch) (G : Gl) (σ : Sg) (n : Nat) (tx : Nat → Nat) (ht : TextC n tx σ) (a : Nat) (ha : a ≤ n) (e k : Int32) (nu : Nat → Int32) : Ci l yX4_digitHere cX4_digitHere 1 .int ({ frames := 0, cells := 0, slots := 0, locals := 0 } : Room) G [.ref (G.2.1 + 1)] (tB σ (nI a) e k nu) (fun r σ2 => r = oI (dig tx n a) ∧ σ2 = tB σ (nI a) e k nu) := by
  refine Ci_of (own := RX4) rfl (by decide +kernel) (lo := [(0, .ref (G.2.1 + 1))]) rfl (Nat.le_of_ble_eq_true rfl) (fun r s hp => by obtain ⟨rfl, _⟩ := hp; rfl) ?_
  intro x Q hxl h hret
  subst hxl
  have hn9 := ht.1.1
  refine r_aload_n (pc := 0) h 0 rfl rfl dX4_digitHere_0 ?_
  refine g_4_at (pc := 1) h mw_5_17 dX4_digitHere_1 ?_
  refine r_topi (b := nI a) (tB_a _ _ _ _ _) ?_
  refine r_aload_n (pc := 4) h 0 rfl rfl dX4_digitHere_4 ?_
  refine g_4_length (pc := 5) h mw_5_0 dX4_digitHere_5 ?_
  refine r_topi (b := nI n) ((tB_l _ _ _ _ _).trans ht.1.2) ?_
  refine r_icmp_ge (pc := 8) (tgt := 39) h (by decide) dX4_digitHere_8 (fun c8 => ?_) (fun c8 => ?_)
  · skip
    rw [nI_leI (by omega) (by omega)] at c8
    refine r_iconst (pc := 39) (v := (-1)) h (by decide) dX4_digitHere_39 ?_
    exact hret _ _ (⟨by rw [show dig tx n a = none from if_neg (by omega)]; rfl, rfl⟩) 40 _ dX4_digitHere_40
  · skip
    rw [nI_leI (by omega) (by omega)] at c8
    refine r_aload_n (pc := 11) h 0 rfl rfl dX4_digitHere_11 ?_
    refine g_4_signs (pc := 12) h mw_2_6 dX4_digitHere_12 ?_
    refine r_aload_n (pc := 15) h 0 rfl rfl dX4_digitHere_15 ?_
    refine g_4_at (pc := 16) h mw_5_17 dX4_digitHere_16 ?_
    refine r_topi (b := nI a) (tB_a _ _ _ _ _) ?_
    refine r_cald (pc := 19) h a_sg a rfl (by omega) dX4_digitHere_19 ?_
    refine r_topi (b := nI (tx a)) ((tB_s _ _ _ _ _ _).trans (ht.2 a (by omega)).1) ?_
    have t19 := (ht.2 a (by omega)).2
    refine r_bipush (pc := 20) (v := nI 48) h (by decide) dX4_digitHere_20 ?_
    refine r_icmp_lt (pc := 22) (tgt := 39) h (by decide) dX4_digitHere_22 (fun c22 => ?_) (fun c22 => ?_)
    · skip
      rw [nI_ltI (by omega) (by omega)] at c22
      refine r_iconst (pc := 39) (v := (-1)) h (by decide) dX4_digitHere_39 ?_
      exact hret _ _ (⟨by rw [show dig tx n a = none from if_neg (by omega)]; rfl, rfl⟩) 40 _ dX4_digitHere_40
    · skip
      rw [nI_ltI (by omega) (by omega)] at c22
      refine r_aload_n (pc := 25) h 0 rfl rfl dX4_digitHere_25 ?_
      refine g_4_signs (pc := 26) h mw_2_6 dX4_digitHere_26 ?_
      refine r_aload_n (pc := 29) h 0 rfl rfl dX4_digitHere_29 ?_
      refine g_4_at (pc := 30) h mw_5_17 dX4_digitHere_30 ?_
      refine r_topi (b := nI a) (tB_a _ _ _ _ _) ?_
      refine r_cald (pc := 33) h a_sg a rfl (by omega) dX4_digitHere_33 ?_
      refine r_topi (b := nI (tx a)) ((tB_s _ _ _ _ _ _).trans (ht.2 a (by omega)).1) ?_
      have t33 := (ht.2 a (by omega)).2
      refine r_bipush (pc := 34) (v := nI 57) h (by decide) dX4_digitHere_34 ?_
      refine r_icmp_le (pc := 36) (tgt := 41) h (by decide) dX4_digitHere_36 (fun c36 => ?_) (fun c36 => ?_)
      · skip
        rw [nI_leI (by omega) (by omega)] at c36
        refine r_aload_n (pc := 41) h 0 rfl rfl dX4_digitHere_41 ?_
        refine g_4_signs (pc := 42) h mw_2_6 dX4_digitHere_42 ?_
        refine r_aload_n (pc := 45) h 0 rfl rfl dX4_digitHere_45 ?_
        refine g_4_at (pc := 46) h mw_5_17 dX4_digitHere_46 ?_
        refine r_topi (b := nI a) (tB_a _ _ _ _ _) ?_
        refine r_cald (pc := 49) h a_sg a rfl (by omega) dX4_digitHere_49 ?_
        refine r_topi (b := nI (tx a)) ((tB_s _ _ _ _ _ _).trans (ht.2 a (by omega)).1) ?_
        have t49 := (ht.2 a (by omega)).2
        refine r_bipush (pc := 50) (v := nI 48) h (by decide) dX4_digitHere_50 ?_
        refine r_isub (pc := 52) (v := nI ((tx a) - 48)) h (pk_sub (by omega)) dX4_digitHere_52 ?_
        exact hret _ _ (⟨by rw [show dig tx n a = some (tx a - 48) from if_pos (by omega)]; rfl, rfl⟩) 53 _ dX4_digitHere_53
      · skip
        rw [nI_leI (by omega) (by omega)] at c36
        refine r_iconst (pc := 39) (v := (-1)) h (by decide) dX4_digitHere_39 ?_
        exact hret _ _ (⟨by rw [show dig tx n a = none from if_neg (by omega)]; rfl, rfl⟩) 40 _ dX4_digitHere_40

