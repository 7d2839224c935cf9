/-! READERS -/
theorem sB_off1 {σ : Sg} {b : Nat} {c : Int32} {w : Nat → Int64} {k d : Int32} {l p f : Nat → Int32} {q : Nat} (hq : q < b ∨ b + 7 ≤ q) (j : Nat) : (sB σ b c w k d l p f).1 q j = σ.1 q j := by rw [(sB_off σ b c w k d l p f q hq).1]
theorem sB_off2 {σ : Sg} {b : Nat} {c : Int32} {w : Nat → Int64} {k d : Int32} {l p f : Nat → Int32} {q : Nat} (hq : q < b ∨ b + 7 ≤ q) (j : Nat) : (sB σ b c w k d l p f).2 q j = σ.2 q j := by rw [(sB_off σ b c w k d l p f q hq).2]
theorem upd_cp {l1 F : Nat → Int32} {i : Nat} (h : ∀ j, j < i → l1 j = F j) : ∀ j, j < i + 1 → upd l1 i (F i) j = F j := fun j hj => by
  unfold upd
  by_cases e : j = i
  · subst e; rw [if_pos rfl]
  · rw [if_neg e]; exact h j (by omega)
/-- what a row is once the place g is taken out, as far as n -/
def rmv (l1 l : Nat → Int32) (g i : Nat) : Prop := ∀ j, l1 j = if g ≤ j ∧ j < i then l (j + 1) else l j
theorem rmv_0 (l : Nat → Int32) (g : Nat) : rmv l l g g := fun j => by rw [if_neg (by omega)]
theorem rmv_s {l1 l : Nat → Int32} {g i : Nat} (h : rmv l1 l g i) (hg : g ≤ i) : rmv (upd l1 i (l1 (i + 1))) l g (i + 1) := fun j => by
  unfold upd
  by_cases e : j = i
  · subst e; rw [if_pos rfl, if_pos (by omega), h (j + 1), if_neg (by omega)]
  · rw [if_neg e, h j]
    by_cases q : g ≤ j ∧ j < i
    · rw [if_pos q, if_pos (by omega)]
    · rw [if_neg q, if_neg (by omega)]
/-- is one of the first n the number q -/
def anyR (l : Nat → Int32) (q : Int32) : Nat → Bool
  | 0 => false
  | n + 1 => anyR l q n || decide (l n = q)
theorem anyR_t {l : Nat → Int32} {q : Int32} : ∀ {n i : Nat}, i < n → l i = q → anyR l q n = true
  | 0, i, h, _ => absurd h (Nat.not_lt_zero i)
  | n + 1, i, h, e => by
    rw [anyR]
    by_cases z : i = n
    · subst z; rw [decide_eq_true e, Bool.or_true]
    · rw [anyR_t (show i < n by omega) e]; rfl
theorem anyR_f {l : Nat → Int32} {q : Int32} {i : Nat} (h : anyR l q i = false) (e : ¬ l i = q) : anyR l q (i + 1) = false := by rw [anyR, h, decide_eq_false e]; rfl
set_option maxRecDepth 100000 in
set_option maxHeartbeats 800000 in
theorem c_isReader (l : Launch) (G : Gl) (σ : Sg) (b : Nat) (hb : Blk b) (u : Int32) : Ci l yX2_isReader cX2_isReader 2 .boolean ({ frames := 0, cells := 0, slots := 0, locals := 0 } : Room) G [.ref (G.2.1 + (b + 3)), .int u] σ (fun r σ2 => r = zB (decide (0 ≤ u ∧ u < σ.1 (b + 3) 3)) ∧ σ2 = σ) := by
  refine Ci_of (own := RX2) rfl (by decide +kernel) (lo := [(0, .ref (G.2.1 + (b + 3))), (1, .int u)]) rfl (Nat.le_of_ble_eq_true rfl) (fun r s hp => by obtain ⟨rfl, rfl⟩ := hp; exact zB_nar _) ?_
  intro x Q hxl h hret
  subst hxl
  refine r_iload_n (pc := 0) h 1 rfl rfl dX2_isReader_0 ?_
  refine r_if_lt (pc := 1) (tgt := 16) h (by decide) dX2_isReader_1 (fun c1 => ?_) (fun c1 => ?_)
  · skip
    refine r_iconst (pc := 16) (v := nI 0) h (by decide) dX2_isReader_16 ?_
    exact hret _ _ (⟨by simp_all [zB, Int32.not_lt, Int32.not_le, ← Int32.not_lt], rfl⟩) 17 _ dX2_isReader_17
  · skip
    refine r_iload_n (pc := 4) h 1 rfl rfl dX2_isReader_4 ?_
    refine r_aload_n (pc := 5) h 0 rfl rfl dX2_isReader_5 ?_
    refine g_2_count (pc := 6) hb h mw_8_20 dX2_isReader_6 ?_
    refine r_icmp_ge (pc := 9) (tgt := 16) h (by decide) dX2_isReader_9 (fun c9 => ?_) (fun c9 => ?_)
    · skip
      refine r_iconst (pc := 16) (v := nI 0) h (by decide) dX2_isReader_16 ?_
      exact hret _ _ (⟨by simp_all [zB, Int32.not_lt, Int32.not_le, ← Int32.not_lt], rfl⟩) 17 _ dX2_isReader_17
    · skip
      refine r_iconst (pc := 12) (v := nI 1) h (by decide) dX2_isReader_12 ?_
      refine r_goto (pc := 13) (tgt := 17) h (by decide) dX2_isReader_13 ?_
      exact hret _ _ (⟨by simp_all [zB, Int32.not_lt, Int32.not_le, ← Int32.not_lt], rfl⟩) 17 _ dX2_isReader_17

set_option maxRecDepth 100000 in
set_option maxHeartbeats 800000 in
theorem c_hasRoomR (l : Launch) (G : Gl) (σ : Sg) (b : Nat) (hb : Blk b) : Ci l yX2_hasRoom cX2_hasRoom 1 .boolean ({ frames := 0, cells := 0, slots := 0, locals := 0 } : Room) G [.ref (G.2.1 + (b + 3))] σ (fun r σ2 => r = zB (decide (σ.1 (b + 3) 3 < nI 4)) ∧ σ2 = σ) := by
  refine Ci_of (own := RX2) rfl (by decide +kernel) (lo := [(0, .ref (G.2.1 + (b + 3)))]) rfl (Nat.le_of_ble_eq_true rfl) (fun r s hp => by obtain ⟨rfl, rfl⟩ := hp; exact zB_nar _) ?_
  intro x Q hxl h hret
  subst hxl
  refine r_aload_n (pc := 0) h 0 rfl rfl dX2_hasRoom_0 ?_
  refine g_2_count (pc := 1) hb h mw_8_20 dX2_hasRoom_1 ?_
  refine r_iconst (pc := 4) (v := nI 4) h (by decide) dX2_hasRoom_4 ?_
  refine r_icmp_ge (pc := 5) (tgt := 12) h (by decide) dX2_hasRoom_5 (fun c5 => ?_) (fun c5 => ?_)
  · skip
    refine r_iconst (pc := 12) (v := nI 0) h (by decide) dX2_hasRoom_12 ?_
    exact hret _ _ (⟨by simp_all [zB, Int32.not_lt, Int32.not_le, ← Int32.not_lt], rfl⟩) 13 _ dX2_hasRoom_13
  · skip
    refine r_iconst (pc := 8) (v := nI 1) h (by decide) dX2_hasRoom_8 ?_
    refine r_goto (pc := 9) (tgt := 13) h (by decide) dX2_hasRoom_9 ?_
    exact hret _ _ (⟨by simp_all [zB, Int32.not_lt, Int32.not_le, ← Int32.not_lt], rfl⟩) 13 _ dX2_hasRoom_13

set_option maxRecDepth 100000 in
set_option maxHeartbeats 800000 in
theorem c_isRead (l : Launch) (G : Gl) (σ : Sg) (b : Nat) (hb : Blk b) (c : Int32) (w : Nat → Int64) (R : Nat) (hR : R ≤ 4) (d : Int32) (li pa fr : Nat → Int32) (u : Int32) : Ci l yX2_isRead cX2_isRead 3 .boolean ({ frames := 0, cells := 0, slots := 0, locals := 0 } : Room) G [.ref (G.2.1 + (b + 3)), .int u] (sB σ b c w (nI R) d li pa fr) (fun r σ2 => r = zB (anyR li u R) ∧ σ2 = sB σ b c w (nI R) d li pa fr) := by
  refine Ci_of (own := RX2) rfl (by decide +kernel) (lo := [(0, .ref (G.2.1 + (b + 3))), (1, .int u)]) rfl (Nat.le_of_ble_eq_true rfl) (fun r s hp => by obtain ⟨rfl, rfl⟩ := hp; exact zB_nar _) ?_
  intro x Q hxl h hret
  subst hxl
  refine r_iconst (pc := 0) (v := nI 0) h (by decide) dX2_isRead_0 ?_
  refine r_istore_n (pc := 1) (lo2 := [(2, .int (nI 0)), (0, .ref (G.2.1 + (b + 3))), (1, .int u)]) h rfl (by decide) rfl dX2_isRead_1 ?_
  have lp2 : ∀ (fu : Nat) (i : Nat), i ≤ R → anyR li u i = false → R - i < fu → V x G 3 0 0 Q (sB σ b c w (nI R) d li pa fr) 2 [(0, .ref (G.2.1 + (b + 3))), (1, .int u), (2, .int (nI i))] [] := by
    intro fu
    induction fu with
    | zero => intro i hi ha hfu; exact absurd hfu (Nat.not_lt_zero _)
    | succ fu ih2 =>
      intro i hi ha hfu
      refine r_iload_n (pc := 2) h 2 rfl rfl dX2_isRead_2 ?_
      refine r_aload_n (pc := 3) h 0 rfl rfl dX2_isRead_3 ?_
      refine g_2_count (pc := 4) hb h mw_8_20 dX2_isRead_4 ?_
      refine r_topi (b := nI R) (sB_k _ _ _ _ _ _ _ _ _) ?_
      refine r_icmp_ge (pc := 7) (tgt := 28) h (by decide) dX2_isRead_7 (fun c7 => ?_) (fun c7 => ?_)
      · skip
        rw [nI_leI (by omega) (by omega)] at c7
        refine r_iconst (pc := 28) (v := nI 0) h (by decide) dX2_isRead_28 ?_
        exact hret _ _ (⟨by rw [show R = i by omega, ha]; rfl, rfl⟩) 29 _ dX2_isRead_29
      · skip
        rw [nI_leI (by omega) (by omega)] at c7
        refine r_aload_n (pc := 10) h 0 rfl rfl dX2_isRead_10 ?_
        refine g_2_list (pc := 11) hb h mw_3_4 dX2_isRead_11 ?_
        refine r_iload_n (pc := 14) h 2 rfl rfl dX2_isRead_14 ?_
        refine r_iald (pc := 15) h (a_li hb) i rfl (by omega) dX2_isRead_15 ?_
        refine r_topi (b := li i) (sB_lj _ _ _ _ _ _ _ _ _ _) ?_
        refine r_iload_n (pc := 16) h 1 rfl rfl dX2_isRead_16 ?_
        refine r_icmp_ne (pc := 17) (tgt := 22) h (by decide) dX2_isRead_17 (fun c17 => ?_) (fun c17 => ?_)
        · skip
          refine r_iinc (pc := 22) (v := nI (i + 1)) (lo2 := [(2, .int (nI (i + 1))), (0, .ref (G.2.1 + (b + 3))), (1, .int u)]) h 2 rfl (iinc1 _) (by decide) rfl dX2_isRead_22 ?_
          refine r_goto (pc := 25) (tgt := 2) h (by decide) dX2_isRead_25 ?_
          refine r_sub (lo2 := [(0, .ref (G.2.1 + (b + 3))), (1, .int u), (2, .int (nI (i + 1)))]) [1, 2, 0] rfl ?_
          exact ih2 (i + 1) (by omega) (anyR_f ha c17) (by omega)
        · skip
          refine r_iconst (pc := 20) (v := nI 1) h (by decide) dX2_isRead_20 ?_
          exact hret _ _ (⟨by rw [anyR_t (show i < R by omega) c17]; rfl, rfl⟩) 21 _ dX2_isRead_21
  refine r_sub (lo2 := [(0, .ref (G.2.1 + (b + 3))), (1, .int u), (2, .int (nI 0))]) [1, 2, 0] rfl ?_
  exact lp2 _ 0 (by omega) rfl (Nat.lt_succ_self _)

set_option maxRecDepth 100000 in
set_option maxHeartbeats 800000 in
theorem c_addR (l : Launch) (G : Gl) (σ : Sg) (b : Nat) (hb : Blk b) (c : Int32) (w : Nat → Int64) (R : Nat) (hR : R < 4) (d : Int32) (li pa fr : Nat → Int32) (u : Int32) : Ci l yX2_add cX2_add 3 .int ({ frames := 0, cells := 0, slots := 0, locals := 0 } : Room) G [.ref (G.2.1 + (b + 3)), .int u] (sB σ b c w (nI R) d li pa fr) (fun r σ2 => r = nI R ∧ σ2 = sB σ b c w (nI (R + 1)) d (upd li R u) (upd pa R (nI 0)) (upd fr R (nI 0))) := by
  refine Ci_of (own := RX2) rfl (by decide +kernel) (lo := [(0, .ref (G.2.1 + (b + 3))), (1, .int u)]) rfl (Nat.le_of_ble_eq_true rfl) (fun r s hp => by obtain ⟨rfl, _⟩ := hp; rfl) ?_
  intro x Q hxl h hret
  subst hxl
  refine r_aload_n (pc := 0) h 0 rfl rfl dX2_add_0 ?_
  refine g_2_count (pc := 1) hb h mw_8_20 dX2_add_1 ?_
  refine r_topi (b := nI R) (sB_k _ _ _ _ _ _ _ _ _) ?_
  refine r_istore_n (pc := 4) (lo2 := [(2, .int (nI R)), (0, .ref (G.2.1 + (b + 3))), (1, .int u)]) h rfl (by decide) rfl dX2_add_4 ?_
  refine r_aload_n (pc := 5) h 1 rfl rfl dX2_add_5 ?_
  refine g_2_list (pc := 6) hb h mw_3_4 dX2_add_6 ?_
  refine r_iload_n (pc := 9) h 0 rfl rfl dX2_add_9 ?_
  refine r_iload_n (pc := 10) h 2 rfl rfl dX2_add_10 ?_
  refine r_iast (pc := 11) (w := u) h (a_li hb) R rfl (by omega) rfl dX2_add_11 ?_
  refine V.sg (sB_sl _ _ _ _ _ _ _ _ _ _ _) ?_
  refine r_aload_n (pc := 12) h 1 rfl rfl dX2_add_12 ?_
  refine g_2_passed (pc := 13) hb h mw_3_5 dX2_add_13 ?_
  refine r_iload_n (pc := 16) h 0 rfl rfl dX2_add_16 ?_
  refine r_iconst (pc := 17) (v := nI 0) h (by decide) dX2_add_17 ?_
  refine r_iast (pc := 18) (w := nI 0) h (a_pa hb) R rfl (by omega) rfl dX2_add_18 ?_
  refine V.sg (sB_sp _ _ _ _ _ _ _ _ _ _ _) ?_
  refine r_aload_n (pc := 19) h 1 rfl rfl dX2_add_19 ?_
  refine g_2_from (pc := 20) hb h mw_3_6 dX2_add_20 ?_
  refine r_iload_n (pc := 23) h 0 rfl rfl dX2_add_23 ?_
  refine r_iconst (pc := 24) (v := nI 0) h (by decide) dX2_add_24 ?_
  refine r_iast (pc := 25) (w := nI 0) h (a_fr hb) R rfl (by omega) rfl dX2_add_25 ?_
  refine V.sg (sB_sf _ _ _ _ _ _ _ _ _ _ _) ?_
  refine r_aload_n (pc := 26) h 1 rfl rfl dX2_add_26 ?_
  refine r_dup (pc := 27) h rfl dX2_add_27 ?_
  refine g_2_count (pc := 28) hb h mw_8_20 dX2_add_28 ?_
  refine r_topi (b := nI R) (sB_k _ _ _ _ _ _ _ _ _) ?_
  refine r_iconst (pc := 31) (v := nI 1) h (by decide) dX2_add_31 ?_
  refine r_iadd (pc := 32) (v := nI (R + 1)) h (nI_add _ _) dX2_add_32 ?_
  refine p_2_count (pc := 33) hb h mw_8_20 dX2_add_33 ?_
  refine V.sg (sB_sk _ _ _ _ _ _ _ _ _ _) ?_
  refine r_iload_n (pc := 36) h 0 rfl rfl dX2_add_36 ?_
  exact hret _ _ (⟨rfl, rfl⟩) 37 _ dX2_add_37

set_option maxRecDepth 100000 in
set_option maxHeartbeats 800000 in
theorem c_pass (l : Launch) (G : Gl) (σ : Sg) (b : Nat) (hb : Blk b) (c : Int32) (w : Nat → Int64) (k d : Int32) (li pa fr : Nat → Int32) (i : Nat) (hi : i < 4) (m : Nat) : Cv l yX2_pass cX2_pass 3 ({ frames := 0, cells := 0, slots := 0, locals := 0 } : Room) G [.ref (G.2.1 + (b + 3)), .int (nI i), .int (nI m)] (sB σ b c w k d li pa fr) (fun σ2 => σ2 = sB σ b c w k d li (upd pa i (pa i + nI 1)) (upd fr i (nI (m + 1)))) := by
  refine Cv_of (own := RX2) rfl (by decide +kernel) (lo := [(0, .ref (G.2.1 + (b + 3))), (1, .int (nI i)), (2, .int (nI m))]) rfl (Nat.le_of_ble_eq_true rfl) ?_
  intro x Q hxl h hret
  subst hxl
  refine r_aload_n (pc := 0) h 0 rfl rfl dX2_pass_0 ?_
  refine g_2_passed (pc := 1) hb h mw_3_5 dX2_pass_1 ?_
  refine r_iload_n (pc := 4) h 1 rfl rfl dX2_pass_4 ?_
  refine r_dup2 (pc := 5) h rfl rfl dX2_pass_5 ?_
  refine r_iald (pc := 6) h (a_pa hb) i rfl (by omega) dX2_pass_6 ?_
  refine r_topi (b := pa i) (sB_pj _ _ _ _ _ _ _ _ _ _) ?_
  refine r_iconst (pc := 7) (v := nI 1) h (by decide) dX2_pass_7 ?_
  refine r_iadd (pc := 8) (v := (pa i) + (nI 1)) h rfl dX2_pass_8 ?_
  refine r_iast (pc := 9) (w := (pa i) + (nI 1)) h (a_pa hb) i rfl (by omega) rfl dX2_pass_9 ?_
  refine V.sg (sB_sp _ _ _ _ _ _ _ _ _ _ _) ?_
  refine r_aload_n (pc := 10) h 0 rfl rfl dX2_pass_10 ?_
  refine g_2_from (pc := 11) hb h mw_3_6 dX2_pass_11 ?_
  refine r_iload_n (pc := 14) h 1 rfl rfl dX2_pass_14 ?_
  refine r_iload_n (pc := 15) h 2 rfl rfl dX2_pass_15 ?_
  refine r_iconst (pc := 16) (v := nI 1) h (by decide) dX2_pass_16 ?_
  refine r_iadd (pc := 17) (v := nI (m + 1)) h (nI_add _ _) dX2_pass_17 ?_
  refine r_iast (pc := 18) (w := nI (m + 1)) h (a_fr hb) i rfl (by omega) rfl dX2_pass_18 ?_
  refine V.sg (sB_sf _ _ _ _ _ _ _ _ _ _ _) ?_
  exact hret _ (rfl) 19 _ dX2_pass_19

set_option maxRecDepth 100000 in
set_option maxHeartbeats 800000 in
theorem c_sendBack (l : Launch) (G : Gl) (σ : Sg) (b : Nat) (hb : Blk b) (c : Int32) (w : Nat → Int64) (k d : Int32) (li pa fr : Nat → Int32) (i : Nat) (hi : i < 4) : Ci l yX2_sendBack cX2_sendBack 3 .int ({ frames := 0, cells := 0, slots := 0, locals := 0 } : Room) G [.ref (G.2.1 + (b + 3)), .int (nI i)] (sB σ b c w k d li pa fr) (fun r σ2 => r = pa i ∧ σ2 = sB σ b c w k d li (upd pa i (nI 0)) (upd fr i (nI 0))) := by
  refine Ci_of (own := RX2) rfl (by decide +kernel) (lo := [(0, .ref (G.2.1 + (b + 3))), (1, .int (nI i))]) rfl (Nat.le_of_ble_eq_true rfl) (fun r s hp => by obtain ⟨rfl, _⟩ := hp; rfl) ?_
  intro x Q hxl h hret
  subst hxl
  refine r_aload_n (pc := 0) h 0 rfl rfl dX2_sendBack_0 ?_
  refine g_2_passed (pc := 1) hb h mw_3_5 dX2_sendBack_1 ?_
  refine r_iload_n (pc := 4) h 1 rfl rfl dX2_sendBack_4 ?_
  refine r_iald (pc := 5) h (a_pa hb) i rfl (by omega) dX2_sendBack_5 ?_
  refine r_topi (b := pa i) (sB_pj _ _ _ _ _ _ _ _ _ _) ?_
  refine r_istore_n (pc := 6) (lo2 := [(2, .int (pa i)), (0, .ref (G.2.1 + (b + 3))), (1, .int (nI i))]) h rfl (by decide) rfl dX2_sendBack_6 ?_
  refine r_aload_n (pc := 7) h 1 rfl rfl dX2_sendBack_7 ?_
  refine g_2_passed (pc := 8) hb h mw_3_5 dX2_sendBack_8 ?_
  refine r_iload_n (pc := 11) h 2 rfl rfl dX2_sendBack_11 ?_
  refine r_iconst (pc := 12) (v := nI 0) h (by decide) dX2_sendBack_12 ?_
  refine r_iast (pc := 13) (w := nI 0) h (a_pa hb) i rfl (by omega) rfl dX2_sendBack_13 ?_
  refine V.sg (sB_sp _ _ _ _ _ _ _ _ _ _ _) ?_
  refine r_aload_n (pc := 14) h 1 rfl rfl dX2_sendBack_14 ?_
  refine g_2_from (pc := 15) hb h mw_3_6 dX2_sendBack_15 ?_
  refine r_iload_n (pc := 18) h 2 rfl rfl dX2_sendBack_18 ?_
  refine r_iconst (pc := 19) (v := nI 0) h (by decide) dX2_sendBack_19 ?_
  refine r_iast (pc := 20) (w := nI 0) h (a_fr hb) i rfl (by omega) rfl dX2_sendBack_20 ?_
  refine V.sg (sB_sf _ _ _ _ _ _ _ _ _ _ _) ?_
  refine r_iload_n (pc := 21) h 0 rfl rfl dX2_sendBack_21 ?_
  exact hret _ _ (⟨rfl, rfl⟩) 22 _ dX2_sendBack_22

set_option maxRecDepth 100000 in
set_option maxHeartbeats 800000 in
theorem c_remove (l : Launch) (G : Gl) (σ : Sg) (b : Nat) (hb : Blk b) (c : Int32) (w : Nat → Int64) (R : Nat) (hR : R ≤ 4) (d : Int32) (li pa fr : Nat → Int32) (g : Nat) (hgR : g < R) : Ci l yX2_remove cX2_remove 3 .int ({ frames := 0, cells := 0, slots := 0, locals := 0 } : Room) G [.ref (G.2.1 + (b + 3)), .int (nI g)] (sB σ b c w (nI R) d li pa fr) (fun r σ2 => r = nI (R - 1) ∧ ∃ l1 p1 f1, σ2 = sB σ b c w (nI (R - 1)) d l1 p1 f1 ∧ rmv l1 li g (R - 1) ∧ rmv p1 pa g (R - 1) ∧ rmv f1 fr g (R - 1)) := by
  refine Ci_of (own := RX2) rfl (by decide +kernel) (lo := [(0, .ref (G.2.1 + (b + 3))), (1, .int (nI g))]) rfl (Nat.le_of_ble_eq_true rfl) (fun r s hp => by obtain ⟨rfl, _⟩ := hp; rfl) ?_
  intro x Q hxl h hret
  subst hxl
  refine r_aload_n (pc := 0) h 0 rfl rfl dX2_remove_0 ?_
  refine r_dup (pc := 1) h rfl dX2_remove_1 ?_
  refine g_2_count (pc := 2) hb h mw_8_20 dX2_remove_2 ?_
  refine r_topi (b := nI R) (sB_k _ _ _ _ _ _ _ _ _) ?_
  refine r_iconst (pc := 5) (v := nI 1) h (by decide) dX2_remove_5 ?_
  refine r_isub (pc := 6) (v := nI (R - 1)) h (pk_sub (by omega)) dX2_remove_6 ?_
  refine p_2_count (pc := 7) hb h mw_8_20 dX2_remove_7 ?_
  refine V.sg (sB_sk _ _ _ _ _ _ _ _ _ _) ?_
  refine r_iload_n (pc := 10) h 1 rfl rfl dX2_remove_10 ?_
  refine r_istore_n (pc := 11) (lo2 := [(2, .int (nI g)), (0, .ref (G.2.1 + (b + 3))), (1, .int (nI g))]) h rfl (by decide) rfl dX2_remove_11 ?_
  have lp12 : ∀ (fu : Nat) (i : Nat) (l1 : Nat → Int32) (p1 : Nat → Int32) (f1 : Nat → Int32), g ≤ i → i ≤ R - 1 → rmv l1 li g i → rmv p1 pa g i → rmv f1 fr g i → R - 1 - i < fu → V x G 3 0 0 Q (sB σ b c w (nI (R - 1)) d l1 p1 f1) 12 [(0, .ref (G.2.1 + (b + 3))), (1, .int (nI g)), (2, .int (nI i))] [] := by
    intro fu
    induction fu with
    | zero => intro i l1 p1 f1 hg hi h1 h2 h3 hfu; exact absurd hfu (Nat.not_lt_zero _)
    | succ fu ih12 =>
      intro i l1 p1 f1 hg hi h1 h2 h3 hfu
      refine r_iload_n (pc := 12) h 2 rfl rfl dX2_remove_12 ?_
      refine r_aload_n (pc := 13) h 0 rfl rfl dX2_remove_13 ?_
      refine g_2_count (pc := 14) hb h mw_8_20 dX2_remove_14 ?_
      refine r_topi (b := nI (R - 1)) (sB_k _ _ _ _ _ _ _ _ _) ?_
      refine r_icmp_ge (pc := 17) (tgt := 68) h (by decide) dX2_remove_17 (fun c17 => ?_) (fun c17 => ?_)
      · skip
        rw [nI_leI (by omega) (by omega)] at c17
        refine r_aload_n (pc := 68) h 0 rfl rfl dX2_remove_68 ?_
        refine g_2_count (pc := 69) hb h mw_8_20 dX2_remove_69 ?_
        refine r_topi (b := nI (R - 1)) (sB_k _ _ _ _ _ _ _ _ _) ?_
        have ei : i = R - 1 := by omega
        subst ei
        exact hret _ _ (⟨rfl, l1, p1, f1, rfl, h1, h2, h3⟩) 72 _ dX2_remove_72
      · skip
        rw [nI_leI (by omega) (by omega)] at c17
        refine r_aload_n (pc := 20) h 0 rfl rfl dX2_remove_20 ?_
        refine g_2_list (pc := 21) hb h mw_3_4 dX2_remove_21 ?_
        refine r_iload_n (pc := 24) h 2 rfl rfl dX2_remove_24 ?_
        refine r_aload_n (pc := 25) h 0 rfl rfl dX2_remove_25 ?_
        refine g_2_list (pc := 26) hb h mw_3_4 dX2_remove_26 ?_
        refine r_iload_n (pc := 29) h 2 rfl rfl dX2_remove_29 ?_
        refine r_iconst (pc := 30) (v := nI 1) h (by decide) dX2_remove_30 ?_
        refine r_iadd (pc := 31) (v := nI (i + 1)) h (nI_add _ _) dX2_remove_31 ?_
        refine r_iald (pc := 32) h (a_li hb) (i + 1) rfl (by omega) dX2_remove_32 ?_
        refine r_topi (b := l1 (i + 1)) (sB_lj _ _ _ _ _ _ _ _ _ _) ?_
        refine r_iast (pc := 33) (w := l1 (i + 1)) h (a_li hb) i rfl (by omega) rfl dX2_remove_33 ?_
        refine V.sg (sB_sl _ _ _ _ _ _ _ _ _ _ _) ?_
        refine r_aload_n (pc := 34) h 0 rfl rfl dX2_remove_34 ?_
        refine g_2_passed (pc := 35) hb h mw_3_5 dX2_remove_35 ?_
        refine r_iload_n (pc := 38) h 2 rfl rfl dX2_remove_38 ?_
        refine r_aload_n (pc := 39) h 0 rfl rfl dX2_remove_39 ?_
        refine g_2_passed (pc := 40) hb h mw_3_5 dX2_remove_40 ?_
        refine r_iload_n (pc := 43) h 2 rfl rfl dX2_remove_43 ?_
        refine r_iconst (pc := 44) (v := nI 1) h (by decide) dX2_remove_44 ?_
        refine r_iadd (pc := 45) (v := nI (i + 1)) h (nI_add _ _) dX2_remove_45 ?_
        refine r_iald (pc := 46) h (a_pa hb) (i + 1) rfl (by omega) dX2_remove_46 ?_
        refine r_topi (b := p1 (i + 1)) (sB_pj _ _ _ _ _ _ _ _ _ _) ?_
        refine r_iast (pc := 47) (w := p1 (i + 1)) h (a_pa hb) i rfl (by omega) rfl dX2_remove_47 ?_
        refine V.sg (sB_sp _ _ _ _ _ _ _ _ _ _ _) ?_
        refine r_aload_n (pc := 48) h 0 rfl rfl dX2_remove_48 ?_
        refine g_2_from (pc := 49) hb h mw_3_6 dX2_remove_49 ?_
        refine r_iload_n (pc := 52) h 2 rfl rfl dX2_remove_52 ?_
        refine r_aload_n (pc := 53) h 0 rfl rfl dX2_remove_53 ?_
        refine g_2_from (pc := 54) hb h mw_3_6 dX2_remove_54 ?_
        refine r_iload_n (pc := 57) h 2 rfl rfl dX2_remove_57 ?_
        refine r_iconst (pc := 58) (v := nI 1) h (by decide) dX2_remove_58 ?_
        refine r_iadd (pc := 59) (v := nI (i + 1)) h (nI_add _ _) dX2_remove_59 ?_
        refine r_iald (pc := 60) h (a_fr hb) (i + 1) rfl (by omega) dX2_remove_60 ?_
        refine r_topi (b := f1 (i + 1)) (sB_fj _ _ _ _ _ _ _ _ _ _) ?_
        refine r_iast (pc := 61) (w := f1 (i + 1)) h (a_fr hb) i rfl (by omega) rfl dX2_remove_61 ?_
        refine V.sg (sB_sf _ _ _ _ _ _ _ _ _ _ _) ?_
        refine r_iinc (pc := 62) (v := nI (i + 1)) (lo2 := [(2, .int (nI (i + 1))), (0, .ref (G.2.1 + (b + 3))), (1, .int (nI g))]) h 2 rfl (iinc1 _) (by decide) rfl dX2_remove_62 ?_
        refine r_goto (pc := 65) (tgt := 12) h (by decide) dX2_remove_65 ?_
        refine r_sub (lo2 := [(0, .ref (G.2.1 + (b + 3))), (1, .int (nI g)), (2, .int (nI (i + 1)))]) [1, 2, 0] rfl ?_
        exact ih12 (i + 1) _ _ _ (by omega) (by omega) (rmv_s h1 hg) (rmv_s h2 hg) (rmv_s h3 hg) (by omega)
  refine r_sub (lo2 := [(0, .ref (G.2.1 + (b + 3))), (1, .int (nI g)), (2, .int (nI g))]) [1, 2, 0] rfl ?_
  exact lp12 _ g li pa fr (by omega) (by omega) (rmv_0 _ _) (rmv_0 _ _) (rmv_0 _ _) (Nat.lt_succ_self _)

set_option maxRecDepth 100000 in
set_option maxHeartbeats 800000 in
theorem c_copyR (l : Launch) (G : Gl) (σ : Sg) (b : Nat) (hb : Blk b) (c : Int32) (w : Nat → Int64) (k d : Int32) (li pa fr : Nat → Int32) (b2 : Nat) (hb2 : Blk b2) (hd : b2 + 7 ≤ b ∨ b + 7 ≤ b2) : Cv l yX2_copyFrom cX2_copyFrom 3 ({ frames := 0, cells := 0, slots := 0, locals := 0 } : Room) G [.ref (G.2.1 + (b + 3)), .ref (G.2.1 + (b2 + 3))] (sB σ b c w k d li pa fr) (fun σ2 => ∃ l1 p1 f1, σ2 = sB σ b c w (σ.1 (b2 + 3) 3) (σ.1 (b2 + 3) 4) l1 p1 f1 ∧ (∀ j, j < 4 → l1 j = σ.1 (b2 + 4) j) ∧ (∀ j, j < 4 → p1 j = σ.1 (b2 + 5) j) ∧ ∀ j, j < 4 → f1 j = σ.1 (b2 + 6) j) := by
  refine Cv_of (own := RX2) rfl (by decide +kernel) (lo := [(0, .ref (G.2.1 + (b + 3))), (1, .ref (G.2.1 + (b2 + 3)))]) rfl (Nat.le_of_ble_eq_true rfl) ?_
  intro x Q hxl h hret
  subst hxl
  refine r_aload_n (pc := 0) h 0 rfl rfl dX2_copyFrom_0 ?_
  refine r_aload_n (pc := 1) h 1 rfl rfl dX2_copyFrom_1 ?_
  refine g_2_count (pc := 2) hb2 h mw_8_20 dX2_copyFrom_2 ?_
  refine r_topi (b := σ.1 (b2 + 3) 3) (sB_off1 (by omega) _) ?_
  refine p_2_count (pc := 5) hb h mw_8_20 dX2_copyFrom_5 ?_
  refine V.sg (sB_sk _ _ _ _ _ _ _ _ _ _) ?_
  refine r_aload_n (pc := 8) h 0 rfl rfl dX2_copyFrom_8 ?_
  refine r_aload_n (pc := 9) h 1 rfl rfl dX2_copyFrom_9 ?_
  refine g_2_readings (pc := 10) hb2 h mw_14_21 dX2_copyFrom_10 ?_
  refine r_topi (b := σ.1 (b2 + 3) 4) (sB_off1 (by omega) _) ?_
  refine p_2_readings (pc := 13) hb h mw_14_21 dX2_copyFrom_13 ?_
  refine V.sg (sB_sd _ _ _ _ _ _ _ _ _ _) ?_
  refine r_iconst (pc := 16) (v := nI 0) h (by decide) dX2_copyFrom_16 ?_
  refine r_istore_n (pc := 17) (lo2 := [(2, .int (nI 0)), (0, .ref (G.2.1 + (b + 3))), (1, .ref (G.2.1 + (b2 + 3)))]) h rfl (by decide) rfl dX2_copyFrom_17 ?_
  have lp18 : ∀ (fu : Nat) (i : Nat) (l1 : Nat → Int32) (p1 : Nat → Int32) (f1 : Nat → Int32), i ≤ 4 → (∀ j, j < i → l1 j = σ.1 (b2 + 4) j) → (∀ j, j < i → p1 j = σ.1 (b2 + 5) j) → (∀ j, j < i → f1 j = σ.1 (b2 + 6) j) → 4 - i < fu → V x G 3 0 0 Q (sB σ b c w (σ.1 (b2 + 3) 3) (σ.1 (b2 + 3) 4) l1 p1 f1) 18 [(0, .ref (G.2.1 + (b + 3))), (1, .ref (G.2.1 + (b2 + 3))), (2, .int (nI i))] [] := by
    intro fu
    induction fu with
    | zero => intro i l1 p1 f1 hi h1 h2 h3 hfu; exact absurd hfu (Nat.not_lt_zero _)
    | succ fu ih18 =>
      intro i l1 p1 f1 hi h1 h2 h3 hfu
      refine r_iload_n (pc := 18) h 2 rfl rfl dX2_copyFrom_18 ?_
      refine r_iconst (pc := 19) (v := nI 4) h (by decide) dX2_copyFrom_19 ?_
      refine r_icmp_ge (pc := 20) (tgt := 65) h (by decide) dX2_copyFrom_20 (fun c20 => ?_) (fun c20 => ?_)
      · skip
        rw [nI_leI (by omega) (by omega)] at c20
        have ei : i = 4 := by omega
        subst ei
        exact hret _ (⟨l1, p1, f1, rfl, h1, h2, h3⟩) 65 _ dX2_copyFrom_65
      · skip
        rw [nI_leI (by omega) (by omega)] at c20
        refine r_aload_n (pc := 23) h 0 rfl rfl dX2_copyFrom_23 ?_
        refine g_2_list (pc := 24) hb h mw_3_4 dX2_copyFrom_24 ?_
        refine r_iload_n (pc := 27) h 2 rfl rfl dX2_copyFrom_27 ?_
        refine r_aload_n (pc := 28) h 1 rfl rfl dX2_copyFrom_28 ?_
        refine g_2_list (pc := 29) hb2 h mw_3_4 dX2_copyFrom_29 ?_
        refine r_iload_n (pc := 32) h 2 rfl rfl dX2_copyFrom_32 ?_
        refine r_iald (pc := 33) h (a_li hb2) i rfl (by omega) dX2_copyFrom_33 ?_
        refine r_topi (b := σ.1 (b2 + 4) i) (sB_off1 (by omega) _) ?_
        refine r_iast (pc := 34) (w := σ.1 (b2 + 4) i) h (a_li hb) i rfl (by omega) rfl dX2_copyFrom_34 ?_
        refine V.sg (sB_sl _ _ _ _ _ _ _ _ _ _ _) ?_
        refine r_aload_n (pc := 35) h 0 rfl rfl dX2_copyFrom_35 ?_
        refine g_2_passed (pc := 36) hb h mw_3_5 dX2_copyFrom_36 ?_
        refine r_iload_n (pc := 39) h 2 rfl rfl dX2_copyFrom_39 ?_
        refine r_aload_n (pc := 40) h 1 rfl rfl dX2_copyFrom_40 ?_
        refine g_2_passed (pc := 41) hb2 h mw_3_5 dX2_copyFrom_41 ?_
        refine r_iload_n (pc := 44) h 2 rfl rfl dX2_copyFrom_44 ?_
        refine r_iald (pc := 45) h (a_pa hb2) i rfl (by omega) dX2_copyFrom_45 ?_
        refine r_topi (b := σ.1 (b2 + 5) i) (sB_off1 (by omega) _) ?_
        refine r_iast (pc := 46) (w := σ.1 (b2 + 5) i) h (a_pa hb) i rfl (by omega) rfl dX2_copyFrom_46 ?_
        refine V.sg (sB_sp _ _ _ _ _ _ _ _ _ _ _) ?_
        refine r_aload_n (pc := 47) h 0 rfl rfl dX2_copyFrom_47 ?_
        refine g_2_from (pc := 48) hb h mw_3_6 dX2_copyFrom_48 ?_
        refine r_iload_n (pc := 51) h 2 rfl rfl dX2_copyFrom_51 ?_
        refine r_aload_n (pc := 52) h 1 rfl rfl dX2_copyFrom_52 ?_
        refine g_2_from (pc := 53) hb2 h mw_3_6 dX2_copyFrom_53 ?_
        refine r_iload_n (pc := 56) h 2 rfl rfl dX2_copyFrom_56 ?_
        refine r_iald (pc := 57) h (a_fr hb2) i rfl (by omega) dX2_copyFrom_57 ?_
        refine r_topi (b := σ.1 (b2 + 6) i) (sB_off1 (by omega) _) ?_
        refine r_iast (pc := 58) (w := σ.1 (b2 + 6) i) h (a_fr hb) i rfl (by omega) rfl dX2_copyFrom_58 ?_
        refine V.sg (sB_sf _ _ _ _ _ _ _ _ _ _ _) ?_
        refine r_iinc (pc := 59) (v := nI (i + 1)) (lo2 := [(2, .int (nI (i + 1))), (0, .ref (G.2.1 + (b + 3))), (1, .ref (G.2.1 + (b2 + 3)))]) h 2 rfl (iinc1 _) (by decide) rfl dX2_copyFrom_59 ?_
        refine r_goto (pc := 62) (tgt := 18) h (by decide) dX2_copyFrom_62 ?_
        refine r_sub (lo2 := [(0, .ref (G.2.1 + (b + 3))), (1, .ref (G.2.1 + (b2 + 3))), (2, .int (nI (i + 1)))]) [1, 2, 0] rfl ?_
        exact ih18 (i + 1) _ _ _ (by omega) (upd_cp h1) (upd_cp h2) (upd_cp h3) (by omega)
  refine r_sub (lo2 := [(0, .ref (G.2.1 + (b + 3))), (1, .ref (G.2.1 + (b2 + 3))), (2, .int (nI 0))]) [1, 2, 0] rfl ?_
  exact lp18 _ 0 li pa fr (by omega) (fun j hj => absurd hj (Nat.not_lt_zero j)) (fun j hj => absurd hj (Nat.not_lt_zero j)) (fun j hj => absurd hj (Nat.not_lt_zero j)) (Nat.lt_succ_self _)

