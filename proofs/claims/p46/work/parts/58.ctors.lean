/-! THE CONSTRUCTORS -/
def z32 : Nat → Int32 := fun _ => 0
def z64 : Nat → Int64 := fun _ => 0
/-- the cells from c on, as they are made -/
def Made (G : Gl) (c N : Nat) (w w2 : Nat → va_E) : Prop := (∀ j, j < c → w2 j = w j) ∧ ∀ j, c ≤ j → j < N → w2 j = cel G j z32 z64
set_option maxRecDepth 100000 in
set_option maxHeartbeats 1600000 in
theorem k_Lists (l : Launch) (G : Gl) (w : Nat → va_E) (c : Nat) (hw : w c = .inr (1, [.null, .int 0])) (h1 : knd c = 1) (h2 : knd (c + 1) = 10) : CvN l yX1_init cX1_init 1 ({ frames := 1, cells := 1, slots := 192, locals := 12 } : Room) G [.ref (G.2.1 + c)] (c + 1) (c + 2) w (Made G c (c + 2) w) := by
  refine CvN_of (own := RX1) rfl (by decide +kernel) (lo := [(0, .ref (G.2.1 + c))]) rfl (Nat.le_of_ble_eq_true rfl) (by show (c + 2) - (c + 1) ≤ 1; omega) ?_
  intro x Q hxl h hin hret
  subst hxl
  have hini := hin rfl
  refine n_aload_n (pc := 0) h 0 rfl rfl dX1_init_0 ?_
  refine n_obj (pc := 1) h mw_2_22 mw_1_8 mw_1_9 (by decide) dX1_init_1 ?_
  refine n_aload_n (pc := 4) h 0 rfl rfl dX1_init_4 ?_
  refine n_sipush (pc := 5) (v := nI 192) h (by decide) dX1_init_5 ?_
  refine n_newa (pc := 8) (t := 1) (n := 192) (ty := .long) (a0 := (192, .inr (.inl z64))) h (by omega) rfl rfl mw_2_23 (fun _ => rfl) (by decide) (Nat.le_of_ble_eq_true rfl) ⟨(by show (c + 1) + 1 - (c + 1) ≤ 1; omega), (by decide)⟩ dX1_init_8 ?_
  refine n_putF (pc := 10) (ci := 1) (NF := 2) (fs := [.null, .int 0]) h hini c 0 tyX1 tyX1_ok nmX1 rfl inlX1 (by omega) ((va_n _ _ (by omega)).trans (hw)) (by decide) mw_3_0 rfl rfl (tyX1_ok 0 (by decide)) rfl rfl (show 0 < 2 from by decide) dX1_init_10 ?_
  refine hret _ ⟨fun j hj => (va_n _ _ (by omega)).trans ((va_n _ _ (by omega)).trans (rfl)), fun j g1 g2 => ?_⟩ 192 (by decide) 13 _ dX1_init_13
  rcases (show j = c ∨ j = c + 1 by omega) with hj | hj
  · subst hj; exact (va_s _ _ _).trans ((ce_1 (G := G) (f := z32) (g := z64) h1).symm)
  · subst hj; exact ((va_n _ _ (by omega)).trans (va_s _ _ _)).trans ((ce_10 (G := G) (f := z32) (g := z64) h2).symm)

set_option maxRecDepth 100000 in
set_option maxHeartbeats 1600000 in
theorem k_Readers (l : Launch) (G : Gl) (w : Nat → va_E) (c : Nat) (hw : w c = .inr (2, [.null, .null, .null, .int 0, .int 0])) (h1 : knd c = 2) (h2 : knd (c + 1) = 11) (h3 : knd (c + 2) = 11) (h4 : knd (c + 3) = 11) : CvN l yX2_init cX2_init 1 ({ frames := 1, cells := 3, slots := 12, locals := 12 } : Room) G [.ref (G.2.1 + c)] (c + 1) (c + 4) w (Made G c (c + 4) w) := by
  refine CvN_of (own := RX2) rfl (by decide +kernel) (lo := [(0, .ref (G.2.1 + c))]) rfl (Nat.le_of_ble_eq_true rfl) (by show (c + 4) - (c + 1) ≤ 3; omega) ?_
  intro x Q hxl h hin hret
  subst hxl
  have hini := hin rfl
  refine n_aload_n (pc := 0) h 0 rfl rfl dX2_init_0 ?_
  refine n_obj (pc := 1) h mw_3_3 mw_1_8 mw_1_9 (by decide) dX2_init_1 ?_
  refine n_aload_n (pc := 4) h 0 rfl rfl dX2_init_4 ?_
  refine n_iconst (pc := 5) (v := nI 4) h (by decide) dX2_init_5 ?_
  refine n_newa (pc := 6) (t := 0) (n := 4) (ty := .int) (a0 := (4, .inl z32)) h (by omega) rfl rfl mw_2_7 (fun _ => rfl) (by decide) (Nat.le_of_ble_eq_true rfl) ⟨(by show (c + 1) + 1 - (c + 1) ≤ 3; omega), (by decide)⟩ dX2_init_6 ?_
  refine n_putF (pc := 8) (ci := 2) (NF := 5) (fs := [.null, .null, .null, .int 0, .int 0]) h hini c 0 tyX2 tyX2_ok nmX2 rfl inlX2 (by omega) ((va_n _ _ (by omega)).trans (hw)) (by decide) mw_3_4 rfl rfl (tyX2_ok 0 (by decide)) rfl rfl (show 0 < 5 from by decide) dX2_init_8 ?_
  refine n_aload_n (pc := 11) h 0 rfl rfl dX2_init_11 ?_
  refine n_iconst (pc := 12) (v := nI 4) h (by decide) dX2_init_12 ?_
  refine n_newa (pc := 13) (t := 0) (n := 4) (ty := .int) (a0 := (4, .inl z32)) h (by omega) rfl rfl mw_2_7 (fun _ => rfl) (by decide) (Nat.le_of_ble_eq_true rfl) ⟨(by show (c + 2) + 1 - (c + 1) ≤ 3; omega), (by decide)⟩ dX2_init_13 ?_
  refine n_putF (pc := 15) (ci := 2) (NF := 5) (fs := [.ref (G.2.1 + (c + 1)), .null, .null, .int 0, .int 0]) h hini c 1 tyX2 tyX2_ok nmX2 rfl inlX2 (by omega) ((va_n _ _ (by omega)).trans (va_s _ _ _)) (by decide) mw_3_5 rfl rfl (tyX2_ok 1 (by decide)) rfl rfl (show 1 < 5 from by decide) dX2_init_15 ?_
  refine n_aload_n (pc := 18) h 0 rfl rfl dX2_init_18 ?_
  refine n_iconst (pc := 19) (v := nI 4) h (by decide) dX2_init_19 ?_
  refine n_newa (pc := 20) (t := 0) (n := 4) (ty := .int) (a0 := (4, .inl z32)) h (by omega) rfl rfl mw_2_7 (fun _ => rfl) (by decide) (Nat.le_of_ble_eq_true rfl) ⟨(by show (c + 3) + 1 - (c + 1) ≤ 3; omega), (by decide)⟩ dX2_init_20 ?_
  refine n_putF (pc := 22) (ci := 2) (NF := 5) (fs := [.ref (G.2.1 + (c + 1)), .ref (G.2.1 + (c + 2)), .null, .int 0, .int 0]) h hini c 2 tyX2 tyX2_ok nmX2 rfl inlX2 (by omega) ((va_n _ _ (by omega)).trans (va_s _ _ _)) (by decide) mw_3_6 rfl rfl (tyX2_ok 2 (by decide)) rfl rfl (show 2 < 5 from by decide) dX2_init_22 ?_
  refine hret _ ⟨fun j hj => (va_n _ _ (by omega)).trans ((va_n _ _ (by omega)).trans ((va_n _ _ (by omega)).trans ((va_n _ _ (by omega)).trans ((va_n _ _ (by omega)).trans ((va_n _ _ (by omega)).trans (rfl)))))), fun j g1 g2 => ?_⟩ 12 (by decide) 25 _ dX2_init_25
  rcases (show j = c ∨ j = c + 1 ∨ j = c + 2 ∨ j = c + 3 by omega) with hj | hj | hj | hj
  · subst hj; exact (va_s _ _ _).trans ((ce_2 (G := G) (f := z32) (g := z64) h1).symm)
  · subst hj; exact ((va_n _ _ (by omega)).trans ((va_n _ _ (by omega)).trans ((va_n _ _ (by omega)).trans ((va_n _ _ (by omega)).trans ((va_n _ _ (by omega)).trans (va_s _ _ _)))))).trans ((ce_11 (G := G) (f := z32) (g := z64) h2).symm)
  · subst hj; exact ((va_n _ _ (by omega)).trans ((va_n _ _ (by omega)).trans ((va_n _ _ (by omega)).trans (va_s _ _ _)))).trans ((ce_11 (G := G) (f := z32) (g := z64) h3).symm)
  · subst hj; exact ((va_n _ _ (by omega)).trans (va_s _ _ _)).trans ((ce_11 (G := G) (f := z32) (g := z64) h4).symm)

set_option maxRecDepth 100000 in
set_option maxHeartbeats 1600000 in
theorem k_State (l : Launch) (G : Gl) (w : Nat → va_E) (b : Nat) (hb : Blk b) (hw : w b = .inr (3, [.null, .null])) : CvN l yX3_init cX3_init 1 ({ frames := 2, cells := 6, slots := 211, locals := 32 } : Room) G [.ref (G.2.1 + b)] (b + 1) (b + 7) w (Made G b (b + 7) w) := by
  refine CvN_of (own := RX3) rfl (by decide +kernel) (lo := [(0, .ref (G.2.1 + b))]) rfl (Nat.le_of_ble_eq_true rfl) (by show (b + 7) - (b + 1) ≤ 6; omega) ?_
  intro x Q hxl h hin hret
  subst hxl
  have hini := hin rfl
  refine n_aload_n (pc := 0) h 0 rfl rfl dX3_init_0 ?_
  refine n_obj (pc := 1) h mw_2_11 mw_1_8 mw_1_9 (by decide) dX3_init_1 ?_
  refine n_aload_n (pc := 4) h 0 rfl rfl dX3_init_4 ?_
  refine n_new (pc := 5) (ci := 1) (fs := [.null, .int 0]) h (by omega) tyX1 tyX1_ok rfl inlX1 mw_2_12 mw_2_13 mw_2_14 (fun j hj => by rcases (show j = 0 ∨ j = 1 by omega) with rfl | rfl <;> rfl) ⟨(by show (b + 1) + 1 - (b + 1) ≤ 6; omega), (by decide)⟩ dX3_init_5 ?_
  refine n_dup (pc := 8) h rfl dX3_init_8 ?_
  refine n_callN (pc := 9) (N1 := b + 3) (st := [.ref (G.2.1 + (b + 1)), .ref (G.2.1 + b)]) h ⟨by omega, by omega⟩ h.2.2.2.2.2.2.1.2.2.2.1 mw_2_14 mw_2_21 ⟨by decide +kernel, by decide +kernel⟩ (by decide +kernel) mw_2_20 rfl (k_Lists x.2.1 G _ (b + 1) (va_s _ _ _) hb.2.2.1 hb.2.2.2.1) (by decide) (by first | decide | exact Nat.le_of_ble_eq_true rfl) ⟨(by show (b + 3) - (b + 1) ≤ 6; omega), (by decide)⟩ (by show 1 = (b + 3) - (b + 2); omega) (by omega) dX3_init_9 (fun w1 m1 => ?_)
  refine n_putF (pc := 12) (ci := 3) (NF := 2) (fs := [.null, .null]) h hini b 0 tyX3 tyX3_ok nmX3 rfl inlX3 (by omega) ((m1.1 b (by omega)).trans ((va_n _ _ (by omega)).trans (hw))) (by decide) mw_2_15 rfl rfl (tyX3_ok 0 (by decide)) rfl rfl (show 0 < 2 from by decide) dX3_init_12 ?_
  refine n_aload_n (pc := 15) h 0 rfl rfl dX3_init_15 ?_
  refine n_new (pc := 16) (ci := 2) (fs := [.null, .null, .null, .int 0, .int 0]) h (by omega) tyX2 tyX2_ok rfl inlX2 mw_2_16 mw_2_17 mw_2_18 (fun j hj => by rcases (show j = 0 ∨ j = 1 ∨ j = 2 ∨ j = 3 ∨ j = 4 by omega) with rfl | rfl | rfl | rfl | rfl <;> rfl) ⟨(by show (b + 3) + 1 - (b + 1) ≤ 6; omega), (by decide)⟩ dX3_init_16 ?_
  refine n_dup (pc := 19) h rfl dX3_init_19 ?_
  refine n_callN (pc := 20) (N1 := b + 7) (st := [.ref (G.2.1 + (b + 3)), .ref (G.2.1 + b)]) h ⟨by omega, by omega⟩ h.2.2.2.2.2.2.1.2.2.2.2.1 mw_2_18 mw_3_2 ⟨by decide +kernel, by decide +kernel⟩ (by decide +kernel) mw_3_1 rfl (k_Readers x.2.1 G _ (b + 3) (va_s _ _ _) hb.2.2.2.2.1 hb.2.2.2.2.2.1 hb.2.2.2.2.2.2.1 hb.2.2.2.2.2.2.2) (by decide) (by first | decide | exact Nat.le_of_ble_eq_true rfl) ⟨(by show (b + 7) - (b + 1) ≤ 6; omega), (by decide)⟩ (by show 3 = (b + 7) - (b + 4); omega) (by omega) dX3_init_20 (fun w2 m2 => ?_)
  refine n_putF (pc := 23) (ci := 3) (NF := 2) (fs := [.ref (G.2.1 + (b + 1)), .null]) h hini b 1 tyX3 tyX3_ok nmX3 rfl inlX3 (by omega) ((m2.1 b (by omega)).trans ((va_n _ _ (by omega)).trans (va_s _ _ _))) (by decide) mw_2_19 rfl rfl (tyX3_ok 1 (by decide)) rfl rfl (show 1 < 2 from by decide) dX3_init_23 ?_
  refine hret _ ⟨fun j hj => (va_n _ _ (by omega)).trans ((m2.1 _ (by omega)).trans ((va_n _ _ (by omega)).trans ((va_n _ _ (by omega)).trans ((m1.1 _ (by omega)).trans ((va_n _ _ (by omega)).trans (rfl)))))), fun j g1 g2 => ?_⟩ 211 (by decide) 26 _ dX3_init_26
  rcases (show j = b ∨ (b + 1 ≤ j ∧ j < b + 3) ∨ (b + 3 ≤ j ∧ j < b + 7) by omega) with hj | hj | hj
  · subst hj; exact (va_s _ _ _).trans ((ce_3 (G := G) (f := z32) (g := z64) hb.2.1).symm)
  · exact (va_n _ _ (by omega)).trans ((m2.1 _ (by omega)).trans ((va_n _ _ (by omega)).trans ((va_n _ _ (by omega)).trans (m1.2 j hj.1 hj.2))))
  · exact (va_n _ _ (by omega)).trans (m2.2 j hj.1 hj.2)

set_option maxRecDepth 100000 in
set_option maxHeartbeats 1600000 in
theorem k_Text (l : Launch) (G : Gl) (w : Nat → va_E) (hw : w 1 = .inr (4, [.null, .int 0, .int 0, .int 0, .int 0, .null])) : CvN l yX4_init cX4_init 1 ({ frames := 1, cells := 2, slots := 123, locals := 12 } : Room) G [.ref (G.2.1 + 1)] 2 4 w (Made G 1 4 w) := by
  refine CvN_of (own := RX4) rfl (by decide +kernel) (lo := [(0, .ref (G.2.1 + 1))]) rfl (Nat.le_of_ble_eq_true rfl) (by show 4 - 2 ≤ 2; omega) ?_
  intro x Q hxl h hin hret
  subst hxl
  have hini := hin rfl
  refine n_aload_n (pc := 0) h 0 rfl rfl dX4_init_0 ?_
  refine n_obj (pc := 1) h mw_2_4 mw_1_8 mw_1_9 (by decide) dX4_init_1 ?_
  refine n_aload_n (pc := 4) h 0 rfl rfl dX4_init_4 ?_
  refine n_bipush (pc := 5) (v := nI 120) h (by decide) dX4_init_5 ?_
  refine n_newa (pc := 7) (t := 2) (n := 120) (ty := .char) (a0 := (120, .inl z32)) h (by omega) rfl rfl mw_2_5 (fun _ => rfl) (by decide) (Nat.le_of_ble_eq_true rfl) ⟨(by show 2 + 1 - 2 ≤ 2; omega), (by decide)⟩ dX4_init_7 ?_
  refine n_putF (pc := 9) (ci := 4) (NF := 6) (fs := [.null, .int 0, .int 0, .int 0, .int 0, .null]) h hini 1 0 tyX4 tyX4_ok nmX4 rfl inlX4 (by omega) ((va_n _ _ (by omega)).trans (hw)) (by decide) mw_2_6 rfl rfl (tyX4_ok 0 (by decide)) rfl rfl (show 0 < 6 from by decide) dX4_init_9 ?_
  refine n_aload_n (pc := 12) h 0 rfl rfl dX4_init_12 ?_
  refine n_iconst (pc := 13) (v := nI 3) h (by decide) dX4_init_13 ?_
  refine n_newa (pc := 14) (t := 0) (n := 3) (ty := .int) (a0 := (3, .inl z32)) h (by omega) rfl rfl mw_2_7 (fun _ => rfl) (by decide) (Nat.le_of_ble_eq_true rfl) ⟨(by show 3 + 1 - 2 ≤ 2; omega), (by decide)⟩ dX4_init_14 ?_
  refine n_putF (pc := 16) (ci := 4) (NF := 6) (fs := [.ref (G.2.1 + 2), .int 0, .int 0, .int 0, .int 0, .null]) h hini 1 5 tyX4 tyX4_ok nmX4 rfl inlX4 (by omega) ((va_n _ _ (by omega)).trans (va_s _ _ _)) (by decide) mw_2_8 rfl rfl (tyX4_ok 5 (by decide)) rfl rfl (show 5 < 6 from by decide) dX4_init_16 ?_
  refine hret _ ⟨fun j hj => (va_n _ _ (by omega)).trans ((va_n _ _ (by omega)).trans ((va_n _ _ (by omega)).trans ((va_n _ _ (by omega)).trans (rfl)))), fun j g1 g2 => ?_⟩ 123 (by decide) 19 _ dX4_init_19
  rcases (show j = 1 ∨ j = 2 ∨ j = 3 by omega) with hj | hj | hj
  · subst hj; exact (va_s _ _ _).trans (rfl)
  · subst hj; exact ((va_n _ _ (by omega)).trans ((va_n _ _ (by omega)).trans ((va_n _ _ (by omega)).trans (va_s _ _ _)))).trans (rfl)
  · subst hj; exact ((va_n _ _ (by omega)).trans (va_s _ _ _)).trans (rfl)

theorem arrV_cong (cA : ClassId) {n : Nat} {f g : Nat → Value} (h : ∀ j, j < n → f j = g j) : arrV cA n f = arrV cA n g := by
  unfold arrV
  congr 2
  funext j
  exact h j.val j.isLt
theorem n_arr {x : Cx} {G : Gl} {nL N0 N slots : Nat} {Q : State → Prop} {w : Nat → va_E} {pc : Nat} {lo : List (Nat × Value)} {st : List Value} {n : Nat} {cA : ClassId} {f : Nat → Option Nat} (c : Nat) (g : Nat → Option Nat) (he : w c = .inl (cA, n, .inr (.inr (.inr (.inr f))))) (hfg : ∀ j, j < n → f j = g j) (k : VN x G nL N0 N slots Q (va_up w c (.inl (cA, n, .inr (.inr (.inr (.inr g)))))) pc lo st) : VN x G nL N0 N slots Q w pc lo st := fun H lc ls hP hS hl => k H lc ls (fun i q hq => by
  obtain ⟨hi, rfl⟩ := wn_inv hq
  have h0 := hP i _ (wn_at G w hi)
  by_cases e : i = c
  · subst e
    rw [he] at h0
    rw [va_s]
    show H[G.2.1 + i]? = some (vp_cell _ _)
    rw [show H[G.2.1 + i]? = some (vp_cell _ _) from h0, vp_cell_q, vp_cell_q]
    exact congrArg some (arrV_cong cA (fun j hj => congrArg va_rf (hfg j hj)))
  · rw [va_n _ _ e]; exact h0) hS hl
theorem VN.sl {x : Cx} {G : Gl} {nL N0 N s1 s2 : Nat} {Q : State → Prop} {w : Nat → va_E} {pc : Nat} {lo : List (Nat × Value)} {st : List Value} (e : s1 = s2) (k : VN x G nL N0 N s2 Q w pc lo st) : VN x G nL N0 N s1 Q w pc lo st := e ▸ k
theorem VN.nn {x : Cx} {G : Gl} {nL N0 N N2 s : Nat} {Q : State → Prop} {w : Nat → va_E} {pc : Nat} {lo : List (Nat × Value)} {st : List Value} (e : N = N2) (k : VN x G nL N0 N2 s Q w pc lo st) : VN x G nL N0 N s Q w pc lo st := e ▸ k
/-- the row of the remembered states, i of them made -/
def hisF (G : Gl) (i : Nat) : Nat → Option Nat := fun j => if j < i then some (G.2.1 + (13 + 7 * j)) else none
theorem hisF_s (G : Gl) (i : Nat) : va_up (hisF G i) i (some (G.2.1 + (13 + 7 * i))) = hisF G (i + 1) := funext fun j => by
  unfold hisF
  by_cases e : j = i
  · subst e; rw [va_s, if_pos (Nat.lt_succ_self _)]
  · rw [va_n _ _ e]
    by_cases q : j < i
    · rw [if_pos q, if_pos (by omega)]
    · rw [if_neg q, if_neg (by omega)]
set_option maxRecDepth 100000 in
set_option maxHeartbeats 1600000 in
theorem k_History (l : Launch) (G : Gl) (w : Nat → va_E) (hw : w 11 = .inr (0, [.null, .int 0, .int 0])) : CvN l yX0_init cX0_init 2 ({ frames := 3, cells := 99, slots := 2996, locals := 52 } : Room) G [.ref (G.2.1 + 11)] 12 111 w (Made G 11 111 w) := by
  refine CvN_of (own := RX0) rfl (by decide +kernel) (lo := [(0, .ref (G.2.1 + 11))]) rfl (Nat.le_of_ble_eq_true rfl) (by show 111 - 12 ≤ 99; omega) ?_
  intro x Q hxl h hin hret
  subst hxl
  have hini := hin rfl
  refine n_aload_n (pc := 0) h 0 rfl rfl dX0_init_0 ?_
  refine n_obj (pc := 1) h mw_3_10 mw_1_8 mw_1_9 (by decide) dX0_init_1 ?_
  refine n_aload_n (pc := 4) h 0 rfl rfl dX0_init_4 ?_
  refine n_bipush (pc := 5) (v := nI 14) h (by decide) dX0_init_5 ?_
  refine n_newq (pc := 7) (n := 14) h (by omega) mw_3_11 (by decide) (Nat.le_of_ble_eq_true rfl) ⟨(by show 12 + 1 - 12 ≤ 99; omega), (by decide)⟩ dX0_init_7 ?_
  refine n_putF (pc := 10) (ci := 0) (NF := 3) (fs := [.null, .int 0, .int 0]) h hini 11 0 tyX0 tyX0_ok nmX0 rfl inlX0 (by omega) ((va_n _ _ (by omega)).trans (hw)) (by decide) mw_3_12 rfl rfl (tyX0_ok 0 (by decide)) rfl rfl (show 0 < 3 from by decide) dX0_init_10 ?_
  refine n_iconst (pc := 13) (v := nI 0) h (by decide) dX0_init_13 ?_
  refine n_istore_n (pc := 14) (lo2 := [(1, .int (nI 0)), (0, .ref (G.2.1 + 11))]) h rfl (by decide) rfl dX0_init_14 ?_
  have lp : ∀ (fu i : Nat) (wi : Nat → va_E), i ≤ 14 → (∀ j, j < 11 → wi j = w j) → wi 11 = .inr (0, [.ref (G.2.1 + 12), .int 0, .int 0]) → wi 12 = .inl (G.2.2 4, 14, .inr (.inr (.inr (.inr (hisF G i))))) → (∀ j, 13 ≤ j → j < 13 + 7 * i → wi j = cel G j z32 z64) → 14 - i < fu → VN x G 2 12 (13 + 7 * i) (14 + 213 * i) Q wi 15 [(0, .ref (G.2.1 + 11)), (1, .int (nI i))] [] := by
    intro fu
    induction fu with
    | zero => intro i wi hi k0 k11 k12 k13 hfu; exact absurd hfu (Nat.not_lt_zero _)
    | succ fu ih =>
      intro i wi hi k0 k11 k12 k13 hfu
      refine n_iload_n (pc := 15) h 1 rfl rfl dX0_init_15 ?_
      refine n_bipush (pc := 16) (v := nI 14) h (by decide) dX0_init_16 ?_
      refine n_icmp_ge (pc := 18) (tgt := 40) h (by decide) dX0_init_18 (fun c18 => ?_) (fun c18 => ?_)
      · rw [nI_leI (by omega) (by omega)] at c18
        obtain rfl : i = 14 := by omega
        refine n_arr 12 (fun j => some (G.2.1 + (13 + 7 * j))) k12 (fun j hj => if_pos hj) ?_
        refine hret _ ⟨fun j hj => (va_n _ _ (by omega)).trans (k0 j hj), fun j g1 g2 => ?_⟩ _ (by decide) 40 _ dX0_init_40
        rcases (show j = 11 ∨ j = 12 ∨ (13 ≤ j ∧ j < 111) by omega) with hj | hj | hj
        · subst hj; exact (va_n _ _ (by omega)).trans (k11.trans rfl)
        · subst hj; exact (va_s _ _ _).trans rfl
        · exact (va_n _ _ (by omega)).trans (k13 j hj.1 hj.2)
      · rw [nI_leI (by omega) (by omega)] at c18
        have hi14 : i < 14 := by omega
        refine n_aload_n (pc := 21) h 0 rfl rfl dX0_init_21 ?_
        refine n_get (pc := 22) (ci := 0) (NF := 3) (fs := [.ref (G.2.1 + 12), .int 0, .int 0]) h 11 0 rfl inlX0 (by omega) k11 (by decide) mw_3_12 rfl rfl dX0_init_22 ?_
        refine n_iload_n (pc := 25) h 1 rfl rfl dX0_init_25 ?_
        refine n_new (pc := 26) (ci := 3) (fs := [.null, .null]) h (by omega) tyX3 tyX3_ok rfl inlX3 mw_3_11 mw_1_15 mw_1_16 (fun j hj => by rcases (show j = 0 ∨ j = 1 by omega) with rfl | rfl <;> rfl) ⟨(by show 13 + 7 * i + 1 - 12 ≤ 99; omega), (by show 14 + 213 * i + 2 ≤ 2996; omega)⟩ dX0_init_26 ?_
        refine n_dup (pc := 29) h rfl dX0_init_29 ?_
        refine n_callN (pc := 30) (N1 := 13 + 7 * i + 7) (st := [.ref (G.2.1 + (13 + 7 * i)), .int (nI i), .ref (G.2.1 + 12)]) h ⟨by omega, by omega⟩ h.2.2.2.2.2.2.1.2.2.2.2.2.1 mw_1_16 mw_2_10 ⟨by decide +kernel, by decide +kernel⟩ (by decide +kernel) mw_2_9 rfl (k_State x.2.1 G _ (13 + 7 * i) (blk_h i hi14) (va_s _ _ _)) (by decide) (by first | decide | exact Nat.le_of_ble_eq_true rfl) ⟨(by show 13 + 7 * i + 7 - 12 ≤ 99; omega), (by show 14 + 213 * i + 2 + 211 ≤ 2996; omega)⟩ (by show 6 = 13 + 7 * i + 7 - (13 + 7 * i + 1); omega) (by omega) dX0_init_30 (fun w5 m5 => ?_)
        refine n_ast (pc := 33) (n := 14) (f := hisF G i) h 12 (13 + 7 * i) i (by omega) ((m5.1 12 (by omega)).trans ((va_n _ _ (by omega)).trans k12)) (by omega) ((m5.2 (13 + 7 * i) (by omega) (by omega)).trans (ce_3 (blk_h i hi14).2.1)) hi14 (by decide) dX0_init_33 ?_
        rw [hisF_s]
        refine n_iinc (pc := 34) (v := nI (i + 1)) (lo2 := [(1, .int (nI (i + 1))), (0, .ref (G.2.1 + 11))]) h 1 rfl (iinc1 _) (by decide) rfl dX0_init_34 ?_
        refine n_goto (pc := 37) (tgt := 15) h (by decide) dX0_init_37 ?_
        refine VN.sl (show 14 + 213 * i + 2 + 211 = 14 + 213 * (i + 1) by omega) (VN.nn (show 13 + 7 * i + 7 = 13 + 7 * (i + 1) by omega) (VN.sub [1, 0] rfl ?_))
        exact ih (i + 1) _ (by omega) (fun j hj => (va_n _ _ (by omega)).trans ((m5.1 j (by omega)).trans ((va_n _ _ (by omega)).trans (k0 j hj)))) ((va_n _ _ (by omega)).trans ((m5.1 11 (by omega)).trans ((va_n _ _ (by omega)).trans k11))) (va_s _ _ _) (fun j g1 g2 => (va_n _ _ (by omega)).trans (by
          by_cases q : j < 13 + 7 * i
          · exact (m5.1 j q).trans ((va_n _ _ (by omega)).trans (k13 j g1 q))
          · exact m5.2 j (by omega) (by omega))) (by omega)
  refine VN.sub [1, 0] rfl ?_
  exact lp _ 0 _ (by omega) (fun j hj => (va_n _ _ (by omega)).trans ((va_n _ _ (by omega)).trans (rfl))) (va_s _ _ _) (((va_n _ _ (by omega)).trans (va_s _ _ _)).trans (by congr 1)) (fun j g1 g2 => absurd g2 (by omega)) (Nat.lt_succ_self _)

set_option maxRecDepth 100000 in
set_option maxHeartbeats 1600000 in
theorem k_RuleLists (l : Launch) (G : Gl) (w : Nat → va_E) (hw : w 0 = .inr (5, [.null, .null, .null, .null, .null, .null])) : CvN l yX5_init cX5_init 2 ({ frames := 4, cells := 133, slots := 3984, locals := 73 } : Room) G [.ref (G.2.1 + 0)] 1 134 w (Made G 0 134 w) := by
  refine CvN_of (own := RX5) rfl (by decide +kernel) (lo := [(0, .ref (G.2.1 + 0))]) rfl (Nat.le_of_ble_eq_true rfl) (by show 134 - 1 ≤ 133; omega) ?_
  intro x Q hxl h hin hret
  subst hxl
  have hini := hin rfl
  refine n_aload_n (pc := 0) h 0 rfl rfl dX5_init_0 ?_
  refine n_obj (pc := 1) h mw_1_7 mw_1_8 mw_1_9 (by decide) dX5_init_1 ?_
  refine n_aload_n (pc := 4) h 0 rfl rfl dX5_init_4 ?_
  refine n_new (pc := 5) (ci := 4) (fs := [.null, .int 0, .int 0, .int 0, .int 0, .null]) h (by omega) tyX4 tyX4_ok rfl inlX4 mw_1_10 mw_1_11 mw_1_12 (fun j hj => by rcases (show j = 0 ∨ j = 1 ∨ j = 2 ∨ j = 3 ∨ j = 4 ∨ j = 5 by omega) with rfl | rfl | rfl | rfl | rfl | rfl <;> rfl) ⟨(by show 1 + 1 - 1 ≤ 133; omega), (by decide)⟩ dX5_init_5 ?_
  refine n_dup (pc := 8) h rfl dX5_init_8 ?_
  refine n_callN (pc := 9) (N1 := 4) (st := [.ref (G.2.1 + 1), .ref (G.2.1 + 0)]) h ⟨by omega, by omega⟩ h.2.2.2.2.2.2.1.2.1 mw_1_12 mw_2_3 ⟨by decide +kernel, by decide +kernel⟩ (by decide +kernel) mw_2_2 rfl (k_Text x.2.1 G _ (va_s _ _ _)) (by decide) (by first | decide | exact Nat.le_of_ble_eq_true rfl) ⟨(by show 4 - 1 ≤ 133; omega), (by decide)⟩ (by show 2 = 4 - 2; omega) (by omega) dX5_init_9 (fun w1 m1 => ?_)
  refine n_putF (pc := 12) (ci := 5) (NF := 6) (fs := [.null, .null, .null, .null, .null, .null]) h hini 0 0 tyX5 tyX5_ok nmX5 rfl inlX5 (by omega) ((m1.1 0 (by omega)).trans ((va_n _ _ (by omega)).trans (hw))) (by decide) mw_1_13 rfl rfl (tyX5_ok 0 (by decide)) rfl rfl (show 0 < 6 from by decide) dX5_init_12 ?_
  refine n_aload_n (pc := 15) h 0 rfl rfl dX5_init_15 ?_
  refine n_new (pc := 16) (ci := 3) (fs := [.null, .null]) h (by omega) tyX3 tyX3_ok rfl inlX3 mw_1_14 mw_1_15 mw_1_16 (fun j hj => by rcases (show j = 0 ∨ j = 1 by omega) with rfl | rfl <;> rfl) ⟨(by show 4 + 1 - 1 ≤ 133; omega), (by decide)⟩ dX5_init_16 ?_
  refine n_dup (pc := 19) h rfl dX5_init_19 ?_
  refine n_callN (pc := 20) (N1 := 11) (st := [.ref (G.2.1 + 4), .ref (G.2.1 + 0)]) h ⟨by omega, by omega⟩ h.2.2.2.2.2.2.1.2.2.1 mw_1_16 mw_2_10 ⟨by decide +kernel, by decide +kernel⟩ (by decide +kernel) mw_2_9 rfl (k_State x.2.1 G _ 4 blk_4 (va_s _ _ _)) (by decide) (by first | decide | exact Nat.le_of_ble_eq_true rfl) ⟨(by show 11 - 1 ≤ 133; omega), (by decide)⟩ (by show 6 = 11 - 5; omega) (by omega) dX5_init_20 (fun w2 m2 => ?_)
  refine n_putF (pc := 23) (ci := 5) (NF := 6) (fs := [.ref (G.2.1 + 1), .null, .null, .null, .null, .null]) h hini 0 1 tyX5 tyX5_ok nmX5 rfl inlX5 (by omega) ((m2.1 0 (by omega)).trans ((va_n _ _ (by omega)).trans (va_s _ _ _))) (by decide) mw_1_17 rfl rfl (tyX5_ok 1 (by decide)) rfl rfl (show 1 < 6 from by decide) dX5_init_23 ?_
  refine n_aload_n (pc := 26) h 0 rfl rfl dX5_init_26 ?_
  refine n_new (pc := 27) (ci := 0) (fs := [.null, .int 0, .int 0]) h (by omega) tyX0 tyX0_ok rfl inlX0 mw_1_18 mw_1_19 mw_1_20 (fun j hj => by rcases (show j = 0 ∨ j = 1 ∨ j = 2 by omega) with rfl | rfl | rfl <;> rfl) ⟨(by show 11 + 1 - 1 ≤ 133; omega), (by decide)⟩ dX5_init_27 ?_
  refine n_dup (pc := 30) h rfl dX5_init_30 ?_
  refine n_callI (pc := 31) (N1 := 111) (st := [.ref (G.2.1 + 11), .ref (G.2.1 + 0)]) h ⟨by omega, by omega⟩ ⟨mw_3_7, mw_1_20, mw_3_9, ⟨by decide +kernel, by decide +kernel⟩, by decide +kernel⟩ mw_3_8 rfl (k_History x.2.1 G _ (va_s _ _ _)) (by decide) (by first | decide | exact Nat.le_of_ble_eq_true rfl) ⟨(by show 111 - 1 ≤ 133; omega), (by decide)⟩ (by show 99 = 111 - 12; omega) (by omega) dX5_init_31 (fun w3 m3 => ?_)
  refine n_putF (pc := 34) (ci := 5) (NF := 6) (fs := [.ref (G.2.1 + 1), .ref (G.2.1 + 4), .null, .null, .null, .null]) h hini 0 2 tyX5 tyX5_ok nmX5 rfl inlX5 (by omega) ((m3.1 0 (by omega)).trans ((va_n _ _ (by omega)).trans (va_s _ _ _))) (by decide) mw_1_21 rfl rfl (tyX5_ok 2 (by decide)) rfl rfl (show 2 < 6 from by decide) dX5_init_34 ?_
  refine n_aload_n (pc := 37) h 0 rfl rfl dX5_init_37 ?_
  refine n_iconst (pc := 38) (v := nI 2) h (by decide) dX5_init_38 ?_
  refine n_newq (pc := 39) (n := 2) h (by omega) mw_1_14 (by decide) (Nat.le_of_ble_eq_true rfl) ⟨(by show 111 + 1 - 1 ≤ 133; omega), (by decide)⟩ dX5_init_39 ?_
  refine n_putF (pc := 42) (ci := 5) (NF := 6) (fs := [.ref (G.2.1 + 1), .ref (G.2.1 + 4), .ref (G.2.1 + 11), .null, .null, .null]) h hini 0 3 tyX5 tyX5_ok nmX5 rfl inlX5 (by omega) ((va_n _ _ (by omega)).trans (va_s _ _ _)) (by decide) mw_1_22 rfl rfl (tyX5_ok 3 (by decide)) rfl rfl (show 3 < 6 from by decide) dX5_init_42 ?_
  refine n_aload_n (pc := 45) h 0 rfl rfl dX5_init_45 ?_
  refine n_iconst (pc := 46) (v := nI 2) h (by decide) dX5_init_46 ?_
  refine n_newa (pc := 47) (t := 3) (n := 2) (ty := .boolean) (a0 := (2, .inl z32)) h (by omega) rfl rfl mw_1_23 (fun _ => rfl) (by decide) (Nat.le_of_ble_eq_true rfl) ⟨(by show 112 + 1 - 1 ≤ 133; omega), (by decide)⟩ dX5_init_47 ?_
  refine n_putF (pc := 49) (ci := 5) (NF := 6) (fs := [.ref (G.2.1 + 1), .ref (G.2.1 + 4), .ref (G.2.1 + 11), .ref (G.2.1 + 111), .null, .null]) h hini 0 4 tyX5 tyX5_ok nmX5 rfl inlX5 (by omega) ((va_n _ _ (by omega)).trans (va_s _ _ _)) (by decide) mw_2_0 rfl rfl (tyX5_ok 4 (by decide)) rfl rfl (show 4 < 6 from by decide) dX5_init_49 ?_
  refine n_aload_n (pc := 52) h 0 rfl rfl dX5_init_52 ?_
  refine n_new (pc := 53) (ci := 3) (fs := [.null, .null]) h (by omega) tyX3 tyX3_ok rfl inlX3 mw_1_14 mw_1_15 mw_1_16 (fun j hj => by rcases (show j = 0 ∨ j = 1 by omega) with rfl | rfl <;> rfl) ⟨(by show 113 + 1 - 1 ≤ 133; omega), (by decide)⟩ dX5_init_53 ?_
  refine n_dup (pc := 56) h rfl dX5_init_56 ?_
  refine n_callN (pc := 57) (N1 := 120) (st := [.ref (G.2.1 + 113), .ref (G.2.1 + 0)]) h ⟨by omega, by omega⟩ h.2.2.2.2.2.2.1.2.2.1 mw_1_16 mw_2_10 ⟨by decide +kernel, by decide +kernel⟩ (by decide +kernel) mw_2_9 rfl (k_State x.2.1 G _ 113 blk_113 (va_s _ _ _)) (by decide) (by first | decide | exact Nat.le_of_ble_eq_true rfl) ⟨(by show 120 - 1 ≤ 133; omega), (by decide)⟩ (by show 6 = 120 - 114; omega) (by omega) dX5_init_57 (fun w4 m4 => ?_)
  refine n_putF (pc := 60) (ci := 5) (NF := 6) (fs := [.ref (G.2.1 + 1), .ref (G.2.1 + 4), .ref (G.2.1 + 11), .ref (G.2.1 + 111), .ref (G.2.1 + 112), .null]) h hini 0 5 tyX5 tyX5_ok nmX5 rfl inlX5 (by omega) ((m4.1 0 (by omega)).trans ((va_n _ _ (by omega)).trans (va_s _ _ _))) (by decide) mw_2_1 rfl rfl (tyX5_ok 5 (by decide)) rfl rfl (show 5 < 6 from by decide) dX5_init_60 ?_
  refine n_iconst (pc := 63) (v := nI 0) h (by decide) dX5_init_63 ?_
  refine n_istore_n (pc := 64) (lo2 := [(1, .int (nI 0)), (0, .ref (G.2.1 + 0))]) h rfl (by decide) rfl dX5_init_64 ?_
  refine n_iload_n (pc := 65) h 0 rfl rfl dX5_init_65 ?_
  refine n_iconst (pc := 66) (v := nI 2) h (by decide) dX5_init_66 ?_
  refine n_icmp_ge (pc := 67) (tgt := 89) h (by decide) dX5_init_67 (fun c9 => absurd c9 (by decide)) (fun _ => ?_)
  refine n_aload_n (pc := 70) h 1 rfl rfl dX5_init_70 ?_
  refine n_get (pc := 71) (ci := 5) (NF := 6) (fs := [.ref (G.2.1 + 1), .ref (G.2.1 + 4), .ref (G.2.1 + 11), .ref (G.2.1 + 111), .ref (G.2.1 + 112), .ref (G.2.1 + 113)]) h 0 3 rfl inlX5 (by omega) (va_s _ _ _) (by decide) mw_1_22 rfl rfl dX5_init_71 ?_
  refine n_iload_n (pc := 74) h 0 rfl rfl dX5_init_74 ?_
  refine n_new (pc := 75) (ci := 3) (fs := [.null, .null]) h (by omega) tyX3 tyX3_ok rfl inlX3 mw_1_14 mw_1_15 mw_1_16 (fun j hj => by rcases (show j = 0 ∨ j = 1 by omega) with rfl | rfl <;> rfl) ⟨(by show 120 + 1 - 1 ≤ 133; omega), (by decide)⟩ dX5_init_75 ?_
  refine n_dup (pc := 78) h rfl dX5_init_78 ?_
  refine n_callN (pc := 79) (N1 := 127) (st := [.ref (G.2.1 + 120), .int (nI 0), .ref (G.2.1 + 111)]) h ⟨by omega, by omega⟩ h.2.2.2.2.2.2.1.2.2.1 mw_1_16 mw_2_10 ⟨by decide +kernel, by decide +kernel⟩ (by decide +kernel) mw_2_9 rfl (k_State x.2.1 G _ 120 blk_120 (va_s _ _ _)) (by decide) (by first | decide | exact Nat.le_of_ble_eq_true rfl) ⟨(by show 127 - 1 ≤ 133; omega), (by decide)⟩ (by show 6 = 127 - 121; omega) (by omega) dX5_init_79 (fun w5 m5 => ?_)
  refine n_ast (pc := 82) (n := 2) (f := (fun _ => none)) h 111 120 0 (by omega) ((m5.1 111 (by omega)).trans ((va_n _ _ (by omega)).trans ((va_n _ _ (by omega)).trans ((m4.1 111 (by omega)).trans ((va_n _ _ (by omega)).trans ((va_n _ _ (by omega)).trans ((va_n _ _ (by omega)).trans ((va_n _ _ (by omega)).trans (va_s _ _ _))))))))) (by omega) ((m5.2 120 (by omega) (by omega)).trans (ce_3 (G := G) (f := z32) (g := z64) blk_120.2.1)) (by omega) (by decide) dX5_init_82 ?_
  refine n_iinc (pc := 83) (v := nI 1) (lo2 := [(1, .int (nI 1)), (0, .ref (G.2.1 + 0))]) h 0 rfl (by decide) (by decide) rfl dX5_init_83 ?_
  refine n_goto (pc := 86) (tgt := 65) h (by decide) dX5_init_86 ?_
  refine n_iload_n (pc := 65) h 0 rfl rfl dX5_init_65 ?_
  refine n_iconst (pc := 66) (v := nI 2) h (by decide) dX5_init_66 ?_
  refine n_icmp_ge (pc := 67) (tgt := 89) h (by decide) dX5_init_67 (fun c9 => absurd c9 (by decide)) (fun _ => ?_)
  refine n_aload_n (pc := 70) h 1 rfl rfl dX5_init_70 ?_
  refine n_get (pc := 71) (ci := 5) (NF := 6) (fs := [.ref (G.2.1 + 1), .ref (G.2.1 + 4), .ref (G.2.1 + 11), .ref (G.2.1 + 111), .ref (G.2.1 + 112), .ref (G.2.1 + 113)]) h 0 3 rfl inlX5 (by omega) ((va_n _ _ (by omega)).trans ((m5.1 0 (by omega)).trans ((va_n _ _ (by omega)).trans (va_s _ _ _)))) (by decide) mw_1_22 rfl rfl dX5_init_71 ?_
  refine n_iload_n (pc := 74) h 0 rfl rfl dX5_init_74 ?_
  refine n_new (pc := 75) (ci := 3) (fs := [.null, .null]) h (by omega) tyX3 tyX3_ok rfl inlX3 mw_1_14 mw_1_15 mw_1_16 (fun j hj => by rcases (show j = 0 ∨ j = 1 by omega) with rfl | rfl <;> rfl) ⟨(by show 127 + 1 - 1 ≤ 133; omega), (by decide)⟩ dX5_init_75 ?_
  refine n_dup (pc := 78) h rfl dX5_init_78 ?_
  refine n_callN (pc := 79) (N1 := 134) (st := [.ref (G.2.1 + 127), .int (nI 1), .ref (G.2.1 + 111)]) h ⟨by omega, by omega⟩ h.2.2.2.2.2.2.1.2.2.1 mw_1_16 mw_2_10 ⟨by decide +kernel, by decide +kernel⟩ (by decide +kernel) mw_2_9 rfl (k_State x.2.1 G _ 127 blk_127 (va_s _ _ _)) (by decide) (by first | decide | exact Nat.le_of_ble_eq_true rfl) ⟨(by show 134 - 1 ≤ 133; omega), (by decide)⟩ (by show 6 = 134 - 128; omega) (by omega) dX5_init_79 (fun w6 m6 => ?_)
  refine n_ast (pc := 82) (n := 2) (f := (va_up (fun _ => none) 0 (some (G.2.1 + 120)))) h 111 127 1 (by omega) ((m6.1 111 (by omega)).trans ((va_n _ _ (by omega)).trans (va_s _ _ _))) (by omega) ((m6.2 127 (by omega) (by omega)).trans (ce_3 (G := G) (f := z32) (g := z64) blk_127.2.1)) (by omega) (by decide) dX5_init_82 ?_
  refine n_iinc (pc := 83) (v := nI 2) (lo2 := [(1, .int (nI 2)), (0, .ref (G.2.1 + 0))]) h 0 rfl (by decide) (by decide) rfl dX5_init_83 ?_
  refine n_goto (pc := 86) (tgt := 65) h (by decide) dX5_init_86 ?_
  refine n_iload_n (pc := 65) h 0 rfl rfl dX5_init_65 ?_
  refine n_iconst (pc := 66) (v := nI 2) h (by decide) dX5_init_66 ?_
  refine n_icmp_ge (pc := 67) (tgt := 89) h (by decide) dX5_init_67 (fun _ => ?_) (fun c9 => absurd (by decide) c9)
  refine n_arr 111 (fun j => some (G.2.1 + (120 + 7 * j))) (va_s _ _ _) (fun j hj => by rcases (show j = 0 ∨ j = 1 by omega) with rfl | rfl <;> rfl) ?_
  refine hret _ ⟨fun j hj => (va_n _ _ (by omega)).trans ((va_n _ _ (by omega)).trans ((m6.1 _ (by omega)).trans ((va_n _ _ (by omega)).trans ((va_n _ _ (by omega)).trans ((m5.1 _ (by omega)).trans ((va_n _ _ (by omega)).trans ((va_n _ _ (by omega)).trans ((m4.1 _ (by omega)).trans ((va_n _ _ (by omega)).trans ((va_n _ _ (by omega)).trans ((va_n _ _ (by omega)).trans ((va_n _ _ (by omega)).trans ((va_n _ _ (by omega)).trans ((va_n _ _ (by omega)).trans ((m3.1 _ (by omega)).trans ((va_n _ _ (by omega)).trans ((va_n _ _ (by omega)).trans ((m2.1 _ (by omega)).trans ((va_n _ _ (by omega)).trans ((va_n _ _ (by omega)).trans ((m1.1 _ (by omega)).trans ((va_n _ _ (by omega)).trans (rfl))))))))))))))))))))))), fun j g1 g2 => ?_⟩ 3984 (by decide) 89 _ dX5_init_89
  rcases (show j = 0 ∨ (1 ≤ j ∧ j < 4) ∨ (4 ≤ j ∧ j < 11) ∨ (11 ≤ j ∧ j < 111) ∨ j = 111 ∨ j = 112 ∨ (113 ≤ j ∧ j < 120) ∨ (120 ≤ j ∧ j < 127) ∨ (127 ≤ j ∧ j < 134) by omega) with hj | hj | hj | hj | hj | hj | hj | hj | hj
  · subst hj; exact ((va_n _ _ (by omega)).trans ((va_n _ _ (by omega)).trans ((m6.1 0 (by omega)).trans ((va_n _ _ (by omega)).trans ((va_n _ _ (by omega)).trans ((m5.1 0 (by omega)).trans ((va_n _ _ (by omega)).trans (va_s _ _ _)))))))).trans (rfl)
  · exact (va_n _ _ (by omega)).trans ((va_n _ _ (by omega)).trans ((m6.1 _ (by omega)).trans ((va_n _ _ (by omega)).trans ((va_n _ _ (by omega)).trans ((m5.1 _ (by omega)).trans ((va_n _ _ (by omega)).trans ((va_n _ _ (by omega)).trans ((m4.1 _ (by omega)).trans ((va_n _ _ (by omega)).trans ((va_n _ _ (by omega)).trans ((va_n _ _ (by omega)).trans ((va_n _ _ (by omega)).trans ((va_n _ _ (by omega)).trans ((va_n _ _ (by omega)).trans ((m3.1 _ (by omega)).trans ((va_n _ _ (by omega)).trans ((va_n _ _ (by omega)).trans ((m2.1 _ (by omega)).trans ((va_n _ _ (by omega)).trans ((va_n _ _ (by omega)).trans (m1.2 j hj.1 hj.2)))))))))))))))))))))
  · exact (va_n _ _ (by omega)).trans ((va_n _ _ (by omega)).trans ((m6.1 _ (by omega)).trans ((va_n _ _ (by omega)).trans ((va_n _ _ (by omega)).trans ((m5.1 _ (by omega)).trans ((va_n _ _ (by omega)).trans ((va_n _ _ (by omega)).trans ((m4.1 _ (by omega)).trans ((va_n _ _ (by omega)).trans ((va_n _ _ (by omega)).trans ((va_n _ _ (by omega)).trans ((va_n _ _ (by omega)).trans ((va_n _ _ (by omega)).trans ((va_n _ _ (by omega)).trans ((m3.1 _ (by omega)).trans ((va_n _ _ (by omega)).trans ((va_n _ _ (by omega)).trans (m2.2 j hj.1 hj.2))))))))))))))))))
  · exact (va_n _ _ (by omega)).trans ((va_n _ _ (by omega)).trans ((m6.1 _ (by omega)).trans ((va_n _ _ (by omega)).trans ((va_n _ _ (by omega)).trans ((m5.1 _ (by omega)).trans ((va_n _ _ (by omega)).trans ((va_n _ _ (by omega)).trans ((m4.1 _ (by omega)).trans ((va_n _ _ (by omega)).trans ((va_n _ _ (by omega)).trans ((va_n _ _ (by omega)).trans ((va_n _ _ (by omega)).trans ((va_n _ _ (by omega)).trans ((va_n _ _ (by omega)).trans (m3.2 j hj.1 hj.2)))))))))))))))
  · subst hj; exact (va_s _ _ _).trans (rfl)
  · subst hj; exact ((va_n _ _ (by omega)).trans ((va_n _ _ (by omega)).trans ((m6.1 112 (by omega)).trans ((va_n _ _ (by omega)).trans ((va_n _ _ (by omega)).trans ((m5.1 112 (by omega)).trans ((va_n _ _ (by omega)).trans ((va_n _ _ (by omega)).trans ((m4.1 112 (by omega)).trans ((va_n _ _ (by omega)).trans ((va_n _ _ (by omega)).trans (va_s _ _ _)))))))))))).trans (rfl)
  · exact (va_n _ _ (by omega)).trans ((va_n _ _ (by omega)).trans ((m6.1 _ (by omega)).trans ((va_n _ _ (by omega)).trans ((va_n _ _ (by omega)).trans ((m5.1 _ (by omega)).trans ((va_n _ _ (by omega)).trans ((va_n _ _ (by omega)).trans (m4.2 j hj.1 hj.2))))))))
  · exact (va_n _ _ (by omega)).trans ((va_n _ _ (by omega)).trans ((m6.1 _ (by omega)).trans ((va_n _ _ (by omega)).trans ((va_n _ _ (by omega)).trans (m5.2 j hj.1 hj.2)))))
  · exact (va_n _ _ (by omega)).trans ((va_n _ _ (by omega)).trans (m6.2 j hj.1 hj.2))

