/-! THE LAW: it makes two objects -/
abbrev Kof (G : Gl) : Gl := (G.1, G.2.1 + 134, G.2.2)
def S00 : Cs := (0, (fun _ => 0), emptyA, 0, (fun _ => emptyA), (fun _ => false), (fun _ => emptyA))
theorem inv0C : IS S00 ((fun _ => z32), (fun _ => z64)) :=
  ⟨⟨⟨Nat.zero_le _, rfl⟩, fun i hi => absurd hi (Nat.not_lt_zero i)⟩, relC_empty _ _ _ _, his_0 (o := 0) _ rfl (by decide) rfl, fun j hj => ⟨rfl, fun q => by cases q⟩⟩
theorem W1_new {G : Gl} {w : Nat → va_E} {H : Heap} (hP : va_P G.1 vwCl (wsN G 134 w) H) (hw : ∀ j, j < 134 → w j = cel G j z32 z64) : W1 G S00 H := by
  refine ⟨((fun _ => z32), (fun _ => z64)), inv0C, ?_⟩
  rw [wn_cong hw] at hP
  exact hP
theorem bN_bB {G : Gl} (hZ : G.2.2 9 = G.2.1 + 268) {q : Nat} (h : G.2.1 ≤ q) : bB G (Kof G) q := by
  rcases Nat.lt_or_ge q (G.2.1 + 134) with a | a
  · exact Or.inl ⟨h, Or.inl a⟩
  · refine Or.inr ⟨a, ?_⟩
    rcases Nat.lt_or_ge q (G.2.1 + 134 + 134) with c | c
    · exact Or.inl c
    · refine Or.inr ?_
      show (G.2.2 9 : Nat) ≤ q
      rw [hZ]; omega
theorem Kof_two {G : Gl} (hZ : G.2.2 9 = G.2.1 + 268) : Two G (Kof G) := ⟨Nat.le_refl _, by show G.2.1 + 134 + 134 ≤ (G.2.2 9 : Nat); rw [hZ]; omega⟩
theorem lkb5 : LKB RL 272 yX5_init cX5_init 2 none 0 := ⟨mw_1_4, mw_1_2, mw_1_6, ⟨by decide +kernel, by decide +kernel⟩, by decide +kernel⟩
set_option maxRecDepth 100000 in
set_option maxHeartbeats 4000000 in
theorem law_make {x : Cx} {G : Gl} {Q : State → Prop} {b : Nat} (w : Nat → va_E) (h : CXN x G cL_law 9 RL room_1 0) (hK : EnvN (Kof G) x.2.2.2.2.1) (hZ : G.2.2 9 = G.2.1 + 268) (kk : VP x (bB G (Kof G)) 9 1400 Q (W2 G (Kof G) S00 S00) 15 [(1, .ref (G.2.1 + 0)), (0, .ref b)] [.ref ((Kof G).2.1 + 0)]) : VN x G 9 0 0 0 Q w 0 [(0, .ref b)] [] := by
  refine n_new (pc := 0) (ci := 5) (fs := [.null, .null, .null, .null, .null, .null]) h (by omega) tyX5 tyX5_ok rfl inlX5 mw_1_0 mw_1_1 mw_1_2 (fun j hj => by rcases (show j = 0 ∨ j = 1 ∨ j = 2 ∨ j = 3 ∨ j = 4 ∨ j = 5 by omega) with rfl | rfl | rfl | rfl | rfl | rfl <;> rfl) ⟨by decide, by decide⟩ dL_law_0 ?_
  refine n_dup (pc := 3) h rfl dL_law_3 ?_
  refine n_callI (pc := 4) (N1 := 134) (c := 0) (st := [.ref (G.2.1 + 0)]) h ⟨by omega, by omega⟩ lkb5 mw_1_5 rfl (k_RuleLists x.2.1 G _ (va_s _ _ _)) (by decide) (by first | decide | exact Nat.le_of_ble_eq_true rfl) ⟨by decide, by decide⟩ rfl (by omega) dL_law_4 (fun w1 m1 => ?_)
  refine n_astore_n (pc := 7) (lo2 := [(1, .ref (G.2.1 + 0)), (0, .ref b)]) h rfl (by decide) rfl dL_law_7 ?_
  refine n_new (pc := 8) (ci := 5) (fs := [.null, .null, .null, .null, .null, .null]) h (by omega) tyX5 tyX5_ok rfl inlX5 mw_1_0 mw_1_1 mw_1_2 (fun j hj => by rcases (show j = 0 ∨ j = 1 ∨ j = 2 ∨ j = 3 ∨ j = 4 ∨ j = 5 by omega) with rfl | rfl | rfl | rfl | rfl | rfl <;> rfl) ⟨by decide, by decide⟩ dL_law_8 ?_
  refine n_dup (pc := 11) h rfl dL_law_11 ?_
  intro H lc ls hP hS hl
  refine VN.sz h ⟨by omega, by omega⟩ hP (fun hsH => ?_)
  obtain ⟨hx, hb, hml, hown, hts, hrm, hE, hlk, hsz⟩ := id h
  have hc : va_at G.1 vwCl (G.2.1 + 134, .inr (5, [.null, .null, .null, .null, .null, .null])) H := by
    have := hP 134 _ (wn_at G _ (by omega))
    rw [va_s] at this
    exact this
  obtain ⟨w9, hw9⟩ : ∃ w9 : Nat → va_E, w9 = fun _ => .inr (5, [.null, .null, .null, .null, .null, .null]) := ⟨_, rfl⟩
  have hP9 : va_P (Kof G).1 vwCl (wsN (Kof G) 1 w9) H := by
    intro k q hq
    obtain ⟨h1, h2⟩ := wn_inv hq
    have hk0 : k = 0 := by omega
    subst hk0
    rw [h2, hw9]
    exact hc
  have hM := k_RuleLists x.2.1 (Kof G) w9 (by rw [hw9])
  refine va_callv (va_runI (Ts := wsL_law) (As := []) (rest := [.ref (G.2.1 + 134)]) ⟨hx, hb, hml, hown, hts⟩ hM ⟨LKB.cb (R := x.2.2.2.1) lkb5 hts (by rw [hrm]; decide), rfl, hts _ mw_1_5⟩ ⟨PreN.blind (Kof G) 1 w9 _, fun U hU hW => ⟨rfl, by rw [hU]; exact hP9, by rw [hU, hsH], hK.warm hW⟩⟩ rfl rfl hl.1 rfl (lv_room (Nat.le_of_ble_eq_true rfl)) dL_law_12 (by rw [hrm]; exact ⟨by decide, by decide⟩)) hS (fun q _ z => Nat.le_trans (Nat.le_add_right _ _) z) (fun q z => Nat.le_trans (Nat.le_add_right _ _) z) (fun w2 t H1 locs1 ht hvm hp hB hz1 hk1 hS1 => ?_)
  have hG : W1 G S00 H1 := by
    refine W1_new (w := w1) ?_ (fun j hj => m1.2 j (Nat.zero_le _) hj)
    intro k q hq
    obtain ⟨h1, h2⟩ := wn_inv hq
    have h3 := hP k _ (wn_at G _ (show k < 134 + 1 by omega))
    rw [va_n _ _ (by omega)] at h3
    rw [h2]
    have h4 : va_P G.1 vwCl [(G.2.1 + k, w1 k)] H := fun i q9 hq9 => by
      have hi0 : i = 0 := by
        rcases i with _ | i
        · rfl
        · simp at hq9
      subst hi0
      cases hq9
      exact h3
    have h5 := h4.kept (H1 := H1) (fun i q9 hq9 => by
      have hi0 : i = 0 := by
        rcases i with _ | i
        · rfl
        · simp at hq9
      subst hi0
      cases hq9
      exact hk1 _ ((h4 0 _ rfl).lt) (fun z => by have z1 : G.2.1 + 134 ≤ G.2.1 + k := z; omega))
    exact h5 0 _ rfl
  have hKK : W1 (Kof G) S00 H1 := W1_new (w := w2) (by rw [← ht]; exact hB) (fun j hj => hp.2 j (Nat.zero_le _) hj)
  exact W.widen (by decide) (by decide) (kk H1 locs1 ls ⟨hG, hKK⟩ ⟨hS1.1, fun q h1 h2 => hS1.2.1 q h1 (fun z => h2 (bN_bB hZ z)), fun q hq => bN_bB hZ (hS1.2.2 q hq)⟩ hl)
