/-! TEXT: commands -/
theorem nI_lit0 : upd (upd (upd (fun _ : Nat => (0 : Int32)) 0 (nI 0)) 1 (nI 0)) 2 (nI 0) 0 = nI 0 := rfl
theorem k_cases (K : Nat) (h : K < 256) : (K = 115 ∨ K = 120 ∨ K = 106 ∨ K = 104 ∨ K = 119 ∨ K = 118 ∨ K = 117 ∨ K = 101 ∨ K = 100 ∨ K = 114 ∨ K = 110 ∨ K = 107 ∨ K = 122 ∨ K = 113) ∨ (K < 100 ∨ 122 < K) ∨ (K = 102 ∨ K = 103 ∨ K = 105 ∨ K = 108 ∨ K = 109 ∨ K = 111 ∨ K = 112 ∨ K = 116 ∨ K = 121) := by omega
theorem cmd_out {tx : Nat → Nat} {n a : Nat} (h : tx a < 100 ∨ 122 < tx a) : cmd tx n a = (none, a) := by
  unfold cmd
  split <;> first | omega | rfl
theorem runT_stop {tx : Nat → Nat} {n f a s : Nat} {A : Ab} (h : n ≤ a) : runT tx n f a A s = (none, A, s) := by
  cases f with
  | zero => rfl
  | succ f => rw [runT, if_neg (by omega)]
theorem runT_bad {tx : Nat → Nat} {n f a s e : Nat} {A : Ab} (h : a < n) (hc : cmd tx n a = (none, e)) : runT tx n (f + 1) a A s = (some e, A, s) := by rw [runT, if_pos h, hc]
theorem runT_step {tx : Nat → Nat} {n f a s x y z a2 : Nat} {A : Ab} (h : a < n) (hc : cmd tx n a = (some (x, y, z), a2)) : runT tx n (f + 1) a A s = runT tx n f a2 (att A (tx a) (nI x) (nI y) (nI z)).2 (if ob A (tx a) (nI x) (nI y) (nI z) = 0 then s else s + 1) := by rw [runT, if_pos h, hc]
/-- a text that begins with an L and is at the place a, with the error e -/
def TxE (tx : Nat → Nat) (n i a : Nat) (e : Option Nat) : Prop := match e with
  | none => i + 1 ≤ a ∧ ∃ A s, runT tx n 120 1 emptyA 0 = runT tx n (120 - i) a A s
  | some v => v < 2 ^ 31 ∧ (runT tx n 120 1 emptyA 0).1 = some v
theorem runA_L {n : Nat} {tx : Nat → Nat} (h : begB n tx = true) : runA tx n = runT tx n 120 1 emptyA 0 := if_pos (of_decide_eq_true h)
theorem runA_N {n : Nat} {tx : Nat → Nat} (h : begB n tx = false) : runA tx n = (some 0, emptyA, 0) := if_neg (of_decide_eq_false h)
theorem txE_end {tx : Nat → Nat} {n i a : Nat} {e : Option Nat} (h : TxE tx n i a e) (hn : n ≤ 120) (hi : 120 ≤ i ∨ (decide (e = none) && decide (a < n)) = false) : (runT tx n 120 1 emptyA 0).1 = e := by
  cases e with
  | some v => exact h.2
  | none =>
    obtain ⟨h1, A, s, h2⟩ := h
    have : n ≤ a := by
      rcases hi with q | q
      · omega
      · rcases Nat.lt_or_ge a n with z | z
        · simp [z] at q
        · exact z
    rw [h2, runT_stop this]
theorem txE_bad {tx : Nat → Nat} {n i a e : Nat} (h : TxE tx n i a none) (hi : i < 120) (ha : a < n) (hn : n ≤ 120) (hc : cmd tx n a = (none, e)) (he : e < 2 ^ 31) : TxE tx n (i + 1) a (some e) := by
  obtain ⟨h1, A, s, h2⟩ := h
  refine ⟨he, ?_⟩
  rw [h2, show 120 - i = (119 - i) + 1 by omega, runT_bad ha hc]
theorem TxE.some {tx : Nat → Nat} {n i a i2 a2 v : Nat} (h : TxE tx n i a (some v)) : TxE tx n i2 a2 (some v) := h
theorem txE_ok {tx : Nat → Nat} {n i a x y z a2 : Nat} (h : TxE tx n i a none) (hi : i < 120) (ha : a < n) (h2 : a < a2) (hc : cmd tx n a = (some (x, y, z), a2)) : TxE tx n (i + 1) a2 none := by
  obtain ⟨h1, A, s, h3⟩ := h
  exact ⟨by omega, _, _, h3.trans ((congrArg (fun q => runT tx n q a A s) (show 120 - i = (120 - (i + 1)) + 1 by omega)).trans (runT_step ha hc))⟩
theorem fig2_le {tx : Nat → Nat} {n lo hi : Nat} {us : List Nat} {v a : Nat} (h : a ≤ n) : (fig tx n lo hi us v a).2 ≤ n := (fig_le us v a h).2
theorem fone_le {r : Option Nat × Nat} {n : Nat} (h : r.2 ≤ n) : (fone r).2 ≤ n := by
  obtain ⟨o, p⟩ := r
  cases o <;> exact h
theorem ftwo_le {r : Option Nat × Nat} {g : Nat → Option Nat × Nat} {n : Nat} (h : r.2 ≤ n) (hg : ∀ p, p ≤ n → (g p).2 ≤ n) : (ftwo r g).2 ≤ n := by
  obtain ⟨o, p⟩ := r
  cases o with
  | none => exact h
  | some x =>
    have h2 := hg p h
    rcases e : g p with ⟨o2, p2⟩
    rw [e] at h2
    unfold ftwo
    dsimp only
    rw [e]
    cases o2 <;> exact h2
theorem fthr_le {r : Option Nat × Nat} {g k : Nat → Option Nat × Nat} {n : Nat} (h : r.2 ≤ n) (hg : ∀ p, p ≤ n → (g p).2 ≤ n) (hk : ∀ p, p ≤ n → (k p).2 ≤ n) : (fthr r g k).2 ≤ n := by
  obtain ⟨o, p⟩ := r
  cases o with
  | none => exact h
  | some x =>
    have h2 := hg p h
    rcases e : g p with ⟨o2, p2⟩
    rw [e] at h2
    unfold fthr
    dsimp only
    rw [e]
    cases o2 with
    | none => exact h2
    | some y =>
      have h3 := hk p2 h2
      rcases e3 : k p2 with ⟨o3, p3⟩
      rw [e3] at h3
      dsimp only
      rw [e3]
      cases o3 <;> exact h3
theorem cmd_le {tx : Nat → Nat} {n a e : Nat} (h : cmd tx n a = (none, e)) (ha : a < n) : e ≤ n := by
  have h2 : (cmd tx n a).2 ≤ n := by
    have hL : ∀ p, p ≤ n → (fL tx n p).2 ≤ n := fun p hp => fig2_le hp
    have hR : (fR tx n (a + 1)).2 ≤ n := fig2_le ha
    unfold cmd
    split <;> first | exact fone_le (hL _ ha) | exact fone_le hR | exact ftwo_le (hL _ ha) hL | exact ftwo_le (fig2_le ha) (fun p hp => fig2_le hp) | exact ftwo_le (hL _ ha) (fun p hp => fig2_le hp) | exact ftwo_le hR (fun p hp => fig2_le hp) | exact fthr_le (hL _ ha) (fun p hp => fig2_le hp) (fun p hp => fig2_le hp) | (show _ ≤ n; omega)
  rw [h] at h2
  exact h2
theorem cmd_lt {tx : Nat → Nat} {n a e : Nat} (h : cmd tx n a = (none, e)) (ha : a < n) (hn : n ≤ 120) : e < 2 ^ 31 := Nat.lt_of_le_of_lt (cmd_le h ha) (by omega)
theorem fe_end {tx : Nat → Nat} {n i a : Nat} {e : Option Nat} (hT : begB n tx = true → TxE tx n i a e) (hF : begB n tx = false → e = some 0) (hn : n ≤ 120) (hi : 120 ≤ i ∨ (decide (e = none) && decide (a < n)) = false) : oI e = oI (runA tx n).1 := by
  cases hb : begB n tx with
  | false => rw [hF hb, runA_N hb]
  | true => rw [runA_L hb, txE_end (hT hb) hn hi]
set_option maxRecDepth 100000 in
set_option maxHeartbeats 800000 in
theorem c_takeList (l : Launch) (G : Gl) (σ : Sg) (n : Nat) (tx : Nat → Nat) (ht : TextC n tx σ) (a : Nat) (ha : a ≤ n) (k : Int32) (nu : Nat → Int32) (i : Nat) (hi3 : i < 3) : Cv l yX4_takeList cX4_takeList 2 ({ frames := 2, cells := 0, slots := 0, locals := 69 } : Room) G [.ref (G.2.1 + 1), .int (nI i)] (tB σ (nI a) (-1) k nu) (fun σ2 => ∃ nu2, σ2 = tB σ (nI (fL tx n a).2) (erV (fL tx n a)) k nu2 ∧ ∀ v, (fL tx n a).1 = some v → nu2 = upd nu i (nI v)) := by
  refine Cv_of (own := RX4) rfl (by decide +kernel) (lo := [(0, .ref (G.2.1 + 1)), (1, .int (nI i))]) rfl (Nat.le_of_ble_eq_true rfl) ?_
  intro x Q hxl h hret
  subst hxl
  have hn9 := ht.1.1
  refine r_aload_n (pc := 0) h 0 rfl rfl dX4_takeList_0 ?_
  refine r_iload_n (pc := 1) h 1 rfl rfl dX4_takeList_1 ?_
  refine r_iconst (pc := 2) (v := nI 2) h (by decide) dX4_takeList_2 ?_
  refine r_iconst (pc := 3) (v := nI 0) h (by decide) dX4_takeList_3 ?_
  refine r_bipush (pc := 4) (v := nI 11) h (by decide) dX4_takeList_4 ?_
  refine r_cVv (pc := 6) (As := [.int (nI i), .int (nI 2), .int (nI 0), .int (nI 11)]) (st := []) h lk_RX4_42 (c_takeNumber2 x.2.1 G σ n tx ht a ha k nu i 0 11 hi3 (by decide) (by decide)) rc_4 (by decide) rfl rfl (by first | decide | exact Nat.le_of_ble_eq_true rfl) (by decide) dX4_takeList_6 (fun s2 q3 => ?_)
  exact hret _ (q3) 9 _ dX4_takeList_9

set_option maxRecDepth 100000 in
set_option maxHeartbeats 800000 in
theorem c_takeListE (l : Launch) (G : Gl) (σ : Sg) (n : Nat) (tx : Nat → Nat) (ht : TextC n tx σ) (a p : Nat) (hp : p < 2 ^ 31) (k : Int32) (nu : Nat → Int32) (i : Nat) (hi3 : i < 3) : Cv l yX4_takeList cX4_takeList 2 ({ frames := 2, cells := 0, slots := 0, locals := 69 } : Room) G [.ref (G.2.1 + 1), .int (nI i)] (tB σ (nI a) (nI p) k nu) (fun σ2 => σ2 = tB σ (nI a) (nI p) k (upd nu i (nI 0))) := by
  refine Cv_of (own := RX4) rfl (by decide +kernel) (lo := [(0, .ref (G.2.1 + 1)), (1, .int (nI i))]) rfl (Nat.le_of_ble_eq_true rfl) ?_
  intro x Q hxl h hret
  subst hxl
  have hn9 := ht.1.1
  refine r_aload_n (pc := 0) h 0 rfl rfl dX4_takeList_0 ?_
  refine r_iload_n (pc := 1) h 1 rfl rfl dX4_takeList_1 ?_
  refine r_iconst (pc := 2) (v := nI 2) h (by decide) dX4_takeList_2 ?_
  refine r_iconst (pc := 3) (v := nI 0) h (by decide) dX4_takeList_3 ?_
  refine r_bipush (pc := 4) (v := nI 11) h (by decide) dX4_takeList_4 ?_
  refine r_cVv (pc := 6) (As := [.int (nI i), .int (nI 2), .int (nI 0), .int (nI 11)]) (st := []) h lk_RX4_42 (c_takeNumberE2 x.2.1 G σ n tx ht a p hp k nu i 0 11 hi3) rc_4 (by decide) rfl rfl (by first | decide | exact Nat.le_of_ble_eq_true rfl) (by decide) dX4_takeList_6 (fun s2 q3 => ?_)
  exact hret _ (q3) 9 _ dX4_takeList_9

set_option maxRecDepth 100000 in
set_option maxHeartbeats 800000 in
theorem c_takeReader (l : Launch) (G : Gl) (σ : Sg) (n : Nat) (tx : Nat → Nat) (ht : TextC n tx σ) (a : Nat) (ha : a ≤ n) (k : Int32) (nu : Nat → Int32) (i : Nat) (hi3 : i < 3) : Cv l yX4_takeReader cX4_takeReader 2 ({ frames := 2, cells := 0, slots := 0, locals := 69 } : Room) G [.ref (G.2.1 + 1), .int (nI i)] (tB σ (nI a) (-1) k nu) (fun σ2 => ∃ nu2, σ2 = tB σ (nI (fR tx n a).2) (erV (fR tx n a)) k nu2 ∧ ∀ v, (fR tx n a).1 = some v → nu2 = upd nu i (nI v)) := by
  refine Cv_of (own := RX4) rfl (by decide +kernel) (lo := [(0, .ref (G.2.1 + 1)), (1, .int (nI i))]) rfl (Nat.le_of_ble_eq_true rfl) ?_
  intro x Q hxl h hret
  subst hxl
  have hn9 := ht.1.1
  refine r_aload_n (pc := 0) h 0 rfl rfl dX4_takeReader_0 ?_
  refine r_iload_n (pc := 1) h 1 rfl rfl dX4_takeReader_1 ?_
  refine r_iconst (pc := 2) (v := nI 1) h (by decide) dX4_takeReader_2 ?_
  refine r_iconst (pc := 3) (v := nI 0) h (by decide) dX4_takeReader_3 ?_
  refine r_iconst (pc := 4) (v := nI 3) h (by decide) dX4_takeReader_4 ?_
  refine r_cVv (pc := 5) (As := [.int (nI i), .int (nI 1), .int (nI 0), .int (nI 3)]) (st := []) h lk_RX4_42 (c_takeNumber1 x.2.1 G σ n tx ht a ha k nu i 0 3 hi3 (by decide) (by decide)) rc_4 (by decide) rfl rfl (by first | decide | exact Nat.le_of_ble_eq_true rfl) (by decide) dX4_takeReader_5 (fun s2 q3 => ?_)
  exact hret _ (q3) 8 _ dX4_takeReader_8

set_option maxRecDepth 100000 in
set_option maxHeartbeats 800000 in
theorem c_takeReaderE (l : Launch) (G : Gl) (σ : Sg) (n : Nat) (tx : Nat → Nat) (ht : TextC n tx σ) (a p : Nat) (hp : p < 2 ^ 31) (k : Int32) (nu : Nat → Int32) (i : Nat) (hi3 : i < 3) : Cv l yX4_takeReader cX4_takeReader 2 ({ frames := 2, cells := 0, slots := 0, locals := 69 } : Room) G [.ref (G.2.1 + 1), .int (nI i)] (tB σ (nI a) (nI p) k nu) (fun σ2 => σ2 = tB σ (nI a) (nI p) k (upd nu i (nI 0))) := by
  refine Cv_of (own := RX4) rfl (by decide +kernel) (lo := [(0, .ref (G.2.1 + 1)), (1, .int (nI i))]) rfl (Nat.le_of_ble_eq_true rfl) ?_
  intro x Q hxl h hret
  subst hxl
  have hn9 := ht.1.1
  refine r_aload_n (pc := 0) h 0 rfl rfl dX4_takeReader_0 ?_
  refine r_iload_n (pc := 1) h 1 rfl rfl dX4_takeReader_1 ?_
  refine r_iconst (pc := 2) (v := nI 1) h (by decide) dX4_takeReader_2 ?_
  refine r_iconst (pc := 3) (v := nI 0) h (by decide) dX4_takeReader_3 ?_
  refine r_iconst (pc := 4) (v := nI 3) h (by decide) dX4_takeReader_4 ?_
  refine r_cVv (pc := 5) (As := [.int (nI i), .int (nI 1), .int (nI 0), .int (nI 3)]) (st := []) h lk_RX4_42 (c_takeNumberE1 x.2.1 G σ n tx ht a p hp k nu i 0 3 hi3) rc_4 (by decide) rfl rfl (by first | decide | exact Nat.le_of_ble_eq_true rfl) (by decide) dX4_takeReader_5 (fun s2 q3 => ?_)
  exact hret _ (q3) 8 _ dX4_takeReader_8

set_option maxRecDepth 100000 in
set_option maxHeartbeats 800000 in
theorem c_takeCommand (l : Launch) (G : Gl) (σ : Sg) (n : Nat) (tx : Nat → Nat) (ht : TextC n tx σ) (a : Nat) (ha1 : a < n) (k : Int32) (nu : Nat → Int32) : Cv l yX4_takeCommand cX4_takeCommand 2 ({ frames := 3, cells := 0, slots := 0, locals := 90 } : Room) G [.ref (G.2.1 + 1)] (tB σ (nI a) (-1) k nu) (fun σ2 => (∀ e, cmd tx n a = (none, e) → ∃ (a2 : Nat) (k2 : Int32) (nu2 : Nat → Int32), a2 ≤ n ∧ σ2 = tB σ (nI a2) (nI e) k2 nu2) ∧ (∀ x y z a2, cmd tx n a = (some (x, y, z), a2) → ∃ nu2, a < a2 ∧ a2 ≤ n ∧ σ2 = tB σ (nI a2) (-1) (nI (tx a)) nu2 ∧ nu2 0 = nI x ∧ nu2 1 = nI y ∧ nu2 2 = nI z)) := by
  refine Cv_of (own := RX4) rfl (by decide +kernel) (lo := [(0, .ref (G.2.1 + 1))]) rfl (Nat.le_of_ble_eq_true rfl) ?_
  intro x Q hxl h hret
  subst hxl
  have hn9 := ht.1.1
  refine r_iconst (pc := 0) (v := nI 0) h (by decide) dX4_takeCommand_0 ?_
  refine r_istore_n (pc := 1) (lo2 := [(1, .int (nI 0)), (0, .ref (G.2.1 + 1))]) h rfl (by decide) rfl dX4_takeCommand_1 ?_
  refine r_iload_n (pc := 2) h 0 rfl rfl dX4_takeCommand_2 ?_
  refine r_aload_n (pc := 3) h 1 rfl rfl dX4_takeCommand_3 ?_
  refine g_4_numbers (pc := 4) h mw_2_8 dX4_takeCommand_4 ?_
  refine r_alenA (pc := 7) (v := nI 3) h a_nu (by decide) dX4_takeCommand_7 ?_
  refine r_icmp_ge (pc := 8) (tgt := 24) h (by decide) dX4_takeCommand_8 (fun c8 => absurd c8 (by decide)) (fun _ => ?_)
  refine r_aload_n (pc := 11) h 1 rfl rfl dX4_takeCommand_11 ?_
  refine g_4_numbers (pc := 12) h mw_2_8 dX4_takeCommand_12 ?_
  refine r_iload_n (pc := 15) h 0 rfl rfl dX4_takeCommand_15 ?_
  refine r_iconst (pc := 16) (v := nI 0) h (by decide) dX4_takeCommand_16 ?_
  refine r_iast (pc := 17) (w := nI 0) h a_nu 0 rfl (by omega) rfl dX4_takeCommand_17 ?_
  refine V.sg (tB_sn _ _ _ _ _ _ _) ?_
  refine r_iinc (pc := 18) (v := nI 1) (lo2 := [(1, .int (nI 1)), (0, .ref (G.2.1 + 1))]) h 0 rfl (by decide) (by decide) rfl dX4_takeCommand_18 ?_
  refine r_goto (pc := 21) (tgt := 2) h (by decide) dX4_takeCommand_21 ?_
  refine r_iload_n (pc := 2) h 0 rfl rfl dX4_takeCommand_2 ?_
  refine r_aload_n (pc := 3) h 1 rfl rfl dX4_takeCommand_3 ?_
  refine g_4_numbers (pc := 4) h mw_2_8 dX4_takeCommand_4 ?_
  refine r_alenA (pc := 7) (v := nI 3) h a_nu (by decide) dX4_takeCommand_7 ?_
  refine r_icmp_ge (pc := 8) (tgt := 24) h (by decide) dX4_takeCommand_8 (fun c8 => absurd c8 (by decide)) (fun _ => ?_)
  refine r_aload_n (pc := 11) h 1 rfl rfl dX4_takeCommand_11 ?_
  refine g_4_numbers (pc := 12) h mw_2_8 dX4_takeCommand_12 ?_
  refine r_iload_n (pc := 15) h 0 rfl rfl dX4_takeCommand_15 ?_
  refine r_iconst (pc := 16) (v := nI 0) h (by decide) dX4_takeCommand_16 ?_
  refine r_iast (pc := 17) (w := nI 0) h a_nu 1 rfl (by omega) rfl dX4_takeCommand_17 ?_
  refine V.sg (tB_sn _ _ _ _ _ _ _) ?_
  refine r_iinc (pc := 18) (v := nI 2) (lo2 := [(1, .int (nI 2)), (0, .ref (G.2.1 + 1))]) h 0 rfl (by decide) (by decide) rfl dX4_takeCommand_18 ?_
  refine r_goto (pc := 21) (tgt := 2) h (by decide) dX4_takeCommand_21 ?_
  refine r_iload_n (pc := 2) h 0 rfl rfl dX4_takeCommand_2 ?_
  refine r_aload_n (pc := 3) h 1 rfl rfl dX4_takeCommand_3 ?_
  refine g_4_numbers (pc := 4) h mw_2_8 dX4_takeCommand_4 ?_
  refine r_alenA (pc := 7) (v := nI 3) h a_nu (by decide) dX4_takeCommand_7 ?_
  refine r_icmp_ge (pc := 8) (tgt := 24) h (by decide) dX4_takeCommand_8 (fun c8 => absurd c8 (by decide)) (fun _ => ?_)
  refine r_aload_n (pc := 11) h 1 rfl rfl dX4_takeCommand_11 ?_
  refine g_4_numbers (pc := 12) h mw_2_8 dX4_takeCommand_12 ?_
  refine r_iload_n (pc := 15) h 0 rfl rfl dX4_takeCommand_15 ?_
  refine r_iconst (pc := 16) (v := nI 0) h (by decide) dX4_takeCommand_16 ?_
  refine r_iast (pc := 17) (w := nI 0) h a_nu 2 rfl (by omega) rfl dX4_takeCommand_17 ?_
  refine V.sg (tB_sn _ _ _ _ _ _ _) ?_
  refine r_iinc (pc := 18) (v := nI 3) (lo2 := [(1, .int (nI 3)), (0, .ref (G.2.1 + 1))]) h 0 rfl (by decide) (by decide) rfl dX4_takeCommand_18 ?_
  refine r_goto (pc := 21) (tgt := 2) h (by decide) dX4_takeCommand_21 ?_
  refine r_iload_n (pc := 2) h 0 rfl rfl dX4_takeCommand_2 ?_
  refine r_aload_n (pc := 3) h 1 rfl rfl dX4_takeCommand_3 ?_
  refine g_4_numbers (pc := 4) h mw_2_8 dX4_takeCommand_4 ?_
  refine r_alenA (pc := 7) (v := nI 3) h a_nu (by decide) dX4_takeCommand_7 ?_
  refine r_icmp_ge (pc := 8) (tgt := 24) h (by decide) dX4_takeCommand_8 (fun _ => ?_) (fun c8 => absurd c8 (by decide))
  refine r_aload_n (pc := 24) h 1 rfl rfl dX4_takeCommand_24 ?_
  refine r_aload_n (pc := 25) h 1 rfl rfl dX4_takeCommand_25 ?_
  refine g_4_signs (pc := 26) h mw_2_6 dX4_takeCommand_26 ?_
  refine r_aload_n (pc := 29) h 1 rfl rfl dX4_takeCommand_29 ?_
  refine g_4_at (pc := 30) h mw_5_17 dX4_takeCommand_30 ?_
  refine r_topi (b := nI a) (tB_a _ _ _ _ _) ?_
  refine r_cald (pc := 33) h a_sg a rfl (by omega) dX4_takeCommand_33 ?_
  refine r_topi (b := nI (tx a)) ((tB_s _ _ _ _ _ _).trans (ht.2 a (by omega)).1) ?_
  have t33 := (ht.2 a (by omega)).2
  refine p_4_kind (pc := 34) h mw_6_2 dX4_takeCommand_34 ?_
  refine V.sg (tB_sk _ _ _ _ _ _) ?_
  refine r_aload_n (pc := 37) h 1 rfl rfl dX4_takeCommand_37 ?_
  refine r_dup (pc := 38) h rfl dX4_takeCommand_38 ?_
  refine g_4_at (pc := 39) h mw_5_17 dX4_takeCommand_39 ?_
  refine r_topi (b := nI a) (tB_a _ _ _ _ _) ?_
  refine r_iconst (pc := 42) (v := nI 1) h (by decide) dX4_takeCommand_42 ?_
  refine r_iadd (pc := 43) (v := nI (a + 1)) h (nI_add _ _) dX4_takeCommand_43 ?_
  refine p_4_at (pc := 44) h mw_5_17 dX4_takeCommand_44 ?_
  refine V.sg (tB_sa _ _ _ _ _ _) ?_
  refine r_aload_n (pc := 47) h 1 rfl rfl dX4_takeCommand_47 ?_
  refine g_4_kind (pc := 48) h mw_6_2 dX4_takeCommand_48 ?_
  refine r_topi (b := nI (tx a)) (tB_k _ _ _ _ _) ?_
  rcases k_cases (tx a) t33 with hK | hK | hK
  · skip
    rcases hK with hK | hK | hK | hK | hK | hK | hK | hK | hK | hK | hK | hK | hK | hK
    · skip
      refine r_topi (b := nI 115) (congrArg nI hK) ?_
      refine r_tabIn (pc := 51) (off := 105) (tgt := 156) h (by decide) (by decide) (by decide) (by decide) dX4_takeCommand_51 ?_
      refine r_aload_n (pc := 156) h 1 rfl rfl dX4_takeCommand_156 ?_
      refine r_iconst (pc := 157) (v := nI 0) h (by decide) dX4_takeCommand_157 ?_
      refine r_iconst (pc := 158) (v := nI 3) h (by decide) dX4_takeCommand_158 ?_
      refine r_iconst (pc := 159) (v := nI 0) h (by decide) dX4_takeCommand_159 ?_
      refine r_sipush (pc := 160) (v := nI 999) h (by decide) dX4_takeCommand_160 ?_
      refine r_cVv (pc := 163) (As := [.int (nI 0), .int (nI 3), .int (nI 0), .int (nI 999)]) (st := []) h lk_RX4_42 (c_takeNumber3 x.2.1 G σ n tx ht (a + 1) (by omega) (nI (tx a)) (upd (upd (upd nu 0 (nI 0)) 1 (nI 0)) 2 (nI 0)) 0 0 999 (by decide) (by decide) (by decide)) rc_4 (by decide) rfl rfl (by first | decide | exact Nat.le_of_ble_eq_true rfl) (by decide) dX4_takeCommand_163 (fun s3 q4 => ?_)
      obtain ⟨nu1, enu1, knu1⟩ := q4
      subst enu1
      obtain ⟨o1, p1, hf1⟩ : ∃ o p, fig tx n 0 999 [100, 10, 1] 0 (a + 1) = (o, p) := ⟨_, _, rfl⟩
      have b1 : a + 1 ≤ (fig tx n 0 999 [100, 10, 1] 0 (a + 1)).2 ∧ (fig tx n 0 999 [100, 10, 1] 0 (a + 1)).2 ≤ n := fig_le _ _ _ (by omega)
      rw [hf1] at b1 knu1 ⊢
      dsimp only at b1 knu1
      cases o1 with
      | none =>
        refine V.sg (show _ = tB σ (nI p1) (nI p1) (nI (tx a)) nu1 from rfl) ?_
        refine r_aload_n (pc := 166) h 1 rfl rfl dX4_takeCommand_166 ?_
        refine r_iconst (pc := 167) (v := nI 1) h (by decide) dX4_takeCommand_167 ?_
        refine r_iconst (pc := 168) (v := nI 2) h (by decide) dX4_takeCommand_168 ?_
        refine r_iconst (pc := 169) (v := nI 1) h (by decide) dX4_takeCommand_169 ?_
        refine r_bipush (pc := 170) (v := nI 99) h (by decide) dX4_takeCommand_170 ?_
        refine r_cVv (pc := 172) (As := [.int (nI 1), .int (nI 2), .int (nI 1), .int (nI 99)]) (st := []) h lk_RX4_42 (c_takeNumberE2 x.2.1 G σ n tx ht p1 p1 (by omega) (nI (tx a)) nu1 1 1 99 (by decide)) rc_4 (by decide) rfl rfl (by first | decide | exact Nat.le_of_ble_eq_true rfl) (by decide) dX4_takeCommand_172 (fun s6 q7 => ?_)
        subst q7
        refine r_goto (pc := 175) (tgt := 280) h (by decide) dX4_takeCommand_175 ?_
        have ec : cmd tx n a = (none, p1) := by
          unfold cmd
          rw [hK]
          simp only [fone, ftwo, fthr, hf1]
        exact hret _ (⟨fun e he => (by rw [ec] at he; cases he; exact ⟨_, _, _, (by omega : p1 ≤ n), rfl⟩), fun x y z a2 he => (by rw [ec] at he; cases he)⟩) 280 _ dX4_takeCommand_280
      | some x1 =>
        obtain rfl := knu1 x1 rfl
        refine V.sg (show _ = tB σ (nI p1) (-1) (nI (tx a)) (upd (upd (upd (upd nu 0 (nI 0)) 1 (nI 0)) 2 (nI 0)) 0 (nI x1)) from rfl) ?_
        refine r_aload_n (pc := 166) h 1 rfl rfl dX4_takeCommand_166 ?_
        refine r_iconst (pc := 167) (v := nI 1) h (by decide) dX4_takeCommand_167 ?_
        refine r_iconst (pc := 168) (v := nI 2) h (by decide) dX4_takeCommand_168 ?_
        refine r_iconst (pc := 169) (v := nI 1) h (by decide) dX4_takeCommand_169 ?_
        refine r_bipush (pc := 170) (v := nI 99) h (by decide) dX4_takeCommand_170 ?_
        refine r_cVv (pc := 172) (As := [.int (nI 1), .int (nI 2), .int (nI 1), .int (nI 99)]) (st := []) h lk_RX4_42 (c_takeNumber2 x.2.1 G σ n tx ht p1 (by omega) (nI (tx a)) (upd (upd (upd (upd nu 0 (nI 0)) 1 (nI 0)) 2 (nI 0)) 0 (nI x1)) 1 1 99 (by decide) (by decide) (by decide)) rc_4 (by decide) rfl rfl (by first | decide | exact Nat.le_of_ble_eq_true rfl) (by decide) dX4_takeCommand_172 (fun s10 q11 => ?_)
        obtain ⟨nu8, enu8, knu8⟩ := q11
        subst enu8
        obtain ⟨o2, p2, hf2⟩ : ∃ o p, fig tx n 1 99 [10, 1] 0 p1 = (o, p) := ⟨_, _, rfl⟩
        have b2 : p1 ≤ (fig tx n 1 99 [10, 1] 0 p1).2 ∧ (fig tx n 1 99 [10, 1] 0 p1).2 ≤ n := fig_le _ _ _ (by omega)
        rw [hf2] at b2 knu8 ⊢
        dsimp only at b2 knu8
        cases o2 with
        | none =>
          refine V.sg (show _ = tB σ (nI p2) (nI p2) (nI (tx a)) nu8 from rfl) ?_
          refine r_goto (pc := 175) (tgt := 280) h (by decide) dX4_takeCommand_175 ?_
          have ec : cmd tx n a = (none, p2) := by
            unfold cmd
            rw [hK]
            simp only [fone, ftwo, fthr, hf1, hf2]
          exact hret _ (⟨fun e he => (by rw [ec] at he; cases he; exact ⟨_, _, _, (by omega : p2 ≤ n), rfl⟩), fun x y z a2 he => (by rw [ec] at he; cases he)⟩) 280 _ dX4_takeCommand_280
        | some x2 =>
          obtain rfl := knu8 x2 rfl
          refine V.sg (show _ = tB σ (nI p2) (-1) (nI (tx a)) (upd (upd (upd (upd (upd nu 0 (nI 0)) 1 (nI 0)) 2 (nI 0)) 0 (nI x1)) 1 (nI x2)) from rfl) ?_
          refine r_goto (pc := 175) (tgt := 280) h (by decide) dX4_takeCommand_175 ?_
          have ec : cmd tx n a = (some (x1, x2, 0), p2) := by
            unfold cmd
            rw [hK]
            simp only [fone, ftwo, fthr, hf1, hf2]
          exact hret _ (⟨fun e he => (by rw [ec] at he; cases he), fun x y z a2 he => (by rw [ec] at he; cases he; exact ⟨_, (by omega), (by omega), rfl, rfl, rfl, rfl⟩)⟩) 280 _ dX4_takeCommand_280
    · skip
      refine r_topi (b := nI 120) (congrArg nI hK) ?_
      refine r_tabIn (pc := 51) (off := 127) (tgt := 178) h (by decide) (by decide) (by decide) (by decide) dX4_takeCommand_51 ?_
      refine r_aload_n (pc := 178) h 1 rfl rfl dX4_takeCommand_178 ?_
      refine r_iconst (pc := 179) (v := nI 0) h (by decide) dX4_takeCommand_179 ?_
      refine r_cVv (pc := 180) (As := [.int (nI 0)]) (st := []) h lk_RX4_46 (c_takeList x.2.1 G σ n tx ht (a + 1) (by omega) (nI (tx a)) (upd (upd (upd nu 0 (nI 0)) 1 (nI 0)) 2 (nI 0)) 0 (by decide)) rc_4 (by decide) rfl rfl (by first | decide | exact Nat.le_of_ble_eq_true rfl) (by decide) dX4_takeCommand_180 (fun s14 q15 => ?_)
      obtain ⟨nu12, enu12, knu12⟩ := q15
      subst enu12
      obtain ⟨o1, p1, hf1⟩ : ∃ o p, fL tx n (a + 1) = (o, p) := ⟨_, _, rfl⟩
      have b1 : a + 1 ≤ (fL tx n (a + 1)).2 ∧ (fL tx n (a + 1)).2 ≤ n := fig_le _ _ _ (by omega)
      rw [hf1] at b1 knu12 ⊢
      dsimp only at b1 knu12
      cases o1 with
      | none =>
        refine V.sg (show _ = tB σ (nI p1) (nI p1) (nI (tx a)) nu12 from rfl) ?_
        refine r_aload_n (pc := 183) h 1 rfl rfl dX4_takeCommand_183 ?_
        refine r_iconst (pc := 184) (v := nI 1) h (by decide) dX4_takeCommand_184 ?_
        refine r_iconst (pc := 185) (v := nI 1) h (by decide) dX4_takeCommand_185 ?_
        refine r_iconst (pc := 186) (v := nI 1) h (by decide) dX4_takeCommand_186 ?_
        refine r_bipush (pc := 187) (v := nI 9) h (by decide) dX4_takeCommand_187 ?_
        refine r_cVv (pc := 189) (As := [.int (nI 1), .int (nI 1), .int (nI 1), .int (nI 9)]) (st := []) h lk_RX4_42 (c_takeNumberE1 x.2.1 G σ n tx ht p1 p1 (by omega) (nI (tx a)) nu12 1 1 9 (by decide)) rc_4 (by decide) rfl rfl (by first | decide | exact Nat.le_of_ble_eq_true rfl) (by decide) dX4_takeCommand_189 (fun s17 q18 => ?_)
        subst q18
        refine r_aload_n (pc := 192) h 1 rfl rfl dX4_takeCommand_192 ?_
        refine r_iconst (pc := 193) (v := nI 2) h (by decide) dX4_takeCommand_193 ?_
        refine r_iconst (pc := 194) (v := nI 2) h (by decide) dX4_takeCommand_194 ?_
        refine r_iconst (pc := 195) (v := nI 0) h (by decide) dX4_takeCommand_195 ?_
        refine r_bipush (pc := 196) (v := nI 99) h (by decide) dX4_takeCommand_196 ?_
        refine r_cVv (pc := 198) (As := [.int (nI 2), .int (nI 2), .int (nI 0), .int (nI 99)]) (st := []) h lk_RX4_42 (c_takeNumberE2 x.2.1 G σ n tx ht p1 p1 (by omega) (nI (tx a)) (upd nu12 1 (nI 0)) 2 0 99 (by decide)) rc_4 (by decide) rfl rfl (by first | decide | exact Nat.le_of_ble_eq_true rfl) (by decide) dX4_takeCommand_198 (fun s20 q21 => ?_)
        subst q21
        refine r_goto (pc := 201) (tgt := 280) h (by decide) dX4_takeCommand_201 ?_
        have ec : cmd tx n a = (none, p1) := by
          unfold cmd
          rw [hK]
          simp only [fone, ftwo, fthr, hf1]
        exact hret _ (⟨fun e he => (by rw [ec] at he; cases he; exact ⟨_, _, _, (by omega : p1 ≤ n), rfl⟩), fun x y z a2 he => (by rw [ec] at he; cases he)⟩) 280 _ dX4_takeCommand_280
      | some x1 =>
        obtain rfl := knu12 x1 rfl
        refine V.sg (show _ = tB σ (nI p1) (-1) (nI (tx a)) (upd (upd (upd (upd nu 0 (nI 0)) 1 (nI 0)) 2 (nI 0)) 0 (nI x1)) from rfl) ?_
        refine r_aload_n (pc := 183) h 1 rfl rfl dX4_takeCommand_183 ?_
        refine r_iconst (pc := 184) (v := nI 1) h (by decide) dX4_takeCommand_184 ?_
        refine r_iconst (pc := 185) (v := nI 1) h (by decide) dX4_takeCommand_185 ?_
        refine r_iconst (pc := 186) (v := nI 1) h (by decide) dX4_takeCommand_186 ?_
        refine r_bipush (pc := 187) (v := nI 9) h (by decide) dX4_takeCommand_187 ?_
        refine r_cVv (pc := 189) (As := [.int (nI 1), .int (nI 1), .int (nI 1), .int (nI 9)]) (st := []) h lk_RX4_42 (c_takeNumber1 x.2.1 G σ n tx ht p1 (by omega) (nI (tx a)) (upd (upd (upd (upd nu 0 (nI 0)) 1 (nI 0)) 2 (nI 0)) 0 (nI x1)) 1 1 9 (by decide) (by decide) (by decide)) rc_4 (by decide) rfl rfl (by first | decide | exact Nat.le_of_ble_eq_true rfl) (by decide) dX4_takeCommand_189 (fun s24 q25 => ?_)
        obtain ⟨nu22, enu22, knu22⟩ := q25
        subst enu22
        obtain ⟨o2, p2, hf2⟩ : ∃ o p, fig tx n 1 9 [1] 0 p1 = (o, p) := ⟨_, _, rfl⟩
        have b2 : p1 ≤ (fig tx n 1 9 [1] 0 p1).2 ∧ (fig tx n 1 9 [1] 0 p1).2 ≤ n := fig_le _ _ _ (by omega)
        rw [hf2] at b2 knu22 ⊢
        dsimp only at b2 knu22
        cases o2 with
        | none =>
          refine V.sg (show _ = tB σ (nI p2) (nI p2) (nI (tx a)) nu22 from rfl) ?_
          refine r_aload_n (pc := 192) h 1 rfl rfl dX4_takeCommand_192 ?_
          refine r_iconst (pc := 193) (v := nI 2) h (by decide) dX4_takeCommand_193 ?_
          refine r_iconst (pc := 194) (v := nI 2) h (by decide) dX4_takeCommand_194 ?_
          refine r_iconst (pc := 195) (v := nI 0) h (by decide) dX4_takeCommand_195 ?_
          refine r_bipush (pc := 196) (v := nI 99) h (by decide) dX4_takeCommand_196 ?_
          refine r_cVv (pc := 198) (As := [.int (nI 2), .int (nI 2), .int (nI 0), .int (nI 99)]) (st := []) h lk_RX4_42 (c_takeNumberE2 x.2.1 G σ n tx ht p2 p2 (by omega) (nI (tx a)) nu22 2 0 99 (by decide)) rc_4 (by decide) rfl rfl (by first | decide | exact Nat.le_of_ble_eq_true rfl) (by decide) dX4_takeCommand_198 (fun s27 q28 => ?_)
          subst q28
          refine r_goto (pc := 201) (tgt := 280) h (by decide) dX4_takeCommand_201 ?_
          have ec : cmd tx n a = (none, p2) := by
            unfold cmd
            rw [hK]
            simp only [fone, ftwo, fthr, hf1, hf2]
          exact hret _ (⟨fun e he => (by rw [ec] at he; cases he; exact ⟨_, _, _, (by omega : p2 ≤ n), rfl⟩), fun x y z a2 he => (by rw [ec] at he; cases he)⟩) 280 _ dX4_takeCommand_280
        | some x2 =>
          obtain rfl := knu22 x2 rfl
          refine V.sg (show _ = tB σ (nI p2) (-1) (nI (tx a)) (upd (upd (upd (upd (upd nu 0 (nI 0)) 1 (nI 0)) 2 (nI 0)) 0 (nI x1)) 1 (nI x2)) from rfl) ?_
          refine r_aload_n (pc := 192) h 1 rfl rfl dX4_takeCommand_192 ?_
          refine r_iconst (pc := 193) (v := nI 2) h (by decide) dX4_takeCommand_193 ?_
          refine r_iconst (pc := 194) (v := nI 2) h (by decide) dX4_takeCommand_194 ?_
          refine r_iconst (pc := 195) (v := nI 0) h (by decide) dX4_takeCommand_195 ?_
          refine r_bipush (pc := 196) (v := nI 99) h (by decide) dX4_takeCommand_196 ?_
          refine r_cVv (pc := 198) (As := [.int (nI 2), .int (nI 2), .int (nI 0), .int (nI 99)]) (st := []) h lk_RX4_42 (c_takeNumber2 x.2.1 G σ n tx ht p2 (by omega) (nI (tx a)) (upd (upd (upd (upd (upd nu 0 (nI 0)) 1 (nI 0)) 2 (nI 0)) 0 (nI x1)) 1 (nI x2)) 2 0 99 (by decide) (by decide) (by decide)) rc_4 (by decide) rfl rfl (by first | decide | exact Nat.le_of_ble_eq_true rfl) (by decide) dX4_takeCommand_198 (fun s31 q32 => ?_)
          obtain ⟨nu29, enu29, knu29⟩ := q32
          subst enu29
          obtain ⟨o3, p3, hf3⟩ : ∃ o p, fig tx n 0 99 [10, 1] 0 p2 = (o, p) := ⟨_, _, rfl⟩
          have b3 : p2 ≤ (fig tx n 0 99 [10, 1] 0 p2).2 ∧ (fig tx n 0 99 [10, 1] 0 p2).2 ≤ n := fig_le _ _ _ (by omega)
          rw [hf3] at b3 knu29 ⊢
          dsimp only at b3 knu29
          cases o3 with
          | none =>
            refine V.sg (show _ = tB σ (nI p3) (nI p3) (nI (tx a)) nu29 from rfl) ?_
            refine r_goto (pc := 201) (tgt := 280) h (by decide) dX4_takeCommand_201 ?_
            have ec : cmd tx n a = (none, p3) := by
              unfold cmd
              rw [hK]
              simp only [fone, ftwo, fthr, hf1, hf2, hf3]
            exact hret _ (⟨fun e he => (by rw [ec] at he; cases he; exact ⟨_, _, _, (by omega : p3 ≤ n), rfl⟩), fun x y z a2 he => (by rw [ec] at he; cases he)⟩) 280 _ dX4_takeCommand_280
          | some x3 =>
            obtain rfl := knu29 x3 rfl
            refine V.sg (show _ = tB σ (nI p3) (-1) (nI (tx a)) (upd (upd (upd (upd (upd (upd nu 0 (nI 0)) 1 (nI 0)) 2 (nI 0)) 0 (nI x1)) 1 (nI x2)) 2 (nI x3)) from rfl) ?_
            refine r_goto (pc := 201) (tgt := 280) h (by decide) dX4_takeCommand_201 ?_
            have ec : cmd tx n a = (some (x1, x2, x3), p3) := by
              unfold cmd
              rw [hK]
              simp only [fone, ftwo, fthr, hf1, hf2, hf3]
            exact hret _ (⟨fun e he => (by rw [ec] at he; cases he), fun x y z a2 he => (by rw [ec] at he; cases he; exact ⟨_, (by omega), (by omega), rfl, rfl, rfl, rfl⟩)⟩) 280 _ dX4_takeCommand_280
    · skip
      refine r_topi (b := nI 106) (congrArg nI hK) ?_
      refine r_tabIn (pc := 51) (off := 153) (tgt := 204) h (by decide) (by decide) (by decide) (by decide) dX4_takeCommand_51 ?_
      refine r_aload_n (pc := 204) h 1 rfl rfl dX4_takeCommand_204 ?_
      refine r_iconst (pc := 205) (v := nI 0) h (by decide) dX4_takeCommand_205 ?_
      refine r_cVv (pc := 206) (As := [.int (nI 0)]) (st := []) h lk_RX4_46 (c_takeList x.2.1 G σ n tx ht (a + 1) (by omega) (nI (tx a)) (upd (upd (upd nu 0 (nI 0)) 1 (nI 0)) 2 (nI 0)) 0 (by decide)) rc_4 (by decide) rfl rfl (by first | decide | exact Nat.le_of_ble_eq_true rfl) (by decide) dX4_takeCommand_206 (fun s35 q36 => ?_)
      obtain ⟨nu33, enu33, knu33⟩ := q36
      subst enu33
      obtain ⟨o1, p1, hf1⟩ : ∃ o p, fL tx n (a + 1) = (o, p) := ⟨_, _, rfl⟩
      have b1 : a + 1 ≤ (fL tx n (a + 1)).2 ∧ (fL tx n (a + 1)).2 ≤ n := fig_le _ _ _ (by omega)
      rw [hf1] at b1 knu33 ⊢
      dsimp only at b1 knu33
      cases o1 with
      | none =>
        refine V.sg (show _ = tB σ (nI p1) (nI p1) (nI (tx a)) nu33 from rfl) ?_
        refine r_aload_n (pc := 209) h 1 rfl rfl dX4_takeCommand_209 ?_
        refine r_iconst (pc := 210) (v := nI 1) h (by decide) dX4_takeCommand_210 ?_
        refine r_cVv (pc := 211) (As := [.int (nI 1)]) (st := []) h lk_RX4_46 (c_takeListE x.2.1 G σ n tx ht p1 p1 (by omega) (nI (tx a)) nu33 1 (by decide)) rc_4 (by decide) rfl rfl (by first | decide | exact Nat.le_of_ble_eq_true rfl) (by decide) dX4_takeCommand_211 (fun s38 q39 => ?_)
        subst q39
        refine r_goto (pc := 214) (tgt := 280) h (by decide) dX4_takeCommand_214 ?_
        have ec : cmd tx n a = (none, p1) := by
          unfold cmd
          rw [hK]
          simp only [fone, ftwo, fthr, hf1]
        exact hret _ (⟨fun e he => (by rw [ec] at he; cases he; exact ⟨_, _, _, (by omega : p1 ≤ n), rfl⟩), fun x y z a2 he => (by rw [ec] at he; cases he)⟩) 280 _ dX4_takeCommand_280
      | some x1 =>
        obtain rfl := knu33 x1 rfl
        refine V.sg (show _ = tB σ (nI p1) (-1) (nI (tx a)) (upd (upd (upd (upd nu 0 (nI 0)) 1 (nI 0)) 2 (nI 0)) 0 (nI x1)) from rfl) ?_
        refine r_aload_n (pc := 209) h 1 rfl rfl dX4_takeCommand_209 ?_
        refine r_iconst (pc := 210) (v := nI 1) h (by decide) dX4_takeCommand_210 ?_
        refine r_cVv (pc := 211) (As := [.int (nI 1)]) (st := []) h lk_RX4_46 (c_takeList x.2.1 G σ n tx ht p1 (by omega) (nI (tx a)) (upd (upd (upd (upd nu 0 (nI 0)) 1 (nI 0)) 2 (nI 0)) 0 (nI x1)) 1 (by decide)) rc_4 (by decide) rfl rfl (by first | decide | exact Nat.le_of_ble_eq_true rfl) (by decide) dX4_takeCommand_211 (fun s42 q43 => ?_)
        obtain ⟨nu40, enu40, knu40⟩ := q43
        subst enu40
        obtain ⟨o2, p2, hf2⟩ : ∃ o p, fL tx n p1 = (o, p) := ⟨_, _, rfl⟩
        have b2 : p1 ≤ (fL tx n p1).2 ∧ (fL tx n p1).2 ≤ n := fig_le _ _ _ (by omega)
        rw [hf2] at b2 knu40 ⊢
        dsimp only at b2 knu40
        cases o2 with
        | none =>
          refine V.sg (show _ = tB σ (nI p2) (nI p2) (nI (tx a)) nu40 from rfl) ?_
          refine r_goto (pc := 214) (tgt := 280) h (by decide) dX4_takeCommand_214 ?_
          have ec : cmd tx n a = (none, p2) := by
            unfold cmd
            rw [hK]
            simp only [fone, ftwo, fthr, hf1, hf2]
          exact hret _ (⟨fun e he => (by rw [ec] at he; cases he; exact ⟨_, _, _, (by omega : p2 ≤ n), rfl⟩), fun x y z a2 he => (by rw [ec] at he; cases he)⟩) 280 _ dX4_takeCommand_280
        | some x2 =>
          obtain rfl := knu40 x2 rfl
          refine V.sg (show _ = tB σ (nI p2) (-1) (nI (tx a)) (upd (upd (upd (upd (upd nu 0 (nI 0)) 1 (nI 0)) 2 (nI 0)) 0 (nI x1)) 1 (nI x2)) from rfl) ?_
          refine r_goto (pc := 214) (tgt := 280) h (by decide) dX4_takeCommand_214 ?_
          have ec : cmd tx n a = (some (x1, x2, 0), p2) := by
            unfold cmd
            rw [hK]
            simp only [fone, ftwo, fthr, hf1, hf2]
          exact hret _ (⟨fun e he => (by rw [ec] at he; cases he), fun x y z a2 he => (by rw [ec] at he; cases he; exact ⟨_, (by omega), (by omega), rfl, rfl, rfl, rfl⟩)⟩) 280 _ dX4_takeCommand_280
    · skip
      refine r_topi (b := nI 104) (congrArg nI hK) ?_
      refine r_tabIn (pc := 51) (off := 153) (tgt := 204) h (by decide) (by decide) (by decide) (by decide) dX4_takeCommand_51 ?_
      refine r_aload_n (pc := 204) h 1 rfl rfl dX4_takeCommand_204 ?_
      refine r_iconst (pc := 205) (v := nI 0) h (by decide) dX4_takeCommand_205 ?_
      refine r_cVv (pc := 206) (As := [.int (nI 0)]) (st := []) h lk_RX4_46 (c_takeList x.2.1 G σ n tx ht (a + 1) (by omega) (nI (tx a)) (upd (upd (upd nu 0 (nI 0)) 1 (nI 0)) 2 (nI 0)) 0 (by decide)) rc_4 (by decide) rfl rfl (by first | decide | exact Nat.le_of_ble_eq_true rfl) (by decide) dX4_takeCommand_206 (fun s46 q47 => ?_)
      obtain ⟨nu44, enu44, knu44⟩ := q47
      subst enu44
      obtain ⟨o1, p1, hf1⟩ : ∃ o p, fL tx n (a + 1) = (o, p) := ⟨_, _, rfl⟩
      have b1 : a + 1 ≤ (fL tx n (a + 1)).2 ∧ (fL tx n (a + 1)).2 ≤ n := fig_le _ _ _ (by omega)
      rw [hf1] at b1 knu44 ⊢
      dsimp only at b1 knu44
      cases o1 with
      | none =>
        refine V.sg (show _ = tB σ (nI p1) (nI p1) (nI (tx a)) nu44 from rfl) ?_
        refine r_aload_n (pc := 209) h 1 rfl rfl dX4_takeCommand_209 ?_
        refine r_iconst (pc := 210) (v := nI 1) h (by decide) dX4_takeCommand_210 ?_
        refine r_cVv (pc := 211) (As := [.int (nI 1)]) (st := []) h lk_RX4_46 (c_takeListE x.2.1 G σ n tx ht p1 p1 (by omega) (nI (tx a)) nu44 1 (by decide)) rc_4 (by decide) rfl rfl (by first | decide | exact Nat.le_of_ble_eq_true rfl) (by decide) dX4_takeCommand_211 (fun s49 q50 => ?_)
        subst q50
        refine r_goto (pc := 214) (tgt := 280) h (by decide) dX4_takeCommand_214 ?_
        have ec : cmd tx n a = (none, p1) := by
          unfold cmd
          rw [hK]
          simp only [fone, ftwo, fthr, hf1]
        exact hret _ (⟨fun e he => (by rw [ec] at he; cases he; exact ⟨_, _, _, (by omega : p1 ≤ n), rfl⟩), fun x y z a2 he => (by rw [ec] at he; cases he)⟩) 280 _ dX4_takeCommand_280
      | some x1 =>
        obtain rfl := knu44 x1 rfl
        refine V.sg (show _ = tB σ (nI p1) (-1) (nI (tx a)) (upd (upd (upd (upd nu 0 (nI 0)) 1 (nI 0)) 2 (nI 0)) 0 (nI x1)) from rfl) ?_
        refine r_aload_n (pc := 209) h 1 rfl rfl dX4_takeCommand_209 ?_
        refine r_iconst (pc := 210) (v := nI 1) h (by decide) dX4_takeCommand_210 ?_
        refine r_cVv (pc := 211) (As := [.int (nI 1)]) (st := []) h lk_RX4_46 (c_takeList x.2.1 G σ n tx ht p1 (by omega) (nI (tx a)) (upd (upd (upd (upd nu 0 (nI 0)) 1 (nI 0)) 2 (nI 0)) 0 (nI x1)) 1 (by decide)) rc_4 (by decide) rfl rfl (by first | decide | exact Nat.le_of_ble_eq_true rfl) (by decide) dX4_takeCommand_211 (fun s53 q54 => ?_)
        obtain ⟨nu51, enu51, knu51⟩ := q54
        subst enu51
        obtain ⟨o2, p2, hf2⟩ : ∃ o p, fL tx n p1 = (o, p) := ⟨_, _, rfl⟩
        have b2 : p1 ≤ (fL tx n p1).2 ∧ (fL tx n p1).2 ≤ n := fig_le _ _ _ (by omega)
        rw [hf2] at b2 knu51 ⊢
        dsimp only at b2 knu51
        cases o2 with
        | none =>
          refine V.sg (show _ = tB σ (nI p2) (nI p2) (nI (tx a)) nu51 from rfl) ?_
          refine r_goto (pc := 214) (tgt := 280) h (by decide) dX4_takeCommand_214 ?_
          have ec : cmd tx n a = (none, p2) := by
            unfold cmd
            rw [hK]
            simp only [fone, ftwo, fthr, hf1, hf2]
          exact hret _ (⟨fun e he => (by rw [ec] at he; cases he; exact ⟨_, _, _, (by omega : p2 ≤ n), rfl⟩), fun x y z a2 he => (by rw [ec] at he; cases he)⟩) 280 _ dX4_takeCommand_280
        | some x2 =>
          obtain rfl := knu51 x2 rfl
          refine V.sg (show _ = tB σ (nI p2) (-1) (nI (tx a)) (upd (upd (upd (upd (upd nu 0 (nI 0)) 1 (nI 0)) 2 (nI 0)) 0 (nI x1)) 1 (nI x2)) from rfl) ?_
          refine r_goto (pc := 214) (tgt := 280) h (by decide) dX4_takeCommand_214 ?_
          have ec : cmd tx n a = (some (x1, x2, 0), p2) := by
            unfold cmd
            rw [hK]
            simp only [fone, ftwo, fthr, hf1, hf2]
          exact hret _ (⟨fun e he => (by rw [ec] at he; cases he), fun x y z a2 he => (by rw [ec] at he; cases he; exact ⟨_, (by omega), (by omega), rfl, rfl, rfl, rfl⟩)⟩) 280 _ dX4_takeCommand_280
    · skip
      refine r_topi (b := nI 119) (congrArg nI hK) ?_
      refine r_tabIn (pc := 51) (off := 153) (tgt := 204) h (by decide) (by decide) (by decide) (by decide) dX4_takeCommand_51 ?_
      refine r_aload_n (pc := 204) h 1 rfl rfl dX4_takeCommand_204 ?_
      refine r_iconst (pc := 205) (v := nI 0) h (by decide) dX4_takeCommand_205 ?_
      refine r_cVv (pc := 206) (As := [.int (nI 0)]) (st := []) h lk_RX4_46 (c_takeList x.2.1 G σ n tx ht (a + 1) (by omega) (nI (tx a)) (upd (upd (upd nu 0 (nI 0)) 1 (nI 0)) 2 (nI 0)) 0 (by decide)) rc_4 (by decide) rfl rfl (by first | decide | exact Nat.le_of_ble_eq_true rfl) (by decide) dX4_takeCommand_206 (fun s57 q58 => ?_)
      obtain ⟨nu55, enu55, knu55⟩ := q58
      subst enu55
      obtain ⟨o1, p1, hf1⟩ : ∃ o p, fL tx n (a + 1) = (o, p) := ⟨_, _, rfl⟩
      have b1 : a + 1 ≤ (fL tx n (a + 1)).2 ∧ (fL tx n (a + 1)).2 ≤ n := fig_le _ _ _ (by omega)
      rw [hf1] at b1 knu55 ⊢
      dsimp only at b1 knu55
      cases o1 with
      | none =>
        refine V.sg (show _ = tB σ (nI p1) (nI p1) (nI (tx a)) nu55 from rfl) ?_
        refine r_aload_n (pc := 209) h 1 rfl rfl dX4_takeCommand_209 ?_
        refine r_iconst (pc := 210) (v := nI 1) h (by decide) dX4_takeCommand_210 ?_
        refine r_cVv (pc := 211) (As := [.int (nI 1)]) (st := []) h lk_RX4_46 (c_takeListE x.2.1 G σ n tx ht p1 p1 (by omega) (nI (tx a)) nu55 1 (by decide)) rc_4 (by decide) rfl rfl (by first | decide | exact Nat.le_of_ble_eq_true rfl) (by decide) dX4_takeCommand_211 (fun s60 q61 => ?_)
        subst q61
        refine r_goto (pc := 214) (tgt := 280) h (by decide) dX4_takeCommand_214 ?_
        have ec : cmd tx n a = (none, p1) := by
          unfold cmd
          rw [hK]
          simp only [fone, ftwo, fthr, hf1]
        exact hret _ (⟨fun e he => (by rw [ec] at he; cases he; exact ⟨_, _, _, (by omega : p1 ≤ n), rfl⟩), fun x y z a2 he => (by rw [ec] at he; cases he)⟩) 280 _ dX4_takeCommand_280
      | some x1 =>
        obtain rfl := knu55 x1 rfl
        refine V.sg (show _ = tB σ (nI p1) (-1) (nI (tx a)) (upd (upd (upd (upd nu 0 (nI 0)) 1 (nI 0)) 2 (nI 0)) 0 (nI x1)) from rfl) ?_
        refine r_aload_n (pc := 209) h 1 rfl rfl dX4_takeCommand_209 ?_
        refine r_iconst (pc := 210) (v := nI 1) h (by decide) dX4_takeCommand_210 ?_
        refine r_cVv (pc := 211) (As := [.int (nI 1)]) (st := []) h lk_RX4_46 (c_takeList x.2.1 G σ n tx ht p1 (by omega) (nI (tx a)) (upd (upd (upd (upd nu 0 (nI 0)) 1 (nI 0)) 2 (nI 0)) 0 (nI x1)) 1 (by decide)) rc_4 (by decide) rfl rfl (by first | decide | exact Nat.le_of_ble_eq_true rfl) (by decide) dX4_takeCommand_211 (fun s64 q65 => ?_)
        obtain ⟨nu62, enu62, knu62⟩ := q65
        subst enu62
        obtain ⟨o2, p2, hf2⟩ : ∃ o p, fL tx n p1 = (o, p) := ⟨_, _, rfl⟩
        have b2 : p1 ≤ (fL tx n p1).2 ∧ (fL tx n p1).2 ≤ n := fig_le _ _ _ (by omega)
        rw [hf2] at b2 knu62 ⊢
        dsimp only at b2 knu62
        cases o2 with
        | none =>
          refine V.sg (show _ = tB σ (nI p2) (nI p2) (nI (tx a)) nu62 from rfl) ?_
          refine r_goto (pc := 214) (tgt := 280) h (by decide) dX4_takeCommand_214 ?_
          have ec : cmd tx n a = (none, p2) := by
            unfold cmd
            rw [hK]
            simp only [fone, ftwo, fthr, hf1, hf2]
          exact hret _ (⟨fun e he => (by rw [ec] at he; cases he; exact ⟨_, _, _, (by omega : p2 ≤ n), rfl⟩), fun x y z a2 he => (by rw [ec] at he; cases he)⟩) 280 _ dX4_takeCommand_280
        | some x2 =>
          obtain rfl := knu62 x2 rfl
          refine V.sg (show _ = tB σ (nI p2) (-1) (nI (tx a)) (upd (upd (upd (upd (upd nu 0 (nI 0)) 1 (nI 0)) 2 (nI 0)) 0 (nI x1)) 1 (nI x2)) from rfl) ?_
          refine r_goto (pc := 214) (tgt := 280) h (by decide) dX4_takeCommand_214 ?_
          have ec : cmd tx n a = (some (x1, x2, 0), p2) := by
            unfold cmd
            rw [hK]
            simp only [fone, ftwo, fthr, hf1, hf2]
          exact hret _ (⟨fun e he => (by rw [ec] at he; cases he), fun x y z a2 he => (by rw [ec] at he; cases he; exact ⟨_, (by omega), (by omega), rfl, rfl, rfl, rfl⟩)⟩) 280 _ dX4_takeCommand_280
    · skip
      refine r_topi (b := nI 118) (congrArg nI hK) ?_
      refine r_tabIn (pc := 51) (off := 166) (tgt := 217) h (by decide) (by decide) (by decide) (by decide) dX4_takeCommand_51 ?_
      refine r_aload_n (pc := 217) h 1 rfl rfl dX4_takeCommand_217 ?_
      refine r_iconst (pc := 218) (v := nI 0) h (by decide) dX4_takeCommand_218 ?_
      refine r_cVv (pc := 219) (As := [.int (nI 0)]) (st := []) h lk_RX4_46 (c_takeList x.2.1 G σ n tx ht (a + 1) (by omega) (nI (tx a)) (upd (upd (upd nu 0 (nI 0)) 1 (nI 0)) 2 (nI 0)) 0 (by decide)) rc_4 (by decide) rfl rfl (by first | decide | exact Nat.le_of_ble_eq_true rfl) (by decide) dX4_takeCommand_219 (fun s68 q69 => ?_)
      obtain ⟨nu66, enu66, knu66⟩ := q69
      subst enu66
      obtain ⟨o1, p1, hf1⟩ : ∃ o p, fL tx n (a + 1) = (o, p) := ⟨_, _, rfl⟩
      have b1 : a + 1 ≤ (fL tx n (a + 1)).2 ∧ (fL tx n (a + 1)).2 ≤ n := fig_le _ _ _ (by omega)
      rw [hf1] at b1 knu66 ⊢
      dsimp only at b1 knu66
      cases o1 with
      | none =>
        refine V.sg (show _ = tB σ (nI p1) (nI p1) (nI (tx a)) nu66 from rfl) ?_
        refine r_goto (pc := 222) (tgt := 280) h (by decide) dX4_takeCommand_222 ?_
        have ec : cmd tx n a = (none, p1) := by
          unfold cmd
          rw [hK]
          simp only [fone, ftwo, fthr, hf1]
        exact hret _ (⟨fun e he => (by rw [ec] at he; cases he; exact ⟨_, _, _, (by omega : p1 ≤ n), rfl⟩), fun x y z a2 he => (by rw [ec] at he; cases he)⟩) 280 _ dX4_takeCommand_280
      | some x1 =>
        obtain rfl := knu66 x1 rfl
        refine V.sg (show _ = tB σ (nI p1) (-1) (nI (tx a)) (upd (upd (upd (upd nu 0 (nI 0)) 1 (nI 0)) 2 (nI 0)) 0 (nI x1)) from rfl) ?_
        refine r_goto (pc := 222) (tgt := 280) h (by decide) dX4_takeCommand_222 ?_
        have ec : cmd tx n a = (some (x1, 0, 0), p1) := by
          unfold cmd
          rw [hK]
          simp only [fone, ftwo, fthr, hf1]
        exact hret _ (⟨fun e he => (by rw [ec] at he; cases he), fun x y z a2 he => (by rw [ec] at he; cases he; exact ⟨_, (by omega), (by omega), rfl, rfl, rfl, rfl⟩)⟩) 280 _ dX4_takeCommand_280
    · skip
      refine r_topi (b := nI 117) (congrArg nI hK) ?_
      refine r_tabIn (pc := 51) (off := 166) (tgt := 217) h (by decide) (by decide) (by decide) (by decide) dX4_takeCommand_51 ?_
      refine r_aload_n (pc := 217) h 1 rfl rfl dX4_takeCommand_217 ?_
      refine r_iconst (pc := 218) (v := nI 0) h (by decide) dX4_takeCommand_218 ?_
      refine r_cVv (pc := 219) (As := [.int (nI 0)]) (st := []) h lk_RX4_46 (c_takeList x.2.1 G σ n tx ht (a + 1) (by omega) (nI (tx a)) (upd (upd (upd nu 0 (nI 0)) 1 (nI 0)) 2 (nI 0)) 0 (by decide)) rc_4 (by decide) rfl rfl (by first | decide | exact Nat.le_of_ble_eq_true rfl) (by decide) dX4_takeCommand_219 (fun s72 q73 => ?_)
      obtain ⟨nu70, enu70, knu70⟩ := q73
      subst enu70
      obtain ⟨o1, p1, hf1⟩ : ∃ o p, fL tx n (a + 1) = (o, p) := ⟨_, _, rfl⟩
      have b1 : a + 1 ≤ (fL tx n (a + 1)).2 ∧ (fL tx n (a + 1)).2 ≤ n := fig_le _ _ _ (by omega)
      rw [hf1] at b1 knu70 ⊢
      dsimp only at b1 knu70
      cases o1 with
      | none =>
        refine V.sg (show _ = tB σ (nI p1) (nI p1) (nI (tx a)) nu70 from rfl) ?_
        refine r_goto (pc := 222) (tgt := 280) h (by decide) dX4_takeCommand_222 ?_
        have ec : cmd tx n a = (none, p1) := by
          unfold cmd
          rw [hK]
          simp only [fone, ftwo, fthr, hf1]
        exact hret _ (⟨fun e he => (by rw [ec] at he; cases he; exact ⟨_, _, _, (by omega : p1 ≤ n), rfl⟩), fun x y z a2 he => (by rw [ec] at he; cases he)⟩) 280 _ dX4_takeCommand_280
      | some x1 =>
        obtain rfl := knu70 x1 rfl
        refine V.sg (show _ = tB σ (nI p1) (-1) (nI (tx a)) (upd (upd (upd (upd nu 0 (nI 0)) 1 (nI 0)) 2 (nI 0)) 0 (nI x1)) from rfl) ?_
        refine r_goto (pc := 222) (tgt := 280) h (by decide) dX4_takeCommand_222 ?_
        have ec : cmd tx n a = (some (x1, 0, 0), p1) := by
          unfold cmd
          rw [hK]
          simp only [fone, ftwo, fthr, hf1]
        exact hret _ (⟨fun e he => (by rw [ec] at he; cases he), fun x y z a2 he => (by rw [ec] at he; cases he; exact ⟨_, (by omega), (by omega), rfl, rfl, rfl, rfl⟩)⟩) 280 _ dX4_takeCommand_280
    · skip
      refine r_topi (b := nI 101) (congrArg nI hK) ?_
      refine r_tabIn (pc := 51) (off := 174) (tgt := 225) h (by decide) (by decide) (by decide) (by decide) dX4_takeCommand_51 ?_
      refine r_aload_n (pc := 225) h 1 rfl rfl dX4_takeCommand_225 ?_
      refine r_iconst (pc := 226) (v := nI 0) h (by decide) dX4_takeCommand_226 ?_
      refine r_cVv (pc := 227) (As := [.int (nI 0)]) (st := []) h lk_RX4_46 (c_takeList x.2.1 G σ n tx ht (a + 1) (by omega) (nI (tx a)) (upd (upd (upd nu 0 (nI 0)) 1 (nI 0)) 2 (nI 0)) 0 (by decide)) rc_4 (by decide) rfl rfl (by first | decide | exact Nat.le_of_ble_eq_true rfl) (by decide) dX4_takeCommand_227 (fun s76 q77 => ?_)
      obtain ⟨nu74, enu74, knu74⟩ := q77
      subst enu74
      obtain ⟨o1, p1, hf1⟩ : ∃ o p, fL tx n (a + 1) = (o, p) := ⟨_, _, rfl⟩
      have b1 : a + 1 ≤ (fL tx n (a + 1)).2 ∧ (fL tx n (a + 1)).2 ≤ n := fig_le _ _ _ (by omega)
      rw [hf1] at b1 knu74 ⊢
      dsimp only at b1 knu74
      cases o1 with
      | none =>
        refine V.sg (show _ = tB σ (nI p1) (nI p1) (nI (tx a)) nu74 from rfl) ?_
        refine r_aload_n (pc := 230) h 1 rfl rfl dX4_takeCommand_230 ?_
        refine r_iconst (pc := 231) (v := nI 1) h (by decide) dX4_takeCommand_231 ?_
        refine r_iconst (pc := 232) (v := nI 1) h (by decide) dX4_takeCommand_232 ?_
        refine r_iconst (pc := 233) (v := nI 1) h (by decide) dX4_takeCommand_233 ?_
        refine r_bipush (pc := 234) (v := nI 9) h (by decide) dX4_takeCommand_234 ?_
        refine r_cVv (pc := 236) (As := [.int (nI 1), .int (nI 1), .int (nI 1), .int (nI 9)]) (st := []) h lk_RX4_42 (c_takeNumberE1 x.2.1 G σ n tx ht p1 p1 (by omega) (nI (tx a)) nu74 1 1 9 (by decide)) rc_4 (by decide) rfl rfl (by first | decide | exact Nat.le_of_ble_eq_true rfl) (by decide) dX4_takeCommand_236 (fun s79 q80 => ?_)
        subst q80
        refine r_goto (pc := 239) (tgt := 280) h (by decide) dX4_takeCommand_239 ?_
        have ec : cmd tx n a = (none, p1) := by
          unfold cmd
          rw [hK]
          simp only [fone, ftwo, fthr, hf1]
        exact hret _ (⟨fun e he => (by rw [ec] at he; cases he; exact ⟨_, _, _, (by omega : p1 ≤ n), rfl⟩), fun x y z a2 he => (by rw [ec] at he; cases he)⟩) 280 _ dX4_takeCommand_280
      | some x1 =>
        obtain rfl := knu74 x1 rfl
        refine V.sg (show _ = tB σ (nI p1) (-1) (nI (tx a)) (upd (upd (upd (upd nu 0 (nI 0)) 1 (nI 0)) 2 (nI 0)) 0 (nI x1)) from rfl) ?_
        refine r_aload_n (pc := 230) h 1 rfl rfl dX4_takeCommand_230 ?_
        refine r_iconst (pc := 231) (v := nI 1) h (by decide) dX4_takeCommand_231 ?_
        refine r_iconst (pc := 232) (v := nI 1) h (by decide) dX4_takeCommand_232 ?_
        refine r_iconst (pc := 233) (v := nI 1) h (by decide) dX4_takeCommand_233 ?_
        refine r_bipush (pc := 234) (v := nI 9) h (by decide) dX4_takeCommand_234 ?_
        refine r_cVv (pc := 236) (As := [.int (nI 1), .int (nI 1), .int (nI 1), .int (nI 9)]) (st := []) h lk_RX4_42 (c_takeNumber1 x.2.1 G σ n tx ht p1 (by omega) (nI (tx a)) (upd (upd (upd (upd nu 0 (nI 0)) 1 (nI 0)) 2 (nI 0)) 0 (nI x1)) 1 1 9 (by decide) (by decide) (by decide)) rc_4 (by decide) rfl rfl (by first | decide | exact Nat.le_of_ble_eq_true rfl) (by decide) dX4_takeCommand_236 (fun s83 q84 => ?_)
        obtain ⟨nu81, enu81, knu81⟩ := q84
        subst enu81
        obtain ⟨o2, p2, hf2⟩ : ∃ o p, fig tx n 1 9 [1] 0 p1 = (o, p) := ⟨_, _, rfl⟩
        have b2 : p1 ≤ (fig tx n 1 9 [1] 0 p1).2 ∧ (fig tx n 1 9 [1] 0 p1).2 ≤ n := fig_le _ _ _ (by omega)
        rw [hf2] at b2 knu81 ⊢
        dsimp only at b2 knu81
        cases o2 with
        | none =>
          refine V.sg (show _ = tB σ (nI p2) (nI p2) (nI (tx a)) nu81 from rfl) ?_
          refine r_goto (pc := 239) (tgt := 280) h (by decide) dX4_takeCommand_239 ?_
          have ec : cmd tx n a = (none, p2) := by
            unfold cmd
            rw [hK]
            simp only [fone, ftwo, fthr, hf1, hf2]
          exact hret _ (⟨fun e he => (by rw [ec] at he; cases he; exact ⟨_, _, _, (by omega : p2 ≤ n), rfl⟩), fun x y z a2 he => (by rw [ec] at he; cases he)⟩) 280 _ dX4_takeCommand_280
        | some x2 =>
          obtain rfl := knu81 x2 rfl
          refine V.sg (show _ = tB σ (nI p2) (-1) (nI (tx a)) (upd (upd (upd (upd (upd nu 0 (nI 0)) 1 (nI 0)) 2 (nI 0)) 0 (nI x1)) 1 (nI x2)) from rfl) ?_
          refine r_goto (pc := 239) (tgt := 280) h (by decide) dX4_takeCommand_239 ?_
          have ec : cmd tx n a = (some (x1, x2, 0), p2) := by
            unfold cmd
            rw [hK]
            simp only [fone, ftwo, fthr, hf1, hf2]
          exact hret _ (⟨fun e he => (by rw [ec] at he; cases he), fun x y z a2 he => (by rw [ec] at he; cases he; exact ⟨_, (by omega), (by omega), rfl, rfl, rfl, rfl⟩)⟩) 280 _ dX4_takeCommand_280
    · skip
      refine r_topi (b := nI 100) (congrArg nI hK) ?_
      refine r_tabIn (pc := 51) (off := 216) (tgt := 267) h (by decide) (by decide) (by decide) (by decide) dX4_takeCommand_51 ?_
      refine r_goto (pc := 267) (tgt := 280) h (by decide) dX4_takeCommand_267 ?_
      have ec : cmd tx n a = (some (0, 0, 0), a + 1) := by
        unfold cmd
        rw [hK]
        rfl
      exact hret _ (⟨fun e he => (by rw [ec] at he; cases he), fun x y z a2 he => (by rw [ec] at he; cases he; exact ⟨_, (by omega), (by omega), rfl, rfl, rfl, rfl⟩)⟩) 280 _ dX4_takeCommand_280
    · skip
      refine r_topi (b := nI 114) (congrArg nI hK) ?_
      refine r_tabIn (pc := 51) (off := 166) (tgt := 217) h (by decide) (by decide) (by decide) (by decide) dX4_takeCommand_51 ?_
      refine r_aload_n (pc := 217) h 1 rfl rfl dX4_takeCommand_217 ?_
      refine r_iconst (pc := 218) (v := nI 0) h (by decide) dX4_takeCommand_218 ?_
      refine r_cVv (pc := 219) (As := [.int (nI 0)]) (st := []) h lk_RX4_46 (c_takeList x.2.1 G σ n tx ht (a + 1) (by omega) (nI (tx a)) (upd (upd (upd nu 0 (nI 0)) 1 (nI 0)) 2 (nI 0)) 0 (by decide)) rc_4 (by decide) rfl rfl (by first | decide | exact Nat.le_of_ble_eq_true rfl) (by decide) dX4_takeCommand_219 (fun s87 q88 => ?_)
      obtain ⟨nu85, enu85, knu85⟩ := q88
      subst enu85
      obtain ⟨o1, p1, hf1⟩ : ∃ o p, fL tx n (a + 1) = (o, p) := ⟨_, _, rfl⟩
      have b1 : a + 1 ≤ (fL tx n (a + 1)).2 ∧ (fL tx n (a + 1)).2 ≤ n := fig_le _ _ _ (by omega)
      rw [hf1] at b1 knu85 ⊢
      dsimp only at b1 knu85
      cases o1 with
      | none =>
        refine V.sg (show _ = tB σ (nI p1) (nI p1) (nI (tx a)) nu85 from rfl) ?_
        refine r_goto (pc := 222) (tgt := 280) h (by decide) dX4_takeCommand_222 ?_
        have ec : cmd tx n a = (none, p1) := by
          unfold cmd
          rw [hK]
          simp only [fone, ftwo, fthr, hf1]
        exact hret _ (⟨fun e he => (by rw [ec] at he; cases he; exact ⟨_, _, _, (by omega : p1 ≤ n), rfl⟩), fun x y z a2 he => (by rw [ec] at he; cases he)⟩) 280 _ dX4_takeCommand_280
      | some x1 =>
        obtain rfl := knu85 x1 rfl
        refine V.sg (show _ = tB σ (nI p1) (-1) (nI (tx a)) (upd (upd (upd (upd nu 0 (nI 0)) 1 (nI 0)) 2 (nI 0)) 0 (nI x1)) from rfl) ?_
        refine r_goto (pc := 222) (tgt := 280) h (by decide) dX4_takeCommand_222 ?_
        have ec : cmd tx n a = (some (x1, 0, 0), p1) := by
          unfold cmd
          rw [hK]
          simp only [fone, ftwo, fthr, hf1]
        exact hret _ (⟨fun e he => (by rw [ec] at he; cases he), fun x y z a2 he => (by rw [ec] at he; cases he; exact ⟨_, (by omega), (by omega), rfl, rfl, rfl, rfl⟩)⟩) 280 _ dX4_takeCommand_280
    · skip
      refine r_topi (b := nI 110) (congrArg nI hK) ?_
      refine r_tabIn (pc := 51) (off := 191) (tgt := 242) h (by decide) (by decide) (by decide) (by decide) dX4_takeCommand_51 ?_
      refine r_aload_n (pc := 242) h 1 rfl rfl dX4_takeCommand_242 ?_
      refine r_iconst (pc := 243) (v := nI 0) h (by decide) dX4_takeCommand_243 ?_
      refine r_cVv (pc := 244) (As := [.int (nI 0)]) (st := []) h lk_RX4_50 (c_takeReader x.2.1 G σ n tx ht (a + 1) (by omega) (nI (tx a)) (upd (upd (upd nu 0 (nI 0)) 1 (nI 0)) 2 (nI 0)) 0 (by decide)) rc_4 (by decide) rfl rfl (by first | decide | exact Nat.le_of_ble_eq_true rfl) (by decide) dX4_takeCommand_244 (fun s91 q92 => ?_)
      obtain ⟨nu89, enu89, knu89⟩ := q92
      subst enu89
      obtain ⟨o1, p1, hf1⟩ : ∃ o p, fR tx n (a + 1) = (o, p) := ⟨_, _, rfl⟩
      have b1 : a + 1 ≤ (fR tx n (a + 1)).2 ∧ (fR tx n (a + 1)).2 ≤ n := fig_le _ _ _ (by omega)
      rw [hf1] at b1 knu89 ⊢
      dsimp only at b1 knu89
      cases o1 with
      | none =>
        refine V.sg (show _ = tB σ (nI p1) (nI p1) (nI (tx a)) nu89 from rfl) ?_
        refine r_goto (pc := 247) (tgt := 280) h (by decide) dX4_takeCommand_247 ?_
        have ec : cmd tx n a = (none, p1) := by
          unfold cmd
          rw [hK]
          simp only [fone, ftwo, fthr, hf1]
        exact hret _ (⟨fun e he => (by rw [ec] at he; cases he; exact ⟨_, _, _, (by omega : p1 ≤ n), rfl⟩), fun x y z a2 he => (by rw [ec] at he; cases he)⟩) 280 _ dX4_takeCommand_280
      | some x1 =>
        obtain rfl := knu89 x1 rfl
        refine V.sg (show _ = tB σ (nI p1) (-1) (nI (tx a)) (upd (upd (upd (upd nu 0 (nI 0)) 1 (nI 0)) 2 (nI 0)) 0 (nI x1)) from rfl) ?_
        refine r_goto (pc := 247) (tgt := 280) h (by decide) dX4_takeCommand_247 ?_
        have ec : cmd tx n a = (some (x1, 0, 0), p1) := by
          unfold cmd
          rw [hK]
          simp only [fone, ftwo, fthr, hf1]
        exact hret _ (⟨fun e he => (by rw [ec] at he; cases he), fun x y z a2 he => (by rw [ec] at he; cases he; exact ⟨_, (by omega), (by omega), rfl, rfl, rfl, rfl⟩)⟩) 280 _ dX4_takeCommand_280
    · skip
      refine r_topi (b := nI 107) (congrArg nI hK) ?_
      refine r_tabIn (pc := 51) (off := 199) (tgt := 250) h (by decide) (by decide) (by decide) (by decide) dX4_takeCommand_51 ?_
      refine r_aload_n (pc := 250) h 1 rfl rfl dX4_takeCommand_250 ?_
      refine r_iconst (pc := 251) (v := nI 0) h (by decide) dX4_takeCommand_251 ?_
      refine r_cVv (pc := 252) (As := [.int (nI 0)]) (st := []) h lk_RX4_50 (c_takeReader x.2.1 G σ n tx ht (a + 1) (by omega) (nI (tx a)) (upd (upd (upd nu 0 (nI 0)) 1 (nI 0)) 2 (nI 0)) 0 (by decide)) rc_4 (by decide) rfl rfl (by first | decide | exact Nat.le_of_ble_eq_true rfl) (by decide) dX4_takeCommand_252 (fun s95 q96 => ?_)
      obtain ⟨nu93, enu93, knu93⟩ := q96
      subst enu93
      obtain ⟨o1, p1, hf1⟩ : ∃ o p, fR tx n (a + 1) = (o, p) := ⟨_, _, rfl⟩
      have b1 : a + 1 ≤ (fR tx n (a + 1)).2 ∧ (fR tx n (a + 1)).2 ≤ n := fig_le _ _ _ (by omega)
      rw [hf1] at b1 knu93 ⊢
      dsimp only at b1 knu93
      cases o1 with
      | none =>
        refine V.sg (show _ = tB σ (nI p1) (nI p1) (nI (tx a)) nu93 from rfl) ?_
        refine r_aload_n (pc := 255) h 1 rfl rfl dX4_takeCommand_255 ?_
        refine r_iconst (pc := 256) (v := nI 1) h (by decide) dX4_takeCommand_256 ?_
        refine r_iconst (pc := 257) (v := nI 2) h (by decide) dX4_takeCommand_257 ?_
        refine r_iconst (pc := 258) (v := nI 1) h (by decide) dX4_takeCommand_258 ?_
        refine r_bipush (pc := 259) (v := nI 99) h (by decide) dX4_takeCommand_259 ?_
        refine r_cVv (pc := 261) (As := [.int (nI 1), .int (nI 2), .int (nI 1), .int (nI 99)]) (st := []) h lk_RX4_42 (c_takeNumberE2 x.2.1 G σ n tx ht p1 p1 (by omega) (nI (tx a)) nu93 1 1 99 (by decide)) rc_4 (by decide) rfl rfl (by first | decide | exact Nat.le_of_ble_eq_true rfl) (by decide) dX4_takeCommand_261 (fun s98 q99 => ?_)
        subst q99
        refine r_goto (pc := 264) (tgt := 280) h (by decide) dX4_takeCommand_264 ?_
        have ec : cmd tx n a = (none, p1) := by
          unfold cmd
          rw [hK]
          simp only [fone, ftwo, fthr, hf1]
        exact hret _ (⟨fun e he => (by rw [ec] at he; cases he; exact ⟨_, _, _, (by omega : p1 ≤ n), rfl⟩), fun x y z a2 he => (by rw [ec] at he; cases he)⟩) 280 _ dX4_takeCommand_280
      | some x1 =>
        obtain rfl := knu93 x1 rfl
        refine V.sg (show _ = tB σ (nI p1) (-1) (nI (tx a)) (upd (upd (upd (upd nu 0 (nI 0)) 1 (nI 0)) 2 (nI 0)) 0 (nI x1)) from rfl) ?_
        refine r_aload_n (pc := 255) h 1 rfl rfl dX4_takeCommand_255 ?_
        refine r_iconst (pc := 256) (v := nI 1) h (by decide) dX4_takeCommand_256 ?_
        refine r_iconst (pc := 257) (v := nI 2) h (by decide) dX4_takeCommand_257 ?_
        refine r_iconst (pc := 258) (v := nI 1) h (by decide) dX4_takeCommand_258 ?_
        refine r_bipush (pc := 259) (v := nI 99) h (by decide) dX4_takeCommand_259 ?_
        refine r_cVv (pc := 261) (As := [.int (nI 1), .int (nI 2), .int (nI 1), .int (nI 99)]) (st := []) h lk_RX4_42 (c_takeNumber2 x.2.1 G σ n tx ht p1 (by omega) (nI (tx a)) (upd (upd (upd (upd nu 0 (nI 0)) 1 (nI 0)) 2 (nI 0)) 0 (nI x1)) 1 1 99 (by decide) (by decide) (by decide)) rc_4 (by decide) rfl rfl (by first | decide | exact Nat.le_of_ble_eq_true rfl) (by decide) dX4_takeCommand_261 (fun s102 q103 => ?_)
        obtain ⟨nu100, enu100, knu100⟩ := q103
        subst enu100
        obtain ⟨o2, p2, hf2⟩ : ∃ o p, fig tx n 1 99 [10, 1] 0 p1 = (o, p) := ⟨_, _, rfl⟩
        have b2 : p1 ≤ (fig tx n 1 99 [10, 1] 0 p1).2 ∧ (fig tx n 1 99 [10, 1] 0 p1).2 ≤ n := fig_le _ _ _ (by omega)
        rw [hf2] at b2 knu100 ⊢
        dsimp only at b2 knu100
        cases o2 with
        | none =>
          refine V.sg (show _ = tB σ (nI p2) (nI p2) (nI (tx a)) nu100 from rfl) ?_
          refine r_goto (pc := 264) (tgt := 280) h (by decide) dX4_takeCommand_264 ?_
          have ec : cmd tx n a = (none, p2) := by
            unfold cmd
            rw [hK]
            simp only [fone, ftwo, fthr, hf1, hf2]
          exact hret _ (⟨fun e he => (by rw [ec] at he; cases he; exact ⟨_, _, _, (by omega : p2 ≤ n), rfl⟩), fun x y z a2 he => (by rw [ec] at he; cases he)⟩) 280 _ dX4_takeCommand_280
        | some x2 =>
          obtain rfl := knu100 x2 rfl
          refine V.sg (show _ = tB σ (nI p2) (-1) (nI (tx a)) (upd (upd (upd (upd (upd nu 0 (nI 0)) 1 (nI 0)) 2 (nI 0)) 0 (nI x1)) 1 (nI x2)) from rfl) ?_
          refine r_goto (pc := 264) (tgt := 280) h (by decide) dX4_takeCommand_264 ?_
          have ec : cmd tx n a = (some (x1, x2, 0), p2) := by
            unfold cmd
            rw [hK]
            simp only [fone, ftwo, fthr, hf1, hf2]
          exact hret _ (⟨fun e he => (by rw [ec] at he; cases he), fun x y z a2 he => (by rw [ec] at he; cases he; exact ⟨_, (by omega), (by omega), rfl, rfl, rfl, rfl⟩)⟩) 280 _ dX4_takeCommand_280
    · skip
      refine r_topi (b := nI 122) (congrArg nI hK) ?_
      refine r_tabIn (pc := 51) (off := 191) (tgt := 242) h (by decide) (by decide) (by decide) (by decide) dX4_takeCommand_51 ?_
      refine r_aload_n (pc := 242) h 1 rfl rfl dX4_takeCommand_242 ?_
      refine r_iconst (pc := 243) (v := nI 0) h (by decide) dX4_takeCommand_243 ?_
      refine r_cVv (pc := 244) (As := [.int (nI 0)]) (st := []) h lk_RX4_50 (c_takeReader x.2.1 G σ n tx ht (a + 1) (by omega) (nI (tx a)) (upd (upd (upd nu 0 (nI 0)) 1 (nI 0)) 2 (nI 0)) 0 (by decide)) rc_4 (by decide) rfl rfl (by first | decide | exact Nat.le_of_ble_eq_true rfl) (by decide) dX4_takeCommand_244 (fun s106 q107 => ?_)
      obtain ⟨nu104, enu104, knu104⟩ := q107
      subst enu104
      obtain ⟨o1, p1, hf1⟩ : ∃ o p, fR tx n (a + 1) = (o, p) := ⟨_, _, rfl⟩
      have b1 : a + 1 ≤ (fR tx n (a + 1)).2 ∧ (fR tx n (a + 1)).2 ≤ n := fig_le _ _ _ (by omega)
      rw [hf1] at b1 knu104 ⊢
      dsimp only at b1 knu104
      cases o1 with
      | none =>
        refine V.sg (show _ = tB σ (nI p1) (nI p1) (nI (tx a)) nu104 from rfl) ?_
        refine r_goto (pc := 247) (tgt := 280) h (by decide) dX4_takeCommand_247 ?_
        have ec : cmd tx n a = (none, p1) := by
          unfold cmd
          rw [hK]
          simp only [fone, ftwo, fthr, hf1]
        exact hret _ (⟨fun e he => (by rw [ec] at he; cases he; exact ⟨_, _, _, (by omega : p1 ≤ n), rfl⟩), fun x y z a2 he => (by rw [ec] at he; cases he)⟩) 280 _ dX4_takeCommand_280
      | some x1 =>
        obtain rfl := knu104 x1 rfl
        refine V.sg (show _ = tB σ (nI p1) (-1) (nI (tx a)) (upd (upd (upd (upd nu 0 (nI 0)) 1 (nI 0)) 2 (nI 0)) 0 (nI x1)) from rfl) ?_
        refine r_goto (pc := 247) (tgt := 280) h (by decide) dX4_takeCommand_247 ?_
        have ec : cmd tx n a = (some (x1, 0, 0), p1) := by
          unfold cmd
          rw [hK]
          simp only [fone, ftwo, fthr, hf1]
        exact hret _ (⟨fun e he => (by rw [ec] at he; cases he), fun x y z a2 he => (by rw [ec] at he; cases he; exact ⟨_, (by omega), (by omega), rfl, rfl, rfl, rfl⟩)⟩) 280 _ dX4_takeCommand_280
    · skip
      refine r_topi (b := nI 113) (congrArg nI hK) ?_
      refine r_tabIn (pc := 51) (off := 191) (tgt := 242) h (by decide) (by decide) (by decide) (by decide) dX4_takeCommand_51 ?_
      refine r_aload_n (pc := 242) h 1 rfl rfl dX4_takeCommand_242 ?_
      refine r_iconst (pc := 243) (v := nI 0) h (by decide) dX4_takeCommand_243 ?_
      refine r_cVv (pc := 244) (As := [.int (nI 0)]) (st := []) h lk_RX4_50 (c_takeReader x.2.1 G σ n tx ht (a + 1) (by omega) (nI (tx a)) (upd (upd (upd nu 0 (nI 0)) 1 (nI 0)) 2 (nI 0)) 0 (by decide)) rc_4 (by decide) rfl rfl (by first | decide | exact Nat.le_of_ble_eq_true rfl) (by decide) dX4_takeCommand_244 (fun s110 q111 => ?_)
      obtain ⟨nu108, enu108, knu108⟩ := q111
      subst enu108
      obtain ⟨o1, p1, hf1⟩ : ∃ o p, fR tx n (a + 1) = (o, p) := ⟨_, _, rfl⟩
      have b1 : a + 1 ≤ (fR tx n (a + 1)).2 ∧ (fR tx n (a + 1)).2 ≤ n := fig_le _ _ _ (by omega)
      rw [hf1] at b1 knu108 ⊢
      dsimp only at b1 knu108
      cases o1 with
      | none =>
        refine V.sg (show _ = tB σ (nI p1) (nI p1) (nI (tx a)) nu108 from rfl) ?_
        refine r_goto (pc := 247) (tgt := 280) h (by decide) dX4_takeCommand_247 ?_
        have ec : cmd tx n a = (none, p1) := by
          unfold cmd
          rw [hK]
          simp only [fone, ftwo, fthr, hf1]
        exact hret _ (⟨fun e he => (by rw [ec] at he; cases he; exact ⟨_, _, _, (by omega : p1 ≤ n), rfl⟩), fun x y z a2 he => (by rw [ec] at he; cases he)⟩) 280 _ dX4_takeCommand_280
      | some x1 =>
        obtain rfl := knu108 x1 rfl
        refine V.sg (show _ = tB σ (nI p1) (-1) (nI (tx a)) (upd (upd (upd (upd nu 0 (nI 0)) 1 (nI 0)) 2 (nI 0)) 0 (nI x1)) from rfl) ?_
        refine r_goto (pc := 247) (tgt := 280) h (by decide) dX4_takeCommand_247 ?_
        have ec : cmd tx n a = (some (x1, 0, 0), p1) := by
          unfold cmd
          rw [hK]
          simp only [fone, ftwo, fthr, hf1]
        exact hret _ (⟨fun e he => (by rw [ec] at he; cases he), fun x y z a2 he => (by rw [ec] at he; cases he; exact ⟨_, (by omega), (by omega), rfl, rfl, rfl, rfl⟩)⟩) 280 _ dX4_takeCommand_280
  · skip
    refine r_tabOut (pc := 51) (tgt := 270) h (by rw [nI_toInt (by omega)]; omega) (by decide) dX4_takeCommand_51 ?_
    refine r_aload_n (pc := 270) h 1 rfl rfl dX4_takeCommand_270 ?_
    refine r_aload_n (pc := 271) h 1 rfl rfl dX4_takeCommand_271 ?_
    refine g_4_at (pc := 272) h mw_5_17 dX4_takeCommand_272 ?_
    refine r_topi (b := nI (a + 1)) (tB_a _ _ _ _ _) ?_
    refine r_iconst (pc := 275) (v := nI 1) h (by decide) dX4_takeCommand_275 ?_
    refine r_isub (pc := 276) (v := nI ((a + 1) - 1)) h (pk_sub (by omega)) dX4_takeCommand_276 ?_
    refine p_4_error (pc := 277) h mw_5_12 dX4_takeCommand_277 ?_
    refine V.sg (tB_se _ _ _ _ _ _) ?_
    have ec : cmd tx n a = (none, a) := cmd_out hK
    exact hret _ (⟨fun e he => (by rw [ec] at he; cases he; exact ⟨_, _, _, ha1, rfl⟩), fun x y z a2 he => (by rw [ec] at he; cases he)⟩) 280 _ dX4_takeCommand_280
  · skip
    rcases hK with hK | hK | hK | hK | hK | hK | hK | hK | hK
    · skip
      refine r_topi (b := nI 102) (congrArg nI hK) ?_
      refine r_tabIn (pc := 51) (off := 219) (tgt := 270) h (by decide) (by decide) (by decide) (by decide) dX4_takeCommand_51 ?_
      refine r_aload_n (pc := 270) h 1 rfl rfl dX4_takeCommand_270 ?_
      refine r_aload_n (pc := 271) h 1 rfl rfl dX4_takeCommand_271 ?_
      refine g_4_at (pc := 272) h mw_5_17 dX4_takeCommand_272 ?_
      refine r_topi (b := nI (a + 1)) (tB_a _ _ _ _ _) ?_
      refine r_iconst (pc := 275) (v := nI 1) h (by decide) dX4_takeCommand_275 ?_
      refine r_isub (pc := 276) (v := nI ((a + 1) - 1)) h (pk_sub (by omega)) dX4_takeCommand_276 ?_
      refine p_4_error (pc := 277) h mw_5_12 dX4_takeCommand_277 ?_
      refine V.sg (tB_se _ _ _ _ _ _) ?_
      have ec : cmd tx n a = (none, a) := (by unfold cmd; rw [hK]; rfl)
      exact hret _ (⟨fun e he => (by rw [ec] at he; cases he; exact ⟨_, _, _, ha1, rfl⟩), fun x y z a2 he => (by rw [ec] at he; cases he)⟩) 280 _ dX4_takeCommand_280
    · skip
      refine r_topi (b := nI 103) (congrArg nI hK) ?_
      refine r_tabIn (pc := 51) (off := 219) (tgt := 270) h (by decide) (by decide) (by decide) (by decide) dX4_takeCommand_51 ?_
      refine r_aload_n (pc := 270) h 1 rfl rfl dX4_takeCommand_270 ?_
      refine r_aload_n (pc := 271) h 1 rfl rfl dX4_takeCommand_271 ?_
      refine g_4_at (pc := 272) h mw_5_17 dX4_takeCommand_272 ?_
      refine r_topi (b := nI (a + 1)) (tB_a _ _ _ _ _) ?_
      refine r_iconst (pc := 275) (v := nI 1) h (by decide) dX4_takeCommand_275 ?_
      refine r_isub (pc := 276) (v := nI ((a + 1) - 1)) h (pk_sub (by omega)) dX4_takeCommand_276 ?_
      refine p_4_error (pc := 277) h mw_5_12 dX4_takeCommand_277 ?_
      refine V.sg (tB_se _ _ _ _ _ _) ?_
      have ec : cmd tx n a = (none, a) := (by unfold cmd; rw [hK]; rfl)
      exact hret _ (⟨fun e he => (by rw [ec] at he; cases he; exact ⟨_, _, _, ha1, rfl⟩), fun x y z a2 he => (by rw [ec] at he; cases he)⟩) 280 _ dX4_takeCommand_280
    · skip
      refine r_topi (b := nI 105) (congrArg nI hK) ?_
      refine r_tabIn (pc := 51) (off := 219) (tgt := 270) h (by decide) (by decide) (by decide) (by decide) dX4_takeCommand_51 ?_
      refine r_aload_n (pc := 270) h 1 rfl rfl dX4_takeCommand_270 ?_
      refine r_aload_n (pc := 271) h 1 rfl rfl dX4_takeCommand_271 ?_
      refine g_4_at (pc := 272) h mw_5_17 dX4_takeCommand_272 ?_
      refine r_topi (b := nI (a + 1)) (tB_a _ _ _ _ _) ?_
      refine r_iconst (pc := 275) (v := nI 1) h (by decide) dX4_takeCommand_275 ?_
      refine r_isub (pc := 276) (v := nI ((a + 1) - 1)) h (pk_sub (by omega)) dX4_takeCommand_276 ?_
      refine p_4_error (pc := 277) h mw_5_12 dX4_takeCommand_277 ?_
      refine V.sg (tB_se _ _ _ _ _ _) ?_
      have ec : cmd tx n a = (none, a) := (by unfold cmd; rw [hK]; rfl)
      exact hret _ (⟨fun e he => (by rw [ec] at he; cases he; exact ⟨_, _, _, ha1, rfl⟩), fun x y z a2 he => (by rw [ec] at he; cases he)⟩) 280 _ dX4_takeCommand_280
    · skip
      refine r_topi (b := nI 108) (congrArg nI hK) ?_
      refine r_tabIn (pc := 51) (off := 219) (tgt := 270) h (by decide) (by decide) (by decide) (by decide) dX4_takeCommand_51 ?_
      refine r_aload_n (pc := 270) h 1 rfl rfl dX4_takeCommand_270 ?_
      refine r_aload_n (pc := 271) h 1 rfl rfl dX4_takeCommand_271 ?_
      refine g_4_at (pc := 272) h mw_5_17 dX4_takeCommand_272 ?_
      refine r_topi (b := nI (a + 1)) (tB_a _ _ _ _ _) ?_
      refine r_iconst (pc := 275) (v := nI 1) h (by decide) dX4_takeCommand_275 ?_
      refine r_isub (pc := 276) (v := nI ((a + 1) - 1)) h (pk_sub (by omega)) dX4_takeCommand_276 ?_
      refine p_4_error (pc := 277) h mw_5_12 dX4_takeCommand_277 ?_
      refine V.sg (tB_se _ _ _ _ _ _) ?_
      have ec : cmd tx n a = (none, a) := (by unfold cmd; rw [hK]; rfl)
      exact hret _ (⟨fun e he => (by rw [ec] at he; cases he; exact ⟨_, _, _, ha1, rfl⟩), fun x y z a2 he => (by rw [ec] at he; cases he)⟩) 280 _ dX4_takeCommand_280
    · skip
      refine r_topi (b := nI 109) (congrArg nI hK) ?_
      refine r_tabIn (pc := 51) (off := 219) (tgt := 270) h (by decide) (by decide) (by decide) (by decide) dX4_takeCommand_51 ?_
      refine r_aload_n (pc := 270) h 1 rfl rfl dX4_takeCommand_270 ?_
      refine r_aload_n (pc := 271) h 1 rfl rfl dX4_takeCommand_271 ?_
      refine g_4_at (pc := 272) h mw_5_17 dX4_takeCommand_272 ?_
      refine r_topi (b := nI (a + 1)) (tB_a _ _ _ _ _) ?_
      refine r_iconst (pc := 275) (v := nI 1) h (by decide) dX4_takeCommand_275 ?_
      refine r_isub (pc := 276) (v := nI ((a + 1) - 1)) h (pk_sub (by omega)) dX4_takeCommand_276 ?_
      refine p_4_error (pc := 277) h mw_5_12 dX4_takeCommand_277 ?_
      refine V.sg (tB_se _ _ _ _ _ _) ?_
      have ec : cmd tx n a = (none, a) := (by unfold cmd; rw [hK]; rfl)
      exact hret _ (⟨fun e he => (by rw [ec] at he; cases he; exact ⟨_, _, _, ha1, rfl⟩), fun x y z a2 he => (by rw [ec] at he; cases he)⟩) 280 _ dX4_takeCommand_280
    · skip
      refine r_topi (b := nI 111) (congrArg nI hK) ?_
      refine r_tabIn (pc := 51) (off := 219) (tgt := 270) h (by decide) (by decide) (by decide) (by decide) dX4_takeCommand_51 ?_
      refine r_aload_n (pc := 270) h 1 rfl rfl dX4_takeCommand_270 ?_
      refine r_aload_n (pc := 271) h 1 rfl rfl dX4_takeCommand_271 ?_
      refine g_4_at (pc := 272) h mw_5_17 dX4_takeCommand_272 ?_
      refine r_topi (b := nI (a + 1)) (tB_a _ _ _ _ _) ?_
      refine r_iconst (pc := 275) (v := nI 1) h (by decide) dX4_takeCommand_275 ?_
      refine r_isub (pc := 276) (v := nI ((a + 1) - 1)) h (pk_sub (by omega)) dX4_takeCommand_276 ?_
      refine p_4_error (pc := 277) h mw_5_12 dX4_takeCommand_277 ?_
      refine V.sg (tB_se _ _ _ _ _ _) ?_
      have ec : cmd tx n a = (none, a) := (by unfold cmd; rw [hK]; rfl)
      exact hret _ (⟨fun e he => (by rw [ec] at he; cases he; exact ⟨_, _, _, ha1, rfl⟩), fun x y z a2 he => (by rw [ec] at he; cases he)⟩) 280 _ dX4_takeCommand_280
    · skip
      refine r_topi (b := nI 112) (congrArg nI hK) ?_
      refine r_tabIn (pc := 51) (off := 219) (tgt := 270) h (by decide) (by decide) (by decide) (by decide) dX4_takeCommand_51 ?_
      refine r_aload_n (pc := 270) h 1 rfl rfl dX4_takeCommand_270 ?_
      refine r_aload_n (pc := 271) h 1 rfl rfl dX4_takeCommand_271 ?_
      refine g_4_at (pc := 272) h mw_5_17 dX4_takeCommand_272 ?_
      refine r_topi (b := nI (a + 1)) (tB_a _ _ _ _ _) ?_
      refine r_iconst (pc := 275) (v := nI 1) h (by decide) dX4_takeCommand_275 ?_
      refine r_isub (pc := 276) (v := nI ((a + 1) - 1)) h (pk_sub (by omega)) dX4_takeCommand_276 ?_
      refine p_4_error (pc := 277) h mw_5_12 dX4_takeCommand_277 ?_
      refine V.sg (tB_se _ _ _ _ _ _) ?_
      have ec : cmd tx n a = (none, a) := (by unfold cmd; rw [hK]; rfl)
      exact hret _ (⟨fun e he => (by rw [ec] at he; cases he; exact ⟨_, _, _, ha1, rfl⟩), fun x y z a2 he => (by rw [ec] at he; cases he)⟩) 280 _ dX4_takeCommand_280
    · skip
      refine r_topi (b := nI 116) (congrArg nI hK) ?_
      refine r_tabIn (pc := 51) (off := 219) (tgt := 270) h (by decide) (by decide) (by decide) (by decide) dX4_takeCommand_51 ?_
      refine r_aload_n (pc := 270) h 1 rfl rfl dX4_takeCommand_270 ?_
      refine r_aload_n (pc := 271) h 1 rfl rfl dX4_takeCommand_271 ?_
      refine g_4_at (pc := 272) h mw_5_17 dX4_takeCommand_272 ?_
      refine r_topi (b := nI (a + 1)) (tB_a _ _ _ _ _) ?_
      refine r_iconst (pc := 275) (v := nI 1) h (by decide) dX4_takeCommand_275 ?_
      refine r_isub (pc := 276) (v := nI ((a + 1) - 1)) h (pk_sub (by omega)) dX4_takeCommand_276 ?_
      refine p_4_error (pc := 277) h mw_5_12 dX4_takeCommand_277 ?_
      refine V.sg (tB_se _ _ _ _ _ _) ?_
      have ec : cmd tx n a = (none, a) := (by unfold cmd; rw [hK]; rfl)
      exact hret _ (⟨fun e he => (by rw [ec] at he; cases he; exact ⟨_, _, _, ha1, rfl⟩), fun x y z a2 he => (by rw [ec] at he; cases he)⟩) 280 _ dX4_takeCommand_280
    · skip
      refine r_topi (b := nI 121) (congrArg nI hK) ?_
      refine r_tabIn (pc := 51) (off := 219) (tgt := 270) h (by decide) (by decide) (by decide) (by decide) dX4_takeCommand_51 ?_
      refine r_aload_n (pc := 270) h 1 rfl rfl dX4_takeCommand_270 ?_
      refine r_aload_n (pc := 271) h 1 rfl rfl dX4_takeCommand_271 ?_
      refine g_4_at (pc := 272) h mw_5_17 dX4_takeCommand_272 ?_
      refine r_topi (b := nI (a + 1)) (tB_a _ _ _ _ _) ?_
      refine r_iconst (pc := 275) (v := nI 1) h (by decide) dX4_takeCommand_275 ?_
      refine r_isub (pc := 276) (v := nI ((a + 1) - 1)) h (pk_sub (by omega)) dX4_takeCommand_276 ?_
      refine p_4_error (pc := 277) h mw_5_12 dX4_takeCommand_277 ?_
      refine V.sg (tB_se _ _ _ _ _ _) ?_
      have ec : cmd tx n a = (none, a) := (by unfold cmd; rw [hK]; rfl)
      exact hret _ (⟨fun e he => (by rw [ec] at he; cases he; exact ⟨_, _, _, ha1, rfl⟩), fun x y z a2 he => (by rw [ec] at he; cases he)⟩) 280 _ dX4_takeCommand_280

set_option maxRecDepth 100000 in
set_option maxHeartbeats 800000 in
theorem c_findError (l : Launch) (G : Gl) (σ : Sg) (n : Nat) (tx : Nat → Nat) (ht : TextC n tx σ) : Ci l yX4_findError cX4_findError 2 .int ({ frames := 4, cells := 0, slots := 0, locals := 111 } : Room) G [.ref (G.2.1 + 1)] σ (fun r σ2 => r = oI (runA tx n).1 ∧ Out 1 4 σ σ2 ∧ TextC n tx σ2) := by
  refine Ci_of (own := RX4) rfl (by decide +kernel) (lo := [(0, .ref (G.2.1 + 1))]) rfl (Nat.le_of_ble_eq_true rfl) (fun r s hp => by obtain ⟨rfl, _⟩ := hp; rfl) ?_
  intro x Q hxl h hret
  subst hxl
  have hn9 := ht.1.1
  refine V.sg (show σ = tB σ (σ.1 1 2) (σ.1 1 3) (σ.1 1 4) (σ.1 3) from (tB_self σ).symm) ?_
  refine r_aload_n (pc := 0) h 0 rfl rfl dX4_findError_0 ?_
  refine r_cVv (pc := 1) (As := []) (st := []) h lk_RX4_23 (c_begin x.2.1 G σ n tx ht (σ.1 1 2) (σ.1 1 3) (σ.1 1 4) (σ.1 3)) rc_4 (by decide) rfl rfl (by first | decide | exact Nat.le_of_ble_eq_true rfl) (by decide) dX4_findError_1 (fun s2 q3 => ?_)
  subst q3
  cases hbeg : begB n tx with
  | false =>
    refine V.sg (show _ = tB σ (nI 0) (oI (some 0)) (σ.1 1 4) (σ.1 3) from rfl) ?_
    refine r_iconst (pc := 4) (v := nI 0) h (by decide) dX4_findError_4 ?_
    refine r_istore_n (pc := 5) (lo2 := [(1, .int (nI 0)), (0, .ref (G.2.1 + 1))]) h rfl (by decide) rfl dX4_findError_5 ?_
    have lp6 : ∀ (fu : Nat) (i : Nat) (a : Nat) (e : Option Nat) (k : Int32) (nu : Nat → Int32), i ≤ 120 → a ≤ n → (∀ v, e = some v → v < 2 ^ 31) → (begB n tx = true → TxE tx n i a e) → (begB n tx = false → e = some 0) → 120 - i < fu → V x G 2 0 0 Q (tB σ (nI a) (oI e) k nu) 6 [(0, .ref (G.2.1 + 1)), (1, .int (nI i))] [] := by
      intro fu
      induction fu with
      | zero => intro i a e k nu hi ha he hT hF hfu; exact absurd hfu (Nat.not_lt_zero _)
      | succ fu ih6 =>
        intro i a e k nu hi ha he hT hF hfu
        refine r_iload_n (pc := 6) h 1 rfl rfl dX4_findError_6 ?_
        refine r_bipush (pc := 7) (v := nI 120) h (by decide) dX4_findError_7 ?_
        refine r_icmp_ge (pc := 9) (tgt := 29) h (by decide) dX4_findError_9 (fun c9 => ?_) (fun c9 => ?_)
        · skip
          rw [nI_leI (by omega) (by omega)] at c9
          refine r_aload_n (pc := 29) h 0 rfl rfl dX4_findError_29 ?_
          refine g_4_error (pc := 30) h mw_5_12 dX4_findError_30 ?_
          refine r_topi (b := oI e) (tB_e _ _ _ _ _) ?_
          exact hret _ _ (⟨fe_end hT hF ht.1.1 (by first | exact Or.inl c9 | exact Or.inr c16), tB_out _ _ _ _ _, TextC.tB _ _ _ _ ht⟩) 33 _ dX4_findError_33
        · skip
          rw [nI_leI (by omega) (by omega)] at c9
          refine r_aload_n (pc := 12) h 0 rfl rfl dX4_findError_12 ?_
          refine r_cVi (pc := 13) (As := []) (st := []) h lk_RX4_26 (c_hasMore x.2.1 G σ n tx ht a (by omega) e he k nu) rc_4 (by decide) rfl rfl (by first | decide | exact Nat.le_of_ble_eq_true rfl) (by decide) dX4_findError_13 (fun r4 s5 q6 => ?_)
          rw [q6.1, q6.2]
          refine r_if_eq (pc := 16) (tgt := 29) h (by decide) dX4_findError_16 (fun c16 => ?_) (fun c16 => ?_)
          · skip
            replace c16 := zB_0.mp c16
            refine r_aload_n (pc := 29) h 0 rfl rfl dX4_findError_29 ?_
            refine g_4_error (pc := 30) h mw_5_12 dX4_findError_30 ?_
            refine r_topi (b := oI e) (tB_e _ _ _ _ _) ?_
            exact hret _ _ (⟨fe_end hT hF ht.1.1 (by first | exact Or.inl c9 | exact Or.inr c16), tB_out _ _ _ _ _, TextC.tB _ _ _ _ ht⟩) 33 _ dX4_findError_33
          · skip
            replace c16 := zB_n0.mp c16
            rw [Bool.and_eq_true, decide_eq_true_iff, decide_eq_true_iff] at c16
            obtain ⟨rfl, han⟩ := c16
            refine V.sg (show _ = tB σ (nI a) (-1) k nu from rfl) ?_
            refine r_aload_n (pc := 19) h 0 rfl rfl dX4_findError_19 ?_
            refine r_cVv (pc := 20) (As := []) (st := []) h lk_RX4_30 (c_takeCommand x.2.1 G σ n tx ht a (by omega) k nu) rc_4 (by decide) rfl rfl (by first | decide | exact Nat.le_of_ble_eq_true rfl) (by decide) dX4_findError_20 (fun s8 q9 => ?_)
            obtain ⟨qa, qb⟩ := q9
            obtain ⟨oc, ac, hoc⟩ : ∃ o p, cmd tx n a = (o, p) := ⟨_, _, rfl⟩
            cases oc with
            | none =>
              obtain ⟨a3, k3, nu3, ha3, e3⟩ := qa ac hoc
              have hac : ac < 2 ^ 31 := cmd_lt hoc (by omega) ht.1.1
              subst e3
              refine V.sg (show _ = tB σ (nI a3) (oI (some ac)) k3 nu3 from rfl) ?_
              refine r_iinc (pc := 23) (v := nI (i + 1)) (lo2 := [(1, .int (nI (i + 1))), (0, .ref (G.2.1 + 1))]) h 1 rfl (iinc1 _) (by decide) rfl dX4_findError_23 ?_
              refine r_goto (pc := 26) (tgt := 6) h (by decide) dX4_findError_26 ?_
              refine r_sub (lo2 := [(0, .ref (G.2.1 + 1)), (1, .int (nI (i + 1)))]) [1, 0] rfl ?_
              exact ih6 (i + 1) a3 (some ac) k3 nu3 (by omega) ha3 (fun v hv => (by cases hv; exact hac)) (fun q => (txE_bad (hT q) (by omega) han ht.1.1 hoc hac).some) (fun q => absurd (hF q) (fun z => by cases z)) (by omega)
            | some v9 =>
              obtain ⟨x9, y9, z9⟩ := v9
              obtain ⟨nu3, ha2, ha3, e3, -⟩ := qb x9 y9 z9 ac hoc
              subst e3
              refine V.sg (show _ = tB σ (nI ac) (oI none) (nI (tx a)) nu3 from rfl) ?_
              refine r_iinc (pc := 23) (v := nI (i + 1)) (lo2 := [(1, .int (nI (i + 1))), (0, .ref (G.2.1 + 1))]) h 1 rfl (iinc1 _) (by decide) rfl dX4_findError_23 ?_
              refine r_goto (pc := 26) (tgt := 6) h (by decide) dX4_findError_26 ?_
              refine r_sub (lo2 := [(0, .ref (G.2.1 + 1)), (1, .int (nI (i + 1)))]) [1, 0] rfl ?_
              exact ih6 (i + 1) ac none (nI (tx a)) nu3 (by omega) ha3 (fun v hv => (by cases hv)) (fun q => txE_ok (hT q) (by omega) han ha2 hoc) (fun q => absurd (hF q) (fun z => by cases z)) (by omega)
    refine r_sub (lo2 := [(0, .ref (G.2.1 + 1)), (1, .int (nI 0))]) [1, 0] rfl ?_
    exact lp6 _ 0 0 (some 0) _ _ (by omega) (by omega) (fun v hv => (by cases hv; decide)) (fun q => by rw [hbeg] at q; cases q) (fun _ => rfl) (Nat.lt_succ_self _)
  | true =>
    refine V.sg (show _ = tB σ (nI 1) (oI none) (σ.1 1 4) (σ.1 3) from rfl) ?_
    refine r_iconst (pc := 4) (v := nI 0) h (by decide) dX4_findError_4 ?_
    refine r_istore_n (pc := 5) (lo2 := [(1, .int (nI 0)), (0, .ref (G.2.1 + 1))]) h rfl (by decide) rfl dX4_findError_5 ?_
    have lp6 : ∀ (fu : Nat) (i : Nat) (a : Nat) (e : Option Nat) (k : Int32) (nu : Nat → Int32), i ≤ 120 → a ≤ n → (∀ v, e = some v → v < 2 ^ 31) → (begB n tx = true → TxE tx n i a e) → (begB n tx = false → e = some 0) → 120 - i < fu → V x G 2 0 0 Q (tB σ (nI a) (oI e) k nu) 6 [(0, .ref (G.2.1 + 1)), (1, .int (nI i))] [] := by
      intro fu
      induction fu with
      | zero => intro i a e k nu hi ha he hT hF hfu; exact absurd hfu (Nat.not_lt_zero _)
      | succ fu ih6 =>
        intro i a e k nu hi ha he hT hF hfu
        refine r_iload_n (pc := 6) h 1 rfl rfl dX4_findError_6 ?_
        refine r_bipush (pc := 7) (v := nI 120) h (by decide) dX4_findError_7 ?_
        refine r_icmp_ge (pc := 9) (tgt := 29) h (by decide) dX4_findError_9 (fun c9 => ?_) (fun c9 => ?_)
        · skip
          rw [nI_leI (by omega) (by omega)] at c9
          refine r_aload_n (pc := 29) h 0 rfl rfl dX4_findError_29 ?_
          refine g_4_error (pc := 30) h mw_5_12 dX4_findError_30 ?_
          refine r_topi (b := oI e) (tB_e _ _ _ _ _) ?_
          exact hret _ _ (⟨fe_end hT hF ht.1.1 (by first | exact Or.inl c9 | exact Or.inr c16), tB_out _ _ _ _ _, TextC.tB _ _ _ _ ht⟩) 33 _ dX4_findError_33
        · skip
          rw [nI_leI (by omega) (by omega)] at c9
          refine r_aload_n (pc := 12) h 0 rfl rfl dX4_findError_12 ?_
          refine r_cVi (pc := 13) (As := []) (st := []) h lk_RX4_26 (c_hasMore x.2.1 G σ n tx ht a (by omega) e he k nu) rc_4 (by decide) rfl rfl (by first | decide | exact Nat.le_of_ble_eq_true rfl) (by decide) dX4_findError_13 (fun r10 s11 q12 => ?_)
          rw [q12.1, q12.2]
          refine r_if_eq (pc := 16) (tgt := 29) h (by decide) dX4_findError_16 (fun c16 => ?_) (fun c16 => ?_)
          · skip
            replace c16 := zB_0.mp c16
            refine r_aload_n (pc := 29) h 0 rfl rfl dX4_findError_29 ?_
            refine g_4_error (pc := 30) h mw_5_12 dX4_findError_30 ?_
            refine r_topi (b := oI e) (tB_e _ _ _ _ _) ?_
            exact hret _ _ (⟨fe_end hT hF ht.1.1 (by first | exact Or.inl c9 | exact Or.inr c16), tB_out _ _ _ _ _, TextC.tB _ _ _ _ ht⟩) 33 _ dX4_findError_33
          · skip
            replace c16 := zB_n0.mp c16
            rw [Bool.and_eq_true, decide_eq_true_iff, decide_eq_true_iff] at c16
            obtain ⟨rfl, han⟩ := c16
            refine V.sg (show _ = tB σ (nI a) (-1) k nu from rfl) ?_
            refine r_aload_n (pc := 19) h 0 rfl rfl dX4_findError_19 ?_
            refine r_cVv (pc := 20) (As := []) (st := []) h lk_RX4_30 (c_takeCommand x.2.1 G σ n tx ht a (by omega) k nu) rc_4 (by decide) rfl rfl (by first | decide | exact Nat.le_of_ble_eq_true rfl) (by decide) dX4_findError_20 (fun s14 q15 => ?_)
            obtain ⟨qa, qb⟩ := q15
            obtain ⟨oc, ac, hoc⟩ : ∃ o p, cmd tx n a = (o, p) := ⟨_, _, rfl⟩
            cases oc with
            | none =>
              obtain ⟨a3, k3, nu3, ha3, e3⟩ := qa ac hoc
              have hac : ac < 2 ^ 31 := cmd_lt hoc (by omega) ht.1.1
              subst e3
              refine V.sg (show _ = tB σ (nI a3) (oI (some ac)) k3 nu3 from rfl) ?_
              refine r_iinc (pc := 23) (v := nI (i + 1)) (lo2 := [(1, .int (nI (i + 1))), (0, .ref (G.2.1 + 1))]) h 1 rfl (iinc1 _) (by decide) rfl dX4_findError_23 ?_
              refine r_goto (pc := 26) (tgt := 6) h (by decide) dX4_findError_26 ?_
              refine r_sub (lo2 := [(0, .ref (G.2.1 + 1)), (1, .int (nI (i + 1)))]) [1, 0] rfl ?_
              exact ih6 (i + 1) a3 (some ac) k3 nu3 (by omega) ha3 (fun v hv => (by cases hv; exact hac)) (fun q => (txE_bad (hT q) (by omega) han ht.1.1 hoc hac).some) (fun q => absurd (hF q) (fun z => by cases z)) (by omega)
            | some v9 =>
              obtain ⟨x9, y9, z9⟩ := v9
              obtain ⟨nu3, ha2, ha3, e3, -⟩ := qb x9 y9 z9 ac hoc
              subst e3
              refine V.sg (show _ = tB σ (nI ac) (oI none) (nI (tx a)) nu3 from rfl) ?_
              refine r_iinc (pc := 23) (v := nI (i + 1)) (lo2 := [(1, .int (nI (i + 1))), (0, .ref (G.2.1 + 1))]) h 1 rfl (iinc1 _) (by decide) rfl dX4_findError_23 ?_
              refine r_goto (pc := 26) (tgt := 6) h (by decide) dX4_findError_26 ?_
              refine r_sub (lo2 := [(0, .ref (G.2.1 + 1)), (1, .int (nI (i + 1)))]) [1, 0] rfl ?_
              exact ih6 (i + 1) ac none (nI (tx a)) nu3 (by omega) ha3 (fun v hv => (by cases hv)) (fun q => txE_ok (hT q) (by omega) han ha2 hoc) (fun q => absurd (hF q) (fun z => by cases z)) (by omega)
    refine r_sub (lo2 := [(0, .ref (G.2.1 + 1)), (1, .int (nI 0))]) [1, 0] rfl ?_
    exact lp6 _ 0 1 none _ _ (by omega) (by have := of_decide_eq_true hbeg; omega) (fun v hv => (by cases hv)) (fun _ => ⟨by omega, emptyA, 0, rfl⟩) (fun q => by rw [hbeg] at q; cases q) (Nat.lt_succ_self _)

