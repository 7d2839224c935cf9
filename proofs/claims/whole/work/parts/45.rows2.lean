/-! THE REFERENCE: rows of members -/
def addH (h : Nat → Int32) (L w : Nat) : Nat → Int32 := if w ≤ 999 then upd h (1000 * L + w) (nI 1) else h
theorem addH_1 {h : Nat → Int32} {L w : Nat} (q : w ≤ 999) : addH h L w = upd h (1000 * L + w) (nI 1) := if_pos q
theorem addH_0 {h : Nat → Int32} {L w : Nat} (q : ¬ w ≤ 999) : addH h L w = h := if_neg q
theorem rowP_add {h : Nat → Int32} {L : Nat} {P : Nat → Prop} (r : RowP h L P) (w : Nat) : RowP (addH h L w) L (fun y => P y ∨ y = w) := by
  by_cases q : w ≤ 999
  · rw [addH_1 q]
    intro v hv
    by_cases e : v = w
    · subst e; exact Or.inl ⟨pk_us, Or.inr rfl⟩
    · rw [pk_un (by omega)]
      exact (r v hv).imp (fun z => ⟨z.1, Or.inl z.2⟩) (fun z => ⟨z.1, fun y => y.elim z.2 e⟩)
  · rw [addH_0 q]
    exact r.iff (fun v hv => ⟨Or.inl, fun y => y.elim id (fun y => by omega)⟩)
theorem addH_off {h : Nat → Int32} {L w j : Nat} (hj : j < 1000 * L) : addH h L w j = h j := by
  by_cases q : w ≤ 999
  · rw [addH_1 q, pk_un (by omega)]
  · rw [addH_0 q]
/-- crossed out: t' * v for 2 ≤ t' < t -/
def StX (x x1 : Nat → Int32) (v t : Nat) : Prop := ∀ y, y < 1000 → (x1 y = nI 1 ∧ ∃ k, 2 ≤ k ∧ k < t ∧ y = k * v) ∨ (x1 y = x y ∧ ¬ ∃ k, 2 ≤ k ∧ k < t ∧ y = k * v)
theorem stX_0 (x : Nat → Int32) (v : Nat) : StX x x v 2 := fun y hy => Or.inr ⟨rfl, fun ⟨k, a, b, c⟩ => by omega⟩
theorem stX_s {x x1 : Nat → Int32} {v t : Nat} (h : StX x x1 v t) (ht : 2 ≤ t) : StX x (upd x1 (t * v) (nI 1)) v (t + 1) := fun y hy => by
  by_cases e : y = t * v
  · subst e; exact Or.inl ⟨pk_us, t, ht, by omega, rfl⟩
  · rw [pk_un e]
    refine (h y hy).imp (fun z => ⟨z.1, ?_⟩) (fun z => ⟨z.1, fun q => z.2 ?_⟩)
    · obtain ⟨k, a, b, c⟩ := z.2; exact ⟨k, a, by omega, c⟩
    · obtain ⟨k, a, b, c⟩ := q
      refine ⟨k, a, ?_, c⟩
      rcases Nat.lt_or_ge k t with d | d
      · exact d
      · have : k = t := by omega
        subst this; exact absurd c e
theorem stX_v {x x1 : Nat → Int32} {v t : Nat} (h : StX x x1 v t) (hv : v < 1000) (h1 : 1 < v ∨ t = 2) : x1 v = x v := by
  rcases h v hv with z | z
  · obtain ⟨-, k, a, b, c⟩ := z
    rcases h1 with q | q
    · have := Nat.mul_le_mul_right v a; omega
    · omega
  · exact z.1
/-- what a number that is kept crosses out -/
def Crs (x x2 : Nat → Int32) (v : Nat) (cr : Bool) : Prop := ∀ y, y < 1000 → (x2 y = nI 1 ∧ (1 < v ∧ cr = false ∧ v < y ∧ y % v = 0)) ∨ (x2 y = x y ∧ ¬ (1 < v ∧ cr = false ∧ v < y ∧ y % v = 0))
theorem crs_none {x x1 : Nat → Int32} {v : Nat} {cr : Bool} (h : StX x x1 v 2) (hn : ¬ (1 < v ∧ cr = false) ∨ 999 < 2 * v) : Crs x x1 v cr := fun y hy => by
  rcases h y hy with z | z
  · obtain ⟨-, k, a, b, c⟩ := z; omega
  · refine Or.inr ⟨z.1, fun q => ?_⟩
    rcases hn with e | e
    · exact e ⟨q.1, q.2.1⟩
    · obtain ⟨q1, q2, q3, q4⟩ := q
      have e1 : y / v * v = y := Nat.div_mul_cancel (Nat.dvd_of_mod_eq_zero q4)
      rcases Nat.lt_or_ge (y / v) 2 with d | d
      · have := Nat.mul_le_mul_right v (show y / v ≤ 1 by omega); omega
      · have := Nat.mul_le_mul_right v d; omega
theorem crs_all {x x1 : Nat → Int32} {v t : Nat} {cr : Bool} (h : StX x x1 v t) (h1 : 1 < v) (h2 : cr = false) (ht : 2 ≤ t) (he : 999 < t * v) : Crs x x1 v cr := fun y hy => by
  have key : (∃ k, 2 ≤ k ∧ k < t ∧ y = k * v) ↔ (v < y ∧ y % v = 0) := by
    constructor
    · rintro ⟨k, a, b, c⟩
      have := Nat.mul_le_mul_right v a
      exact ⟨by omega, by rw [c]; exact Nat.mul_mod_left _ _⟩
    · rintro ⟨a, b⟩
      have e1 : y / v * v = y := Nat.div_mul_cancel (Nat.dvd_of_mod_eq_zero b)
      refine ⟨y / v, ?_, ?_, e1.symm⟩
      · rcases Nat.lt_or_ge (y / v) 2 with d | d
        · have := Nat.mul_le_mul_right v (show y / v ≤ 1 by omega); omega
        · exact d
      · rcases Nat.lt_or_ge (y / v) t with d | d
        · exact d
        · have := Nat.mul_le_mul_right v d; omega
  exact (h y hy).imp (fun z => ⟨z.1, h1, h2, key.mp z.2⟩) (fun z => ⟨z.1, fun q => z.2 (key.mpr q.2.2)⟩)
set_option maxRecDepth 100000 in
set_option maxHeartbeats 800000 in
theorem c_adds (l : Launch) (G : Gl) (σ : Sg) (c : Nat) (hc : Rc c) (s h xx m : Nat → Int32) (L w : Nat) (hL : L < 12) (hw : w < 2 ^ 31) : Cv l yX6_adds cX6_adds 3 ({ frames := 0, cells := 0, slots := 0, locals := 0 } : Room) G [.ref (G.2.1 + 134), .int (nI L), .int (nI w)] (mB σ c s h xx m) (fun σ2 => σ2 = mB σ c s (addH h L w) xx m) := by
  refine Cv_of (own := RX6) rfl (by decide +kernel) (lo := [(0, .ref (G.2.1 + 134)), (1, .int (nI L)), (2, .int (nI w))]) rfl (Nat.le_of_ble_eq_true rfl) ?_
  intro x Q hxl h hret
  subst hxl
  refine r_iload_n (pc := 0) h 2 rfl rfl dX6_adds_0 ?_
  refine r_sipush (pc := 1) (v := nI 999) h (by decide) dX6_adds_1 ?_
  refine r_icmp_gt (pc := 4) (tgt := 20) h (by decide) dX6_adds_4 (fun c4 => ?_) (fun c4 => ?_)
  · skip
    rw [nI_ltI (by omega) (by omega)] at c4
    exact hret _ (by rw [addH_0 (by omega)]) 20 _ dX6_adds_20
  · skip
    rw [nI_ltI (by omega) (by omega)] at c4
    refine r_aload_n (pc := 7) h 0 rfl rfl dX6_adds_7 ?_
    refine g_6_has (pc := 8) h mw_4_2 dX6_adds_8 ?_
    refine r_sipush (pc := 11) (v := nI 1000) h (by decide) dX6_adds_11 ?_
    refine r_iload_n (pc := 14) h 1 rfl rfl dX6_adds_14 ?_
    refine r_imul (pc := 15) (v := nI (1000 * L)) h (pk_mul _ _) dX6_adds_15 ?_
    refine r_iload_n (pc := 16) h 2 rfl rfl dX6_adds_16 ?_
    refine r_iadd (pc := 17) (v := nI ((1000 * L) + w)) h (nI_add _ _) dX6_adds_17 ?_
    refine r_iconst (pc := 18) (v := nI 1) h (by decide) dX6_adds_18 ?_
    refine r_zast (pc := 19) (w := nI 1) h a_mh ((1000 * L) + w) rfl (by omega) (by decide) dX6_adds_19 ?_
    refine V.sg (mB_sh hc _ _) ?_
    exact hret _ (by rw [addH_1 (by omega)]) 20 _ dX6_adds_20

