/-! THE REFERENCE: its cells; a state as a row of 59 numbers -/
/-- the reference: the row s of the cell c, the members h, the crossed x, its own fields m -/
def mB (σ : Sg) (c : Nat) (s h x m : Nat → Int32) : Sg := (va_up (va_up (va_up (va_up σ.1 134 m) 141 h) 142 x) c s, σ.2)
def Rc (c : Nat) : Prop := c = 136 ∨ c = 137
theorem a_rc {G : Gl} {c : Nat} (h : Rc c) : isA G c 59 0 := by
  rcases h with rfl | rfl
  · exact a_mn
  · exact a_mr
section
variable {σ : Sg} {c : Nat} {s h x m : Nat → Int32}
theorem mB_s (j : Nat) : (mB σ c s h x m).1 c j = s j := by simp [mB, va_up]
theorem mB_h (hc : Rc c) (j : Nat) : (mB σ c s h x m).1 141 j = h j := by rcases hc with rfl | rfl <;> simp [mB, va_up]
theorem mB_x (hc : Rc c) (j : Nat) : (mB σ c s h x m).1 142 j = x j := by rcases hc with rfl | rfl <;> simp [mB, va_up]
theorem mB_m (hc : Rc c) (j : Nat) : (mB σ c s h x m).1 134 j = m j := by rcases hc with rfl | rfl <;> simp [mB, va_up]
theorem mB_o {q : Nat} (hq : q ≠ c ∧ q ≠ 134 ∧ q ≠ 141 ∧ q ≠ 142) : (mB σ c s h x m).1 q = σ.1 q := by simp [mB, va_up, hq.1, hq.2.1, hq.2.2.1, hq.2.2.2]
theorem mB_oj {q : Nat} (hq : q ≠ c ∧ q ≠ 134 ∧ q ≠ 141 ∧ q ≠ 142) (j : Nat) : (mB σ c s h x m).1 q j = σ.1 q j := by rw [mB_o hq]
theorem sg_ext {σ τ : Sg} (h1 : ∀ q, σ.1 q = τ.1 q) (h2 : σ.2 = τ.2) : σ = τ := Prod.ext (funext h1) h2
theorem mB_ss (j : Nat) (v : Int32) : sI (mB σ c s h x m) c j v = mB σ c (upd s j v) h x m := by
  refine sg_ext (fun q => ?_) rfl
  by_cases e : q = c
  · subst e; simp [sI, mB, va_up]
  · simp [sI, mB, va_up, e]
theorem mB_sh (hc : Rc c) (j : Nat) (v : Int32) : sI (mB σ c s h x m) 141 j v = mB σ c s (upd h j v) x m := by
  refine sg_ext (fun q => ?_) rfl
  rcases hc with rfl | rfl
  all_goals
    by_cases e : q = 141
    · subst e; simp [sI, mB, va_up]
    · simp [sI, mB, va_up, e]
theorem mB_sx (hc : Rc c) (j : Nat) (v : Int32) : sI (mB σ c s h x m) 142 j v = mB σ c s h (upd x j v) m := by
  refine sg_ext (fun q => ?_) rfl
  rcases hc with rfl | rfl
  all_goals
    by_cases e : q = 142
    · subst e; simp [sI, mB, va_up]
    · simp [sI, mB, va_up, e]
theorem mB_sm (hc : Rc c) (j : Nat) (v : Int32) : sI (mB σ c s h x m) 134 j v = mB σ c s h x (upd m j v) := by
  refine sg_ext (fun q => ?_) rfl
  rcases hc with rfl | rfl
  all_goals
    by_cases e : q = 134
    · subst e; simp [sI, mB, va_up]
    · simp [sI, mB, va_up, e]
theorem mB_self (hc : Rc c) : mB σ c (σ.1 c) (σ.1 141) (σ.1 142) (σ.1 134) = σ := by
  refine sg_ext (fun q => ?_) rfl
  rcases hc with rfl | rfl
  all_goals
    by_cases e1 : q = 134
    · subst e1; simp [mB, va_up]
    · by_cases e2 : q = 141
      · subst e2; simp [mB, va_up]
      · by_cases e3 : q = 142
        · subst e3; simp [mB, va_up]
        · simp only [mB, va_up, e1, e2, e3, if_false]
          split
          · next e => rw [e]
          · rfl
theorem mB_mB (hc : Rc c) (s2 h2 x2 m2 : Nat → Int32) : mB (mB σ c s h x m) c s2 h2 x2 m2 = mB σ c s2 h2 x2 m2 := by
  refine sg_ext (fun q => ?_) rfl
  rcases hc with rfl | rfl
  all_goals
    by_cases e1 : q = 134
    · subst e1; simp [mB, va_up]
    · by_cases e2 : q = 141
      · subst e2; simp [mB, va_up]
      · by_cases e3 : q = 142
        · subst e3; simp [mB, va_up]
        · simp only [mB, va_up, e1, e2, e3, if_false]
          split
          · rfl
          · next e => simp [e]
theorem mB_out (hc : Rc c) : Out 134 143 σ (mB σ c s h x m) := fun q hq => ⟨mB_o (by rcases hc with rfl | rfl <;> omega), rfl⟩
end
/-- the row s is the state A -/
def RelM (A : Ab) (s : Nat → Int32) : Prop :=
  s 0 = nI A.1 ∧ s 1 = nI A.2.1 ∧ s 2 = A.2.2.1 ∧ (∀ L, L < A.1 → s (3 + 4 * L) = nI (aU A L).1 ∧ s (3 + 4 * L + 1) = nI (aU A L).2.1 ∧ ((aU A L).1 ≠ 5 → (aU A L).1 ≠ 7 → s (3 + 4 * L + 2) = nI (aU A L).2.2.1) ∧ ((aU A L).1 = 1 → s (3 + 4 * L + 3) = nI (aU A L).2.2.2)) ∧
  (∀ r, r < A.2.1 → s (51 + 2 * r) = nI (aL A r) ∧ s (51 + 2 * r + 1) = nI (aP A r))
/-- a state as it can be -/
def okA (A : Ab) : Prop := A.1 ≤ 12 ∧ A.2.1 ≤ 4 ∧ (∀ L, L < A.1 → okR (aU A L) L) ∧ ∀ r, r < A.2.1 → aL A r < A.1 ∧ aP A r ≤ cS (mem (aU A) (aL A r)) 1000
theorem RelC.ok {A : Ab} {c : Int32} {w : Nat → Int64} {k d : Int32} {l p f : Nat → Int32} (h : RelC A c w k d l p f) : okA A :=
  ⟨h.1.1, h.2.1.1, fun L hL => (h.2.2.2.1 L hL).1, fun r hr => by
    obtain ⟨a, -, -, g, q1, -, q3⟩ := h.2.2.2.2 r hr
    exact ⟨a, by rw [← q3]; exact cS_mono _ q1⟩⟩
theorem okR_k {u : Rul} {L : Nat} (h : okR u L) : u.1 ≤ 7 := by
  obtain ⟨k, a, b, c⟩ := u
  match k, h with
  | 0, _ => exact Nat.le_of_ble_eq_true rfl
  | 1, _ => exact Nat.le_of_ble_eq_true rfl
  | 2, _ => exact Nat.le_of_ble_eq_true rfl
  | 3, _ => exact Nat.le_of_ble_eq_true rfl
  | 4, _ => exact Nat.le_of_ble_eq_true rfl
  | 5, _ => exact Nat.le_of_ble_eq_true rfl
  | 6, _ => exact Nat.le_of_ble_eq_true rfl
  | 7, _ => exact Nat.le_of_ble_eq_true rfl
theorem okR_a {u : Rul} {L : Nat} (h : okR u L) (hk : u.1 ≠ 0) : u.2.1 < L := by
  obtain ⟨k, a, b, c⟩ := u
  match k, h with
  | 0, _ => exact absurd rfl hk
  | 1, h => exact h.1
  | 2, h => exact h.1
  | 3, h => exact h.1
  | 4, h => exact h.1
  | 5, h => exact h
  | 6, h => exact h.1
  | 7, h => exact h
/-- one row of the members: whether P -/
def RowP (h : Nat → Int32) (L : Nat) (P : Nat → Prop) : Prop := ∀ v, v < 1000 → (h (1000 * L + v) = nI 1 ∧ P v) ∨ (h (1000 * L + v) = nI 0 ∧ ¬ P v)
theorem RowP.iff {h : Nat → Int32} {L : Nat} {P Q : Nat → Prop} (r : RowP h L P) (e : ∀ v, v < 1000 → (P v ↔ Q v)) : RowP h L Q := fun v hv => (r v hv).imp (fun q => ⟨q.1, (e v hv).mp q.2⟩) (fun q => ⟨q.1, fun z => q.2 ((e v hv).mpr z)⟩)
/-- the rows of the first n lists are their members -/
def HasN (U : Nat → Rul) (n : Nat) (h : Nat → Int32) : Prop := ∀ L, L < n → ∀ v, v < 1000 → h (1000 * L + v) = zB (mem U L v)
theorem HasN.row {U : Nat → Rul} {n : Nat} {h : Nat → Int32} (hh : HasN U n h) (hr : RowP h n (fun v => mem U n v = true)) : HasN U (n + 1) h := fun L hL v hv => by
  by_cases e : L = n
  · subst e
    rcases hr v hv with ⟨q1, q2⟩ | ⟨q1, q2⟩
    · rw [q1, q2]; rfl
    · rw [q1]
      cases q : mem U L v with
      | false => rfl
      | true => exact absurd q q2
  · exact hh L (by omega) v hv
theorem HasN.off {U : Nat → Rul} {n : Nat} {h h2 : Nat → Int32} (hh : HasN U n h) (e : ∀ j, j < 1000 * n → h2 j = h j) : HasN U n h2 := fun L hL v hv => by rw [e _ (by omega)]; exact hh L hL v hv
