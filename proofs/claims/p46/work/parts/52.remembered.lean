/-! WHAT IS REMEMBERED -/
/-- the state that k + 1 undoings bring back -/
def rem (S : Cs) (k : Nat) : Ab := sH S (sM S - 1 - k)
theorem pu_A (S : Cs) (A2 : Ab) : sA (pu S A2) = A2 := rfl
theorem pu_m (S : Cs) (A2 : Ab) : sM (pu S A2) = pushN (sM S) := rfl
theorem pn_b {m : Nat} (h : m ≤ 14) : 1 ≤ pushN m ∧ pushN m ≤ 14 ∧ m ≤ pushN m := by unfold pushN; split <;> omega
theorem rem_0 {S : Cs} {A2 : Ab} (hm : sM S ≤ 14) : rem (pu S A2) 0 = sA S := by
  show pushH (sM S) (sH S) (sA S) (pushN (sM S) - 1 - 0) = sA S
  unfold pushH pushN
  by_cases h : sM S < 14
  · rw [if_pos h, if_pos h, Nat.add_sub_cancel, Nat.sub_zero]
    exact va_s _ _ _
  · rw [if_neg h, if_neg h]
    exact va_s _ _ _
theorem rem_s {S : Cs} {A2 : Ab} {k : Nat} (hm : sM S ≤ 14) (hk : k < sM S) (hk2 : k < 13) : rem (pu S A2) (k + 1) = rem S k := by
  show pushH (sM S) (sH S) (sA S) (pushN (sM S) - 1 - (k + 1)) = sH S (sM S - 1 - k)
  unfold pushH pushN
  by_cases h : sM S < 14
  · rw [if_pos h, if_pos h, va_n _ _ (by omega)]
    congr 1
    omega
  · rw [if_neg h, if_neg h, va_n _ _ (by omega)]
    show sH S (14 - 1 - (k + 1) + 1) = _
    congr 1
    omega
theorem poN_H (S : Cs) : ∀ n, sH (poN S n) = sH S
  | 0 => rfl
  | n + 1 => (show sH (poN S n) = sH S from poN_H S n)
theorem poN_A (S : Cs) (n : Nat) : sA (poN S (n + 1)) = rem S n := by
  show sH (poN S n) (sM (poN S n) - 1) = sH S (sM S - 1 - n)
  rw [poN_H, poN_m]
  congr 1
  omega
/-- what the law keeps true of the object: two lists at least, now and in the slots; no step of what is remembered makes more than one -/
def nxA (S : Cs) (k : Nat) : Ab := if k + 1 < sM S then sH S (k + 1) else sA S
def LI (S : Cs) : Prop := 2 ≤ nLi S ∧ (∀ j, j < 2 → sV S j = true → 2 ≤ (sL2 S j).1) ∧ ∀ k, k < sM S → (nxA S k).1 ≤ (sH S k).1 + 1
theorem LI_pu {S : Cs} {A2 : Ab} (h : LI S) (hm : sM S ≤ 14) (h1 : A2.1 ≤ nLi S + 1) (h2 : 2 ≤ A2.1) : LI (pu S A2) := by
  obtain ⟨a, b, c⟩ := h
  refine ⟨h2, b, fun k hk => ?_⟩
  have hk : k < pushN (sM S) := hk
  show (if k + 1 < pushN (sM S) then pushH (sM S) (sH S) (sA S) (k + 1) else A2).1 ≤ (pushH (sM S) (sH S) (sA S) k).1 + 1
  unfold pushH pushN at *
  by_cases h : sM S < 14
  · rw [if_pos h] at hk ⊢
    rw [if_pos h]
    by_cases e : k + 1 < sM S + 1
    · rw [if_pos e, va_n _ _ (show k ≠ sM S by omega)]
      by_cases e2 : k + 1 = sM S
      · rw [e2, va_s]
        have := c k (by omega)
        unfold nxA at this
        rw [if_neg (by omega)] at this
        exact this
      · rw [va_n _ _ e2]
        have := c k (by omega)
        unfold nxA at this
        rw [if_pos (by omega)] at this
        exact this
    · rw [if_neg e, show k = sM S by omega, va_s]
      exact h1
  · rw [if_neg h] at hk ⊢
    rw [if_neg h]
    by_cases e : k + 1 < 14
    · rw [if_pos e, va_n _ _ (show k ≠ 13 by omega)]
      by_cases e2 : k + 1 = 13
      · rw [e2, va_s]
        have := c (k + 1) (by omega)
        unfold nxA at this
        rw [if_neg (by omega), e2] at this
        exact this
      · rw [va_n _ _ e2]
        have := c (k + 1) (by omega)
        unfold nxA at this
        rw [if_pos (by omega)] at this
        exact this
    · rw [if_neg e, show k = 13 by omega, va_s]
      exact h1
theorem LI_po {S : Cs} (h : LI S) (h0 : 0 < sM S) (h2 : 2 ≤ (sH S (sM S - 1)).1) : LI (po S) := by
  obtain ⟨a, b, c⟩ := h
  refine ⟨h2, b, fun k hk => ?_⟩
  have hk : k < sM S - 1 := hk
  show (if k + 1 < sM S - 1 then sH S (k + 1) else sH S (sM S - 1)).1 ≤ (sH S k).1 + 1
  have := c k (by omega)
  unfold nxA at this
  rw [if_pos (by omega)] at this
  by_cases e : k + 1 < sM S - 1
  · rw [if_pos e]; exact this
  · rw [if_neg e, show sM S - 1 = k + 1 by omega]; exact this
theorem LI_poN {S : Cs} (h : LI S) : ∀ n, n ≤ sM S → (∀ k, k < n → 2 ≤ (rem S k).1) → LI (poN S n)
  | 0, _, _ => h
  | n + 1, hn, hk => by
    refine LI_po (LI_poN h n (by omega) (fun k q => hk k (by omega))) (by rw [poN_m]; omega) ?_
    have := hk n (by omega)
    rw [← poN_A] at this
    exact this
theorem LI_sq {S T : Cs} {C : Nat} (h : LI S) (ht : C = 0 → LI T) : LI (sq C S T) := by
  by_cases e : C = 0
  · rw [sq_0 e]; exact ht e
  · rw [sq_n e]; exact h
theorem LI_ksv {S : Cs} (h : LI S) (u : Int32) : LI (ksv S u) := by
  obtain ⟨a, b, c⟩ := h
  refine ⟨a, fun j hj hv => ?_, c⟩
  have hv : va_up (sV S) (toN u) true j = true := hv
  show 2 ≤ (va_up (sL2 S) (toN u) (sA S) j).1
  by_cases e : j = toN u
  · subst e; rw [va_s]; exact a
  · rw [va_n _ _ e]
    rw [va_n _ _ e] at hv
    exact b j hj hv
theorem LI_rst {S : Cs} (h : LI S) (u : Int32) (h1 : toN u < 2) (h2 : sV S (toN u) = true) : LI (rst S u) :=
  ⟨h.2.1 _ h1 h2, h.2.1, fun k hk => absurd hk (Nat.not_lt_zero k)⟩
theorem co_le {A : Ab} {K : Nat} {a b c : Int32} : (co A K a b c).2.1 ≤ A.1 + 1 := by
  unfold co
  split <;> (try dsimp only [mkA]) <;> omega
theorem co_mk {A : Ab} {K : Nat} {a b c : Int32} (h : K ≠ 100) : A.1 ≤ (co A K a b c).2.1 := by
  unfold co
  split <;> (try dsimp only [mkA]) <;> first | omega | exact absurd rfl h
theorem LI_act {S : Cs} {K : Nat} {a b c : Int32} {C : Nat} (h : LI S) (hm : sM S ≤ 14) (hK : K ≠ 100) : LI (sq C S (pu S (co (sA S) K a b c).2)) := LI_sq h (fun _ => LI_pu h hm co_le (Nat.le_trans h.1 (co_mk hK)))
/-- one thing done keeps it -/
theorem LI_actF {S : Cs} {n : Nat} (h : LI S) (hm : sM S ≤ 14) : LI (actF S n).2 := by
  have A := fun (K : Nat) (a b c : Int32) (C : Nat) (hK : K ≠ 100) => LI_act (S := S) (K := K) (a := a) (b := b) (c := c) (C := C) h hm hK
  rcases (show n % 16 = 0 ∨ n % 16 = 1 ∨ n % 16 = 2 ∨ n % 16 = 3 ∨ n % 16 = 4 ∨ n % 16 = 5 ∨ n % 16 = 6 ∨ n % 16 = 7 ∨ n % 16 = 8 ∨ n % 16 = 9 ∨ n % 16 = 10 ∨ n % 16 = 11 ∨ n % 16 = 12 ∨ n % 16 = 13 ∨ n % 16 = 14 ∨ n % 16 = 15 by omega) with hv | hv | hv | hv | hv | hv | hv | hv | hv | hv | hv | hv | hv | hv | hv | hv <;> (unfold actF; rw [hv])
  · exact A 115 _ _ _ _ (by decide)
  · exact A 115 _ _ _ _ (by decide)
  · exact A 120 _ _ _ _ (by decide)
  · exact A 106 _ _ _ _ (by decide)
  · change LI (ite _ (_, _) (_, _)).2
    split
    · exact A 104 _ _ _ _ (by decide)
    · exact A 119 _ _ _ _ (by decide)
  · exact A 118 _ _ _ _ (by decide)
  · exact A 101 _ _ _ _ (by decide)
  · exact A 117 _ _ _ _ (by decide)
  · exact A 114 _ _ _ _ (by decide)
  · exact A 114 _ _ _ _ (by decide)
  · change LI (ite _ (_, _) (_, _)).2
    split
    · exact h
    · rename_i q
      have q2 : ¬ (sA S).1 < 3 := q
      exact LI_sq h (fun _ => LI_pu h hm co_le (by show 2 ≤ (sA S).1 - 1; omega))
  · change LI (ite _ (_, _) (ite _ (_, _) (_, _))).2
    split
    · exact h
    · split
      · exact A 113 _ _ _ _ (by decide)
      · exact A 122 _ _ _ _ (by decide)
  · change LI (ite _ (_, _) (_, _)).2
    split
    · exact h
    · exact A 107 _ _ _ _ (by decide)
  · change LI (ite _ (_, _) (_, _)).2
    split
    · exact h
    · rename_i q
      have q2 : ¬ (sA S).1 < 3 := q
      refine LI_sq h (fun e => ?_)
      have e0 : sM S ≠ 0 := fun z => by
        have e1 : cB (decide (sM S ≠ 0)) 3 = 0 := e
        rw [decide_eq_false (fun y => y z)] at e1
        exact absurd e1 (by decide)
      refine LI_po h (by omega) ?_
      have := h.2.2 (sM S - 1) (by omega)
      unfold nxA at this
      rw [if_neg (by omega)] at this
      omega
  · change LI (ite _ (_, _) (_, _)).2
    split
    · exact LI_sq h (fun _ => LI_ksv h _)
    · refine LI_sq h (fun e => ?_)
      have e1 : seqC (cB (inB (nI 0) (nI 1) (nI (n / 16 / 2 % 2))) 1) (cB (sV S (toN (nI (n / 16 / 2 % 2)))) 3) = 0 := e
      refine LI_rst h _ (by rw [toN_nI (by omega)]; omega) ?_
      cases q : sV S (toN (nI (n / 16 / 2 % 2))) with
      | true => rfl
      | false =>
        rw [q, in_t (by omega) (by omega) (by omega)] at e1
        exact absurd e1 (by decide)
  · change LI (ite _ (_, _) (_, _)).2
    split
    · exact h
    · exact A 110 _ _ _ _ (by decide)
