/-! FRAMES -/
/-- nothing outside lo .. hi - 1 is changed -/
def Out (lo hi : Nat) (σ σ2 : Sg) : Prop := ∀ q, (q < lo ∨ hi ≤ q) → σ2.1 q = σ.1 q ∧ σ2.2 q = σ.2 q
theorem Out.rf (lo hi : Nat) (σ : Sg) : Out lo hi σ σ := fun _ _ => ⟨rfl, rfl⟩
theorem Out.tr {lo hi : Nat} {σ σ1 σ2 : Sg} (h : Out lo hi σ σ1) (h2 : Out lo hi σ1 σ2) : Out lo hi σ σ2 := fun q hq => ⟨(h2 q hq).1.trans (h q hq).1, (h2 q hq).2.trans (h q hq).2⟩
theorem Out.wd {lo hi lo2 hi2 : Nat} {σ σ2 : Sg} (h : Out lo hi σ σ2) (h1 : lo2 ≤ lo) (h2 : hi ≤ hi2) : Out lo2 hi2 σ σ2 := fun q hq => h q (by omega)
theorem Out.i {lo hi : Nat} {σ σ2 : Sg} (h : Out lo hi σ σ2) (q j : Nat) (hq : q < lo ∨ hi ≤ q) : σ2.1 q j = σ.1 q j := by rw [(h q hq).1]
theorem Out.l {lo hi : Nat} {σ σ2 : Sg} (h : Out lo hi σ σ2) (q j : Nat) (hq : q < lo ∨ hi ≤ q) : σ2.2 q j = σ.2 q j := by rw [(h q hq).2]
theorem Up.out {A : Ab} {σ σ2 : Sg} {b : Nat} (h : Up A σ b σ2) : Out b (b + 7) σ σ2 := fun _ hq => h.off hq
theorem out_sI (σ : Sg) (c j : Nat) (v : Int32) : Out c (c + 1) σ (sI σ c j v) := fun q hq => ⟨va_n _ _ (by omega), rfl⟩
theorem sI_at (σ : Sg) (c j : Nat) (v : Int32) : (sI σ c j v).1 c = upd (σ.1 c) j v := va_s _ _ _
theorem sI_s (σ : Sg) (c j : Nat) (v : Int32) : (sI σ c j v).1 c j = v := by rw [sI_at, pk_us]
theorem sI_n (σ : Sg) (c j : Nat) (v : Int32) {i : Nat} (h : i ≠ j) : (sI σ c j v).1 c i = σ.1 c i := by rw [sI_at, pk_un h]
theorem sI_o (σ : Sg) (c j : Nat) (v : Int32) {q : Nat} (h : q ≠ c) : (sI σ c j v).1 q = σ.1 q := va_n _ _ h
theorem RelB.o {A : Ab} {σ σ2 : Sg} {lo hi b : Nat} (h : Out lo hi σ σ2) (hd : b + 7 ≤ lo ∨ hi ≤ b) (hr : RelB A σ b) : RelB A σ2 b := by
  unfold RelB
  rw [(h (b + 1) (by omega)).1, (h (b + 2) (by omega)).2, (h (b + 3) (by omega)).1, (h (b + 4) (by omega)).1, (h (b + 5) (by omega)).1, (h (b + 6) (by omega)).1]
  exact hr
/-! HISTORY: what is remembered -/
def HisC (n : Nat) (H : Nat → Ab) (σ : Sg) : Prop := (n ≤ 14 ∧ σ.1 11 2 = nI n) ∧ ∃ o, o < 14 ∧ σ.1 11 1 = nI o ∧ ∀ k, k < n → RelB (H k) σ (13 + 7 * ((o + k) % 14))
def pushN (n : Nat) : Nat := if n < 14 then n + 1 else 14
def pushH (n : Nat) (H : Nat → Ab) (A : Ab) : Nat → Ab := if n < 14 then va_up H n A else va_up (fun k => H (k + 1)) 13 A
theorem HisC.o {n : Nat} {H : Nat → Ab} {σ σ2 : Sg} {lo hi : Nat} (h : HisC n H σ) (ho : Out lo hi σ σ2) (hd : hi ≤ 11 ∨ 111 ≤ lo) : HisC n H σ2 := by
  obtain ⟨h1, o, h2, h3, h4⟩ := h
  refine ⟨⟨h1.1, by rw [ho.i 11 2 (by omega)]; exact h1.2⟩, o, h2, by rw [ho.i 11 1 (by omega)]; exact h3, fun k hk => (h4 k hk).o ho (by omega)⟩
theorem his_0 {σ : Sg} {o : Nat} (H : Nat → Ab) (h : σ.1 11 2 = nI 0) (ho : o < 14) (h1 : σ.1 11 1 = nI o) : HisC 0 H σ := ⟨⟨by omega, h⟩, o, ho, h1, fun k hk => absurd hk (Nat.not_lt_zero k)⟩
theorem his_forget {n : Nat} {H : Nat → Ab} {σ : Sg} (h : HisC n H σ) (H2 : Nat → Ab) : HisC 0 H2 (sI σ 11 2 (nI 0)) := by
  obtain ⟨h1, o, h2, h3, h4⟩ := h
  exact his_0 H2 (sI_s _ _ _ _) h2 (by rw [sI_n _ _ _ _ (by decide)]; exact h3)
theorem his_push1 {n o : Nat} {H : Nat → Ab} {A : Ab} {σ σ1 : Sg} (hn : n < 14) (ho : o < 14) (h3 : σ.1 11 1 = nI o) (h4 : ∀ k, k < n → RelB (H k) σ (13 + 7 * ((o + k) % 14))) (h : Up A σ (13 + 7 * ((o + n) % 14)) σ1) : HisC (n + 1) (va_up H n A) (sI σ1 11 2 (nI (n + 1))) := by
  have e1 : σ1.1 11 1 = nI o := by rw [h.out.i 11 1 (by omega)]; exact h3
  refine ⟨⟨hn, sI_s _ _ _ _⟩, o, ho, by rw [sI_n _ _ _ _ (by decide)]; exact e1, fun k hk => ?_⟩
  refine RelB.o (out_sI σ1 11 2 _) (by omega) ?_
  by_cases e : k = n
  · subst e; rw [va_s]; exact h.rel
  · rw [va_n _ _ e]
    exact (h4 k (by omega)).o h.out (by omega)
theorem his_push2 {o : Nat} {H : Nat → Ab} {A : Ab} {σ σ1 : Sg} (ho : o < 14) (hc : σ.1 11 2 = nI 14) (h4 : ∀ k, k < 14 → RelB (H k) σ (13 + 7 * ((o + k) % 14))) (h : Up A σ (13 + 7 * ((o + 14) % 14)) σ1) : HisC 14 (va_up (fun k => H (k + 1)) 13 A) (sI σ1 11 1 (nI ((o + 1) % 14))) := by
  have e1 : σ1.1 11 2 = nI 14 := by rw [h.out.i 11 2 (by omega)]; exact hc
  refine ⟨⟨by omega, by rw [sI_n _ _ _ _ (by decide)]; exact e1⟩, (o + 1) % 14, by omega, sI_s _ _ _ _, fun k hk => ?_⟩
  refine RelB.o (out_sI σ1 11 1 _) (by omega) ?_
  by_cases e : k = 13
  · subst e
    rw [va_s, show ((o + 1) % 14 + 13) % 14 = (o + 14) % 14 by omega]
    exact h.rel
  · rw [va_n _ _ e, show ((o + 1) % 14 + k) % 14 = (o + (k + 1)) % 14 by omega]
    exact (h4 (k + 1) (by omega)).o h.out (by omega)
/-! TEXT: a row of signs, and how it is read -/
def TextC (n : Nat) (tx : Nat → Nat) (σ : Sg) : Prop := (n ≤ 120 ∧ σ.1 1 1 = nI n) ∧ ∀ i, i < n → σ.1 2 i = nI (tx i) ∧ tx i < 256
theorem TextC.o {n : Nat} {tx : Nat → Nat} {σ σ2 : Sg} {lo hi : Nat} (h : TextC n tx σ) (ho : Out lo hi σ σ2) (hd : 3 ≤ lo) : TextC n tx σ2 :=
  ⟨⟨h.1.1, by rw [ho.i 1 1 (by omega)]; exact h.1.2⟩, fun i hi => by rw [ho.i 2 i (by omega)]; exact h.2 i hi⟩
/-- the text object: where it reads, its error, the kind, the numbers -/
def tB (σ : Sg) (a e k : Int32) (nu : Nat → Int32) : Sg := (va_up (va_up σ.1 1 (upd (upd (upd (σ.1 1) 2 a) 3 e) 4 k)) 3 nu, σ.2)
section
variable (σ : Sg) (a e k : Int32) (nu : Nat → Int32)
theorem tB_l : (tB σ a e k nu).1 1 1 = σ.1 1 1 := by simp [tB, va_up, upd]
theorem tB_a : (tB σ a e k nu).1 1 2 = a := by simp [tB, va_up, upd]
theorem tB_e : (tB σ a e k nu).1 1 3 = e := by simp [tB, va_up, upd]
theorem tB_k : (tB σ a e k nu).1 1 4 = k := by simp [tB, va_up, upd]
theorem tB_n (j : Nat) : (tB σ a e k nu).1 3 j = nu j := by simp [tB, va_up]
theorem tB_s (j : Nat) : (tB σ a e k nu).1 2 j = σ.1 2 j := by simp [tB, va_up]
theorem tB_sa (v : Int32) : sI (tB σ a e k nu) 1 2 v = tB σ v e k nu := by
  apply Prod.ext
  · funext q j
    by_cases h : q = 1
    · subst h
      by_cases h2 : j = 2
      · subst h2; simp [sI, tB, va_up, upd]
      · by_cases h3 : j = 3 <;> by_cases h4 : j = 4 <;> simp [sI, tB, va_up, upd, h2, h3, h4]
    · simp [sI, tB, va_up, h]
  · rfl
theorem tB_se (v : Int32) : sI (tB σ a e k nu) 1 3 v = tB σ a v k nu := by
  apply Prod.ext
  · funext q j
    by_cases h : q = 1
    · subst h
      by_cases h3 : j = 3
      · subst h3; simp [sI, tB, va_up, upd]
      · by_cases h2 : j = 2 <;> by_cases h4 : j = 4 <;> simp [sI, tB, va_up, upd, h2, h3, h4]
    · simp [sI, tB, va_up, h]
  · rfl
theorem tB_sk (v : Int32) : sI (tB σ a e k nu) 1 4 v = tB σ a e v nu := by
  apply Prod.ext
  · funext q j
    by_cases h : q = 1
    · subst h
      by_cases h4 : j = 4
      · subst h4; simp [sI, tB, va_up, upd]
      · by_cases h2 : j = 2 <;> by_cases h3 : j = 3 <;> simp [sI, tB, va_up, upd, h2, h3, h4]
    · simp [sI, tB, va_up, h]
  · rfl
theorem tB_sn (j : Nat) (v : Int32) : sI (tB σ a e k nu) 3 j v = tB σ a e k (upd nu j v) := by
  apply Prod.ext
  · funext q
    by_cases h : q = 3
    · subst h; simp [sI, tB, va_up]
    · simp [sI, tB, va_up, h]
  · rfl
theorem tB_self : tB σ (σ.1 1 2) (σ.1 1 3) (σ.1 1 4) (σ.1 3) = σ := by
  apply Prod.ext
  · funext q
    by_cases h3 : q = 3
    · subst h3; simp [tB, va_up]
    · by_cases h : q = 1
      · subst h
        funext j
        by_cases h2 : j = 2
        · subst h2; simp [tB, va_up, upd]
        · by_cases h3 : j = 3
          · subst h3; simp [tB, va_up, upd]
          · by_cases h4 : j = 4
            · subst h4; simp [tB, va_up, upd]
            · simp [tB, va_up, upd, h2, h3, h4]
      · simp [tB, va_up, h, h3]
  · rfl
theorem tB_tB (a2 e2 k2 : Int32) (nu2 : Nat → Int32) : tB (tB σ a e k nu) a2 e2 k2 nu2 = tB σ a2 e2 k2 nu2 := by
  apply Prod.ext
  · funext q
    by_cases h3 : q = 3
    · subst h3; simp [tB, va_up]
    · by_cases h : q = 1
      · subst h
        funext j
        by_cases h2 : j = 2
        · subst h2; simp [tB, va_up, upd]
        · by_cases h3 : j = 3
          · subst h3; simp [tB, va_up, upd]
          · by_cases h4 : j = 4
            · subst h4; simp [tB, va_up, upd]
            · simp [tB, va_up, upd, h2, h3, h4]
      · simp [tB, va_up, h, h3]
  · rfl
theorem tB_out : Out 1 4 σ (tB σ a e k nu) := fun q hq => ⟨by simp [tB, va_up, show ¬ q = 1 by omega, show ¬ q = 3 by omega], rfl⟩
theorem TextC.tB {n : Nat} {tx : Nat → Nat} {σ : Sg} (h : TextC n tx σ) : TextC n tx (tB σ a e k nu) :=
  ⟨⟨h.1.1, by rw [tB_l]; exact h.1.2⟩, fun i hi => by rw [tB_s]; exact h.2 i hi⟩
end
def dig (tx : Nat → Nat) (n a : Nat) : Option Nat := if a < n ∧ 48 ≤ tx a ∧ tx a ≤ 57 then some (tx a - 48) else none
theorem dig_le {tx : Nat → Nat} {n a d : Nat} (h : dig tx n a = some d) : d ≤ 9 ∧ a < n := by
  unfold dig at h
  split at h
  · cases h; omega
  · cases h
/-- a number of some digits, digit by digit; the units that are left, what is there, the place -/
def fig (tx : Nat → Nat) (n lo hi : Nat) : List Nat → Nat → Nat → Option Nat × Nat
  | [], v, a => (some v, a)
  | u :: us, v, a => match dig tx n a with
    | none => (none, a)
    | some d => if v + d * u ≤ hi ∧ lo + 1 ≤ v + d * u + u then fig tx n lo hi us (v + d * u) (a + 1) else (none, a)
section
variable {tx : Nat → Nat} {n lo hi u v a d : Nat} {us : List Nat}
theorem fig_e : fig tx n lo hi [] v a = (some v, a) := rfl
theorem fig_n (h : dig tx n a = none) : fig tx n lo hi (u :: us) v a = (none, a) := by rw [fig, h]
theorem fig_s (h : dig tx n a = some d) (h1 : v + d * u ≤ hi) (h2 : lo + 1 ≤ v + d * u + u) : fig tx n lo hi (u :: us) v a = fig tx n lo hi us (v + d * u) (a + 1) := by rw [fig, h]; exact if_pos ⟨h1, h2⟩
theorem fig_f (h : dig tx n a = some d) (h1 : ¬ (v + d * u ≤ hi ∧ lo + 1 ≤ v + d * u + u)) : fig tx n lo hi (u :: us) v a = (none, a) := by rw [fig, h]; exact if_neg h1
theorem fig_le : ∀ (us : List Nat) (v a : Nat), a ≤ n → a ≤ (fig tx n lo hi us v a).2 ∧ (fig tx n lo hi us v a).2 ≤ n
  | [], v, a, h => ⟨Nat.le_refl _, h⟩
  | u :: us, v, a, h => by
    cases e : dig tx n a with
    | none => rw [fig_n e]; exact ⟨Nat.le_refl _, h⟩
    | some d =>
      by_cases q : v + d * u ≤ hi ∧ lo + 1 ≤ v + d * u + u
      · rw [fig_s e q.1 q.2]
        have := (dig_le e).2
        have ih := fig_le us (v + d * u) (a + 1) (by omega)
        exact ⟨by omega, ih.2⟩
      · rw [fig_f e q]; exact ⟨Nat.le_refl _, h⟩
theorem fig_hi : ∀ (us : List Nat) (v a x : Nat), v ≤ hi → (fig tx n lo hi us v a).1 = some x → x ≤ hi
  | [], v, a, x, h, e => by cases e; exact h
  | u :: us, v, a, x, h, e => by
    cases e2 : dig tx n a with
    | none => rw [fig_n e2] at e; cases e
    | some d =>
      by_cases q : v + d * u ≤ hi ∧ lo + 1 ≤ v + d * u + u
      · rw [fig_s e2 q.1 q.2] at e
        exact fig_hi us _ _ x q.1 e
      · rw [fig_f e2 q] at e; cases e
end
abbrev Fr : Type := Option (Nat × Nat × Nat) × Nat
def fone (r : Option Nat × Nat) : Fr := match r with
  | (none, e) => (none, e)
  | (some x, a) => (some (x, 0, 0), a)
def ftwo (r : Option Nat × Nat) (g : Nat → Option Nat × Nat) : Fr := match r with
  | (none, e) => (none, e)
  | (some x, a) => match g a with
    | (none, e) => (none, e)
    | (some y, a2) => (some (x, y, 0), a2)
def fthr (r : Option Nat × Nat) (g k : Nat → Option Nat × Nat) : Fr := match r with
  | (none, e) => (none, e)
  | (some x, a) => match g a with
    | (none, e) => (none, e)
    | (some y, a2) => match k a2 with
      | (none, e) => (none, e)
      | (some z, a3) => (some (x, y, z), a3)
section
variable (tx : Nat → Nat) (n : Nat)
def fL (a : Nat) : Option Nat × Nat := fig tx n 0 11 [10, 1] 0 a
def fR (a : Nat) : Option Nat × Nat := fig tx n 0 3 [1] 0 a
/-- a command's numbers, by its letter; the letter's place is a -/
def cmd (a : Nat) : Fr := match tx a with
  | 115 => ftwo (fig tx n 0 999 [100, 10, 1] 0 (a + 1)) (fun p => fig tx n 1 99 [10, 1] 0 p)
  | 120 => fthr (fL tx n (a + 1)) (fun p => fig tx n 1 9 [1] 0 p) (fun p => fig tx n 0 99 [10, 1] 0 p)
  | 106 => ftwo (fL tx n (a + 1)) (fL tx n)
  | 104 => ftwo (fL tx n (a + 1)) (fL tx n)
  | 119 => ftwo (fL tx n (a + 1)) (fL tx n)
  | 118 => fone (fL tx n (a + 1))
  | 117 => fone (fL tx n (a + 1))
  | 114 => fone (fL tx n (a + 1))
  | 101 => ftwo (fL tx n (a + 1)) (fun p => fig tx n 1 9 [1] 0 p)
  | 110 => fone (fR tx n (a + 1))
  | 122 => fone (fR tx n (a + 1))
  | 113 => fone (fR tx n (a + 1))
  | 107 => ftwo (fR tx n (a + 1)) (fun p => fig tx n 1 99 [10, 1] 0 p)
  | 100 => (some (0, 0, 0), a + 1)
  | _ => (none, a)
/-- the commands from a on: the error, the state, how many were skipped -/
noncomputable def runT : Nat → Nat → Ab → Nat → Option Nat × Ab × Nat
  | 0, _, A, s => (none, A, s)
  | f + 1, a, A, s => if a < n then match cmd tx n a with
      | (none, e) => (some e, A, s)
      | (some (x, y, z), a2) => runT f a2 (att A (tx a) (nI x) (nI y) (nI z)).2 (if ob A (tx a) (nI x) (nI y) (nI z) = 0 then s else s + 1)
    else (none, A, s)
noncomputable def runA : Option Nat × Ab × Nat := if 0 < n ∧ tx 0 = 76 then runT tx n 120 1 emptyA 0 else (some 0, emptyA, 0)
end
