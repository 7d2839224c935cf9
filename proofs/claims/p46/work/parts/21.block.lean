/-! a block as it stands: c lists, words w, k readers, d readings, their lists l, numbers passed p, from where f -/
def sB (σ : Sg) (b : Nat) (c : Int32) (w : Nat → Int64) (k d : Int32) (l p f : Nat → Int32) : Sg :=
  (va_up (va_up (va_up (va_up (va_up σ.1 (b + 1) (upd (σ.1 (b + 1)) 1 c)) (b + 3) (upd (upd (σ.1 (b + 3)) 3 k) 4 d)) (b + 4) l) (b + 5) p) (b + 6) f, va_up σ.2 (b + 2) w)
section
variable (σ : Sg) (b : Nat) (c : Int32) (w : Nat → Int64) (k d : Int32) (l p f : Nat → Int32)
theorem sB_c : (sB σ b c w k d l p f).1 (b + 1) 1 = c := by simp [sB, va_up, upd]
theorem sB_w : (sB σ b c w k d l p f).2 (b + 2) = w := by simp [sB, va_up]
theorem sB_k : (sB σ b c w k d l p f).1 (b + 3) 3 = k := by simp [sB, va_up, upd]
theorem sB_d : (sB σ b c w k d l p f).1 (b + 3) 4 = d := by simp [sB, va_up, upd]
theorem sB_l : (sB σ b c w k d l p f).1 (b + 4) = l := by simp [sB, va_up]
theorem sB_p : (sB σ b c w k d l p f).1 (b + 5) = p := by simp [sB, va_up]
theorem sB_f : (sB σ b c w k d l p f).1 (b + 6) = f := by simp [sB, va_up]
theorem sB_wj (j : Nat) : (sB σ b c w k d l p f).2 (b + 2) j = w j := by rw [sB_w]
theorem sB_lj (j : Nat) : (sB σ b c w k d l p f).1 (b + 4) j = l j := by rw [sB_l]
theorem sB_pj (j : Nat) : (sB σ b c w k d l p f).1 (b + 5) j = p j := by rw [sB_p]
theorem sB_fj (j : Nat) : (sB σ b c w k d l p f).1 (b + 6) j = f j := by rw [sB_f]
theorem sB_off (q : Nat) (hq : q < b ∨ b + 7 ≤ q) : (sB σ b c w k d l p f).1 q = σ.1 q ∧ (sB σ b c w k d l p f).2 q = σ.2 q := by
  have h1 : ¬ q = b + 1 := by omega
  have h2 : ¬ q = b + 2 := by omega
  have h3 : ¬ q = b + 3 := by omega
  have h4 : ¬ q = b + 4 := by omega
  have h5 : ¬ q = b + 5 := by omega
  have h6 : ¬ q = b + 6 := by omega
  simp [sB, va_up, h1, h2, h3, h4, h5, h6]
theorem upd_self (g : Nat → Int32) (j : Nat) : upd g j (g j) = g := by
  funext i; by_cases h : i = j
  · subst h; simp [upd]
  · simp [upd, h]
theorem sB_self : sB σ b (σ.1 (b + 1) 1) (σ.2 (b + 2)) (σ.1 (b + 3) 3) (σ.1 (b + 3) 4) (σ.1 (b + 4)) (σ.1 (b + 5)) (σ.1 (b + 6)) = σ := by
  unfold sB
  rw [upd_self, upd_self, upd_self]
  apply Prod.ext
  · funext q
    simp only [va_up]
    split
    · next e => rw [e]
    · split
      · next e => rw [e]
      · split
        · next e => rw [e]
        · split
          · next e => rw [e]
          · split
            · next e => rw [e]
            · rfl
  · funext q
    simp only [va_up]
    split
    · next e => rw [e]
    · rfl
theorem sB_sc (v : Int32) : sI (sB σ b c w k d l p f) (b + 1) 1 v = sB σ b v w k d l p f := by
  unfold sI
  rw [show (sB σ b c w k d l p f).1 (b + 1) = upd (σ.1 (b + 1)) 1 c by simp [sB, va_up]]
  apply Prod.ext
  · funext q j
    simp only [sB, va_up, upd]
    by_cases h : q = b + 1
    · subst h
      by_cases h1 : j = 1 <;> simp [upd, h1]
    · simp [h]
  · rfl
theorem sB_sk (v : Int32) : sI (sB σ b c w k d l p f) (b + 3) 3 v = sB σ b c w v d l p f := by
  unfold sI
  rw [show (sB σ b c w k d l p f).1 (b + 3) = upd (upd (σ.1 (b + 3)) 3 k) 4 d by simp [sB, va_up]]
  apply Prod.ext
  · funext q j
    simp only [sB, va_up, upd]
    by_cases h : q = b + 3
    · subst h
      by_cases h3 : j = 3
      · subst h3; simp [upd]
      · by_cases h4 : j = 4 <;> simp [upd, h3, h4]
    · simp [h]
  · rfl
theorem sB_sd (v : Int32) : sI (sB σ b c w k d l p f) (b + 3) 4 v = sB σ b c w k v l p f := by
  unfold sI
  rw [show (sB σ b c w k d l p f).1 (b + 3) = upd (upd (σ.1 (b + 3)) 3 k) 4 d by simp [sB, va_up]]
  apply Prod.ext
  · funext q j
    simp only [sB, va_up, upd]
    by_cases h : q = b + 3
    · subst h
      by_cases h4 : j = 4
      · subst h4; simp [upd]
      · by_cases h3 : j = 3 <;> simp [upd, h3, h4]
    · simp [h]
  · rfl
theorem sB_sl (j : Nat) (v : Int32) : sI (sB σ b c w k d l p f) (b + 4) j v = sB σ b c w k d (upd l j v) p f := by
  unfold sI
  rw [sB_l]
  apply Prod.ext
  · funext q
    simp only [sB, va_up]
    by_cases h : q = b + 4
    · subst h; simp
    · simp [h]
  · rfl
theorem sB_sp (j : Nat) (v : Int32) : sI (sB σ b c w k d l p f) (b + 5) j v = sB σ b c w k d l (upd p j v) f := by
  unfold sI
  rw [sB_p]
  apply Prod.ext
  · funext q
    simp only [sB, va_up]
    by_cases h : q = b + 5
    · subst h; simp
    · simp [h]
  · rfl
theorem sB_sf (j : Nat) (v : Int32) : sI (sB σ b c w k d l p f) (b + 6) j v = sB σ b c w k d l p (upd f j v) := by
  unfold sI
  rw [sB_f]
  apply Prod.ext
  · funext q
    simp only [sB, va_up]
    by_cases h : q = b + 6
    · subst h; simp
    · simp [h]
  · rfl
theorem sB_sw (j : Nat) (v : Int64) : sL (sB σ b c w k d l p f) (b + 2) j v = sB σ b c (vp_updL w j v) k d l p f := by
  unfold sL
  rw [sB_w]
  apply Prod.ext
  · rfl
  · funext q
    simp only [sB, va_up]
    by_cases h : q = b + 2
    · subst h; simp
    · simp [h]
end
section
variable {x : Cx} {G : Gl} {nL : Nat} {cells slots : Nat} {Q : State → Prop} {σ : Sg} {pc : Nat} {lo : List (Nat × Value)} {st : List Value}
theorem r_topl {a e : Int64} (h : a = e) (k : V x G nL cells slots Q σ pc lo (.long e :: st)) : V x G nL cells slots Q σ pc lo (.long a :: st) := h ▸ k
end
