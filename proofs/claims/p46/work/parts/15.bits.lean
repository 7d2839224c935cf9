/-! BITS: rows of bits in longs, the lowest bit, the count of bits (the rows wb_, fa_ and fb_ began as the kit's, for pasting) -/
theorem r_sub {x : Cx} {G : Gl} {nL : Nat} {cells slots : Nat} {Q : State → Prop} {σ : Sg} {pc : Nat} {lo lo2 : List (Nat × Value)} {st : List Value} (ks : List Nat) (hl2 : lv_pick lo ks = lo2) (k : V x G nL cells slots Q σ pc lo2 st) : V x G nL cells slots Q σ pc lo st := fun H lc ls hP hS hl => k H lc ls hP hS (lv_sub hl ks hl2)
theorem V.sg {x : Cx} {G : Gl} {nL : Nat} {cells slots : Nat} {Q : State → Prop} {σ σ2 : Sg} {pc : Nat} {lo : List (Nat × Value)} {st : List Value} (e : σ = σ2) (k : V x G nL cells slots Q σ2 pc lo st) : V x G nL cells slots Q σ pc lo st := e ▸ k
theorem wb_tb (n : Nat) : (lN n).toBitVec = BitVec.ofNat 64 n := rfl
theorem wb_inj {a b : Int64} (h : a.toBitVec = b.toBitVec) : a = b := Int64.toBitVec_inj.mp h
theorem wb_tn {n : Nat} (h : n < 2 ^ 64) : (lN n).toBitVec.toNat = n := by rw [wb_tb, BitVec.toNat_ofNat, Nat.mod_eq_of_lt h]
theorem wb_of (x : Int64) : ∃ n, n < 2 ^ 64 ∧ x = lN n := ⟨x.toBitVec.toNat, x.toBitVec.isLt, wb_inj (by rw [wb_tb]; simp)⟩
theorem wb_cu : ∀ k, k < 64 → ((nI k).toInt64.toUInt64 &&& Int64.toUInt64 63) = UInt64.ofNat k := by decide +kernel
theorem wb_sm : ∀ k, k < 64 → (BitVec.ofNat 64 k).smod 64 = BitVec.ofNat 64 k := by decide +kernel
theorem wb_shr {n k : Nat} (hn : n < 2 ^ 64) (hk : k < 64) : ((lN n).toUInt64 >>> ((nI k).toInt64.toUInt64 &&& Int64.toUInt64 63)).toInt64 = lN (n / 2 ^ k) := by
  rw [wb_cu k hk]
  apply wb_inj
  apply BitVec.eq_of_toNat_eq
  show ((lN n).toUInt64 >>> UInt64.ofNat k).toNat = (BitVec.ofNat 64 _).toNat
  have h1 : (UInt64.ofNat k).toNat = k := by
    show (BitVec.ofNat 64 k).toNat = k
    rw [BitVec.toNat_ofNat, Nat.mod_eq_of_lt (by omega)]
  have h2 : (lN n).toUInt64.toNat = n := wb_tn hn
  rw [UInt64.toNat_shiftRight, h1, h2, Nat.mod_eq_of_lt hk, Nat.shiftRight_eq_div_pow, BitVec.toNat_ofNat, Nat.mod_eq_of_lt (Nat.lt_of_le_of_lt (Nat.div_le_self _ _) hn)]
theorem fa_and (a b : Nat) : nI a &&& nI b = nI (a &&& b) := by
  apply Int32.toBitVec_inj.1
  show BitVec.ofNat 32 a &&& BitVec.ofNat 32 b = BitVec.ofNat 32 (a &&& b)
  apply BitVec.eq_of_getLsbD_eq
  intro i hi
  simp [hi]
theorem fa_mask (n k : Nat) : nI n &&& nI (2 ^ k - 1) = nI (n % 2 ^ k) := by rw [fa_and, Nat.and_two_pow_sub_one_eq_mod]
theorem fb_andL (a b : Nat) : lN a &&& lN b = lN (a &&& b) := by
  apply Int64.toBitVec_inj.1
  show BitVec.ofNat 64 a &&& BitVec.ofNat 64 b = BitVec.ofNat 64 (a &&& b)
  apply BitVec.eq_of_getLsbD_eq
  intro i hi
  simp [hi]
theorem fb_maskL (n k : Nat) : lN n &&& lN (2 ^ k - 1) = lN (n % 2 ^ k) := by rw [fb_andL, Nat.and_two_pow_sub_one_eq_mod]
theorem iinc1 (i : Nat) : nI i + Int32.ofInt 1 = nI (i + 1) := nI_1 i
/-- how many below n -/
def cS (S : Nat → Bool) : Nat → Nat
  | 0 => 0
  | n + 1 => cS S n + if S n then 1 else 0
theorem cS_cong {S T : Nat → Bool} : ∀ {n : Nat}, (∀ k, k < n → S k = T k) → cS S n = cS T n
  | 0, _ => rfl
  | n + 1, h => by rw [cS, cS, cS_cong (fun k hk => h k (by omega)), h n (by omega)]
theorem cS_le (S : Nat → Bool) : ∀ n, cS S n ≤ n
  | 0 => Nat.le_refl _
  | n + 1 => by have := cS_le S n; rw [cS]; split <;> omega
theorem cS_add (S : Nat → Bool) (m : Nat) : ∀ n, cS S (m + n) = cS S m + cS (fun k => S (m + k)) n
  | 0 => rfl
  | n + 1 => by rw [← Nat.add_assoc, cS, cS_add S m n, cS]; omega
theorem cS_mono (S : Nat → Bool) {m n : Nat} (h : m ≤ n) : cS S m ≤ cS S n := by
  obtain ⟨k, rfl⟩ := Nat.le.dest h
  rw [cS_add]; omega
theorem cS_none {S : Nat → Bool} : ∀ {n : Nat}, (∀ k, k < n → S k = false) → cS S n = 0
  | 0, _ => rfl
  | n + 1, h => by rw [cS, cS_none (fun k hk => h k (by omega)), h n (by omega)]; rfl
theorem cS_lt (i : Nat) : ∀ n, cS (fun j => decide (j < i)) n = min i n
  | 0 => by simp [cS]
  | n + 1 => by
    rw [cS, cS_lt i n]
    by_cases h : n < i
    · simp [h]; omega
    · simp [h]; omega
/-- the amount of a shift -/
theorem amt {n : Nat} (hn : n < 2 ^ 31) : ((nI n).toInt64 &&& 63).toBitVec.smod 64 = BitVec.ofNat 64 (n % 64) := by
  have h1 : (nI n).toInt64 &&& 63 = lN (n % 64) := by rw [nI_l hn]; exact fb_maskL n 6
  rw [h1, wb_tb, wb_sm _ (Nat.mod_lt _ (by decide))]
theorem shl_bit (x : Int64) {n j : Nat} (hn : n < 2 ^ 31) (hj : j < 64) : (x <<< ((nI n).toInt64 &&& 63)).toBitVec.getLsbD j = (decide (n % 64 ≤ j) && x.toBitVec.getLsbD (j - n % 64)) := by
  have hm : n % 64 < 64 := Nat.mod_lt _ (by decide)
  rw [Int64.toBitVec_shiftLeft, amt hn, BitVec.shiftLeft_eq', BitVec.getLsbD_shiftLeft, BitVec.toNat_ofNat, Nat.mod_eq_of_lt (show n % 64 < 2 ^ 64 by omega)]
  by_cases h : n % 64 ≤ j
  · simp [h, hj, Nat.not_lt.mpr h]
  · simp [h, Nat.lt_of_not_le h]
theorem m1_bit {j : Nat} (hj : j < 64) : (-1 : Int64).toBitVec.getLsbD j = true := by
  have : ∀ j, j < 64 → (-1 : Int64).toBitVec.getLsbD j = true := by decide +kernel
  exact this j hj
theorem one_bit (j : Nat) : (1 : Int64).toBitVec.getLsbD j = decide (j = 0) := by
  show (1#64).getLsbD j = _
  rw [BitVec.getLsbD_one]
  simp
theorem b1_bit {n j : Nat} (hn : n < 2 ^ 31) (hj : j < 64) : ((1 : Int64) <<< ((nI n).toInt64 &&& 63)).toBitVec.getLsbD j = decide (j = n % 64) := by
  rw [shl_bit _ hn hj, one_bit]
  have hm : n % 64 < 64 := Nat.mod_lt _ (by decide)
  by_cases h : j = n % 64
  · subst h; simp
  · by_cases h2 : n % 64 ≤ j
    · have : ¬ j - n % 64 = 0 := by omega
      simp [h, this]
    · simp [h, h2]
theorem L_ext {a b : Int64} (h : ∀ j, j < 64 → a.toBitVec.getLsbD j = b.toBitVec.getLsbD j) : a = b := wb_inj (BitVec.eq_of_getLsbD_eq (fun i hi => h i hi))
theorem L_zero {a : Int64} : a = 0 ↔ ∀ j, j < 64 → a.toBitVec.getLsbD j = false := by
  constructor
  · intro h j _; subst h; show (0#64).getLsbD j = false; simp
  · intro h; apply L_ext; intro j hj; rw [h j hj]; show false = (0#64).getLsbD j; simp
theorem and_bit (a b : Int64) (j : Nat) : (a &&& b).toBitVec.getLsbD j = (a.toBitVec.getLsbD j && b.toBitVec.getLsbD j) := by
  rw [Int64.toBitVec_and, BitVec.getLsbD_and]
theorem or_bit (a b : Int64) (j : Nat) : (a ||| b).toBitVec.getLsbD j = (a.toBitVec.getLsbD j || b.toBitVec.getLsbD j) := by
  rw [Int64.toBitVec_or, BitVec.getLsbD_or]
theorem xor_bit (a b : Int64) (j : Nat) : (a ^^^ b).toBitVec.getLsbD j = (a.toBitVec.getLsbD j ^^ b.toBitVec.getLsbD j) := by
  rw [Int64.toBitVec_xor, BitVec.getLsbD_xor]
theorem tst_bit {w : Int64} {n : Nat} (hn : n < 2 ^ 31) : (w &&& ((1 : Int64) <<< ((nI n).toInt64 &&& 63))) = 0 ↔ w.toBitVec.getLsbD (n % 64) = false := by
  have hm : n % 64 < 64 := Nat.mod_lt _ (by decide)
  rw [L_zero]
  constructor
  · intro h
    have := h (n % 64) hm
    rw [and_bit, b1_bit hn hm] at this
    simpa using this
  · intro h j hj
    rw [and_bit, b1_bit hn hj]
    by_cases e : j = n % 64
    · subst e; simp [h]
    · simp [e]
theorem lgc0 (a : Int64) : lg_cmp a 0 = 0 ↔ a = 0 := by
  unfold lg_cmp
  constructor
  · intro h
    split at h
    · exact absurd h (by decide)
    · split at h
      · assumption
      · exact absurd h (by decide)
  · intro h
    subst h
    decide
/-- the row L of the words w has the number v -/
def bW (w : Nat → Int64) (L v : Nat) : Bool := (w (L * 16 + v / 64)).toBitVec.getLsbD (v % 64)
theorem bW_at {w : Nat → Int64} {L i j : Nat} (hj : j < 64) : bW w L (i * 64 + j) = (w (L * 16 + i)).toBitVec.getLsbD j := by
  unfold bW
  rw [show (i * 64 + j) / 64 = i by omega, show (i * 64 + j) % 64 = j by omega]
/-- the least member from n on, below the next k numbers -/
def nx (S : Nat → Bool) : Nat → Nat → Option Nat
  | 0, _ => none
  | k + 1, n => if S n then some n else nx S k (n + 1)
def nxt (S : Nat → Bool) (n : Nat) : Option Nat := nx S (1000 - n) n
def oI (o : Option Nat) : Int32 := match o with
  | none => -1
  | some v => nI v
theorem nx_some {S : Nat → Bool} : ∀ {k n v : Nat}, n ≤ v → v < n + k → S v = true → (∀ u, n ≤ u → u < v → S u = false) → nx S k n = some v
  | 0, n, v, h1, h2, _, _ => by omega
  | k + 1, n, v, h1, h2, h3, h4 => by
    rw [nx]
    by_cases e : n = v
    · subst e; rw [if_pos h3]
    · rw [if_neg (by rw [h4 n (Nat.le_refl _) (by omega)]; decide)]
      exact nx_some (by omega) (by omega) h3 (fun u hu hv => h4 u (by omega) hv)
theorem nx_none {S : Nat → Bool} : ∀ {k n : Nat}, (∀ u, n ≤ u → u < n + k → S u = false) → nx S k n = none
  | 0, n, _ => rfl
  | k + 1, n, h => by rw [nx, if_neg (by rw [h n (Nat.le_refl _) (by omega)]; decide)]; exact nx_none (fun u h1 h2 => h u (by omega) (by omega))
theorem nx_spec {S : Nat → Bool} : ∀ {k n v : Nat}, nx S k n = some v → n ≤ v ∧ v < n + k ∧ S v = true ∧ ∀ u, n ≤ u → u < v → S u = false
  | 0, n, v, h => by cases h
  | k + 1, n, v, h => by
    rw [nx] at h
    by_cases e : S n = true
    · rw [if_pos e] at h; cases h; exact ⟨Nat.le_refl _, by omega, e, fun u h1 h2 => by omega⟩
    · rw [if_neg e] at h
      obtain ⟨h1, h2, h3, h4⟩ := nx_spec h
      exact ⟨by omega, by omega, h3, fun u hu hv => by
        by_cases q : u = n
        · subst q; simpa using e
        · exact h4 u (by omega) hv⟩
theorem nx_specN {S : Nat → Bool} : ∀ {k n : Nat}, nx S k n = none → ∀ u, n ≤ u → u < n + k → S u = false
  | 0, n, _, u, h1, h2 => by omega
  | k + 1, n, h, u, h1, h2 => by
    rw [nx] at h
    by_cases e : S n = true
    · rw [if_pos e] at h; cases h
    · rw [if_neg e] at h
      by_cases q : u = n
      · subst q; simpa using e
      · exact nx_specN h u (by omega) (by omega)
theorem nxt_some {S : Nat → Bool} {n v : Nat} (h1 : n ≤ v) (h2 : v < 1000) (h3 : S v = true) (h4 : ∀ u, n ≤ u → u < v → S u = false) : nxt S n = some v := nx_some h1 (by omega) h3 h4
theorem nxt_none {S : Nat → Bool} {n : Nat} (h : ∀ u, n ≤ u → u < 1000 → S u = false) : nxt S n = none := nx_none (fun u h1 h2 => h u h1 (by omega))
theorem nxt_spec {S : Nat → Bool} {n v : Nat} (h : nxt S n = some v) : n ≤ v ∧ v < 1000 ∧ S v = true ∧ ∀ u, n ≤ u → u < v → S u = false := by
  obtain ⟨h1, h2, h3, h4⟩ := nx_spec h
  exact ⟨h1, by omega, h3, h4⟩
theorem nxt_specN {S : Nat → Bool} {n : Nat} (h : nxt S n = none) : ∀ u, n ≤ u → u < 1000 → S u = false := fun u h1 h2 => nx_specN h u h1 (by omega)
theorem nxt_cong {S T : Nat → Bool} {n : Nat} (h : ∀ v, v < 1000 → S v = T v) : nxt S n = nxt T n := by
  cases e : nxt T n with
  | none => exact nxt_none (fun u h1 h2 => by rw [h u h2]; exact nxt_specN e u h1 h2)
  | some v =>
    obtain ⟨h1, h2, h3, h4⟩ := nxt_spec e
    exact nxt_some h1 h2 (by rw [h v h2]; exact h3) (fun u hu hv => by rw [h u (by omega)]; exact h4 u hu hv)
theorem oI_eq {o : Option Nat} (h : ∀ v, o = some v → v < 2 ^ 31) : oI o = -1 ↔ o = none := by
  cases o with
  | none => simp [oI]
  | some v =>
    have := h v rfl
    constructor
    · intro e
      have e2 : (nI v).toInt = (-1 : Int32).toInt := congrArg Int32.toInt e
      rw [nI_toInt this] at e2
      have : (-1 : Int32).toInt = -1 := by decide
      omega
    · intro e; cases e
theorem oI_nxt {S : Nat → Bool} {n : Nat} : oI (nxt S n) = -1 ↔ nxt S n = none := oI_eq (fun v h => by have := (nxt_spec h).2.1; omega)
/-- the index of the lowest bit -/
theorem low_form : ∀ (n : Nat), n ≠ 0 → ∃ i q, n = 2 ^ i * (2 * q + 1) := by
  intro n
  induction n using Nat.strongRecOn with
  | ind n ih =>
    intro h
    by_cases e : n % 2 = 0
    · obtain ⟨i, q, hm⟩ := ih (n / 2) (by omega) (by omega)
      refine ⟨i + 1, q, ?_⟩
      have e2 : n = n / 2 * 2 := by omega
      rw [e2, hm, Nat.pow_succ, Nat.mul_right_comm]
    · exact ⟨0, n / 2, by rw [Nat.pow_zero]; omega⟩
theorem odd_bit (q j : Nat) : (2 * q + 1).testBit j = (decide (j = 0) || q.testBit (j - 1)) := by
  cases j with
  | zero => simp [Nat.testBit_zero]
  | succ j =>
    rw [Nat.testBit_succ, show (2 * q + 1) / 2 = q by omega]
    simp
theorem low_and {n i q : Nat} (hn : n = 2 ^ i * (2 * q + 1)) (h : n < 2 ^ 64) : i < 64 ∧ n &&& (2 ^ 64 - n) = 2 ^ i := by
  have hi : i < 64 := by
    rcases Nat.lt_or_ge i 64 with a | a
    · exact a
    · have h1 : 2 ^ 64 ≤ 2 ^ i := Nat.pow_le_pow_right (by decide) a
      have h2 : 2 ^ i * 1 ≤ 2 ^ i * (2 * q + 1) := Nat.mul_le_mul_left _ (by omega)
      rw [← hn] at h2
      omega
  refine ⟨hi, ?_⟩
  have hp : 2 ^ 64 = 2 ^ i * (2 * 2 ^ (63 - i)) := by
    rw [show 2 * 2 ^ (63 - i) = 2 ^ (64 - i) by rw [← Nat.pow_succ']; congr 1; omega, ← Nat.pow_add]
    congr 1; omega
  have hq : q < 2 ^ (63 - i) := by
    have h1 : 2 ^ i * (2 * q + 1) < 2 ^ i * (2 * 2 ^ (63 - i)) := by rw [← hn, ← hp]; exact h
    have h2 := Nat.lt_of_mul_lt_mul_left h1
    omega
  have h2 : 2 ^ 64 - n = 2 ^ i * (2 * (2 ^ (63 - i) - (q + 1)) + 1) := by
    rw [hn, hp, ← Nat.mul_sub]
    congr 1; omega
  apply Nat.eq_of_testBit_eq
  intro j
  rw [Nat.testBit_and, h2, hn, Nat.testBit_two_pow_mul, Nat.testBit_two_pow_mul, odd_bit, odd_bit, Nat.testBit_two_pow]
  by_cases hj : i ≤ j
  · obtain ⟨k, rfl⟩ := Nat.le.dest hj
    rw [Nat.add_sub_cancel_left]
    cases k with
    | zero => simp
    | succ k =>
      simp only [Nat.succ_ne_zero, decide_false, Bool.false_or, Nat.add_sub_cancel]
      rw [Nat.testBit_two_pow_sub_succ hq]
      have : ¬ i = i + (k + 1) := by omega
      simp only [this, decide_false]
      cases q.testBit k <;> simp
  · have : ¬ i = j := by omega
    simp [hj, this]
def popc (x : Int64) : Nat := cS (fun j => x.toBitVec.getLsbD j) 64
theorem low_pop {x : Int64} (h : x ≠ 0) : ∃ i, i < 64 ∧ x.toBitVec.getLsbD i = true ∧ (∀ j, j < i → x.toBitVec.getLsbD j = false) ∧ popc ((x &&& -x) - 1) = i := by
  obtain ⟨n, hn, rfl⟩ := wb_of x
  have h0 : n ≠ 0 := fun e => h (by rw [e]; rfl)
  obtain ⟨i, q, hq⟩ := low_form n h0
  obtain ⟨hi, ha⟩ := low_and hq hn
  have hbit : ∀ j, (lN n).toBitVec.getLsbD j = n.testBit j := fun j => by
    show (lN n).toBitVec.toNat.testBit j = _
    rw [wb_tn hn]
  have hneg : -(lN n) = lN (2 ^ 64 - n) := by
    apply wb_inj
    show -(BitVec.ofNat 64 n) = BitVec.ofNat 64 (2 ^ 64 - n)
    apply BitVec.eq_of_toNat_eq
    rw [BitVec.toNat_neg, BitVec.toNat_ofNat, BitVec.toNat_ofNat, Nat.mod_eq_of_lt hn]
  have hpi : 2 ^ i < 2 ^ 64 := Nat.pow_lt_pow_right (by decide) hi
  have h1i : 1 ≤ 2 ^ i := Nat.one_le_two_pow
  have hv : (lN n &&& -(lN n)) - 1 = lN (2 ^ i - 1) := by
    rw [hneg, fb_andL, ha]
    exact lN_sub h1i
  refine ⟨i, hi, ?_, fun j hj => ?_, ?_⟩
  · rw [hbit, hq, Nat.testBit_two_pow_mul, odd_bit]; simp
  · rw [hbit, hq, Nat.testBit_two_pow_mul]
    have : ¬ i ≤ j := by omega
    simp [this]
  · rw [hv]
    unfold popc
    rw [cS_cong (T := fun j => decide (j < i)), cS_lt]
    · omega
    · intro k hk
      show (lN (2 ^ i - 1)).toBitVec.toNat.testBit k = _
      rw [wb_tn (by omega), Nat.testBit_two_pow_sub_one]
