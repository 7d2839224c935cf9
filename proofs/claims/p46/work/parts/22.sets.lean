/-! SETS: rows of bits as sets of numbers; what the rules make of them -/
theorem w9 {n : Nat} (h : n < 2 ^ 31) : (nI 0 ≤ nI n ∧ nI n ≤ nI 999) ↔ n < 1000 := by
  rw [nI_leI (by omega) h, nI_leI h (by omega)]
  omega
theorem mm_min {n : Nat} (h : n < 1000) : (if nI 999 < nI n then nI 999 else nI n) = nI n := by
  rw [if_neg]; rw [nI_ltI (by omega) (by omega)]; omega
theorem mm_max {n : Nat} (h : n < 1000) : (if nI 0 < nI n then nI n else nI 0) = nI n := by
  by_cases e : n = 0
  · subst e; rfl
  · rw [if_pos]; rw [nI_ltI (by omega) (by omega)]; omega
theorem mm_maxN {a d : Nat} (ha : a < 2 ^ 31) (hd : d < 2 ^ 31) : (if nI a < nI d then nI d else nI a) = nI (max a d) := by
  by_cases e : a < d
  · rw [if_pos ((nI_ltI ha hd).mpr e), Nat.max_eq_right (by omega)]
  · rw [if_neg (fun h => e ((nI_ltI ha hd).mp h)), Nat.max_eq_left (by omega)]
def Clr (w : Nat → Int64) (L : Nat) : Prop := ∀ v, 1000 ≤ v → v < 1024 → bW w L v = false
def Off (w w2 : Nat → Int64) (n : Nat) : Prop := ∀ j, (j < n * 16 ∨ n * 16 + 16 ≤ j) → w2 j = w j
theorem Off.rf (w : Nat → Int64) (n : Nat) : Off w w n := fun _ _ => rfl
theorem Off.tr {w w2 w3 : Nat → Int64} {n : Nat} (h : Off w w2 n) (h2 : Off w2 w3 n) : Off w w3 n := fun j hj => (h2 j hj).trans (h j hj)
theorem bW_off {w w2 : Nat → Int64} {n L v : Nat} (h : Off w w2 n) (hL : L ≠ n) (hv : v < 1024) : bW w2 L v = bW w L v := by
  unfold bW
  rw [h]
  omega
theorem Clr.off {w w2 : Nat → Int64} {n L : Nat} (h : Off w w2 n) (hL : L ≠ n) (hc : Clr w L) : Clr w2 L := fun v h1 h2 => by rw [bW_off h hL h2]; exact hc v h1 h2
def setB (w : Nat → Int64) (L v : Nat) : Nat → Int64 := vp_updL w (L * 16 + v / 64) ((w (L * 16 + v / 64)) ||| ((1 : Int64) <<< ((nI v).toInt64 &&& 63)))
def clrB (w : Nat → Int64) (L v : Nat) : Nat → Int64 := vp_updL w (L * 16 + v / 64) ((w (L * 16 + v / 64)) &&& (((1 : Int64) <<< ((nI v).toInt64 &&& 63)) ^^^ (-1)))
theorem bW_set {w : Nat → Int64} {L v u : Nat} (hv : v < 1024) : bW (setB w L v) L u = (bW w L u || decide (u = v)) := by
  unfold bW setB vp_updL
  by_cases e : u / 64 = v / 64
  · rw [if_pos (by rw [e]), or_bit, b1_bit (by omega) (Nat.mod_lt _ (by decide)), e]
    congr 1
    by_cases q : u = v
    · subst q; simp
    · rw [decide_eq_false q, decide_eq_false (by omega)]
  · rw [if_neg (by omega)]
    rw [decide_eq_false (show ¬ u = v by rintro rfl; exact e rfl), Bool.or_false]
theorem bW_clr {w : Nat → Int64} {L v u : Nat} (hv : v < 1024) : bW (clrB w L v) L u = (bW w L u && !decide (u = v)) := by
  unfold bW clrB vp_updL
  have hm : u % 64 < 64 := Nat.mod_lt _ (by decide)
  by_cases e : u / 64 = v / 64
  · rw [if_pos (by rw [e]), and_bit, xor_bit, b1_bit (by omega) hm, m1_bit hm, e]
    congr 1
    by_cases q : u = v
    · subst q; simp
    · rw [decide_eq_false q, decide_eq_false (show ¬ u % 64 = v % 64 by omega)]; rfl
  · rw [if_neg (by omega)]
    rw [decide_eq_false (show ¬ u = v by rintro rfl; exact e rfl)]
    simp
theorem setB_off {w : Nat → Int64} {L v : Nat} (hv : v < 1024) : Off w (setB w L v) L := fun j hj => by
  unfold setB vp_updL
  rw [if_neg (by omega)]
theorem clrB_off {w : Nat → Int64} {L v : Nat} (hv : v < 1024) : Off w (clrB w L v) L := fun j hj => by
  unfold clrB vp_updL
  rw [if_neg (by omega)]
theorem bW_word {w : Nat → Int64} {L v : Nat} : bW w L v = (w (L * 16 + v / 64)).toBitVec.getLsbD (v % 64) := rfl
/-- hits and misses of nextFrom, a word at a time -/
theorem nf_hit {w : Nat → Int64} {L n i : Nat} {m : Int64} (hi : i < 16) (hm : ∀ j, j < 64 → m.toBitVec.getLsbD j = decide (n ≤ i * 64 + j)) (hno : ∀ v, n ≤ v → v < i * 64 → bW w L v = false) (hc : Clr w L) (h : ¬ lg_cmp ((w (L * 16 + i)) &&& m) 0 = 0) :
    nI (i * 64 + popc ((((w (L * 16 + i)) &&& m) &&& -((w (L * 16 + i)) &&& m)) - 1)) = oI (nxt (bW w L) n) := by
  rw [lgc0] at h
  obtain ⟨t, ht, h1, h2, h3⟩ := low_pop h
  rw [h3]
  rw [and_bit] at h1
  have h1a : bW w L (i * 64 + t) = true := by rw [bW_at ht]; exact (Bool.and_eq_true_iff.mp h1).1
  have h1b : n ≤ i * 64 + t := by
    have := (Bool.and_eq_true_iff.mp h1).2
    rw [hm t ht] at this
    exact of_decide_eq_true this
  have hlt : i * 64 + t < 1000 := by
    rcases Nat.lt_or_ge (i * 64 + t) 1000 with q | q
    · exact q
    · rw [hc _ q (by omega)] at h1a; cases h1a
  rw [nxt_some h1b hlt h1a (fun u hu hv => ?_)]
  · rfl
  · rcases Nat.lt_or_ge u (i * 64) with q | q
    · exact hno u hu q
    · obtain ⟨j, rfl⟩ := Nat.le.dest q
      have hj : j < 64 := by omega
      have h4 := h2 j (by omega)
      rw [and_bit, hm j hj, decide_eq_true hu, Bool.and_true] at h4
      rw [bW_at hj]; exact h4
theorem nf_miss {w : Nat → Int64} {L n i : Nat} {m : Int64} (hm : ∀ j, j < 64 → m.toBitVec.getLsbD j = decide (n ≤ i * 64 + j)) (hno : ∀ v, n ≤ v → v < i * 64 → bW w L v = false) (h : lg_cmp ((w (L * 16 + i)) &&& m) 0 = 0) :
    ∀ v, n ≤ v → v < (i + 1) * 64 → bW w L v = false := by
  rw [lgc0, L_zero] at h
  intro v h1 h2
  rcases Nat.lt_or_ge v (i * 64) with q | q
  · exact hno v h1 q
  · obtain ⟨j, rfl⟩ := Nat.le.dest q
    have hj : j < 64 := by omega
    have h4 := h j hj
    rw [and_bit, hm j hj, decide_eq_true h1, Bool.and_true] at h4
    rw [bW_at hj]; exact h4
theorem nf_m0 {n : Nat} (hn : n < 2 ^ 31) : ∀ j, j < 64 → ((-1 : Int64) <<< ((nI n).toInt64 &&& 63)).toBitVec.getLsbD j = decide (n ≤ n / 64 * 64 + j) := by
  intro j hj
  rw [shl_bit _ hn hj, m1_bit (by omega), Bool.and_true]
  by_cases e : n % 64 ≤ j
  · rw [decide_eq_true e, decide_eq_true (by omega)]
  · rw [decide_eq_false e, decide_eq_false (by omega)]
theorem nf_m1 {n i : Nat} (h : n ≤ i * 64) : ∀ j, j < 64 → (-1 : Int64).toBitVec.getLsbD j = decide (n ≤ i * 64 + j) := fun j hj => by rw [m1_bit hj, decide_eq_true (by omega)]
/-- the member at a place -/
def ath (S : Nat → Bool) (k : Nat) : Option Nat := nxt (fun v => S v && decide (cS S v = k)) 0
theorem ath_some {S : Nat → Bool} {k v : Nat} (hv : v < 1000) (h : S v = true) (hk : cS S v = k) : ath S k = some v := by
  refine nxt_some (Nat.zero_le _) hv (by rw [h, hk]; simp) (fun u _ hu => ?_)
  have : cS S (u + 1) ≤ cS S v := cS_mono S (by omega)
  cases e : S u with
  | false => rfl
  | true =>
    rw [cS, if_pos e] at this
    show (true && decide (cS S u = k)) = false
    rw [decide_eq_false (by omega)]; rfl
theorem ath_none {S : Nat → Bool} {k : Nat} (h : cS S 1000 ≤ k) : ath S k = none := by
  refine nxt_none (fun u _ hu => ?_)
  have : cS S (u + 1) ≤ cS S 1000 := cS_mono S (by omega)
  cases e : S u with
  | false => rfl
  | true =>
    rw [cS, if_pos e] at this
    show (true && decide (cS S u = k)) = false
    rw [decide_eq_false (by omega)]; rfl
theorem ath_spec {S : Nat → Bool} {k v : Nat} (h : ath S k = some v) : v < 1000 ∧ S v = true ∧ cS S v = k := by
  obtain ⟨-, h1, h2, -⟩ := nxt_spec h
  simp only [Bool.and_eq_true, decide_eq_true_eq] at h2
  exact ⟨h1, h2.1, h2.2⟩
theorem ath_specN {S : Nat → Bool} {k : Nat} (h : ath S k = none) : cS S 1000 ≤ k := by
  have key : ∀ m, m ≤ 1000 → (∀ u, u < m → S u = true → cS S u ≠ k) → cS S m ≤ k := by
    intro m
    induction m with
    | zero => intro _ _; exact Nat.zero_le _
    | succ m ih =>
      intro hm hh
      have h1 := ih (by omega) (fun u hu => hh u (by omega))
      rw [cS]
      by_cases e : S m = true
      · have := hh m (by omega) e
        rw [if_pos e]; omega
      · rw [if_neg e]; omega
  refine key 1000 (Nat.le_refl _) (fun u hu hs hk => ?_)
  have := nxt_specN h u (Nat.zero_le _) hu
  rw [hs, hk] at this
  simp at this
theorem ath_cong {S T : Nat → Bool} (h : ∀ v, v < 1000 → S v = T v) (k : Nat) : ath S k = ath T k := nxt_cong (fun v hv => by rw [h v hv, cS_cong (fun u hu => h u (by omega))])
/-- from the next to the one behind it -/
theorem nxt_cS {S : Nat → Bool} {m v : Nat} (h : nxt S m = some v) : cS S v = cS S m ∧ cS S (v + 1) = cS S m + 1 := by
  obtain ⟨h1, h2, h3, h4⟩ := nxt_spec h
  have e : cS S v = cS S m := by
    obtain ⟨k, rfl⟩ := Nat.le.dest h1
    rw [cS_add, cS_none (fun q hq => h4 (m + q) (by omega) (by omega))]; omega
  exact ⟨e, by rw [cS, if_pos h3, e]⟩
theorem nxt_cSN {S : Nat → Bool} {m : Nat} (hm : m ≤ 1000) (h : nxt S m = none) : cS S 1000 = cS S m := by
  obtain ⟨k, hk⟩ := Nat.le.dest hm
  rw [← hk, cS_add, cS_none (fun q hq => nxt_specN h (m + q) (by omega) (by omega))]; omega
/-- the greatest member below n -/
def lstB (S : Nat → Bool) : Nat → Option Nat
  | 0 => none
  | n + 1 => if S n then some n else lstB S n
/-- the last member below n, and the widest gap -/
def gp (S : Nat → Bool) : Nat → Option Nat × Nat
  | 0 => (none, 0)
  | n + 1 => if S n then (some n, match (gp S n).1 with
    | none => (gp S n).2
    | some l => max (gp S n).2 (n - l)) else gp S n
theorem gp_skip {S : Nat → Bool} : ∀ (m k : Nat), (∀ u, m ≤ u → u < m + k → S u = false) → gp S (m + k) = gp S m
  | m, 0, _ => rfl
  | m, k + 1, h => by rw [← Nat.add_assoc, gp, if_neg (by rw [h (m + k) (by omega) (by omega)]; decide), gp_skip m k (fun u h1 h2 => h u h1 (by omega))]
theorem gp_skip2 {S : Nat → Bool} {m n : Nat} (hmn : m ≤ n) (h : ∀ u, m ≤ u → u < n → S u = false) : gp S n = gp S m := by
  obtain ⟨k, rfl⟩ := Nat.le.dest hmn
  exact gp_skip m k h
theorem gp_cong {S T : Nat → Bool} : ∀ {n : Nat}, (∀ k, k < n → S k = T k) → gp S n = gp T n
  | 0, _ => rfl
  | n + 1, h => by rw [gp, gp, gp_cong (fun k hk => h k (by omega)), h n (by omega)]
theorem lstB_cong {S T : Nat → Bool} : ∀ {n : Nat}, (∀ k, k < n → S k = T k) → lstB S n = lstB T n
  | 0, _ => rfl
  | n + 1, h => by rw [lstB, lstB, lstB_cong (fun k hk => h k (by omega)), h n (by omega)]
theorem gp_le (S : Nat → Bool) : ∀ n, (gp S n).2 ≤ n ∧ ∀ l, (gp S n).1 = some l → l < n
  | 0 => ⟨Nat.le_refl _, fun l h => by cases h⟩
  | n + 1 => by
    obtain ⟨h1, h2⟩ := gp_le S n
    rw [gp]
    by_cases e : S n = true
    · rw [if_pos e]
      cases g : (gp S n).1 with
      | none => exact ⟨by dsimp only; omega, fun l h => by cases h; omega⟩
      | some l => exact ⟨by dsimp only; omega, fun l h => by cases h; omega⟩
    · rw [if_neg e]
      exact ⟨by omega, fun l h => by have := h2 l h; omega⟩
/-- what is struck out by those below m that are kept -/
def svU (S : Nat → Bool) : Nat → Nat → Bool
  | 0, _ => false
  | m + 1, v => svU S m v || (decide (1 < m) && S m && !(svU S m m) && decide (m < v) && decide (v % m = 0))
/-- the sum of the members below m -/
def smU (S : Nat → Bool) : Nat → Nat
  | 0 => 0
  | m + 1 => smU S m + if S m then m else 0
theorem smU_le (S : Nat → Bool) : ∀ m, smU S m ≤ m * m
  | 0 => Nat.le_refl _
  | m + 1 => by
    have := smU_le S m
    rw [smU, Nat.add_mul, Nat.mul_add]
    split <;> omega
theorem smU_skip {S : Nat → Bool} : ∀ (m k : Nat), (∀ u, m ≤ u → u < m + k → S u = false) → smU S (m + k) = smU S m
  | m, 0, _ => rfl
  | m, k + 1, h => by rw [← Nat.add_assoc, smU, if_neg (by rw [h (m + k) (by omega) (by omega)]; decide), smU_skip m k (fun u h1 h2 => h u h1 (by omega))]; rfl
theorem smU_cong {S T : Nat → Bool} : ∀ {n : Nat}, (∀ k, k < n → S k = T k) → smU S n = smU T n
  | 0, _ => rfl
  | n + 1, h => by rw [smU, smU, smU_cong (fun k hk => h k (by omega)), h n (by omega)]
/-- what a rule makes: the kinds are 0 steps, 1 scaled, 2 joined, 3 shared, 4 without, 5 sieved, 6 thinned, 7 added up -/
def rSet (kind a b c : Nat) (M : Nat → Nat → Bool) (v : Nat) : Prop := match kind with
  | 0 => a ≤ v ∧ (v - a) % b = 0
  | 1 => ∃ u, u < 1000 ∧ M a u = true ∧ v = u * b + c
  | 2 => M a v = true ∨ M b v = true
  | 3 => M a v = true ∧ M b v = true
  | 4 => M a v = true ∧ M b v = false
  | 5 => M a v = true ∧ svU (M a) v v = false
  | 6 => M a v = true ∧ cS (M a) (v + 1) % b = 0
  | _ => ∃ u, u < 1000 ∧ M a u = true ∧ v = smU (M a) (u + 1)
