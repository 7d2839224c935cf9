/-! THE SPEC: what a state is, in numbers; what the actions do -/
abbrev Rul : Type := Nat × Nat × Nat × Nat
/-- lists, readers, readings, rules, the readers' lists, what they have passed -/
abbrev Ab : Type := Nat × Nat × Int32 × (Nat → Rul) × (Nat → Nat) × (Nat → Nat)
abbrev aU (A : Ab) : Nat → Rul := A.2.2.2.1
abbrev aL (A : Ab) : Nat → Nat := A.2.2.2.2.1
abbrev aP (A : Ab) : Nat → Nat := A.2.2.2.2.2
abbrev rS (u : Rul) (M : Nat → Nat → Bool) (v : Nat) : Prop := rSet u.1 u.2.1 u.2.2.1 u.2.2.2 M v
def okR (u : Rul) (L : Nat) : Prop := match u.1 with
  | 0 => u.2.1 < 1000 ∧ 1 ≤ u.2.2.1 ∧ u.2.2.1 ≤ 99
  | 1 => u.2.1 < L ∧ 1 ≤ u.2.2.1 ∧ u.2.2.1 ≤ 9 ∧ u.2.2.2 ≤ 99
  | 2 => u.2.1 < L ∧ u.2.2.1 < L
  | 3 => u.2.1 < L ∧ u.2.2.1 < L
  | 4 => u.2.1 < L ∧ u.2.2.1 < L
  | 5 => u.2.1 < L
  | 6 => u.2.1 < L ∧ 1 ≤ u.2.2.1 ∧ u.2.2.1 ≤ 9
  | 7 => u.2.1 < L
  | _ => False
noncomputable def memF (U : Nat → Rul) : Nat → Nat → Nat → Bool
  | 0 => fun _ _ => false
  | n + 1 => fun L v => if L = n then @decide (rS (U n) (memF U n) v) (Classical.propDecidable _) else memF U n L v
/-- the members of the lists that the rules make -/
noncomputable def mem (U : Nat → Rul) (L v : Nat) : Bool := memF U (L + 1) L v
theorem memF_lt {U : Nat → Rul} {L v : Nat} : ∀ {n : Nat}, L < n → memF U n L v = mem U L v
  | 0, h => absurd h (Nat.not_lt_zero _)
  | n + 1, h => by
    by_cases e : L = n
    · subst e; rfl
    · rw [memF]; dsimp only; rw [if_neg e]; exact memF_lt (by omega)
theorem memF_cong {U U2 : Nat → Rul} : ∀ {n : Nat}, (∀ j, j < n → U j = U2 j) → memF U n = memF U2 n
  | 0, _ => rfl
  | n + 1, h => by
    funext L v
    rw [memF, memF, memF_cong (fun j hj => h j (by omega)), h n (by omega)]
theorem mem_cong {U U2 : Nat → Rul} {L : Nat} (h : ∀ j, j ≤ L → U j = U2 j) : mem U L = mem U2 L := by
  funext v
  unfold mem
  rw [memF_cong (fun j hj => h j (by omega))]
theorem svU_cong {S T : Nat → Bool} : ∀ {n : Nat}, (∀ k, k < n → S k = T k) → ∀ v, svU S n v = svU T n v
  | 0, _, _ => rfl
  | n + 1, h, v => by rw [svU, svU, svU_cong (fun k hk => h k (by omega)) v, svU_cong (fun k hk => h k (by omega)) n, h n (by omega)]
theorem rS_ok {u : Rul} {L v : Nat} {M M2 : Nat → Nat → Bool} (h : okR u L) (hv : v < 1000) (hM : ∀ j, j < L → ∀ x, x < 1000 → M j x = M2 j x) : rS u M v ↔ rS u M2 v := by
  obtain ⟨k, a, b, c⟩ := u
  match k, h with
  | 0, h => exact Iff.rfl
  | 1, h =>
    show (∃ u, u < 1000 ∧ M a u = true ∧ v = u * b + c) ↔ (∃ u, u < 1000 ∧ M2 a u = true ∧ v = u * b + c)
    exact exists_congr fun u => and_congr_right fun hu => by rw [hM a h.1 u hu]
  | 2, h => show (M a v = true ∨ M b v = true) ↔ (M2 a v = true ∨ M2 b v = true); rw [hM a h.1 v hv, hM b h.2 v hv]
  | 3, h => show (M a v = true ∧ M b v = true) ↔ (M2 a v = true ∧ M2 b v = true); rw [hM a h.1 v hv, hM b h.2 v hv]
  | 4, h => show (M a v = true ∧ M b v = false) ↔ (M2 a v = true ∧ M2 b v = false); rw [hM a h.1 v hv, hM b h.2 v hv]
  | 5, h => show (M a v = true ∧ svU (M a) v v = false) ↔ (M2 a v = true ∧ svU (M2 a) v v = false); rw [hM a h v hv, svU_cong (fun k hk => hM a h k (by omega)) v]
  | 6, h => show (M a v = true ∧ cS (M a) (v + 1) % b = 0) ↔ (M2 a v = true ∧ cS (M2 a) (v + 1) % b = 0); rw [hM a h.1 v hv, cS_cong (fun k hk => hM a h.1 k (by omega))]
  | 7, h =>
    show (∃ u, u < 1000 ∧ M a u = true ∧ v = smU (M a) (u + 1)) ↔ (∃ u, u < 1000 ∧ M2 a u = true ∧ v = smU (M2 a) (u + 1))
    exact exists_congr fun u => and_congr_right fun hu => by rw [hM a h u hu, smU_cong (fun k hk => hM a h k (by omega))]
theorem mem_iff {U : Nat → Rul} {L v : Nat} (h : okR (U L) L) (hv : v < 1000) : mem U L v = true ↔ rS (U L) (mem U) v := by
  show memF U (L + 1) L v = true ↔ _
  rw [memF]
  dsimp only
  rw [if_pos rfl, @decide_eq_true_iff _ (Classical.propDecidable _)]
  exact rS_ok h hv (fun j hj x _ => memF_lt hj)
/-- a block holds the state A -/
def RelC (A : Ab) (c : Int32) (w : Nat → Int64) (k d : Int32) (l p f : Nat → Int32) : Prop :=
  (A.1 ≤ 12 ∧ c = nI A.1) ∧ (A.2.1 ≤ 4 ∧ k = nI A.2.1) ∧ d = A.2.2.1 ∧ (∀ L, L < A.1 → okR (aU A L) L ∧ Clr w L ∧ ∀ v, v < 1000 → bW w L v = mem (aU A) L v) ∧
  (∀ r, r < A.2.1 → aL A r < A.1 ∧ l r = nI (aL A r) ∧ p r = nI (aP A r) ∧ ∃ g, g ≤ 1000 ∧ f r = nI g ∧ cS (mem (aU A) (aL A r)) g = aP A r)
abbrev RelB (A : Ab) (σ : Sg) (b : Nat) : Prop := RelC A (σ.1 (b + 1) 1) (σ.2 (b + 2)) (σ.1 (b + 3) 3) (σ.1 (b + 3) 4) (σ.1 (b + 4)) (σ.1 (b + 5)) (σ.1 (b + 6))
theorem RelB.sB {A : Ab} {σ : Sg} {b : Nat} {c : Int32} {w : Nat → Int64} {k d : Int32} {l p f : Nat → Int32} (h : RelC A c w k d l p f) : RelB A (sB σ b c w k d l p f) b := by
  unfold RelB
  rw [sB_c, sB_w, sB_k, sB_d, sB_l, sB_p, sB_f]
  exact h
theorem RelC.cong {A : Ab} {c : Int32} {w w2 : Nat → Int64} {k d : Int32} {l p f l2 p2 f2 : Nat → Int32} (h : RelC A c w k d l p f) (hw : ∀ j, j < 192 → w2 j = w j) (hl : ∀ j, j < 4 → l2 j = l j) (hp : ∀ j, j < 4 → p2 j = p j) (hf : ∀ j, j < 4 → f2 j = f j) : RelC A c w2 k d l2 p2 f2 := by
  obtain ⟨h1, h2, h3, h4, h5⟩ := h
  have e : ∀ L, L < A.1 → ∀ v, v < 1024 → bW w2 L v = bW w L v := fun L hL v hv => by
    have := h1.1
    unfold bW; rw [hw _ (by omega)]
  refine ⟨h1, h2, h3, fun L hL => ?_, fun r hr => ?_⟩
  · obtain ⟨a, b, c⟩ := h4 L hL
    exact ⟨a, fun v q1 q2 => by rw [e L hL v q2]; exact b v q1 q2, fun v q => by rw [e L hL v (by omega)]; exact c v q⟩
  · have := h2.1
    obtain ⟨a, b, c, g, q1, q2, q3⟩ := h5 r hr
    exact ⟨a, by rw [hl r (by omega)]; exact b, by rw [hp r (by omega)]; exact c, g, q1, by rw [hf r (by omega)]; exact q2, q3⟩
theorem nxt_ath {S : Nat → Bool} {g p : Nat} (h : cS S g = p) (hg : g ≤ 1000) : nxt S g = ath S p := by
  cases e : nxt S g with
  | none => rw [ath_none (by rw [nxt_cSN hg e]; omega)]
  | some v =>
    obtain ⟨-, h2, h3, -⟩ := nxt_spec e
    exact (ath_some h2 h3 ((nxt_cS e).1.trans h)).symm
noncomputable def nextO (A : Ab) (r : Nat) : Option Nat := ath (mem (aU A) (aL A r)) (aP A r)
noncomputable def cntL (A : Ab) (L : Nat) : Nat := cS (mem (aU A) L) 1000
def toN (u : Int32) : Nat := u.toNatClampNeg
theorem toN_nI {n : Nat} (h : n < 2 ^ 31) : toN (nI n) = n := nI_clamp h
def inB (lo hi u : Int32) : Bool := decide (lo ≤ u ∧ u ≤ hi)
def liB (A : Ab) (u : Int32) : Bool := decide (0 ≤ u ∧ u < nI A.1)
def rdB (A : Ab) (u : Int32) : Bool := decide (0 ≤ u ∧ u < nI A.2.1)
def roomL (A : Ab) : Bool := decide (A.1 < 12)
def roomR (A : Ab) : Bool := decide (A.2.1 < 4)
def fst3 (a b c : Bool) : Nat := if a then (if b then (if c then 0 else 3) else 2) else 1
def anyN (l : Nat → Nat) (q : Nat) : Nat → Bool
  | 0 => false
  | n + 1 => anyN l q n || decide (l n = q)
/-- why the last list may not be dropped -/
def whyN (A : Ab) : Nat := if A.1 = 0 then 1 else if anyN (aL A) (A.1 - 1) A.2.1 then 2 else 0
/-- what stands against an action: 0 nothing, 1 no such, 2 out of range, 3 not now -/
noncomputable def ob (A : Ab) (K : Nat) (a b c : Int32) : Nat := match K with
  | 115 => fst3 true (inB (nI 0) (nI 999) a && inB (nI 1) (nI 99) b) (roomL A)
  | 120 => fst3 (liB A a) (inB (nI 1) (nI 9) b && inB (nI 0) (nI 99) c) (roomL A)
  | 106 => fst3 (liB A a && liB A b) true (roomL A)
  | 104 => fst3 (liB A a && liB A b) true (roomL A)
  | 119 => fst3 (liB A a && liB A b) true (roomL A)
  | 118 => fst3 (liB A a) true (roomL A)
  | 117 => fst3 (liB A a) true (roomL A)
  | 101 => fst3 (liB A a) (inB (nI 1) (nI 9) b) (roomL A)
  | 100 => fst3 true true (decide (whyN A = 0))
  | 114 => fst3 (liB A a) true (roomR A)
  | 110 => fst3 (rdB A a) true (nextO A (toN a)).isSome
  | 107 => fst3 (rdB A a) (inB (nI 1) (nI 99) b) true
  | 122 => fst3 (rdB A a) true true
  | 113 => fst3 (rdB A a) true true
  | _ => 3
def kinds : List Nat := [115, 120, 106, 104, 119, 118, 117, 101, 100, 114, 110, 107, 122, 113]
def mkA (A : Ab) (u : Rul) : Ab := (A.1 + 1, A.2.1, A.2.2.1, va_up (aU A) A.1 u, aL A, aP A)
noncomputable def skN (A : Ab) (r n : Nat) : Nat := min n (cntL A (aL A r) - aP A r)
/-- the answer of an action and the state behind it -/
noncomputable def co (A : Ab) (K : Nat) (a b c : Int32) : Int32 × Ab := match K with
  | 115 => (nI A.1, mkA A (0, toN a, toN b, 0))
  | 120 => (nI A.1, mkA A (1, toN a, toN b, toN c))
  | 106 => (nI A.1, mkA A (2, toN a, toN b, 0))
  | 104 => (nI A.1, mkA A (3, toN a, toN b, 0))
  | 119 => (nI A.1, mkA A (4, toN a, toN b, 0))
  | 118 => (nI A.1, mkA A (5, toN a, 0, 0))
  | 101 => (nI A.1, mkA A (6, toN a, toN b, 0))
  | 117 => (nI A.1, mkA A (7, toN a, 0, 0))
  | 100 => (nI (A.1 - 1), (A.1 - 1, A.2))
  | 114 => (nI A.2.1, (A.1, A.2.1 + 1, A.2.2.1, aU A, va_up (aL A) A.2.1 (toN a), va_up (aP A) A.2.1 0))
  | 110 => (oI (nextO A (toN a)), (A.1, A.2.1, A.2.2.1 + 1, aU A, aL A, va_up (aP A) (toN a) (aP A (toN a) + 1)))
  | 107 => (nI (skN A (toN a) (toN b)), (A.1, A.2.1, A.2.2.1, aU A, aL A, va_up (aP A) (toN a) (aP A (toN a) + skN A (toN a) (toN b))))
  | 122 => (nI (aP A (toN a)), (A.1, A.2.1, A.2.2.1, aU A, aL A, va_up (aP A) (toN a) 0))
  | 113 => (nI (A.2.1 - 1), (A.1, A.2.1 - 1, A.2.2.1, aU A, (fun j => if toN a ≤ j then aL A (j + 1) else aL A j), (fun j => if toN a ≤ j then aP A (j + 1) else aP A j)))
  | _ => (-1, A)
/-- an action, or -1 and nothing -/
noncomputable def att (A : Ab) (K : Nat) (a b c : Int32) : Int32 × Ab := if ob A K a b c = 0 then co A K a b c else (-1, A)
theorem wk_nat {u : Int32} (h : 0 ≤ u) : ∃ n, n < 2 ^ 31 ∧ u = nI n := by
  have h1 : (0 : Int32).toInt ≤ u.toInt := Int32.le_iff_toInt_le.mp h
  have h2 := Int32.toInt_lt u
  have h3 : (0 : Int32).toInt = 0 := by decide
  refine ⟨u.toInt.toNat, by omega, ?_⟩
  apply Int32.toInt_inj.mp
  rw [nI_toInt (by omega)]
  omega
theorem in_nI {lo hi : Nat} {u : Int32} (hl : lo < 2 ^ 31) (hh : hi < 2 ^ 31) (h : nI lo ≤ u ∧ u ≤ nI hi) : ∃ n, u = nI n ∧ lo ≤ n ∧ n ≤ hi := by
  have h1 : (0 : Int32) ≤ u := Int32.le_trans (by show nI 0 ≤ nI lo; rw [nI_leI (by omega) hl]; omega) h.1
  obtain ⟨n, hn, rfl⟩ := wk_nat h1
  rw [nI_leI hl hn, nI_leI hn hh] at h
  exact ⟨n, rfl, h⟩
theorem is_nI {N : Nat} {u : Int32} (hN : N < 2 ^ 31) (h : 0 ≤ u ∧ u < nI N) : ∃ n, u = nI n ∧ n < N := by
  obtain ⟨n, hn, rfl⟩ := wk_nat h.1
  exact ⟨n, rfl, (nI_ltI hn hN).mp h.2⟩
theorem inB_nI {lo hi : Nat} {u : Int32} (hl : lo < 2 ^ 31) (hh : hi < 2 ^ 31) (h : inB (nI lo) (nI hi) u = true) : ∃ n, u = nI n ∧ lo ≤ n ∧ n ≤ hi := in_nI hl hh (of_decide_eq_true h)
theorem liB_nI {A : Ab} {u : Int32} (hN : A.1 ≤ 12) (h : liB A u = true) : ∃ n, u = nI n ∧ n < A.1 := is_nI (by omega) (of_decide_eq_true h)
theorem rdB_nI {A : Ab} {u : Int32} (hN : A.2.1 ≤ 4) (h : rdB A u = true) : ∃ n, u = nI n ∧ n < A.2.1 := is_nI (by omega) (of_decide_eq_true h)
theorem fst3_0 {a b c : Bool} (h : fst3 a b c = 0) : a = true ∧ b = true ∧ c = true := by
  revert h; cases a <;> cases b <;> cases c <;> decide
theorem anyR_N {l : Nat → Int32} {m : Nat → Nat} {q : Nat} (hq : q < 2 ^ 31) : ∀ {n : Nat}, (∀ r, r < n → l r = nI (m r) ∧ m r < 2 ^ 31) → anyR l (nI q) n = anyN m q n
  | 0, _ => rfl
  | n + 1, h => by
    rw [anyR, anyN, anyR_N hq (fun r hr => h r (by omega)), (h n (by omega)).1]
    congr 1
    exact decide_eq_decide.mpr (nI_eq (h n (by omega)).2 hq)
