/-! THE ACTIONS, as the relation sees them -/
/-- the block b holds A2 now, nothing else is changed -/
def Up (A2 : Ab) (σ : Sg) (b : Nat) (σ2 : Sg) : Prop := ∃ (c : Int32) (w : Nat → Int64) (k d : Int32) (l p f : Nat → Int32), σ2 = sB σ b c w k d l p f ∧ RelC A2 c w k d l p f
theorem sB_sB (σ : Sg) (b : Nat) (c : Int32) (w : Nat → Int64) (k d : Int32) (l p f : Nat → Int32) (c2 : Int32) (w2 : Nat → Int64) (k2 d2 : Int32) (l2 p2 f2 : Nat → Int32) : sB (sB σ b c w k d l p f) b c2 w2 k2 d2 l2 p2 f2 = sB σ b c2 w2 k2 d2 l2 p2 f2 := by
  apply Prod.ext
  · funext q
    by_cases h6 : q = b + 6
    · subst h6; simp [sB, va_up]
    · by_cases h5 : q = b + 5
      · subst h5; simp [sB, va_up]
      · by_cases h4 : q = b + 4
        · subst h4; simp [sB, va_up]
        · by_cases h3 : q = b + 3
          · subst h3
            funext j
            by_cases j3 : j = 3
            · subst j3; simp [sB, va_up, upd]
            · by_cases j4 : j = 4
              · subst j4; simp [sB, va_up, upd]
              · simp [sB, va_up, upd, j3, j4]
          · by_cases h1 : q = b + 1
            · subst h1
              funext j
              by_cases j1 : j = 1
              · subst j1; simp [sB, va_up, upd]
              · simp [sB, va_up, upd, j1]
            · simp [sB, va_up, h1, h3, h4, h5, h6]
  · funext q
    by_cases h2 : q = b + 2
    · subst h2; simp [sB, va_up]
    · simp [sB, va_up, h2]
theorem Up.rel {A2 : Ab} {σ σ2 : Sg} {b : Nat} (h : Up A2 σ b σ2) : RelB A2 σ2 b := by
  obtain ⟨c, w, k, d, l, p, f, rfl, hr⟩ := h
  exact RelB.sB hr
theorem Up.off {A2 : Ab} {σ σ2 : Sg} {b : Nat} (h : Up A2 σ b σ2) {q : Nat} (hq : q < b ∨ b + 7 ≤ q) : σ2.1 q = σ.1 q ∧ σ2.2 q = σ.2 q := by
  obtain ⟨c, w, k, d, l, p, f, rfl, hr⟩ := h
  exact sB_off σ b c w k d l p f q hq
theorem Up.tr {A1 A2 : Ab} {σ σ1 σ2 : Sg} {b : Nat} (h : Up A1 σ b σ1) (h2 : Up A2 σ1 b σ2) : Up A2 σ b σ2 := by
  obtain ⟨c, w, k, d, l, p, f, rfl, hr⟩ := h
  obtain ⟨c2, w2, k2, d2, l2, p2, f2, rfl, hr2⟩ := h2
  exact ⟨c2, w2, k2, d2, l2, p2, f2, sB_sB _ _ _ _ _ _ _ _ _ _ _ _ _ _ _ _, hr2⟩
theorem Up.rf {A : Ab} {σ : Sg} {b : Nat} (h : RelB A σ b) : Up A σ b σ := ⟨_, _, _, _, _, _, _, (sB_self σ b).symm, h⟩
theorem Up.relO {A A2 : Ab} {σ σ2 : Sg} {b b2 : Nat} (h : Up A2 σ b σ2) (hd : b2 + 7 ≤ b ∨ b + 7 ≤ b2) (hr : RelB A σ b2) : RelB A σ2 b2 := by
  unfold RelB
  rw [(h.off (q := b2 + 1) (by omega)).1, (h.off (q := b2 + 2) (by omega)).2, (h.off (q := b2 + 3) (by omega)).1, (h.off (q := b2 + 4) (by omega)).1, (h.off (q := b2 + 5) (by omega)).1, (h.off (q := b2 + 6) (by omega)).1]
  exact hr
theorem sB_rel {A : Ab} {σ : Sg} {b : Nat} (h : RelB A σ b) : σ = sB σ b (nI A.1) (σ.2 (b + 2)) (nI A.2.1) A.2.2.1 (σ.1 (b + 4)) (σ.1 (b + 5)) (σ.1 (b + 6)) := by
  rw [← h.1.2, ← h.2.1.2, ← h.2.2.1, sB_self]
theorem RelB.norm {A : Ab} {σ : Sg} {b : Nat} (h : RelB A σ b) : RelC A (nI A.1) (σ.2 (b + 2)) (nI A.2.1) A.2.2.1 (σ.1 (b + 4)) (σ.1 (b + 5)) (σ.1 (b + 6)) := by
  have h2 := h
  unfold RelB at h2
  rw [h.1.2, h.2.1.2, h.2.2.1] at h2
  exact h2
theorem va_s {α : Type} (f : Nat → α) (k : Nat) (v : α) : va_up f k v k = v := if_pos rfl
theorem va_n {α : Type} (f : Nat → α) {k j : Nat} (v : α) (h : j ≠ k) : va_up f k v j = f j := if_neg h
section
variable {A : Ab} {w w1 : Nat → Int64} {l p f : Nat → Int32}
theorem relC_make (h : RelC A (nI A.1) w (nI A.2.1) A.2.2.1 l p f) (u : Rul) (hN : A.1 < 12) (hu : okR u A.1) (hM : Mk w w1 A.1 (rS u (bW w))) : RelC (mkA A u) (nI (A.1 + 1)) w1 (nI A.2.1) A.2.2.1 l p f := by
  obtain ⟨h1, h2, h3, h4, h5⟩ := h
  have eM : ∀ L, L < A.1 → mem (va_up (aU A) A.1 u) L = mem (aU A) L := fun L hL => mem_cong (fun j hj => va_n _ _ (by omega))
  refine ⟨⟨hN, rfl⟩, h2, rfl, fun L hL => ?_, fun r hr => ?_⟩
  · have hL : L < A.1 + 1 := hL
    show okR (va_up (aU A) A.1 u L) L ∧ Clr w1 L ∧ ∀ v, v < 1000 → bW w1 L v = mem (va_up (aU A) A.1 u) L v
    by_cases e : L = A.1
    · subst e
      rw [va_s]
      refine ⟨hu, hM.clr, fun v hv => ?_⟩
      have q : bW w1 A.1 v = true ↔ mem (va_up (aU A) A.1 u) A.1 v = true := by
        rw [hM.2 v (by omega), mem_iff (by rw [va_s]; exact hu) hv, va_s]
        refine ⟨fun z => ?_, fun z => ⟨hv, ?_⟩⟩
        · exact (rS_ok hu hv (fun j hj x hx => by rw [eM j hj]; exact (h4 j hj).2.2 x hx)).mp z.2
        · exact (rS_ok hu hv (fun j hj x hx => by rw [eM j hj]; exact (h4 j hj).2.2 x hx)).mpr z
      exact Bool.eq_iff_iff.mpr q
    · have hL : L < A.1 := by omega
      obtain ⟨a, b, c⟩ := h4 L hL
      rw [va_n _ _ e, eM L hL]
      exact ⟨a, hM.clrL e b, fun v hv => by rw [bW_off hM.1 e (by omega)]; exact c v hv⟩
  · obtain ⟨a, b, c, g, q1, q2, q3⟩ := h5 r hr
    exact ⟨Nat.lt_succ_of_lt a, b, c, g, q1, q2, by show cS (mem (va_up (aU A) A.1 u) (aL A r)) g = _; rw [eM _ a]; exact q3⟩
theorem relC_drop (h : RelC A (nI A.1) w (nI A.2.1) A.2.2.1 l p f) (hn : anyN (aL A) (A.1 - 1) A.2.1 = false) : RelC (A.1 - 1, A.2) (nI (A.1 - 1)) w (nI A.2.1) A.2.2.1 l p f := by
  obtain ⟨h1, h2, h3, h4, h5⟩ := h
  have e : ∀ n, anyN (aL A) (A.1 - 1) n = false → ∀ r, r < n → aL A r ≠ A.1 - 1 := by
    intro n
    induction n with
    | zero => intro _ r hr; omega
    | succ n ih =>
      intro hh r hr
      rw [anyN, Bool.or_eq_false_iff, decide_eq_false_iff_not] at hh
      by_cases z : r = n
      · subst z; exact hh.2
      · exact ih hh.1 r (by omega)
  refine ⟨⟨by show A.1 - 1 ≤ 12; omega, rfl⟩, h2, rfl, fun L hL => h4 L (by have : L < A.1 - 1 := hL; omega), fun r hr => ?_⟩
  obtain ⟨a, b⟩ := h5 r hr
  have := e _ hn r hr
  exact ⟨by show aL A r < A.1 - 1; omega, b⟩
theorem relC_begin (h : RelC A (nI A.1) w (nI A.2.1) A.2.2.1 l p f) (hR : A.2.1 < 4) {L : Nat} (hL : L < A.1) : RelC (A.1, A.2.1 + 1, A.2.2.1, aU A, va_up (aL A) A.2.1 L, va_up (aP A) A.2.1 0) (nI A.1) w (nI (A.2.1 + 1)) A.2.2.1 (upd l A.2.1 (nI L)) (upd p A.2.1 (nI 0)) (upd f A.2.1 (nI 0)) := by
  obtain ⟨h1, h2, h3, h4, h5⟩ := h
  refine ⟨h1, ⟨hR, rfl⟩, rfl, h4, fun r hr => ?_⟩
  have hr : r < A.2.1 + 1 := hr
  show va_up (aL A) A.2.1 L r < A.1 ∧ upd l A.2.1 (nI L) r = nI (va_up (aL A) A.2.1 L r) ∧ upd p A.2.1 (nI 0) r = nI (va_up (aP A) A.2.1 0 r) ∧ ∃ g, g ≤ 1000 ∧ upd f A.2.1 (nI 0) r = nI g ∧ cS (mem (aU A) (va_up (aL A) A.2.1 L r)) g = va_up (aP A) A.2.1 0 r
  by_cases e : r = A.2.1
  · subst e
    rw [va_s, va_s, pk_us, pk_us, pk_us]
    exact ⟨hL, rfl, rfl, 0, by omega, rfl, rfl⟩
  · rw [va_n _ _ e, va_n _ _ e, pk_un e, pk_un e, pk_un e]
    exact h5 r (by omega)
/-- a reader has gone on -/
theorem relC_read (h : RelC A (nI A.1) w (nI A.2.1) A.2.2.1 l p f) {i P g : Nat} {d2 : Int32} {p2 f2 : Nat → Int32} (hi : i < A.2.1) (hp : p2 i = nI P) (hf : f2 i = nI g) (hg : g ≤ 1000) (hc : cS (mem (aU A) (aL A i)) g = P) (hpo : ∀ j, j ≠ i → p2 j = p j) (hfo : ∀ j, j ≠ i → f2 j = f j) : RelC (A.1, A.2.1, d2, aU A, aL A, va_up (aP A) i P) (nI A.1) w (nI A.2.1) d2 l p2 f2 := by
  obtain ⟨h1, h2, h3, h4, h5⟩ := h
  refine ⟨h1, h2, rfl, h4, fun r hr => ?_⟩
  show aL A r < A.1 ∧ l r = nI (aL A r) ∧ p2 r = nI (va_up (aP A) i P r) ∧ ∃ g, g ≤ 1000 ∧ f2 r = nI g ∧ cS (mem (aU A) (aL A r)) g = va_up (aP A) i P r
  obtain ⟨a, b, c, d⟩ := h5 r hr
  by_cases e : r = i
  · subst e
    rw [va_s]
    exact ⟨a, b, hp, g, hg, hf, hc⟩
  · rw [va_n _ _ e, hpo r e, hfo r e]
    exact ⟨a, b, c, d⟩
theorem relC_stop (h : RelC A (nI A.1) w (nI A.2.1) A.2.2.1 l p f) {i : Nat} {l2 p2 f2 : Nat → Int32} (hi : i < A.2.1) (h1' : rmv l2 l i (A.2.1 - 1)) (h2' : rmv p2 p i (A.2.1 - 1)) (h3' : rmv f2 f i (A.2.1 - 1)) : RelC (A.1, A.2.1 - 1, A.2.2.1, aU A, (fun j => if i ≤ j then aL A (j + 1) else aL A j), (fun j => if i ≤ j then aP A (j + 1) else aP A j)) (nI A.1) w (nI (A.2.1 - 1)) A.2.2.1 l2 p2 f2 := by
  obtain ⟨h1, h2, h3, h4, h5⟩ := h
  refine ⟨h1, ⟨by show A.2.1 - 1 ≤ 4; omega, rfl⟩, rfl, h4, fun r hr => ?_⟩
  have hr : r < A.2.1 - 1 := hr
  show (if i ≤ r then aL A (r + 1) else aL A r) < A.1 ∧ l2 r = nI (if i ≤ r then aL A (r + 1) else aL A r) ∧ p2 r = nI (if i ≤ r then aP A (r + 1) else aP A r) ∧ ∃ g, g ≤ 1000 ∧ f2 r = nI g ∧ cS (mem (aU A) (if i ≤ r then aL A (r + 1) else aL A r)) g = (if i ≤ r then aP A (r + 1) else aP A r)
  rw [h1' r, h2' r, h3' r]
  by_cases e : i ≤ r
  · rw [if_pos e, if_pos e, if_pos ⟨e, hr⟩, if_pos ⟨e, hr⟩, if_pos ⟨e, hr⟩]
    exact h5 (r + 1) (by omega)
  · rw [if_neg e, if_neg e, if_neg (fun q => e q.1), if_neg (fun q => e q.1), if_neg (fun q => e q.1)]
    exact h5 r (by omega)
end
/-! what it means that nothing stands against an action -/
section
variable {A : Ab} {a b c : Int32}
theorem ob_115 (h : ob A 115 a b c = 0) : ∃ m n, a = nI m ∧ b = nI n ∧ m < 1000 ∧ 1 ≤ n ∧ n ≤ 99 ∧ A.1 < 12 := by
  obtain ⟨-, h2, h3⟩ := fst3_0 h
  rw [Bool.and_eq_true] at h2
  obtain ⟨m, e1, -, m2⟩ := inB_nI (by omega) (by omega) h2.1
  obtain ⟨n, e2, n1, n2⟩ := inB_nI (by omega) (by omega) h2.2
  exact ⟨m, n, e1, e2, by omega, n1, n2, of_decide_eq_true h3⟩
theorem ob_120 (hN : A.1 ≤ 12) (h : ob A 120 a b c = 0) : ∃ L m n, a = nI L ∧ b = nI m ∧ c = nI n ∧ L < A.1 ∧ 1 ≤ m ∧ m ≤ 9 ∧ n ≤ 99 ∧ A.1 < 12 := by
  obtain ⟨h1, h2, h3⟩ := fst3_0 h
  rw [Bool.and_eq_true] at h2
  obtain ⟨L, e0, l1⟩ := liB_nI hN h1
  obtain ⟨m, e1, m1, m2⟩ := inB_nI (by omega) (by omega) h2.1
  obtain ⟨n, e2, n1, n2⟩ := inB_nI (by omega) (by omega) h2.2
  exact ⟨L, m, n, e0, e1, e2, l1, m1, m2, n2, of_decide_eq_true h3⟩
theorem ob_LL (hN : A.1 ≤ 12) (h : fst3 (liB A a && liB A b) true (roomL A) = 0) : ∃ L K, a = nI L ∧ b = nI K ∧ L < A.1 ∧ K < A.1 ∧ A.1 < 12 := by
  obtain ⟨h1, -, h3⟩ := fst3_0 h
  rw [Bool.and_eq_true] at h1
  obtain ⟨L, e0, l1⟩ := liB_nI hN h1.1
  obtain ⟨K, e1, k1⟩ := liB_nI hN h1.2
  exact ⟨L, K, e0, e1, l1, k1, of_decide_eq_true h3⟩
theorem ob_L (hN : A.1 ≤ 12) (h : fst3 (liB A a) true (roomL A) = 0) : ∃ L, a = nI L ∧ L < A.1 ∧ A.1 < 12 := by
  obtain ⟨h1, -, h3⟩ := fst3_0 h
  obtain ⟨L, e0, l1⟩ := liB_nI hN h1
  exact ⟨L, e0, l1, of_decide_eq_true h3⟩
theorem ob_101 (hN : A.1 ≤ 12) (h : ob A 101 a b c = 0) : ∃ L m, a = nI L ∧ b = nI m ∧ L < A.1 ∧ 1 ≤ m ∧ m ≤ 9 ∧ A.1 < 12 := by
  obtain ⟨h1, h2, h3⟩ := fst3_0 h
  obtain ⟨L, e0, l1⟩ := liB_nI hN h1
  obtain ⟨m, e1, m1, m2⟩ := inB_nI (by omega) (by omega) h2
  exact ⟨L, m, e0, e1, l1, m1, m2, of_decide_eq_true h3⟩
theorem ob_100 (h : ob A 100 a b c = 0) : 1 ≤ A.1 ∧ anyN (aL A) (A.1 - 1) A.2.1 = false := by
  obtain ⟨-, -, h3⟩ := fst3_0 h
  have h4 : whyN A = 0 := of_decide_eq_true h3
  unfold whyN at h4
  by_cases e : A.1 = 0
  · rw [if_pos e] at h4; cases h4
  · rw [if_neg e] at h4
    refine ⟨by omega, ?_⟩
    cases q : anyN (aL A) (A.1 - 1) A.2.1 with
    | false => rfl
    | true => rw [q] at h4; cases h4
theorem ob_114 (hN : A.1 ≤ 12) (h : ob A 114 a b c = 0) : ∃ L, a = nI L ∧ L < A.1 ∧ A.2.1 < 4 := by
  obtain ⟨h1, -, h3⟩ := fst3_0 h
  obtain ⟨L, e0, l1⟩ := liB_nI hN h1
  exact ⟨L, e0, l1, of_decide_eq_true h3⟩
theorem ob_110 (hR : A.2.1 ≤ 4) (h : ob A 110 a b c = 0) : ∃ i v, a = nI i ∧ i < A.2.1 ∧ nextO A i = some v := by
  obtain ⟨h1, -, h3⟩ := fst3_0 h
  obtain ⟨i, rfl, hi⟩ := rdB_nI hR h1
  rw [toN_nI (by omega)] at h3
  obtain ⟨v, hv⟩ := Option.isSome_iff_exists.mp h3
  exact ⟨i, v, rfl, hi, hv⟩
theorem ob_107 (hR : A.2.1 ≤ 4) (h : ob A 107 a b c = 0) : ∃ i n, a = nI i ∧ b = nI n ∧ i < A.2.1 ∧ 1 ≤ n ∧ n ≤ 99 := by
  obtain ⟨h1, h2, -⟩ := fst3_0 h
  obtain ⟨i, e, hi⟩ := rdB_nI hR h1
  obtain ⟨m, e1, m1, m2⟩ := inB_nI (by omega) (by omega) h2
  exact ⟨i, m, e, e1, hi, m1, m2⟩
theorem ob_R (hR : A.2.1 ≤ 4) (h : fst3 (rdB A a) true true = 0) : ∃ i, a = nI i ∧ i < A.2.1 := by
  obtain ⟨h1, -, -⟩ := fst3_0 h
  exact rdB_nI hR h1
end
