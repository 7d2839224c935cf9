/-! THE REFERENCE: finds -/
/-- the row of the list n while it follows another list's members S: at v -/
def FInv (k b d n : Nat) (S : Nat → Bool) (v : Nat) (h x : Nat → Int32) : Prop := match k with
  | 1 => RowP h n (fun y => ∃ u, u < v ∧ S u = true ∧ y = u * b + d)
  | 5 => RowP h n (fun y => y < v ∧ S y = true ∧ svU S y y = false) ∧ ∀ y, y < 1000 → x y = zB (svU S v y)
  | 6 => RowP h n (fun y => y < v ∧ S y = true ∧ cS S (y + 1) % b = 0)
  | _ => RowP h n (fun y => ∃ u, u < v ∧ S u = true ∧ y = smU S (u + 1))
theorem finv_0 {k b d n : Nat} {S : Nat → Bool} {h x : Nat → Int32} (hk : k = 1 ∨ k = 5 ∨ k = 6 ∨ k = 7) (hr : RowP h n (fun _ => False)) (hx : ∀ y, y < 1000 → x y = nI 0) : FInv k b d n S 0 h x := by
  rcases hk with rfl | rfl | rfl | rfl
  · exact hr.iff (fun v hv => ⟨fun q => q.elim, fun ⟨u, q, _⟩ => absurd q (Nat.not_lt_zero u)⟩)
  · exact ⟨hr.iff (fun v hv => ⟨fun q => q.elim, fun q => absurd q.1 (Nat.not_lt_zero v)⟩), fun y hy => hx y hy⟩
  · exact hr.iff (fun v hv => ⟨fun q => q.elim, fun q => absurd q.1 (Nat.not_lt_zero v)⟩)
  · exact hr.iff (fun v hv => ⟨fun q => q.elim, fun ⟨u, q, _⟩ => absurd q (Nat.not_lt_zero u)⟩)
theorem ex_skip {S : Nat → Bool} {v y : Nat} {P : Nat → Prop} (hs : S v = false) : (∃ u, u < v ∧ S u = true ∧ P u) ↔ ∃ u, u < v + 1 ∧ S u = true ∧ P u := by
  constructor
  · rintro ⟨u, a, b, c⟩; exact ⟨u, by omega, b, c⟩
  · rintro ⟨u, a, b, c⟩
    rcases Nat.lt_or_ge u v with q | q
    · exact ⟨u, q, b, c⟩
    · have : u = v := by omega
      subst this; rw [hs] at b; cases b
theorem lt_skip {S : Nat → Bool} {v y : Nat} {P : Prop} (hs : S v = false) : (y < v ∧ S y = true ∧ P) ↔ (y < v + 1 ∧ S y = true ∧ P) := by
  constructor
  · rintro ⟨a, b, c⟩; exact ⟨by omega, b, c⟩
  · rintro ⟨a, b, c⟩
    rcases Nat.lt_or_ge y v with q | q
    · exact ⟨q, b, c⟩
    · have : y = v := by omega
      subst this; rw [hs] at b; cases b
theorem finv_skip {k b d n v : Nat} {S : Nat → Bool} {h x : Nat → Int32} (hk : k = 1 ∨ k = 5 ∨ k = 6 ∨ k = 7) (hf : FInv k b d n S v h x) (hs : S v = false) : FInv k b d n S (v + 1) h x := by
  rcases hk with rfl | rfl | rfl | rfl
  · exact RowP.iff hf (fun y hy => ex_skip (y := y) (P := fun u => y = u * b + d) hs)
  · exact ⟨RowP.iff hf.1 (fun y hy => lt_skip hs), fun y hy => by rw [hf.2 y hy, svU, hs]; simp⟩
  · exact RowP.iff hf (fun y hy => lt_skip hs)
  · exact RowP.iff hf (fun y hy => ex_skip (y := y) (P := fun u => y = smU S (u + 1)) hs)
theorem ex_add {S : Nat → Bool} {v y : Nat} {P : Nat → Prop} (hs : S v = true) : ((∃ u, u < v ∧ S u = true ∧ P u) ∨ P v) ↔ ∃ u, u < v + 1 ∧ S u = true ∧ P u := by
  constructor
  · rintro (⟨u, a, b, c⟩ | c)
    · exact ⟨u, by omega, b, c⟩
    · exact ⟨v, by omega, hs, c⟩
  · rintro ⟨u, a, b, c⟩
    rcases Nat.lt_or_ge u v with q | q
    · exact Or.inl ⟨u, q, b, c⟩
    · have : u = v := by omega
      subst this; exact Or.inr c
theorem row_set {h : Nat → Int32} {n v : Nat} {P : Nat → Prop} {b : Bool} (hv : v < 1000) (r : RowP h n P) (hp : ¬ P v) : RowP (upd h (1000 * n + v) (zB b)) n (fun y => P y ∨ (y = v ∧ b = true)) := fun y hy => by
  by_cases e : y = v
  · subst e
    rw [pk_us]
    cases b with
    | true => exact Or.inl ⟨rfl, Or.inr ⟨rfl, rfl⟩⟩
    | false => exact Or.inr ⟨rfl, fun q => q.elim hp (fun z => by cases z.2)⟩
  · rw [pk_un (by omega)]
    exact (r y hy).imp (fun z => ⟨z.1, Or.inl z.2⟩) (fun z => ⟨z.1, fun q => q.elim z.2 (fun w => e w.1)⟩)
theorem lt_add {S : Nat → Bool} {v y : Nat} {P : Nat → Prop} {b : Bool} (hs : S v = true) (hb : b = true ↔ P v) : ((y < v ∧ S y = true ∧ P y) ∨ (y = v ∧ b = true)) ↔ (y < v + 1 ∧ S y = true ∧ P y) := by
  constructor
  · rintro (⟨a, b, c⟩ | ⟨rfl, c⟩)
    · exact ⟨by omega, b, c⟩
    · exact ⟨by omega, hs, hb.mp c⟩
  · rintro ⟨a, b2, c⟩
    rcases Nat.lt_or_ge y v with q | q
    · exact Or.inl ⟨q, b2, c⟩
    · have : y = v := by omega
      subst this; exact Or.inr ⟨rfl, hb.mpr c⟩
theorem finv_1 {b d n v : Nat} {S : Nat → Bool} {h x : Nat → Int32} (hf : FInv 1 b d n S v h x) (hs : S v = true) : FInv 1 b d n S (v + 1) (addH h n (v * b + d)) x :=
  (rowP_add hf (v * b + d)).iff (fun y hy => ex_add (y := y) (P := fun u => y = u * b + d) hs)
theorem finv_7 {b d n v : Nat} {S : Nat → Bool} {h x : Nat → Int32} (hf : FInv 7 b d n S v h x) (hs : S v = true) : FInv 7 b d n S (v + 1) (addH h n (smU S (v + 1))) x :=
  (rowP_add hf (smU S (v + 1))).iff (fun y hy => ex_add (y := y) (P := fun u => y = smU S (u + 1)) hs)
theorem finv_6 {b d n v : Nat} {S : Nat → Bool} {h x : Nat → Int32} (hf : FInv 6 b d n S v h x) (hv : v < 1000) (hs : S v = true) : FInv 6 b d n S (v + 1) (upd h (1000 * n + v) (zB (decide (cS S (v + 1) % b = 0)))) x :=
  (row_set hv hf (fun q => Nat.lt_irrefl v q.1)).iff (fun y hy => lt_add (P := fun y => cS S (y + 1) % b = 0) hs decide_eq_true_iff)
theorem finv_5 {b d n v : Nat} {S : Nat → Bool} {h x x2 : Nat → Int32} (hf : FInv 5 b d n S v h x) (hv : v < 1000) (hs : S v = true) (hc : Crs x x2 v (svU S v v)) : FInv 5 b d n S (v + 1) (upd h (1000 * n + v) (zB (!(svU S v v)))) x2 := by
  refine ⟨(row_set hv hf.1 (fun q => Nat.lt_irrefl v q.1)).iff (fun y hy => lt_add (P := fun y => svU S y y = false) hs (by simp)), fun y hy => ?_⟩
  rw [svU, hs]
  rcases hc y hy with ⟨z1, a, c, e, f⟩ | ⟨z1, z2⟩
  · rw [z1, c, decide_eq_true a, decide_eq_true e, decide_eq_true f]
    simp [zB]
  · rw [z1, hf.2 y hy]
    congr 1
    cases q : svU S y y <;> cases q2 : svU S v v <;> cases q3 : svU S v y <;> simp [q2] at z2 ⊢ <;> omega
theorem finv_end {U : Nat → Rul} {n a : Nat} {h x : Nat → Int32} (hk : (U n).1 = 1 ∨ (U n).1 = 5 ∨ (U n).1 = 6 ∨ (U n).1 = 7) (ha : (U n).2.1 = a) (hok : okR (U n) n) (hf : FInv (U n).1 (U n).2.2.1 (U n).2.2.2 n (mem U a) 1000 h x) : RowP h n (fun v => mem U n v = true) := by
  subst ha
  have key : RowP h n (rS (U n) (mem U)) := by
    unfold rS
    rcases hk with e | e | e | e
    · rw [e] at hf ⊢; exact hf
    · rw [e] at hf ⊢; exact hf.1.iff (fun v hv => ⟨fun q => q.2, fun q => ⟨hv, q⟩⟩)
    · rw [e] at hf ⊢; exact RowP.iff hf (fun v hv => ⟨fun q => q.2, fun q => ⟨hv, q⟩⟩)
    · rw [e] at hf ⊢; exact hf
  exact key.iff (fun v hv => (mem_iff hok hv).symm)

