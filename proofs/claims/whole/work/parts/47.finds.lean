/-! THE REFERENCE: finds -/
/-- the row of the list n while it follows another list's members S: at v -/
def FInv (k b d n : Nat) (S : Nat → Bool) (v : Nat) (h x : Nat → Int32) : Prop := match k with
  | 1 => RowP h n (fun y => ∃ u, u < v ∧ S u = true ∧ y = u * b + d)
  | 5 => RowP h n (fun y => y < v ∧ S y = true ∧ svU S y y = false) ∧ ∀ y, y < 1000 → x y = zB (svU S v y)
  | 6 => RowP h n (fun y => y < v ∧ S y = true ∧ cS S (y + 1) % b = 0)
  | _ => RowP h n (fun y => ∃ u, u < v ∧ S u = true ∧ y = smU S (u + 1))
theorem finv_0 {k b d n : Nat} {S : Nat → Bool} {h x : Nat → Int32} (hk : k = 1 ∨ k = 5 ∨ k = 6 ∨ k = 7) (hr : RowP h n (fun _ => False)) (hx : ∀ y, y < 1000 → x y = nI 0) : FInv k b d n S 0 h x := by
  rcases hk with rfl | rfl | rfl | rfl
  · exact hr.iff (fun v hv => ⟨fun q => q.elim, fun ⟨u, q, _⟩ => absurd q (Nat.not_lt_zero u)⟩)
  · exact ⟨hr.iff (fun v hv => ⟨fun q => q.elim, fun q => absurd q.1 (Nat.not_lt_zero v)⟩), fun y hy => hx y hy⟩
  · exact hr.iff (fun v hv => ⟨fun q => q.elim, fun q => absurd q.1 (Nat.not_lt_zero v)⟩)
  · exact hr.iff (fun v hv => ⟨fun q => q.elim, fun ⟨u, q, _⟩ => absurd q (Nat.not_lt_zero u)⟩)
theorem ex_skip {S : Nat → Bool} {v y : Nat} {P : Nat → Prop} (hs : S v = false) : (∃ u, u < v ∧ S u = true ∧ P u) ↔ ∃ u, u < v + 1 ∧ S u = true ∧ P u := by
  constructor
  · rintro ⟨u, a, b, c⟩; exact ⟨u, by omega, b, c⟩
  · rintro ⟨u, a, b, c⟩
    rcases Nat.lt_or_ge u v with q | q
    · exact ⟨u, q, b, c⟩
    · have : u = v := by omega
      subst this; rw [hs] at b; cases b
theorem lt_skip {S : Nat → Bool} {v y : Nat} {P : Prop} (hs : S v = false) : (y < v ∧ S y = true ∧ P) ↔ (y < v + 1 ∧ S y = true ∧ P) := by
  constructor
  · rintro ⟨a, b, c⟩; exact ⟨by omega, b, c⟩
  · rintro ⟨a, b, c⟩
    rcases Nat.lt_or_ge y v with q | q
    · exact ⟨q, b, c⟩
    · have : y = v := by omega
      subst this; rw [hs] at b; cases b
theorem finv_skip {k b d n v : Nat} {S : Nat → Bool} {h x : Nat → Int32} (hk : k = 1 ∨ k = 5 ∨ k = 6 ∨ k = 7) (hf : FInv k b d n S v h x) (hs : S v = false) : FInv k b d n S (v + 1) h x := by
  rcases hk with rfl | rfl | rfl | rfl
  · exact RowP.iff hf (fun y hy => ex_skip (y := y) (P := fun u => y = u * b + d) hs)
  · exact ⟨RowP.iff hf.1 (fun y hy => lt_skip hs), fun y hy => by rw [hf.2 y hy, svU, hs]; simp⟩
  · exact RowP.iff hf (fun y hy => lt_skip hs)
  · exact RowP.iff hf (fun y hy => ex_skip (y := y) (P := fun u => y = smU S (u + 1)) hs)
theorem ex_add {S : Nat → Bool} {v y : Nat} {P : Nat → Prop} (hs : S v = true) : ((∃ u, u < v ∧ S u = true ∧ P u) ∨ P v) ↔ ∃ u, u < v + 1 ∧ S u = true ∧ P u := by
  constructor
  · rintro (⟨u, a, b, c⟩ | c)
    · exact ⟨u, by omega, b, c⟩
    · exact ⟨v, by omega, hs, c⟩
  · rintro ⟨u, a, b, c⟩
    rcases Nat.lt_or_ge u v with q | q
    · exact Or.inl ⟨u, q, b, c⟩
    · have : u = v := by omega
      subst this; exact Or.inr c
theorem row_set {h : Nat → Int32} {n v : Nat} {P : Nat → Prop} {b : Bool} (hv : v < 1000) (r : RowP h n P) (hp : ¬ P v) : RowP (upd h (1000 * n + v) (zB b)) n (fun y => P y ∨ (y = v ∧ b = true)) := fun y hy => by
  by_cases e : y = v
  · subst e
    rw [pk_us]
    cases b with
    | true => exact Or.inl ⟨rfl, Or.inr ⟨rfl, rfl⟩⟩
    | false => exact Or.inr ⟨rfl, fun q => q.elim hp (fun z => by cases z.2)⟩
  · rw [pk_un (by omega)]
    exact (r y hy).imp (fun z => ⟨z.1, Or.inl z.2⟩) (fun z => ⟨z.1, fun q => q.elim z.2 (fun w => e w.1)⟩)
theorem lt_add {S : Nat → Bool} {v y : Nat} {P : Nat → Prop} {b : Bool} (hs : S v = true) (hb : b = true ↔ P v) : ((y < v ∧ S y = true ∧ P y) ∨ (y = v ∧ b = true)) ↔ (y < v + 1 ∧ S y = true ∧ P y) := by
  constructor
  · rintro (⟨a, b, c⟩ | ⟨rfl, c⟩)
    · exact ⟨by omega, b, c⟩
    · exact ⟨by omega, hs, hb.mp c⟩
  · rintro ⟨a, b2, c⟩
    rcases Nat.lt_or_ge y v with q | q
    · exact Or.inl ⟨q, b2, c⟩
    · have : y = v := by omega
      subst this; exact Or.inr ⟨rfl, hb.mpr c⟩
theorem finv_1 {b d n v : Nat} {S : Nat → Bool} {h x : Nat → Int32} (hf : FInv 1 b d n S v h x) (hs : S v = true) : FInv 1 b d n S (v + 1) (addH h n (v * b + d)) x :=
  (rowP_add hf (v * b + d)).iff (fun y hy => ex_add (y := y) (P := fun u => y = u * b + d) hs)
theorem finv_7 {b d n v : Nat} {S : Nat → Bool} {h x : Nat → Int32} (hf : FInv 7 b d n S v h x) (hs : S v = true) : FInv 7 b d n S (v + 1) (addH h n (smU S (v + 1))) x :=
  (rowP_add hf (smU S (v + 1))).iff (fun y hy => ex_add (y := y) (P := fun u => y = smU S (u + 1)) hs)
theorem finv_6 {b d n v : Nat} {S : Nat → Bool} {h x : Nat → Int32} (hf : FInv 6 b d n S v h x) (hv : v < 1000) (hs : S v = true) : FInv 6 b d n S (v + 1) (upd h (1000 * n + v) (zB (decide (cS S (v + 1) % b = 0)))) x :=
  (row_set hv hf (fun q => Nat.lt_irrefl v q.1)).iff (fun y hy => lt_add (P := fun y => cS S (y + 1) % b = 0) hs decide_eq_true_iff)
theorem finv_5 {b d n v : Nat} {S : Nat → Bool} {h x x2 : Nat → Int32} (hf : FInv 5 b d n S v h x) (hv : v < 1000) (hs : S v = true) (hc : Crs x x2 v (svU S v v)) : FInv 5 b d n S (v + 1) (upd h (1000 * n + v) (zB (!(svU S v v)))) x2 := by
  refine ⟨(row_set hv hf.1 (fun q => Nat.lt_irrefl v q.1)).iff (fun y hy => lt_add (P := fun y => svU S y y = false) hs (by simp)), fun y hy => ?_⟩
  rw [svU, hs]
  rcases hc y hy with ⟨z1, a, c, e, f⟩ | ⟨z1, z2⟩
  · rw [z1, c, decide_eq_true a, decide_eq_true e, decide_eq_true f]
    simp [zB]
  · rw [z1, hf.2 y hy]
    congr 1
    cases q : svU S y y <;> cases q2 : svU S v v <;> cases q3 : svU S v y <;> simp [q2] at z2 ⊢ <;> omega
theorem finv_end {U : Nat → Rul} {n a : Nat} {h x : Nat → Int32} (hk : (U n).1 = 1 ∨ (U n).1 = 5 ∨ (U n).1 = 6 ∨ (U n).1 = 7) (ha : (U n).2.1 = a) (hok : okR (U n) n) (hf : FInv (U n).1 (U n).2.2.1 (U n).2.2.2 n (mem U a) 1000 h x) : RowP h n (fun v => mem U n v = true) := by
  subst ha
  have key : RowP h n (rS (U n) (mem U)) := by
    unfold rS
    rcases hk with e | e | e | e
    · rw [e] at hf ⊢; exact hf
    · rw [e] at hf ⊢; exact hf.1.iff (fun v hv => ⟨fun q => q.2, fun q => ⟨hv, q⟩⟩)
    · rw [e] at hf ⊢; exact RowP.iff hf (fun v hv => ⟨fun q => q.2, fun q => ⟨hv, q⟩⟩)
    · rw [e] at hf ⊢; exact hf
  exact key.iff (fun v hv => (mem_iff hok hv).symm)

theorem okR_b1 {u : Rul} {L : Nat} (e : u.1 = 1) (h : okR u L) : 1 ≤ u.2.2.1 ∧ u.2.2.1 ≤ 9 ∧ u.2.2.2 ≤ 99 := by
  obtain ⟨k, a, b, c⟩ := u
  have e : k = 1 := e
  subst e; exact h.2
theorem okR_b6 {u : Rul} {L : Nat} (e : u.1 = 6) (h : okR u L) : 1 ≤ u.2.2.1 ∧ u.2.2.1 ≤ 9 := by
  obtain ⟨k, a, b, c⟩ := u
  have e : k = 6 := e
  subst e; exact h.2
set_option maxRecDepth 100000 in
set_option maxHeartbeats 800000 in
theorem c_follows (l : Launch) (G : Gl) (σ : Sg) (c : Nat) (hc : Rc c) (s hh xx m : Nat → Int32) (A : Ab) (hA : okA A) (hM : RelM A s) (n : Nat) (hn : n < A.1) (hk : (aU A n).1 = 1 ∨ (aU A n).1 = 5 ∨ (aU A n).1 = 6 ∨ (aU A n).1 = 7) (hH : HasN (aU A) n hh) (hR : RowP hh n (fun _ => False)) : Cv l yX6_follows cX6_follows 7 ({ frames := 1, cells := 0, slots := 0, locals := 23 } : Room) G [.ref (G.2.1 + 134), .ref (G.2.1 + c), .int (nI n)] (mB σ c s hh xx m) (fun σ2 => ∃ h2 x2, σ2 = mB σ c s h2 x2 m ∧ HasN (aU A) (n + 1) h2) := by
  refine Cv_of (own := RX6) rfl (by decide +kernel) (lo := [(0, .ref (G.2.1 + 134)), (1, .ref (G.2.1 + c)), (2, .int (nI n))]) rfl (Nat.le_of_ble_eq_true rfl) ?_
  intro x Q hxl h hret
  subst hxl
  have h12 := hA.1
  have hok := hA.2.2.1 n hn
  have hk7 := okR_k hok
  obtain ⟨t0, t1, t2, t3⟩ := hM.2.2.2.1 n hn
  have ha : (aU A n).2.1 < n := okR_a hok (by omega)
  refine r_aload_n (pc := 0) h 1 rfl rfl dX6_follows_0 ?_
  refine r_iload_n (pc := 1) h 2 rfl rfl dX6_follows_1 ?_
  refine r_iconst (pc := 2) (v := nI 1) h (by decide) dX6_follows_2 ?_
  refine r_cSi (pc := 3) (As := [.ref (G.2.1 + c), .int (nI n), .int (nI 1)]) (st := []) h lk_RX6_47 (c_of x.2.1 G (mB σ c s hh xx m) c hc n 1 (by omega) (by omega)) (by decide) rfl rfl (by first | decide | exact Nat.le_of_ble_eq_true rfl) (by decide) dX6_follows_3 (fun r1 s2 q3 => ?_)
  rw [q3.1, q3.2]
  refine r_topi (b := nI (aU A n).2.1) ((mB_s _).trans t1) ?_
  refine r_istore_n (pc := 6) (lo2 := [(3, .int (nI (aU A n).2.1)), (0, .ref (G.2.1 + 134)), (1, .ref (G.2.1 + c)), (2, .int (nI n))]) h rfl (by decide) rfl dX6_follows_6 ?_
  refine r_iconst (pc := 7) (v := nI 0) h (by decide) dX6_follows_7 ?_
  refine r_istore (pc := 8) (lo2 := [(4, .int (nI 0)), (3, .int (nI (aU A n).2.1)), (0, .ref (G.2.1 + 134)), (1, .ref (G.2.1 + c)), (2, .int (nI n))]) h (by decide) rfl dX6_follows_8 ?_
  refine r_iconst (pc := 10) (v := nI 0) h (by decide) dX6_follows_10 ?_
  refine r_istore (pc := 11) (lo2 := [(5, .int (nI 0)), (4, .int (nI 0)), (3, .int (nI (aU A n).2.1)), (0, .ref (G.2.1 + 134)), (1, .ref (G.2.1 + c)), (2, .int (nI n))]) h (by decide) rfl dX6_follows_11 ?_
  refine r_iconst (pc := 13) (v := nI 0) h (by decide) dX6_follows_13 ?_
  refine r_istore (pc := 14) (lo2 := [(6, .int (nI 0)), (5, .int (nI 0)), (4, .int (nI 0)), (3, .int (nI (aU A n).2.1)), (0, .ref (G.2.1 + 134)), (1, .ref (G.2.1 + c)), (2, .int (nI n))]) h (by decide) rfl dX6_follows_14 ?_
  have lp16 : ∀ (fu : Nat) (i : Nat) (x1 : Nat → Int32), i ≤ 1000 → (∀ j, j < i → x1 j = nI 0) → 1000 - i < fu → V x G 7 0 0 Q (mB σ c s hh x1 m) 16 [(0, .ref (G.2.1 + 134)), (1, .ref (G.2.1 + c)), (2, .int (nI n)), (3, .int (nI (aU A n).2.1)), (4, .int (nI 0)), (5, .int (nI 0)), (6, .int (nI i))] [] := by
    intro fu
    induction fu with
    | zero => intro i x1 hi hx0 hfu; exact absurd hfu (Nat.not_lt_zero _)
    | succ fu ih16 =>
      intro i x1 hi hx0 hfu
      refine r_iload (pc := 16) h 6 rfl dX6_follows_16 ?_
      refine r_sipush (pc := 18) (v := nI 999) h (by decide) dX6_follows_18 ?_
      refine r_icmp_gt (pc := 21) (tgt := 38) h (by decide) dX6_follows_21 (fun c21 => ?_) (fun c21 => ?_)
      · skip
        rw [nI_ltI (by omega) (by omega)] at c21
        refine r_iconst (pc := 38) (v := nI 0) h (by decide) dX6_follows_38 ?_
        refine r_istore (pc := 39) (lo2 := [(6, .int (nI 0)), (0, .ref (G.2.1 + 134)), (1, .ref (G.2.1 + c)), (2, .int (nI n)), (3, .int (nI (aU A n).2.1)), (4, .int (nI 0)), (5, .int (nI 0))]) h (by decide) rfl dX6_follows_39 ?_
        have lp41 : ∀ (fu : Nat) (v : Nat) (h1 : Nat → Int32) (x2 : Nat → Int32), v ≤ 1000 → (∀ j, j < 1000 * n → h1 j = hh j) → FInv (aU A n).1 (aU A n).2.2.1 (aU A n).2.2.2 n (mem (aU A) (aU A n).2.1) v h1 x2 → 1000 - v < fu → V x G 7 0 0 Q (mB σ c s h1 x2 m) 41 [(0, .ref (G.2.1 + 134)), (1, .ref (G.2.1 + c)), (2, .int (nI n)), (3, .int (nI (aU A n).2.1)), (4, .int (nI (cS (mem (aU A) (aU A n).2.1) v))), (5, .int (nI (smU (mem (aU A) (aU A n).2.1) v))), (6, .int (nI v))] [] := by
          intro fu
          induction fu with
          | zero => intro v h1 x2 hv hoff hF hfu; exact absurd hfu (Nat.not_lt_zero _)
          | succ fu ih41 =>
            intro v h1 x2 hv hoff hF hfu
            refine r_iload (pc := 41) h 6 rfl dX6_follows_41 ?_
            refine r_sipush (pc := 43) (v := nI 999) h (by decide) dX6_follows_43 ?_
            refine r_icmp_gt (pc := 46) (tgt := 188) h (by decide) dX6_follows_46 (fun c46 => ?_) (fun c46 => ?_)
            · skip
              rw [nI_ltI (by omega) (by omega)] at c46
              have e : v = 1000 := by omega
              subst e
              exact hret _ (⟨h1, x2, rfl, (HasN.off hH hoff).row (finv_end hk rfl hok hF)⟩) 188 _ dX6_follows_188
            · skip
              rw [nI_ltI (by omega) (by omega)] at c46
              refine r_aload_n (pc := 49) h 0 rfl rfl dX6_follows_49 ?_
              refine r_iload_n (pc := 50) h 3 rfl rfl dX6_follows_50 ?_
              refine r_iload (pc := 51) h 6 rfl dX6_follows_51 ?_
              refine r_cVi (pc := 53) (As := [.int (nI (aU A n).2.1), .int (nI v)]) (st := []) h lk_RX6_51 (c_member x.2.1 G (mB σ c s h1 x2 m) (aU A n).2.1 v ((mem (aU A) (aU A n).2.1) v) (by omega) (by omega) ((mB_h hc _).trans ((hoff _ (by omega)).trans (hH _ ha v (by omega))))) rc_6 (by decide) rfl rfl (by first | decide | exact Nat.le_of_ble_eq_true rfl) (by decide) dX6_follows_53 (fun r4 s5 q6 => ?_)
              rw [q6.1, q6.2]
              refine r_if_eq (pc := 56) (tgt := 182) h (by decide) dX6_follows_56 (fun c56 => ?_) (fun c56 => ?_)
              · skip
                replace c56 := zB_0.mp c56
                refine r_iinc (pc := 182) (v := nI (v + 1)) (lo2 := [(6, .int (nI (v + 1))), (0, .ref (G.2.1 + 134)), (1, .ref (G.2.1 + c)), (2, .int (nI n)), (3, .int (nI (aU A n).2.1)), (4, .int (nI (cS (mem (aU A) (aU A n).2.1) v))), (5, .int (nI (smU (mem (aU A) (aU A n).2.1) v)))]) h 6 rfl (iinc1 _) (by decide) rfl dX6_follows_182 ?_
                refine r_goto (pc := 185) (tgt := 41) h (by decide) dX6_follows_185 ?_
                refine r_sub (lo2 := [(0, .ref (G.2.1 + 134)), (1, .ref (G.2.1 + c)), (2, .int (nI n)), (3, .int (nI (aU A n).2.1)), (4, .int (nI (cS (mem (aU A) (aU A n).2.1) v))), (5, .int (nI (smU (mem (aU A) (aU A n).2.1) v))), (6, .int (nI (v + 1)))]) [1, 2, 3, 4, 5, 6, 0] rfl ?_
                rw [show cS (mem (aU A) (aU A n).2.1) v = cS (mem (aU A) (aU A n).2.1) (v + 1) from by rw [cS, c56]; rfl, show smU (mem (aU A) (aU A n).2.1) v = smU (mem (aU A) (aU A n).2.1) (v + 1) from by rw [smU, c56]; rfl]
                exact ih41 (v + 1) h1 x2 (by omega) hoff (finv_skip hk hF c56) (by omega)
              · skip
                replace c56 := zB_n0.mp c56
                have hcs : cS (mem (aU A) (aU A n).2.1) (v + 1) = cS (mem (aU A) (aU A n).2.1) v + 1 := by rw [cS, c56]; rfl
                have hsm : smU (mem (aU A) (aU A n).2.1) (v + 1) = smU (mem (aU A) (aU A n).2.1) v + v := by rw [smU, c56]; rfl
                have hcl := cS_le (mem (aU A) (aU A n).2.1) (v + 1)
                have hsl := smU_le (mem (aU A) (aU A n).2.1) (v + 1)
                have hsq : (v + 1) * (v + 1) ≤ 1000 * 1000 := Nat.mul_le_mul (by omega) (by omega)
                refine r_iinc (pc := 59) (v := nI (cS (mem (aU A) (aU A n).2.1) (v + 1))) (lo2 := [(4, .int (nI (cS (mem (aU A) (aU A n).2.1) (v + 1)))), (0, .ref (G.2.1 + 134)), (1, .ref (G.2.1 + c)), (2, .int (nI n)), (3, .int (nI (aU A n).2.1)), (5, .int (nI (smU (mem (aU A) (aU A n).2.1) v))), (6, .int (nI v))]) h 4 rfl ((iinc1 _).trans (congrArg nI hcs.symm)) (by decide) rfl dX6_follows_59 ?_
                refine r_iload (pc := 62) h 5 rfl dX6_follows_62 ?_
                refine r_iload (pc := 64) h 6 rfl dX6_follows_64 ?_
                refine r_iadd (pc := 66) (v := nI (smU (mem (aU A) (aU A n).2.1) (v + 1))) h ((nI_add _ _).trans (congrArg nI hsm.symm)) dX6_follows_66 ?_
                refine r_istore (pc := 67) (lo2 := [(5, .int (nI (smU (mem (aU A) (aU A n).2.1) (v + 1)))), (4, .int (nI (cS (mem (aU A) (aU A n).2.1) (v + 1)))), (0, .ref (G.2.1 + 134)), (1, .ref (G.2.1 + c)), (2, .int (nI n)), (3, .int (nI (aU A n).2.1)), (6, .int (nI v))]) h (by decide) rfl dX6_follows_67 ?_
                refine r_aload_n (pc := 69) h 3 rfl rfl dX6_follows_69 ?_
                refine r_iload_n (pc := 70) h 4 rfl rfl dX6_follows_70 ?_
                refine r_iconst (pc := 71) (v := nI 0) h (by decide) dX6_follows_71 ?_
                refine r_cSi (pc := 72) (As := [.ref (G.2.1 + c), .int (nI n), .int (nI 0)]) (st := []) h lk_RX6_47 (c_of x.2.1 G (mB σ c s h1 x2 m) c hc n 0 (by omega) (by omega)) (by decide) rfl rfl (by first | decide | exact Nat.le_of_ble_eq_true rfl) (by decide) dX6_follows_72 (fun r7 s8 q9 => ?_)
                rw [q9.1, q9.2]
                refine r_topi (b := nI (aU A n).1) ((mB_s _).trans t0) ?_
                rcases (show (aU A n).1 = 1 ∨ (aU A n).1 = 5 ∨ (aU A n).1 = 6 ∨ (aU A n).1 = 7 from hk) with hK | hK | hK | hK
                · skip
                  rw [hK] at hF
                  have hb9 := okR_b1 (u := aU A n) hK (hA.2.2.1 n hn)
                  have hvb : v * (aU A n).2.2.1 ≤ 1000 * 9 := Nat.mul_le_mul (by omega) (by omega)
                  refine r_topi (b := nI 1) (congrArg nI hK) ?_
                  refine r_lookup (pc := 75) (off := 33) (tgt := 108) h (by decide) (by decide) (by decide) dX6_follows_75 ?_
                  refine r_aload_n (pc := 108) h 2 rfl rfl dX6_follows_108 ?_
                  refine r_iload_n (pc := 109) h 4 rfl rfl dX6_follows_109 ?_
                  refine r_iload (pc := 110) h 6 rfl dX6_follows_110 ?_
                  refine r_aload_n (pc := 112) h 3 rfl rfl dX6_follows_112 ?_
                  refine r_iload_n (pc := 113) h 4 rfl rfl dX6_follows_113 ?_
                  refine r_iconst (pc := 114) (v := nI 2) h (by decide) dX6_follows_114 ?_
                  refine r_cSi (pc := 115) (As := [.ref (G.2.1 + c), .int (nI n), .int (nI 2)]) (st := [.int (nI v), .int (nI n), .ref (G.2.1 + 134)]) h lk_RX6_47 (c_of x.2.1 G (mB σ c s h1 x2 m) c hc n 2 (by omega) (by omega)) (by decide) rfl rfl (by first | decide | exact Nat.le_of_ble_eq_true rfl) (by decide) dX6_follows_115 (fun r10 s11 q12 => ?_)
                  rw [q12.1, q12.2]
                  refine r_topi (b := nI (aU A n).2.2.1) ((mB_s _).trans (t2 (by omega) (by omega))) ?_
                  refine r_imul (pc := 118) (v := nI (v * ((aU A n).2.2.1))) h (pk_mul _ _) dX6_follows_118 ?_
                  refine r_aload_n (pc := 119) h 3 rfl rfl dX6_follows_119 ?_
                  refine r_iload_n (pc := 120) h 4 rfl rfl dX6_follows_120 ?_
                  refine r_iconst (pc := 121) (v := nI 3) h (by decide) dX6_follows_121 ?_
                  refine r_cSi (pc := 122) (As := [.ref (G.2.1 + c), .int (nI n), .int (nI 3)]) (st := [.int (nI (v * ((aU A n).2.2.1))), .int (nI n), .ref (G.2.1 + 134)]) h lk_RX6_47 (c_of x.2.1 G (mB σ c s h1 x2 m) c hc n 3 (by omega) (by omega)) (by decide) rfl rfl (by first | decide | exact Nat.le_of_ble_eq_true rfl) (by decide) dX6_follows_122 (fun r13 s14 q15 => ?_)
                  rw [q15.1, q15.2]
                  refine r_topi (b := nI (aU A n).2.2.2) ((mB_s _).trans (t3 (by omega))) ?_
                  refine r_iadd (pc := 125) (v := nI ((v * ((aU A n).2.2.1)) + (aU A n).2.2.2)) h (nI_add _ _) dX6_follows_125 ?_
                  refine r_cVv (pc := 126) (As := [.int (nI n), .int (nI ((v * ((aU A n).2.2.1)) + (aU A n).2.2.2))]) (st := []) h lk_RX6_55 (c_adds x.2.1 G σ c hc s h1 x2 m n ((v * ((aU A n).2.2.1)) + (aU A n).2.2.2) (by omega) (by omega)) rc_6 (by decide) rfl rfl (by first | decide | exact Nat.le_of_ble_eq_true rfl) (by decide) dX6_follows_126 (fun s17 q18 => ?_)
                  subst q18
                  refine r_goto (pc := 129) (tgt := 182) h (by decide) dX6_follows_129 ?_
                  refine r_iinc (pc := 182) (v := nI (v + 1)) (lo2 := [(6, .int (nI (v + 1))), (5, .int (nI (smU (mem (aU A) (aU A n).2.1) (v + 1)))), (4, .int (nI (cS (mem (aU A) (aU A n).2.1) (v + 1)))), (0, .ref (G.2.1 + 134)), (1, .ref (G.2.1 + c)), (2, .int (nI n)), (3, .int (nI (aU A n).2.1))]) h 6 rfl (iinc1 _) (by decide) rfl dX6_follows_182 ?_
                  refine r_goto (pc := 185) (tgt := 41) h (by decide) dX6_follows_185 ?_
                  refine r_sub (lo2 := [(0, .ref (G.2.1 + 134)), (1, .ref (G.2.1 + c)), (2, .int (nI n)), (3, .int (nI (aU A n).2.1)), (4, .int (nI (cS (mem (aU A) (aU A n).2.1) (v + 1)))), (5, .int (nI (smU (mem (aU A) (aU A n).2.1) (v + 1)))), (6, .int (nI (v + 1)))]) [3, 4, 5, 6, 2, 1, 0] rfl ?_
                  exact ih41 (v + 1) _ _ (by omega) (fun j hj => (addH_off hj).trans (hoff j hj)) (by rw [hK]; exact (finv_1 hF c56)) (by omega)
                · skip
                  rw [hK] at hF
                  refine r_topi (b := nI 5) (congrArg nI hK) ?_
                  refine r_lookup (pc := 75) (off := 57) (tgt := 132) h (by decide) (by decide) (by decide) dX6_follows_75 ?_
                  refine r_aload_n (pc := 132) h 2 rfl rfl dX6_follows_132 ?_
                  refine r_iload_n (pc := 133) h 4 rfl rfl dX6_follows_133 ?_
                  refine r_iload (pc := 134) h 6 rfl dX6_follows_134 ?_
                  refine r_cVv (pc := 136) (As := [.int (nI n), .int (nI v)]) (st := []) h lk_RX6_59 (c_sieves x.2.1 G σ c hc s h1 x2 m n v (svU (mem (aU A) (aU A n).2.1) v v) (by omega) (by omega) (hF.2 v (by omega))) rc_6 (by decide) rfl rfl (by first | decide | exact Nat.le_of_ble_eq_true rfl) (by decide) dX6_follows_136 (fun s20 q21 => ?_)
                  obtain ⟨x3, e3, hcr⟩ := q21
                  subst e3
                  refine r_goto (pc := 139) (tgt := 182) h (by decide) dX6_follows_139 ?_
                  refine r_iinc (pc := 182) (v := nI (v + 1)) (lo2 := [(6, .int (nI (v + 1))), (5, .int (nI (smU (mem (aU A) (aU A n).2.1) (v + 1)))), (4, .int (nI (cS (mem (aU A) (aU A n).2.1) (v + 1)))), (0, .ref (G.2.1 + 134)), (1, .ref (G.2.1 + c)), (2, .int (nI n)), (3, .int (nI (aU A n).2.1))]) h 6 rfl (iinc1 _) (by decide) rfl dX6_follows_182 ?_
                  refine r_goto (pc := 185) (tgt := 41) h (by decide) dX6_follows_185 ?_
                  refine r_sub (lo2 := [(0, .ref (G.2.1 + 134)), (1, .ref (G.2.1 + c)), (2, .int (nI n)), (3, .int (nI (aU A n).2.1)), (4, .int (nI (cS (mem (aU A) (aU A n).2.1) (v + 1)))), (5, .int (nI (smU (mem (aU A) (aU A n).2.1) (v + 1)))), (6, .int (nI (v + 1)))]) [3, 4, 5, 6, 2, 1, 0] rfl ?_
                  exact ih41 (v + 1) _ _ (by omega) (fun j hj => (pk_un (by omega)).trans (hoff j hj)) (by rw [hK]; exact (finv_5 hF (by omega) c56 hcr)) (by omega)
                · skip
                  rw [hK] at hF
                  have hb9 := okR_b6 (u := aU A n) hK (hA.2.2.1 n hn)
                  have hmd := Nat.mod_lt (cS (mem (aU A) (aU A n).2.1) (v + 1)) (show 0 < (aU A n).2.2.1 by omega)
                  refine r_topi (b := nI 6) (congrArg nI hK) ?_
                  refine r_lookup (pc := 75) (off := 67) (tgt := 142) h (by decide) (by decide) (by decide) dX6_follows_75 ?_
                  refine r_aload_n (pc := 142) h 2 rfl rfl dX6_follows_142 ?_
                  refine g_6_has (pc := 143) h mw_4_2 dX6_follows_143 ?_
                  refine r_sipush (pc := 146) (v := nI 1000) h (by decide) dX6_follows_146 ?_
                  refine r_iload_n (pc := 149) h 4 rfl rfl dX6_follows_149 ?_
                  refine r_imul (pc := 150) (v := nI (1000 * n)) h (pk_mul _ _) dX6_follows_150 ?_
                  refine r_iload (pc := 151) h 6 rfl dX6_follows_151 ?_
                  refine r_iadd (pc := 153) (v := nI ((1000 * n) + v)) h (nI_add _ _) dX6_follows_153 ?_
                  refine r_iload (pc := 154) h 1 rfl dX6_follows_154 ?_
                  refine r_aload_n (pc := 156) h 3 rfl rfl dX6_follows_156 ?_
                  refine r_iload_n (pc := 157) h 4 rfl rfl dX6_follows_157 ?_
                  refine r_iconst (pc := 158) (v := nI 2) h (by decide) dX6_follows_158 ?_
                  refine r_cSi (pc := 159) (As := [.ref (G.2.1 + c), .int (nI n), .int (nI 2)]) (st := [.int (nI (cS (mem (aU A) (aU A n).2.1) (v + 1))), .int (nI ((1000 * n) + v)), .ref (G.2.1 + 141)]) h lk_RX6_47 (c_of x.2.1 G (mB σ c s h1 x2 m) c hc n 2 (by omega) (by omega)) (by decide) rfl rfl (by first | decide | exact Nat.le_of_ble_eq_true rfl) (by decide) dX6_follows_159 (fun r22 s23 q24 => ?_)
                  rw [q24.1, q24.2]
                  refine r_topi (b := nI (aU A n).2.2.1) ((mB_s _).trans (t2 (by omega) (by omega))) ?_
                  refine r_irem (pc := 162) (v := nI (cS (mem (aU A) (aU A n).2.1) (v + 1) % (aU A n).2.2.1)) h (fun q => by rw [zI0, nI_eq (by omega) (by omega)] at q; omega) (pk_rem (by omega) (by omega) (by omega)) dX6_follows_162 ?_
                  refine r_if_ne (pc := 163) (tgt := 170) h (by decide) dX6_follows_163 (fun c163 => ?_) (fun c163 => ?_)
                  · skip
                    rw [zI0, nI_eq (by omega) (by omega)] at c163
                    refine r_iconst (pc := 170) (v := zB (decide (cS (mem (aU A) (aU A n).2.1) (v + 1) % (aU A n).2.2.1 = 0))) h (by rw [decide_eq_false c163]; rfl) dX6_follows_170 ?_
                    refine r_zast (pc := 171) (w := zB (decide (cS (mem (aU A) (aU A n).2.1) (v + 1) % (aU A n).2.2.1 = 0))) h a_mh ((1000 * n) + v) rfl (by omega) (nar_zB _) dX6_follows_171 ?_
                    refine V.sg (mB_sh hc _ _) ?_
                    refine r_goto (pc := 172) (tgt := 182) h (by decide) dX6_follows_172 ?_
                    refine r_iinc (pc := 182) (v := nI (v + 1)) (lo2 := [(6, .int (nI (v + 1))), (5, .int (nI (smU (mem (aU A) (aU A n).2.1) (v + 1)))), (4, .int (nI (cS (mem (aU A) (aU A n).2.1) (v + 1)))), (0, .ref (G.2.1 + 134)), (1, .ref (G.2.1 + c)), (2, .int (nI n)), (3, .int (nI (aU A n).2.1))]) h 6 rfl (iinc1 _) (by decide) rfl dX6_follows_182 ?_
                    refine r_goto (pc := 185) (tgt := 41) h (by decide) dX6_follows_185 ?_
                    refine r_sub (lo2 := [(0, .ref (G.2.1 + 134)), (1, .ref (G.2.1 + c)), (2, .int (nI n)), (3, .int (nI (aU A n).2.1)), (4, .int (nI (cS (mem (aU A) (aU A n).2.1) (v + 1)))), (5, .int (nI (smU (mem (aU A) (aU A n).2.1) (v + 1)))), (6, .int (nI (v + 1)))]) [3, 4, 5, 6, 2, 1, 0] rfl ?_
                    exact ih41 (v + 1) _ _ (by omega) (fun j hj => (pk_un (by omega)).trans (hoff j hj)) (by rw [hK]; exact (finv_6 hF (by omega) c56)) (by omega)
                  · skip
                    rw [zI0, nI_eq (by omega) (by omega)] at c163
                    refine r_iconst (pc := 166) (v := zB (decide (cS (mem (aU A) (aU A n).2.1) (v + 1) % (aU A n).2.2.1 = 0))) h (by rw [decide_eq_true c163]; rfl) dX6_follows_166 ?_
                    refine r_goto (pc := 167) (tgt := 171) h (by decide) dX6_follows_167 ?_
                    refine r_zast (pc := 171) (w := zB (decide (cS (mem (aU A) (aU A n).2.1) (v + 1) % (aU A n).2.2.1 = 0))) h a_mh ((1000 * n) + v) rfl (by omega) (nar_zB _) dX6_follows_171 ?_
                    refine V.sg (mB_sh hc _ _) ?_
                    refine r_goto (pc := 172) (tgt := 182) h (by decide) dX6_follows_172 ?_
                    refine r_iinc (pc := 182) (v := nI (v + 1)) (lo2 := [(6, .int (nI (v + 1))), (5, .int (nI (smU (mem (aU A) (aU A n).2.1) (v + 1)))), (4, .int (nI (cS (mem (aU A) (aU A n).2.1) (v + 1)))), (0, .ref (G.2.1 + 134)), (1, .ref (G.2.1 + c)), (2, .int (nI n)), (3, .int (nI (aU A n).2.1))]) h 6 rfl (iinc1 _) (by decide) rfl dX6_follows_182 ?_
                    refine r_goto (pc := 185) (tgt := 41) h (by decide) dX6_follows_185 ?_
                    refine r_sub (lo2 := [(0, .ref (G.2.1 + 134)), (1, .ref (G.2.1 + c)), (2, .int (nI n)), (3, .int (nI (aU A n).2.1)), (4, .int (nI (cS (mem (aU A) (aU A n).2.1) (v + 1)))), (5, .int (nI (smU (mem (aU A) (aU A n).2.1) (v + 1)))), (6, .int (nI (v + 1)))]) [3, 4, 5, 6, 2, 1, 0] rfl ?_
                    exact ih41 (v + 1) _ _ (by omega) (fun j hj => (pk_un (by omega)).trans (hoff j hj)) (by rw [hK]; exact (finv_6 hF (by omega) c56)) (by omega)
                · skip
                  rw [hK] at hF
                  refine r_topi (b := nI 7) (congrArg nI hK) ?_
                  refine r_lookup (pc := 75) (off := 100) (tgt := 175) h (by decide) (by decide) (by decide) dX6_follows_75 ?_
                  refine r_aload_n (pc := 175) h 2 rfl rfl dX6_follows_175 ?_
                  refine r_iload_n (pc := 176) h 4 rfl rfl dX6_follows_176 ?_
                  refine r_iload (pc := 177) h 0 rfl dX6_follows_177 ?_
                  refine r_cVv (pc := 179) (As := [.int (nI n), .int (nI (smU (mem (aU A) (aU A n).2.1) (v + 1)))]) (st := []) h lk_RX6_55 (c_adds x.2.1 G σ c hc s h1 x2 m n (smU (mem (aU A) (aU A n).2.1) (v + 1)) (by omega) (by omega)) rc_6 (by decide) rfl rfl (by first | decide | exact Nat.le_of_ble_eq_true rfl) (by decide) dX6_follows_179 (fun s26 q27 => ?_)
                  subst q27
                  refine r_iinc (pc := 182) (v := nI (v + 1)) (lo2 := [(6, .int (nI (v + 1))), (5, .int (nI (smU (mem (aU A) (aU A n).2.1) (v + 1)))), (4, .int (nI (cS (mem (aU A) (aU A n).2.1) (v + 1)))), (0, .ref (G.2.1 + 134)), (1, .ref (G.2.1 + c)), (2, .int (nI n)), (3, .int (nI (aU A n).2.1))]) h 6 rfl (iinc1 _) (by decide) rfl dX6_follows_182 ?_
                  refine r_goto (pc := 185) (tgt := 41) h (by decide) dX6_follows_185 ?_
                  refine r_sub (lo2 := [(0, .ref (G.2.1 + 134)), (1, .ref (G.2.1 + c)), (2, .int (nI n)), (3, .int (nI (aU A n).2.1)), (4, .int (nI (cS (mem (aU A) (aU A n).2.1) (v + 1)))), (5, .int (nI (smU (mem (aU A) (aU A n).2.1) (v + 1)))), (6, .int (nI (v + 1)))]) [3, 4, 5, 6, 2, 1, 0] rfl ?_
                  exact ih41 (v + 1) _ _ (by omega) (fun j hj => (addH_off hj).trans (hoff j hj)) (by rw [hK]; exact (finv_7 hF c56)) (by omega)
        refine r_sub (lo2 := [(0, .ref (G.2.1 + 134)), (1, .ref (G.2.1 + c)), (2, .int (nI n)), (3, .int (nI (aU A n).2.1)), (4, .int (nI 0)), (5, .int (nI 0)), (6, .int (nI 0))]) [1, 2, 3, 4, 5, 6, 0] rfl ?_
        exact lp41 _ 0 hh x1 (by omega) (fun j hj => rfl) (finv_0 hk hR (fun y hy => hx0 y (by omega))) (Nat.lt_succ_self _)
      · skip
        rw [nI_ltI (by omega) (by omega)] at c21
        refine r_aload_n (pc := 24) h 0 rfl rfl dX6_follows_24 ?_
        refine g_6_crossed (pc := 25) h mw_4_3 dX6_follows_25 ?_
        refine r_iload (pc := 28) h 6 rfl dX6_follows_28 ?_
        refine r_iconst (pc := 30) (v := nI 0) h (by decide) dX6_follows_30 ?_
        refine r_zast (pc := 31) (w := nI 0) h a_mc i rfl (by omega) (by decide) dX6_follows_31 ?_
        refine V.sg (mB_sx hc _ _) ?_
        refine r_iinc (pc := 32) (v := nI (i + 1)) (lo2 := [(6, .int (nI (i + 1))), (0, .ref (G.2.1 + 134)), (1, .ref (G.2.1 + c)), (2, .int (nI n)), (3, .int (nI (aU A n).2.1)), (4, .int (nI 0)), (5, .int (nI 0))]) h 6 rfl (iinc1 _) (by decide) rfl dX6_follows_32 ?_
        refine r_goto (pc := 35) (tgt := 16) h (by decide) dX6_follows_35 ?_
        refine r_sub (lo2 := [(0, .ref (G.2.1 + 134)), (1, .ref (G.2.1 + c)), (2, .int (nI n)), (3, .int (nI (aU A n).2.1)), (4, .int (nI 0)), (5, .int (nI 0)), (6, .int (nI (i + 1)))]) [1, 2, 3, 4, 5, 6, 0] rfl ?_
        exact ih16 (i + 1) _ (by omega) (fun j hj => by by_cases e : j = i; (subst e; exact pk_us); (rw [pk_un e]; exact hx0 j (by omega))) (by omega)
  refine r_sub (lo2 := [(0, .ref (G.2.1 + 134)), (1, .ref (G.2.1 + c)), (2, .int (nI n)), (3, .int (nI (aU A n).2.1)), (4, .int (nI 0)), (5, .int (nI 0)), (6, .int (nI 0))]) [4, 5, 6, 3, 2, 1, 0] rfl ?_
  exact lp16 _ 0 xx (by omega) (fun j hj => absurd hj (Nat.not_lt_zero j)) (Nat.lt_succ_self _)

