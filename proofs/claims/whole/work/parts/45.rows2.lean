/-! THE REFERENCE: rows of members -/
def addH (h : Nat → Int32) (L w : Nat) : Nat → Int32 := if w ≤ 999 then upd h (1000 * L + w) (nI 1) else h
theorem addH_1 {h : Nat → Int32} {L w : Nat} (q : w ≤ 999) : addH h L w = upd h (1000 * L + w) (nI 1) := if_pos q
theorem addH_0 {h : Nat → Int32} {L w : Nat} (q : ¬ w ≤ 999) : addH h L w = h := if_neg q
theorem rowP_add {h : Nat → Int32} {L : Nat} {P : Nat → Prop} (r : RowP h L P) (w : Nat) : RowP (addH h L w) L (fun y => P y ∨ y = w) := by
  by_cases q : w ≤ 999
  · rw [addH_1 q]
    intro v hv
    by_cases e : v = w
    · subst e; exact Or.inl ⟨pk_us, Or.inr rfl⟩
    · rw [pk_un (by omega)]
      exact (r v hv).imp (fun z => ⟨z.1, Or.inl z.2⟩) (fun z => ⟨z.1, fun y => y.elim z.2 e⟩)
  · rw [addH_0 q]
    exact r.iff (fun v hv => ⟨Or.inl, fun y => y.elim id (fun y => by omega)⟩)
theorem addH_off {h : Nat → Int32} {L w j : Nat} (hj : j < 1000 * L) : addH h L w j = h j := by
  by_cases q : w ≤ 999
  · rw [addH_1 q, pk_un (by omega)]
  · rw [addH_0 q]
/-- crossed out: t' * v for 2 ≤ t' < t -/
def StX (x x1 : Nat → Int32) (v t : Nat) : Prop := ∀ y, y < 1000 → (x1 y = nI 1 ∧ ∃ k, 2 ≤ k ∧ k < t ∧ y = k * v) ∨ (x1 y = x y ∧ ¬ ∃ k, 2 ≤ k ∧ k < t ∧ y = k * v)
theorem stX_0 (x : Nat → Int32) (v : Nat) : StX x x v 2 := fun y hy => Or.inr ⟨rfl, fun ⟨k, a, b, c⟩ => by omega⟩
theorem stX_s {x x1 : Nat → Int32} {v t : Nat} (h : StX x x1 v t) (ht : 2 ≤ t) : StX x (upd x1 (t * v) (nI 1)) v (t + 1) := fun y hy => by
  by_cases e : y = t * v
  · subst e; exact Or.inl ⟨pk_us, t, ht, by omega, rfl⟩
  · rw [pk_un e]
    refine (h y hy).imp (fun z => ⟨z.1, ?_⟩) (fun z => ⟨z.1, fun q => z.2 ?_⟩)
    · obtain ⟨k, a, b, c⟩ := z.2; exact ⟨k, a, by omega, c⟩
    · obtain ⟨k, a, b, c⟩ := q
      refine ⟨k, a, ?_, c⟩
      rcases Nat.lt_or_ge k t with d | d
      · exact d
      · have : k = t := by omega
        subst this; exact absurd c e
theorem stX_v {x x1 : Nat → Int32} {v t : Nat} (h : StX x x1 v t) (hv : v < 1000) (h1 : 1 < v ∨ t = 2) : x1 v = x v := by
  rcases h v hv with z | z
  · obtain ⟨-, k, a, b, c⟩ := z
    rcases h1 with q | q
    · have := Nat.mul_le_mul_right v a; omega
    · omega
  · exact z.1
/-- what a number that is kept crosses out -/
def Crs (x x2 : Nat → Int32) (v : Nat) (cr : Bool) : Prop := ∀ y, y < 1000 → (x2 y = nI 1 ∧ (1 < v ∧ cr = false ∧ v < y ∧ y % v = 0)) ∨ (x2 y = x y ∧ ¬ (1 < v ∧ cr = false ∧ v < y ∧ y % v = 0))
theorem crs_none {x x1 : Nat → Int32} {v : Nat} {cr : Bool} (h : StX x x1 v 2) (hn : ¬ (1 < v ∧ cr = false) ∨ 999 < 2 * v) : Crs x x1 v cr := fun y hy => by
  rcases h y hy with z | z
  · obtain ⟨-, k, a, b, c⟩ := z; omega
  · refine Or.inr ⟨z.1, fun q => ?_⟩
    rcases hn with e | e
    · exact e ⟨q.1, q.2.1⟩
    · obtain ⟨q1, q2, q3, q4⟩ := q
      have e1 : y / v * v = y := Nat.div_mul_cancel (Nat.dvd_of_mod_eq_zero q4)
      rcases Nat.lt_or_ge (y / v) 2 with d | d
      · have := Nat.mul_le_mul_right v (show y / v ≤ 1 by omega); omega
      · have := Nat.mul_le_mul_right v d; omega
theorem crs_all {x x1 : Nat → Int32} {v t : Nat} {cr : Bool} (h : StX x x1 v t) (h1 : 1 < v) (h2 : cr = false) (ht : 2 ≤ t) (he : 999 < t * v) : Crs x x1 v cr := fun y hy => by
  have key : (∃ k, 2 ≤ k ∧ k < t ∧ y = k * v) ↔ (v < y ∧ y % v = 0) := by
    constructor
    · rintro ⟨k, a, b, c⟩
      have := Nat.mul_le_mul_right v a
      exact ⟨by omega, by rw [c]; exact Nat.mul_mod_left _ _⟩
    · rintro ⟨a, b⟩
      have e1 : y / v * v = y := Nat.div_mul_cancel (Nat.dvd_of_mod_eq_zero b)
      refine ⟨y / v, ?_, ?_, e1.symm⟩
      · rcases Nat.lt_or_ge (y / v) 2 with d | d
        · have := Nat.mul_le_mul_right v (show y / v ≤ 1 by omega); omega
        · exact d
      · rcases Nat.lt_or_ge (y / v) t with d | d
        · exact d
        · have := Nat.mul_le_mul_right v d; omega
  exact (h y hy).imp (fun z => ⟨z.1, h1, h2, key.mp z.2⟩) (fun z => ⟨z.1, fun q => z.2 (key.mpr q.2.2)⟩)
set_option maxRecDepth 100000 in
set_option maxHeartbeats 800000 in
theorem c_adds (l : Launch) (G : Gl) (σ : Sg) (c : Nat) (hc : Rc c) (s hh xx m : Nat → Int32) (L w : Nat) (hL : L < 12) (hw : w < 2 ^ 31) : Cv l yX6_adds cX6_adds 3 ({ frames := 0, cells := 0, slots := 0, locals := 0 } : Room) G [.ref (G.2.1 + 134), .int (nI L), .int (nI w)] (mB σ c s hh xx m) (fun σ2 => σ2 = mB σ c s (addH hh L w) xx m) := by
  refine Cv_of (own := RX6) rfl (by decide +kernel) (lo := [(0, .ref (G.2.1 + 134)), (1, .int (nI L)), (2, .int (nI w))]) rfl (Nat.le_of_ble_eq_true rfl) ?_
  intro x Q hxl h hret
  subst hxl
  refine r_iload_n (pc := 0) h 2 rfl rfl dX6_adds_0 ?_
  refine r_sipush (pc := 1) (v := nI 999) h (by decide) dX6_adds_1 ?_
  refine r_icmp_gt (pc := 4) (tgt := 20) h (by decide) dX6_adds_4 (fun c4 => ?_) (fun c4 => ?_)
  · skip
    rw [nI_ltI (by omega) (by omega)] at c4
    exact hret _ (by rw [addH_0 (by omega)]) 20 _ dX6_adds_20
  · skip
    rw [nI_ltI (by omega) (by omega)] at c4
    refine r_aload_n (pc := 7) h 0 rfl rfl dX6_adds_7 ?_
    refine g_6_has (pc := 8) h mw_4_2 dX6_adds_8 ?_
    refine r_sipush (pc := 11) (v := nI 1000) h (by decide) dX6_adds_11 ?_
    refine r_iload_n (pc := 14) h 1 rfl rfl dX6_adds_14 ?_
    refine r_imul (pc := 15) (v := nI (1000 * L)) h (pk_mul _ _) dX6_adds_15 ?_
    refine r_iload_n (pc := 16) h 2 rfl rfl dX6_adds_16 ?_
    refine r_iadd (pc := 17) (v := nI ((1000 * L) + w)) h (nI_add _ _) dX6_adds_17 ?_
    refine r_iconst (pc := 18) (v := nI 1) h (by decide) dX6_adds_18 ?_
    refine r_zast (pc := 19) (w := nI 1) h a_mh ((1000 * L) + w) rfl (by omega) (by decide) dX6_adds_19 ?_
    refine V.sg (mB_sh hc _ _) ?_
    exact hret _ (by rw [addH_1 (by omega)]) 20 _ dX6_adds_20

set_option maxRecDepth 100000 in
set_option maxHeartbeats 800000 in
theorem c_sieves (l : Launch) (G : Gl) (σ : Sg) (c : Nat) (hc : Rc c) (s hh xx m : Nat → Int32) (L v : Nat) (cr : Bool) (hL : L < 12) (hv : v < 1000) (hx : xx v = zB cr) : Cv l yX6_sieves cX6_sieves 4 ({ frames := 0, cells := 0, slots := 0, locals := 0 } : Room) G [.ref (G.2.1 + 134), .int (nI L), .int (nI v)] (mB σ c s hh xx m) (fun σ2 => ∃ x1, σ2 = mB σ c s (upd hh (1000 * L + v) (zB (!cr))) x1 m ∧ Crs xx x1 v cr) := by
  refine Cv_of (own := RX6) rfl (by decide +kernel) (lo := [(0, .ref (G.2.1 + 134)), (1, .int (nI L)), (2, .int (nI v))]) rfl (Nat.le_of_ble_eq_true rfl) ?_
  intro x Q hxl h hret
  subst hxl
  refine r_aload_n (pc := 0) h 0 rfl rfl dX6_sieves_0 ?_
  refine g_6_has (pc := 1) h mw_4_2 dX6_sieves_1 ?_
  refine r_sipush (pc := 4) (v := nI 1000) h (by decide) dX6_sieves_4 ?_
  refine r_iload_n (pc := 7) h 1 rfl rfl dX6_sieves_7 ?_
  refine r_imul (pc := 8) (v := nI (1000 * L)) h (pk_mul _ _) dX6_sieves_8 ?_
  refine r_iload_n (pc := 9) h 2 rfl rfl dX6_sieves_9 ?_
  refine r_iadd (pc := 10) (v := nI ((1000 * L) + v)) h (nI_add _ _) dX6_sieves_10 ?_
  refine r_aload_n (pc := 11) h 0 rfl rfl dX6_sieves_11 ?_
  refine g_6_crossed (pc := 12) h mw_4_3 dX6_sieves_12 ?_
  refine r_iload_n (pc := 15) h 2 rfl rfl dX6_sieves_15 ?_
  refine r_zald (pc := 16) h a_mc v rfl (by omega) dX6_sieves_16 ?_
  refine r_topi (b := xx v) (mB_x hc _) ?_
  refine r_topi (b := zB cr) hx ?_
  refine r_if_ne (pc := 17) (tgt := 24) h (by decide) dX6_sieves_17 (fun c17 => ?_) (fun c17 => ?_)
  · skip
    replace c17 := zB_n0.mp c17
    refine r_iconst (pc := 24) (v := zB (!cr)) h (by rw [c17]; rfl) dX6_sieves_24 ?_
    refine r_zast (pc := 25) (w := zB (!cr)) h a_mh ((1000 * L) + v) rfl (by omega) (nar_zB _) dX6_sieves_25 ?_
    refine V.sg (mB_sh hc _ _) ?_
    refine r_iconst (pc := 26) (v := nI 2) h (by decide) dX6_sieves_26 ?_
    refine r_iload_n (pc := 27) h 2 rfl rfl dX6_sieves_27 ?_
    refine r_imul (pc := 28) (v := nI (2 * v)) h (pk_mul _ _) dX6_sieves_28 ?_
    refine r_istore_n (pc := 29) (lo2 := [(3, .int (nI (2 * v))), (0, .ref (G.2.1 + 134)), (1, .int (nI L)), (2, .int (nI v))]) h rfl (by decide) rfl dX6_sieves_29 ?_
    have lp30 : ∀ (fu : Nat) (t : Nat) (x1 : Nat → Int32), 2 ≤ t → t * v ≤ 1998 → StX xx x1 v t → (t = 2 ∨ (1 < v ∧ cr = false)) → 1000 - t < fu → V x G 4 0 0 Q (mB σ c s (upd hh (1000 * L + v) (zB (!cr))) x1 m) 30 [(0, .ref (G.2.1 + 134)), (2, .int (nI v)), (3, .int (nI (t * v)))] [] := by
      intro fu
      induction fu with
      | zero => intro t x1 ht hb hs h12 hfu; exact absurd hfu (Nat.not_lt_zero _)
      | succ fu ih30 =>
        intro t x1 ht hb hs h12 hfu
        refine r_iload_n (pc := 30) h 2 rfl rfl dX6_sieves_30 ?_
        refine r_sipush (pc := 31) (v := nI 999) h (by decide) dX6_sieves_31 ?_
        refine r_icmp_gt (pc := 34) (tgt := 65) h (by decide) dX6_sieves_34 (fun c34 => ?_) (fun c34 => ?_)
        · skip
          rw [nI_ltI (by omega) (by omega)] at c34
          exact hret _ (⟨x1, rfl, (h12.elim (fun q => by subst q; exact crs_none hs (Or.inr (by omega))) (fun q => crs_all hs q.1 q.2 ht (by omega)))⟩) 65 _ dX6_sieves_65
        · skip
          rw [nI_ltI (by omega) (by omega)] at c34
          refine r_iload_n (pc := 37) h 1 rfl rfl dX6_sieves_37 ?_
          refine r_iconst (pc := 38) (v := nI 1) h (by decide) dX6_sieves_38 ?_
          refine r_icmp_le (pc := 39) (tgt := 65) h (by decide) dX6_sieves_39 (fun c39 => ?_) (fun c39 => ?_)
          · skip
            rw [nI_leI (by omega) (by omega)] at c39
            exact hret _ (⟨x1, rfl, (h12.elim (fun q => by subst q; exact crs_none hs (Or.inl (fun z => by omega))) (fun q => absurd q.1 (by omega)))⟩) 65 _ dX6_sieves_65
          · skip
            rw [nI_leI (by omega) (by omega)] at c39
            refine r_aload_n (pc := 42) h 0 rfl rfl dX6_sieves_42 ?_
            refine g_6_crossed (pc := 43) h mw_4_3 dX6_sieves_43 ?_
            refine r_iload_n (pc := 46) h 1 rfl rfl dX6_sieves_46 ?_
            refine r_zald (pc := 47) h a_mc v rfl (by omega) dX6_sieves_47 ?_
            refine r_topi (b := x1 v) (mB_x hc _) ?_
            refine r_topi (b := zB cr) ((stX_v hs hv (h12.elim Or.inr (fun q => Or.inl q.1))).trans hx) ?_
            refine r_if_ne (pc := 48) (tgt := 65) h (by decide) dX6_sieves_48 (fun c48 => ?_) (fun c48 => ?_)
            · skip
              replace c48 := zB_n0.mp c48
              exact hret _ (⟨x1, rfl, (h12.elim (fun q => by subst q; exact crs_none hs (Or.inl (fun z => by rw [c48] at z; cases z.2))) (fun q => by rw [c48] at q; cases q.2))⟩) 65 _ dX6_sieves_65
            · skip
              replace c48 := zB_0.mp c48
              refine r_aload_n (pc := 51) h 0 rfl rfl dX6_sieves_51 ?_
              refine g_6_crossed (pc := 52) h mw_4_3 dX6_sieves_52 ?_
              refine r_iload_n (pc := 55) h 2 rfl rfl dX6_sieves_55 ?_
              refine r_iconst (pc := 56) (v := nI 1) h (by decide) dX6_sieves_56 ?_
              refine r_zast (pc := 57) (w := nI 1) h a_mc (t * v) rfl (by omega) (by decide) dX6_sieves_57 ?_
              refine V.sg (mB_sx hc _ _) ?_
              refine r_iload_n (pc := 58) h 2 rfl rfl dX6_sieves_58 ?_
              refine r_iload_n (pc := 59) h 1 rfl rfl dX6_sieves_59 ?_
              refine r_iadd (pc := 60) (v := nI ((t + 1) * v)) h ((nI_add _ _).trans (congrArg nI (by rw [Nat.add_mul, Nat.one_mul]))) dX6_sieves_60 ?_
              refine r_istore_n (pc := 61) (lo2 := [(3, .int (nI ((t + 1) * v))), (0, .ref (G.2.1 + 134)), (2, .int (nI v))]) h rfl (by decide) rfl dX6_sieves_61 ?_
              refine r_goto (pc := 62) (tgt := 30) h (by decide) dX6_sieves_62 ?_
              refine r_sub (lo2 := [(0, .ref (G.2.1 + 134)), (2, .int (nI v)), (3, .int (nI ((t + 1) * v)))]) [1, 2, 0] rfl ?_
              have hv2 := Nat.mul_le_mul_left t (show 2 ≤ v by omega)
              have hts : (t + 1) * v = t * v + v := by rw [Nat.add_mul, Nat.one_mul]
              exact ih30 (t + 1) _ (by omega) (by omega) (stX_s hs ht) (Or.inr ⟨by omega, c48⟩) (by omega)
    refine r_sub (lo2 := [(0, .ref (G.2.1 + 134)), (2, .int (nI v)), (3, .int (nI (2 * v)))]) [1, 3, 0] rfl ?_
    exact lp30 _ 2 xx (by omega) (by omega) (stX_0 xx v) (Or.inl rfl) (Nat.lt_succ_self _)
  · skip
    replace c17 := zB_0.mp c17
    refine r_iconst (pc := 20) (v := zB (!cr)) h (by rw [c17]; rfl) dX6_sieves_20 ?_
    refine r_goto (pc := 21) (tgt := 25) h (by decide) dX6_sieves_21 ?_
    refine r_zast (pc := 25) (w := zB (!cr)) h a_mh ((1000 * L) + v) rfl (by omega) (nar_zB _) dX6_sieves_25 ?_
    refine V.sg (mB_sh hc _ _) ?_
    refine r_iconst (pc := 26) (v := nI 2) h (by decide) dX6_sieves_26 ?_
    refine r_iload_n (pc := 27) h 2 rfl rfl dX6_sieves_27 ?_
    refine r_imul (pc := 28) (v := nI (2 * v)) h (pk_mul _ _) dX6_sieves_28 ?_
    refine r_istore_n (pc := 29) (lo2 := [(3, .int (nI (2 * v))), (0, .ref (G.2.1 + 134)), (1, .int (nI L)), (2, .int (nI v))]) h rfl (by decide) rfl dX6_sieves_29 ?_
    have lp30 : ∀ (fu : Nat) (t : Nat) (x1 : Nat → Int32), 2 ≤ t → t * v ≤ 1998 → StX xx x1 v t → (t = 2 ∨ (1 < v ∧ cr = false)) → 1000 - t < fu → V x G 4 0 0 Q (mB σ c s (upd hh (1000 * L + v) (zB (!cr))) x1 m) 30 [(0, .ref (G.2.1 + 134)), (2, .int (nI v)), (3, .int (nI (t * v)))] [] := by
      intro fu
      induction fu with
      | zero => intro t x1 ht hb hs h12 hfu; exact absurd hfu (Nat.not_lt_zero _)
      | succ fu ih30 =>
        intro t x1 ht hb hs h12 hfu
        refine r_iload_n (pc := 30) h 2 rfl rfl dX6_sieves_30 ?_
        refine r_sipush (pc := 31) (v := nI 999) h (by decide) dX6_sieves_31 ?_
        refine r_icmp_gt (pc := 34) (tgt := 65) h (by decide) dX6_sieves_34 (fun c34 => ?_) (fun c34 => ?_)
        · skip
          rw [nI_ltI (by omega) (by omega)] at c34
          exact hret _ (⟨x1, rfl, (h12.elim (fun q => by subst q; exact crs_none hs (Or.inr (by omega))) (fun q => crs_all hs q.1 q.2 ht (by omega)))⟩) 65 _ dX6_sieves_65
        · skip
          rw [nI_ltI (by omega) (by omega)] at c34
          refine r_iload_n (pc := 37) h 1 rfl rfl dX6_sieves_37 ?_
          refine r_iconst (pc := 38) (v := nI 1) h (by decide) dX6_sieves_38 ?_
          refine r_icmp_le (pc := 39) (tgt := 65) h (by decide) dX6_sieves_39 (fun c39 => ?_) (fun c39 => ?_)
          · skip
            rw [nI_leI (by omega) (by omega)] at c39
            exact hret _ (⟨x1, rfl, (h12.elim (fun q => by subst q; exact crs_none hs (Or.inl (fun z => by omega))) (fun q => absurd q.1 (by omega)))⟩) 65 _ dX6_sieves_65
          · skip
            rw [nI_leI (by omega) (by omega)] at c39
            refine r_aload_n (pc := 42) h 0 rfl rfl dX6_sieves_42 ?_
            refine g_6_crossed (pc := 43) h mw_4_3 dX6_sieves_43 ?_
            refine r_iload_n (pc := 46) h 1 rfl rfl dX6_sieves_46 ?_
            refine r_zald (pc := 47) h a_mc v rfl (by omega) dX6_sieves_47 ?_
            refine r_topi (b := x1 v) (mB_x hc _) ?_
            refine r_topi (b := zB cr) ((stX_v hs hv (h12.elim Or.inr (fun q => Or.inl q.1))).trans hx) ?_
            refine r_if_ne (pc := 48) (tgt := 65) h (by decide) dX6_sieves_48 (fun c48 => ?_) (fun c48 => ?_)
            · skip
              replace c48 := zB_n0.mp c48
              exact hret _ (⟨x1, rfl, (h12.elim (fun q => by subst q; exact crs_none hs (Or.inl (fun z => by rw [c48] at z; cases z.2))) (fun q => by rw [c48] at q; cases q.2))⟩) 65 _ dX6_sieves_65
            · skip
              replace c48 := zB_0.mp c48
              refine r_aload_n (pc := 51) h 0 rfl rfl dX6_sieves_51 ?_
              refine g_6_crossed (pc := 52) h mw_4_3 dX6_sieves_52 ?_
              refine r_iload_n (pc := 55) h 2 rfl rfl dX6_sieves_55 ?_
              refine r_iconst (pc := 56) (v := nI 1) h (by decide) dX6_sieves_56 ?_
              refine r_zast (pc := 57) (w := nI 1) h a_mc (t * v) rfl (by omega) (by decide) dX6_sieves_57 ?_
              refine V.sg (mB_sx hc _ _) ?_
              refine r_iload_n (pc := 58) h 2 rfl rfl dX6_sieves_58 ?_
              refine r_iload_n (pc := 59) h 1 rfl rfl dX6_sieves_59 ?_
              refine r_iadd (pc := 60) (v := nI ((t + 1) * v)) h ((nI_add _ _).trans (congrArg nI (by rw [Nat.add_mul, Nat.one_mul]))) dX6_sieves_60 ?_
              refine r_istore_n (pc := 61) (lo2 := [(3, .int (nI ((t + 1) * v))), (0, .ref (G.2.1 + 134)), (2, .int (nI v))]) h rfl (by decide) rfl dX6_sieves_61 ?_
              refine r_goto (pc := 62) (tgt := 30) h (by decide) dX6_sieves_62 ?_
              refine r_sub (lo2 := [(0, .ref (G.2.1 + 134)), (2, .int (nI v)), (3, .int (nI ((t + 1) * v)))]) [1, 2, 0] rfl ?_
              have hv2 := Nat.mul_le_mul_left t (show 2 ≤ v by omega)
              have hts : (t + 1) * v = t * v + v := by rw [Nat.add_mul, Nat.one_mul]
              exact ih30 (t + 1) _ (by omega) (by omega) (stX_s hs ht) (Or.inr ⟨by omega, c48⟩) (by omega)
    refine r_sub (lo2 := [(0, .ref (G.2.1 + 134)), (2, .int (nI v)), (3, .int (nI (2 * v)))]) [1, 3, 0] rfl ?_
    exact lp30 _ 2 xx (by omega) (by omega) (stX_0 xx v) (Or.inl rfl) (Nat.lt_succ_self _)

