/-! THE REFERENCE: text, slots, undo, simulate -/
section
variable {σ τ : Sg} {s h x mm fd : Nat → Int32} {n n2 : Nat} {tx tx2 : Nat → Nat} {A A2 : Ab} {m m2 : Nat} {H H2 : Nat → Ab} {sv sv2 : Nat → Bool} {sl sl2 : Nat → Ab}
theorem mB_sq {c q : Nat} (hq : q ≠ c ∧ q ≠ 134 ∧ q ≠ 141 ∧ q ≠ 142) (j : Nat) (v : Int32) : sI (mB σ c s h x mm) q j v = mB (sI σ q j v) c s h x mm := sg_ext (fun i => by
  by_cases e : i = q
  · subst e; simp [mB, va_up, sI, hq.1, hq.2.1, hq.2.2.1, hq.2.2.2]
  · simp [mB, va_up, sI, e]) rfl
theorem mB_oB2 {c q : Nat} (hq : q ≠ c ∧ q ≠ 134 ∧ q ≠ 141 ∧ q ≠ 142) (g : Nat → Int32) : oB (mB σ c s h x mm) q g = mB (oB σ q g) c s h x mm := sg_ext (fun i => by
  by_cases e : i = q
  · subst e; simp [oB, mB, va_up, hq.1, hq.2.1, hq.2.2.1, hq.2.2.2]
  · simp [oB, mB, va_up, e]) rfl
theorem mB_oBc (c : Nat) (g : Nat → Int32) : oB (mB σ c s h x mm) c g = mB σ c g h x mm := sg_ext (fun i => by
  by_cases e : i = c
  · subst e; simp [oB, mB, va_up]
  · simp [oB, mB, va_up, e]) rfl
theorem inv_g (ht : TxM n2 tx2 τ) (e2 : mm 2 = nI n2) (hM : RelM A2 s) (hA : okA A2) (h14 : m2 ≤ 14) (e6 : mm 6 = nI m2) (hd : DiM m2 H2 (τ.1 138)) (hk : KpM sv2 sl2 (τ.1 139) (τ.1 140)) : InvM n2 tx2 A2 m2 H2 sv2 sl2 (mB τ 136 s h x mm) := by
  refine ⟨⟨⟨ht.1, fun i hi => ?_⟩, (mB_m rc136 2).trans e2⟩, ⟨by rw [mB_sF]; exact hM, hA⟩, ⟨h14, (mB_m rc136 6).trans e6, by rw [mB_o (by decide)]; exact hd⟩, by rw [mB_o (by decide), mB_o (by decide)]; exact hk⟩
  rw [mB_o (by decide)]; exact ht.2 i hi
theorem inv_g7 (ht : TxM n2 tx2 τ) (e2 : mm 2 = nI n2) (hM : RelM A2 (τ.1 136)) (hA : okA A2) (h14 : m2 ≤ 14) (e6 : mm 6 = nI m2) (hd : DiM m2 H2 (τ.1 138)) (hk : KpM sv2 sl2 (τ.1 139) (τ.1 140)) : InvM n2 tx2 A2 m2 H2 sv2 sl2 (mB τ 137 s h x mm) := by
  refine ⟨⟨⟨ht.1, fun i hi => ?_⟩, (mB_m rc137 2).trans e2⟩, ⟨by rw [mB_o (by decide)]; exact hM, hA⟩, ⟨h14, (mB_m rc137 6).trans e6, by rw [mB_o (by decide)]; exact hd⟩, by rw [mB_o (by decide), mB_o (by decide)]; exact hk⟩
  rw [mB_o (by decide)]; exact ht.2 i hi
theorem inv_7 (hi : InvM n tx A m H sv sl σ) (e2 : mm 2 = σ.1 134 2) (e6 : mm 6 = σ.1 134 6) : InvM n tx A m H sv sl (mB σ 137 s h x mm) :=
  inv_g7 hi.1.1 (e2.trans hi.1.2) hi.2.1.1 hi.2.1.2 hi.2.2.1.1 (e6.trans hi.2.2.1.2.1) hi.2.2.1.2.2 hi.2.2.2
theorem txM_o (ht : TxM n tx σ) (e : τ.1 135 = σ.1 135) : TxM n tx τ := ⟨ht.1, fun i hi => by rw [e]; exact ht.2 i hi⟩
theorem txM_add (ht : TxM n tx σ) (hn : n < 120) {v : Nat} (hv : v < 256) : TxM (n + 1) (va_up tx n v) (sI σ 135 n (nI v)) := ⟨hn, fun i hi => by
  by_cases e : i = n
  · subst e; rw [sI_s, va_s]; exact ⟨rfl, hv⟩
  · rw [sI_n _ _ _ _ e, va_n _ _ e]; exact ht.2 i (by omega)⟩
theorem dim_le (hd : DiM m H fd) (h : m2 ≤ m) : DiM m2 H fd := fun k hk => hd k (by omega)
theorem kpM_save {fk fi : Nat → Int32} {j : Nat} (hk : KpM sv sl fk fi) (hM : RelM A s) (hA : okA A) : KpM (va_up sv j true) (va_up sl j A) (cpI s fk 0 (59 * j) 59) (upd fi j (nI 1)) := fun i hi => by
  by_cases e : i = j
  · subst e
    rw [pk_us, va_s, va_s]
    exact ⟨rfl, fun _ => ⟨hM.cong hA (fun j hj => (cpI_in hj).trans (by rw [Nat.zero_add])), hA⟩⟩
  · rw [pk_un e, va_n _ _ e, va_n _ _ e]
    obtain ⟨q1, q2⟩ := hk i hi
    exact ⟨q1, fun q => ⟨(q2 q).1.cong (q2 q).2 (fun j hj => cpI_out (by omega)), (q2 q).2⟩⟩
theorem relM_cp {f g : Nat → Int32} {a : Nat} (hM : RelM A (fun i => f (a + i))) (hA : okA A) : RelM A (cpI f g a 0 59) := hM.cong hA (fun j hj => by
  have := cpI_in (f := f) (g := g) (a1 := a) (a2 := 0) hj
  rw [Nat.zero_add] at this
  exact this)
theorem relM_cp0 {f g : Nat → Int32} (hM : RelM A f) (hA : okA A) : RelM A (cpI f g 0 0 59) := relM_cp (hM.cong hA (fun j hj => by show f (0 + j) = f j; rw [Nat.zero_add])) hA
theorem kpM_none {fk : Nat → Int32} {fi : Nat → Int32} (h0 : fi 0 = nI 0) (h1 : fi 1 = nI 0) : KpM (fun _ => false) sl fk fi := fun j hj => by
  refine ⟨?_, fun q => by cases q⟩
  rcases (show j = 0 ∨ j = 1 by omega) with rfl | rfl
  · exact h0
  · exact h1
theorem relM_no {K : Nat} {a b c : Int32} (h0 : ¬ ob A K a b c = 0) (hM : RelM A s) : RelM (att A K a b c).2 s := by unfold att; rw [if_neg h0]; exact hM
theorem relM_yes {K : Nat} {a b c : Int32} (h0 : ob A K a b c = 0) (hM : RelM (co A K a b c).2 s) : RelM (att A K a b c).2 s := by rw [att_0 h0]; exact hM
end
theorem turnK_kind (r : Nat) : (turnK r).1 = 115 ∨ (turnK r).1 = 120 ∨ (turnK r).1 = 106 ∨ (turnK r).1 = 104 ∨ (turnK r).1 = 119 ∨ (turnK r).1 = 118 ∨ (turnK r).1 = 117 ∨ (turnK r).1 = 101 ∨ (turnK r).1 = 100 ∨ (turnK r).1 = 114 ∨ (turnK r).1 = 110 ∨ (turnK r).1 = 107 ∨ (turnK r).1 = 122 ∨ (turnK r).1 = 113 := by
  unfold turnK
  split <;> simp
theorem okA_turn {A : Ab} (hA : okA A) (r : Nat) : okA (turnA A r) := okA_att hA (turnK_kind r) _ _ _
set_option maxRecDepth 100000 in
set_option maxHeartbeats 800000 in
theorem c_m_append (l : Launch) (G : Gl) (σ : Sg) (n : Nat) (tx : Nat → Nat) (A : Ab) (m : Nat) (H : Nat → Ab) (sv : Nat → Bool) (sl : Nat → Ab) (hi : InvM n tx A m H sv sl σ) (u1 : Int32) : Ci l yX6_append cX6_append 2 .int ({ frames := 1, cells := 0, slots := 0, locals := 25 } : Room) G [.ref (G.2.1 + 134), .int u1] σ (fun r σ2 => Pm [2, 3] (seqC (cB (inB (nI 0) (nI 255) u1) 2) (cB (decide (n < 120)) 3)) σ σ2 (InvM n tx A m H sv sl) (InvM (n + 1) (va_up tx n (toN u1)) A m H sv sl) r (nI (n + 1))) := by
  refine Ci_of (own := RX6) rfl (by decide +kernel) (lo := [(0, .ref (G.2.1 + 134)), (1, .int u1)]) rfl (Nat.le_of_ble_eq_true rfl) (fun r s hp => rfl) ?_
  intro x Q hxl h hret
  subst hxl
  have hc := rc136
  have hM := hi.2.1.1
  have hA := hi.2.1.2
  have h12 := hA.1
  have h4 := hA.2.1
  have hm2 := hi.1.2
  have hm6 := hi.2.2.1.2.1
  have hk14 := hi.2.2.1.1
  have hd := hi.2.2.1.2.2
  have ht := hi.1.1
  have hn9 := ht.1
  refine V.sg (show σ = mB σ 136 (σ.1 136) (σ.1 141) (σ.1 142) (σ.1 134) from (mB_self hc).symm) ?_
  refine r_aload_n (pc := 0) h 0 rfl rfl dX6_append_0 ?_
  refine r_iload_n (pc := 1) h 1 rfl rfl dX6_append_1 ?_
  refine r_i2l (pc := 2) (v := u1.toInt64) h rfl dX6_append_2 ?_
  refine r_lconst (pc := 3) (v := 0) h (by decide) dX6_append_3 ?_
  refine r_ldc2 (pc := 4) (v := 255) h mw_5_13 dX6_append_4 ?_
  refine r_cSi (pc := 7) (As := [.long u1.toInt64, .long 0, .long 255]) (st := [.ref (G.2.1 + 134)]) h lk_RX6_43 (c_in x.2.1 G (mB σ 136 (σ.1 136) (σ.1 141) (σ.1 142) (σ.1 134)) u1 (nI 0) (nI 255)) (by decide) rfl rfl (by first | decide | exact Nat.le_of_ble_eq_true rfl) (by decide) dX6_append_7 (fun r1 s2 q3 => ?_)
  rw [q3.1, q3.2]
  refine r_if_ne (pc := 10) (tgt := 17) h (by decide) dX6_append_10 (fun c10 => ?_) (fun c10 => ?_)
  · skip
    replace c10 := zB_n0.mp c10
    obtain ⟨v1, rfl, lv1, hv1⟩ := inB_nI (by omega) (by omega) c10
    refine r_aload_n (pc := 17) h 0 rfl rfl dX6_append_17 ?_
    refine g_6_size (pc := 18) h mw_5_14 dX6_append_18 ?_
    refine r_topi (b := (σ.1 134) 2) (mB_m hc _) ?_
    refine r_topi (b := nI n) hm2 ?_
    refine r_bipush (pc := 21) (v := nI 120) h (by decide) dX6_append_21 ?_
    refine r_icmp_ne (pc := 23) (tgt := 30) h (by decide) dX6_append_23 (fun c23 => ?_) (fun c23 => ?_)
    · skip
      rw [nI_eq (by omega) (by omega)] at c23
      have hn8 : n < 120 := by omega
      refine r_iconst (pc := 30) (v := nI 0) h (by decide) dX6_append_30 ?_
      refine r_cVi (pc := 31) (As := [.int (nI 0)]) (st := []) h lk_RX6_95 (c_refused x.2.1 G σ 136 hc (σ.1 136) (σ.1 141) (σ.1 142) (σ.1 134) 0 (by omega)) rc_6 (by decide) rfl rfl (by first | decide | exact Nat.le_of_ble_eq_true rfl) (by decide) dX6_append_31 (fun r4 s5 q6 => ?_)
      rw [q6.1, q6.2]
      refine r_topi (b := nI 0) (by decide) ?_
      refine r_if_eq (pc := 34) (tgt := 39) h (by decide) dX6_append_34 (fun _ => ?_) (fun c34 => absurd c34 (by decide))
      refine r_aload_n (pc := 39) h 0 rfl rfl dX6_append_39 ?_
      refine g_6_text (pc := 40) h mw_3_20 dX6_append_40 ?_
      refine r_aload_n (pc := 43) h 0 rfl rfl dX6_append_43 ?_
      refine g_6_size (pc := 44) h mw_5_14 dX6_append_44 ?_
      refine r_topi (b := (upd (σ.1 134) 0 (nI 0)) 2) (mB_m hc _) ?_
      refine r_topi (b := nI n) ((pk_un (by decide)).trans hm2) ?_
      refine r_iload_n (pc := 47) h 1 rfl rfl dX6_append_47 ?_
      refine r_iast (pc := 48) (w := nI v1) h a_mt n rfl (by omega) rfl dX6_append_48 ?_
      refine V.sg (mB_sq (by decide) _ _) ?_
      refine r_aload_n (pc := 49) h 0 rfl rfl dX6_append_49 ?_
      refine r_dup (pc := 50) h rfl dX6_append_50 ?_
      refine g_6_size (pc := 51) h mw_5_14 dX6_append_51 ?_
      refine r_topi (b := (upd (σ.1 134) 0 (nI 0)) 2) (mB_m hc _) ?_
      refine r_topi (b := nI n) ((pk_un (by decide)).trans hm2) ?_
      refine r_iconst (pc := 54) (v := nI 1) h (by decide) dX6_append_54 ?_
      refine r_iadd (pc := 55) (v := nI (n + 1)) h (nI_add _ _) dX6_append_55 ?_
      refine p_6_size (pc := 56) h mw_5_14 dX6_append_56 ?_
      refine V.sg (mB_sm hc _ _) ?_
      refine r_aload_n (pc := 59) h 0 rfl rfl dX6_append_59 ?_
      refine g_6_size (pc := 60) h mw_5_14 dX6_append_60 ?_
      refine r_topi (b := (upd (upd (σ.1 134) 0 (nI 0)) 2 (nI (n + 1))) 2) (mB_m hc _) ?_
      refine r_topi (b := nI (n + 1)) pk_us ?_
      exact hret _ _ (pm_ok (seq_0 (cB_t c10) (cB_t (decide_eq_true hn8))) ((mB_m hc 0).trans ((pk_un (by decide)).trans pk_us)) (((out_sI σ 135 n _).wd (by omega) (by omega)).tr (mB_out hc)) rfl (inv_g (by rw [toN_nI (show v1 < 2 ^ 31 by omega)]; exact txM_add ht hn8 (by omega)) pk_us hM hA hk14 ((pk_un (by decide)).trans ((pk_un (by decide)).trans hm6)) (by rw [sI_o _ _ _ _ (by decide)]; exact hd) (by rw [sI_o _ _ _ _ (by decide), sI_o _ _ _ _ (by decide)]; exact hi.2.2.2))) 63 _ dX6_append_63
    · skip
      rw [nI_eq (by omega) (by omega)] at c23
      refine r_iconst (pc := 26) (v := nI 2) h (by decide) dX6_append_26 ?_
      refine r_goto (pc := 27) (tgt := 31) h (by decide) dX6_append_27 ?_
      refine r_cVi (pc := 31) (As := [.int (nI 2)]) (st := []) h lk_RX6_95 (c_refused x.2.1 G σ 136 hc (σ.1 136) (σ.1 141) (σ.1 142) (σ.1 134) 2 (by omega)) rc_6 (by decide) rfl rfl (by first | decide | exact Nat.le_of_ble_eq_true rfl) (by decide) dX6_append_31 (fun r7 s8 q9 => ?_)
      rw [q9.1, q9.2]
      refine r_topi (b := nI 1) (by decide) ?_
      refine r_if_eq (pc := 34) (tgt := 39) h (by decide) dX6_append_34 (fun c34 => absurd c34 (by decide)) (fun _ => ?_)
      refine r_iconst (pc := 37) (v := nI 0) h (by decide) dX6_append_37 ?_
      exact hret _ _ (pm_no (c0 := 3) (seq_2 (cB_t c10) (cB_f (decide_eq_false (by omega)))) (by decide) rfl ((mB_m hc 0).trans pk_us) (mB_out hc) (inv_0 hi hM hA ((pk_un (by decide)).trans rfl) ((pk_un (by decide)).trans rfl))) 38 _ dX6_append_38
  · skip
    replace c10 := zB_0.mp c10
    refine r_iconst (pc := 13) (v := nI 1) h (by decide) dX6_append_13 ?_
    refine r_goto (pc := 14) (tgt := 31) h (by decide) dX6_append_14 ?_
    refine r_cVi (pc := 31) (As := [.int (nI 1)]) (st := []) h lk_RX6_95 (c_refused x.2.1 G σ 136 hc (σ.1 136) (σ.1 141) (σ.1 142) (σ.1 134) 1 (by omega)) rc_6 (by decide) rfl rfl (by first | decide | exact Nat.le_of_ble_eq_true rfl) (by decide) dX6_append_31 (fun r10 s11 q12 => ?_)
    rw [q12.1, q12.2]
    refine r_topi (b := nI 1) (by decide) ?_
    refine r_if_eq (pc := 34) (tgt := 39) h (by decide) dX6_append_34 (fun c34 => absurd c34 (by decide)) (fun _ => ?_)
    refine r_iconst (pc := 37) (v := nI 0) h (by decide) dX6_append_37 ?_
    exact hret _ _ (pm_no (c0 := 2) (seq_1 (cB_f c10) (by decide)) (by decide) rfl ((mB_m hc 0).trans pk_us) (mB_out hc) (inv_0 hi hM hA ((pk_un (by decide)).trans rfl) ((pk_un (by decide)).trans rfl))) 38 _ dX6_append_38

set_option maxRecDepth 100000 in
set_option maxHeartbeats 800000 in
theorem c_m_clearText (l : Launch) (G : Gl) (σ : Sg) (n : Nat) (tx : Nat → Nat) (A : Ab) (m : Nat) (H : Nat → Ab) (sv : Nat → Bool) (sl : Nat → Ab) (hi : InvM n tx A m H sv sl σ) : Ci l yX6_clearText cX6_clearText 2 .int ({ frames := 0, cells := 0, slots := 0, locals := 0 } : Room) G [.ref (G.2.1 + 134)] σ (fun r σ2 => r = nI n ∧ InvM 0 tx A m H sv sl σ2 ∧ Out 134 143 σ σ2) := by
  refine Ci_of (own := RX6) rfl (by decide +kernel) (lo := [(0, .ref (G.2.1 + 134))]) rfl (Nat.le_of_ble_eq_true rfl) (fun _ s hp => by obtain ⟨rfl, _⟩ := hp; rfl) ?_
  intro x Q hxl h hret
  subst hxl
  have hc := rc136
  have hM := hi.2.1.1
  have hA := hi.2.1.2
  have h12 := hA.1
  have h4 := hA.2.1
  have hm2 := hi.1.2
  have hm6 := hi.2.2.1.2.1
  have hk14 := hi.2.2.1.1
  have hd := hi.2.2.1.2.2
  have ht := hi.1.1
  have hn9 := ht.1
  refine V.sg (show σ = mB σ 136 (σ.1 136) (σ.1 141) (σ.1 142) (σ.1 134) from (mB_self hc).symm) ?_
  refine r_aload_n (pc := 0) h 0 rfl rfl dX6_clearText_0 ?_
  refine r_iconst (pc := 1) (v := nI 0) h (by decide) dX6_clearText_1 ?_
  refine p_6_refusal (pc := 2) h mw_5_22 dX6_clearText_2 ?_
  refine V.sg (mB_sm hc _ _) ?_
  refine r_aload_n (pc := 5) h 0 rfl rfl dX6_clearText_5 ?_
  refine g_6_size (pc := 6) h mw_5_14 dX6_clearText_6 ?_
  refine r_topi (b := (upd (σ.1 134) 0 (nI 0)) 2) (mB_m hc _) ?_
  refine r_topi (b := nI n) ((pk_un (by decide)).trans hm2) ?_
  refine r_istore_n (pc := 9) (lo2 := [(1, .int (nI n)), (0, .ref (G.2.1 + 134))]) h rfl (by decide) rfl dX6_clearText_9 ?_
  refine r_aload_n (pc := 10) h 1 rfl rfl dX6_clearText_10 ?_
  refine r_iconst (pc := 11) (v := nI 0) h (by decide) dX6_clearText_11 ?_
  refine p_6_size (pc := 12) h mw_5_14 dX6_clearText_12 ?_
  refine V.sg (mB_sm hc _ _) ?_
  refine r_iload_n (pc := 15) h 0 rfl rfl dX6_clearText_15 ?_
  exact hret _ _ (⟨rfl, inv_g ⟨by omega, fun i hi => absurd hi (Nat.not_lt_zero i)⟩ pk_us hM hA hk14 ((pk_un (by decide)).trans ((pk_un (by decide)).trans hm6)) hd hi.2.2.2, mB_out hc⟩) 16 _ dX6_clearText_16

set_option maxRecDepth 100000 in
set_option maxHeartbeats 800000 in
theorem c_m_errorPosition (l : Launch) (G : Gl) (σ : Sg) (n : Nat) (tx : Nat → Nat) (A : Ab) (m : Nat) (H : Nat → Ab) (sv : Nat → Bool) (sl : Nat → Ab) (hi : InvM n tx A m H sv sl σ) : Ci l yX6_errorPosition cX6_errorPosition 1 .int ({ frames := 7, cells := 0, slots := 0, locals := 159 } : Room) G [.ref (G.2.1 + 134)] σ (fun r σ2 => r = oI (runA tx n).1 ∧ InvM n tx A m H sv sl σ2 ∧ Out 134 143 σ σ2) := by
  refine Ci_of (own := RX6) rfl (by decide +kernel) (lo := [(0, .ref (G.2.1 + 134))]) rfl (Nat.le_of_ble_eq_true rfl) (fun _ s hp => by obtain ⟨rfl, _⟩ := hp; rfl) ?_
  intro x Q hxl h hret
  subst hxl
  have hc := rc137
  have hM := hi.2.1.1
  have hA := hi.2.1.2
  have h12 := hA.1
  have h4 := hA.2.1
  have hm2 := hi.1.2
  have hm6 := hi.2.2.1.2.1
  have hk14 := hi.2.2.1.1
  have hd := hi.2.2.1.2.2
  have ht := hi.1.1
  have hn9 := ht.1
  refine V.sg (show σ = mB σ 137 (σ.1 137) (σ.1 141) (σ.1 142) (σ.1 134) from (mB_self hc).symm) ?_
  refine r_aload_n (pc := 0) h 0 rfl rfl dX6_errorPosition_0 ?_
  refine r_iconst (pc := 1) (v := nI 0) h (by decide) dX6_errorPosition_1 ?_
  refine p_6_refusal (pc := 2) h mw_5_22 dX6_errorPosition_2 ?_
  refine V.sg (mB_sm hc _ _) ?_
  refine r_aload_n (pc := 5) h 0 rfl rfl dX6_errorPosition_5 ?_
  refine r_aload_n (pc := 6) h 0 rfl rfl dX6_errorPosition_6 ?_
  refine g_6_trial (pc := 7) h mw_3_22 dX6_errorPosition_7 ?_
  refine r_cVi (pc := 10) (As := [.ref (G.2.1 + 137)]) (st := []) h lk_RX6_173 (c_readText x.2.1 G σ 137 hc (σ.1 137) (σ.1 141) (σ.1 142) (upd (σ.1 134) 0 (nI 0)) n tx ht ((pk_un (by decide)).trans hm2)) rc_6 (by decide) rfl rfl (by first | decide | exact Nat.le_of_ble_eq_true rfl) (by decide) dX6_errorPosition_10 (fun r1 s2 q3 => ?_)
  obtain ⟨e9, s2, h2, x2, m2, es, ho, hrn⟩ := q3
  rw [e9]
  subst es
  exact hret _ _ (⟨rfl, inv_7 hi ((ho 2 (by decide) (by decide)).trans (pk_un (by decide))) ((ho 6 (by decide) (by decide)).trans (pk_un (by decide))), mB_out hc⟩) 13 _ dX6_errorPosition_13

set_option maxRecDepth 100000 in
set_option maxHeartbeats 800000 in
theorem c_m_load (l : Launch) (G : Gl) (σ : Sg) (n : Nat) (tx : Nat → Nat) (A : Ab) (m : Nat) (H : Nat → Ab) (sv : Nat → Bool) (sl : Nat → Ab) (hi : InvM n tx A m H sv sl σ) : Ci l yX6_load cX6_load 1 .int ({ frames := 7, cells := 0, slots := 0, locals := 159 } : Room) G [.ref (G.2.1 + 134)] σ (fun r σ2 => Pm [3] (cB (decide ((runA tx n).1 = none)) 3) σ σ2 (InvM n tx A m H sv sl) (InvM n tx (runA tx n).2.1 0 H (fun _ => false) sl) r (nI (runA tx n).2.2)) := by
  refine Ci_of (own := RX6) rfl (by decide +kernel) (lo := [(0, .ref (G.2.1 + 134))]) rfl (Nat.le_of_ble_eq_true rfl) (fun r s hp => rfl) ?_
  intro x Q hxl h hret
  subst hxl
  have hc := rc137
  have hM := hi.2.1.1
  have hA := hi.2.1.2
  have h12 := hA.1
  have h4 := hA.2.1
  have hm2 := hi.1.2
  have hm6 := hi.2.2.1.2.1
  have hk14 := hi.2.2.1.1
  have hd := hi.2.2.1.2.2
  have ht := hi.1.1
  have hn9 := ht.1
  refine V.sg (show σ = mB σ 137 (σ.1 137) (σ.1 141) (σ.1 142) (σ.1 134) from (mB_self hc).symm) ?_
  refine r_aload_n (pc := 0) h 0 rfl rfl dX6_load_0 ?_
  refine r_aload_n (pc := 1) h 0 rfl rfl dX6_load_1 ?_
  refine r_aload_n (pc := 2) h 0 rfl rfl dX6_load_2 ?_
  refine g_6_trial (pc := 3) h mw_3_22 dX6_load_3 ?_
  refine r_cVi (pc := 6) (As := [.ref (G.2.1 + 137)]) (st := [.ref (G.2.1 + 134)]) h lk_RX6_173 (c_readText x.2.1 G σ 137 hc (σ.1 137) (σ.1 141) (σ.1 142) (σ.1 134) n tx ht hm2) rc_6 (by decide) rfl rfl (by first | decide | exact Nat.le_of_ble_eq_true rfl) (by decide) dX6_load_6 (fun r1 s2 q3 => ?_)
  obtain ⟨e9, s2, h2, x2, m2, es, ho, hrn⟩ := q3
  rw [e9]
  subst es
  refine r_iconst (pc := 9) (v := (-1)) h (by decide) dX6_load_9 ?_
  refine r_icmp_ne (pc := 10) (tgt := 17) h (by decide) dX6_load_10 (fun c10 => ?_) (fun c10 => ?_)
  · skip
    rw [runA_m1 hn9] at c10
    refine r_iconst (pc := 17) (v := nI 1) h (by decide) dX6_load_17 ?_
    refine r_cVi (pc := 18) (As := [.int (nI 1)]) (st := []) h lk_RX6_95 (c_refused x.2.1 G σ 137 hc s2 h2 x2 m2 1 (by omega)) rc_6 (by decide) rfl rfl (by first | decide | exact Nat.le_of_ble_eq_true rfl) (by decide) dX6_load_18 (fun r4 s5 q6 => ?_)
    rw [q6.1, q6.2]
    refine r_topi (b := nI 1) (by decide) ?_
    refine r_if_eq (pc := 21) (tgt := 26) h (by decide) dX6_load_21 (fun c21 => absurd c21 (by decide)) (fun _ => ?_)
    refine r_iconst (pc := 24) (v := nI 0) h (by decide) dX6_load_24 ?_
    exact hret _ _ (pm_no (c0 := 3) (cB_f (decide_eq_false c10)) (by decide) rfl ((mB_m hc 0).trans pk_us) (mB_out hc) (inv_7 hi ((pk_un (by decide)).trans (ho 2 (by decide) (by decide))) ((pk_un (by decide)).trans (ho 6 (by decide) (by decide))))) 25 _ dX6_load_25
  · skip
    rw [runA_m1 hn9] at c10
    obtain ⟨k1, k2, k3⟩ := hrn c10
    refine r_iconst (pc := 13) (v := nI 0) h (by decide) dX6_load_13 ?_
    refine r_goto (pc := 14) (tgt := 18) h (by decide) dX6_load_14 ?_
    refine r_cVi (pc := 18) (As := [.int (nI 0)]) (st := []) h lk_RX6_95 (c_refused x.2.1 G σ 137 hc s2 h2 x2 m2 0 (by omega)) rc_6 (by decide) rfl rfl (by first | decide | exact Nat.le_of_ble_eq_true rfl) (by decide) dX6_load_18 (fun r7 s8 q9 => ?_)
    rw [q9.1, q9.2]
    refine r_topi (b := nI 0) (by decide) ?_
    refine r_if_eq (pc := 21) (tgt := 26) h (by decide) dX6_load_21 (fun _ => ?_) (fun c21 => absurd c21 (by decide))
    refine r_aload_n (pc := 26) h 0 rfl rfl dX6_load_26 ?_
    refine g_6_trial (pc := 27) h mw_3_22 dX6_load_27 ?_
    refine r_iconst (pc := 30) (v := nI 0) h (by decide) dX6_load_30 ?_
    refine r_aload_n (pc := 31) h 0 rfl rfl dX6_load_31 ?_
    refine g_6_now (pc := 32) h mw_3_21 dX6_load_32 ?_
    refine r_iconst (pc := 35) (v := nI 0) h (by decide) dX6_load_35 ?_
    refine r_cSv (pc := 36) (As := [.ref (G.2.1 + 137), .int (nI 0), .ref (G.2.1 + 136), .int (nI 0)]) (st := []) h lk_RX6_176 (c_copyM x.2.1 G (mB σ 137 s2 h2 x2 (upd m2 0 (nI 0))) 137 136 59 59 0 0 a_mr a_mn (by decide) (by omega) (by omega)) (by decide) rfl rfl (by first | decide | exact Nat.le_of_ble_eq_true rfl) (by decide) dX6_load_36 (fun s11 q12 => ?_)
    rw [q12, mB_sF, mB_o (q := 136) (by decide), mB_oB2 (by decide)]
    refine r_aload_n (pc := 39) h 0 rfl rfl dX6_load_39 ?_
    refine r_iconst (pc := 40) (v := nI 0) h (by decide) dX6_load_40 ?_
    refine p_6_acts (pc := 41) h mw_20_6 dX6_load_41 ?_
    refine V.sg (mB_sm hc _ _) ?_
    refine r_aload_n (pc := 44) h 0 rfl rfl dX6_load_44 ?_
    refine g_6_isKept (pc := 45) h mw_4_1 dX6_load_45 ?_
    refine r_iconst (pc := 48) (v := nI 0) h (by decide) dX6_load_48 ?_
    refine r_iconst (pc := 49) (v := nI 0) h (by decide) dX6_load_49 ?_
    refine r_zast (pc := 50) (w := nI 0) h a_mi 0 rfl (by omega) (by decide) dX6_load_50 ?_
    refine V.sg (mB_sq (by decide) _ _) ?_
    refine r_aload_n (pc := 51) h 0 rfl rfl dX6_load_51 ?_
    refine g_6_isKept (pc := 52) h mw_4_1 dX6_load_52 ?_
    refine r_iconst (pc := 55) (v := nI 1) h (by decide) dX6_load_55 ?_
    refine r_iconst (pc := 56) (v := nI 0) h (by decide) dX6_load_56 ?_
    refine r_zast (pc := 57) (w := nI 0) h a_mi 1 rfl (by omega) (by decide) dX6_load_57 ?_
    refine V.sg (mB_sq (by decide) _ _) ?_
    refine r_aload_n (pc := 58) h 0 rfl rfl dX6_load_58 ?_
    refine g_6_skipped (pc := 59) h mw_8_10 dX6_load_59 ?_
    refine r_topi (b := (upd (upd m2 0 (nI 0)) 6 (nI 0)) 12) (mB_m hc _) ?_
    refine r_topi (b := nI (runA tx n).2.2) ((pk_un (by decide)).trans ((pk_un (by decide)).trans k3)) ?_
    exact hret _ _ (pm_ok (cB_t (decide_eq_true c10)) ((mB_m hc 0).trans ((pk_un (by decide)).trans pk_us)) (((((oB_out σ 136 _).wd (by omega) (by omega)).tr ((out_sI _ 140 0 _).wd (by omega) (by omega))).tr ((out_sI _ 140 1 _).wd (by omega) (by omega))).tr (mB_out hc)) rfl (inv_g7 (txM_o ht (by rw [sI_o _ _ _ _ (by decide), sI_o _ _ _ _ (by decide), oB_o _ (by decide)])) ((pk_un (by decide)).trans ((pk_un (by decide)).trans ((ho 2 (by decide) (by decide)).trans hm2))) (by rw [sI_o _ _ _ _ (by decide), sI_o _ _ _ _ (by decide), oB_s]; exact relM_cp0 k1 k2) k2 (Nat.zero_le _) pk_us (fun k hk => absurd hk (Nat.not_lt_zero k)) (kpM_none ((sI_n _ _ _ _ (by decide)).trans (sI_s _ _ _ _)) (sI_s _ _ _ _)))) 62 _ dX6_load_62

set_option maxRecDepth 100000 in
set_option maxHeartbeats 800000 in
theorem c_m_save (l : Launch) (G : Gl) (σ : Sg) (n : Nat) (tx : Nat → Nat) (A : Ab) (m : Nat) (H : Nat → Ab) (sv : Nat → Bool) (sl : Nat → Ab) (hi : InvM n tx A m H sv sl σ) (u1 : Int32) : Ci l yX6_save cX6_save 2 .int ({ frames := 1, cells := 0, slots := 0, locals := 25 } : Room) G [.ref (G.2.1 + 134), .int u1] σ (fun r σ2 => Pm [1] (cB (inB (nI 0) (nI 1) u1) 1) σ σ2 (InvM n tx A m H sv sl) (InvM n tx A m H (va_up sv (toN u1) true) (va_up sl (toN u1) A)) r (nI A.1)) := by
  refine Ci_of (own := RX6) rfl (by decide +kernel) (lo := [(0, .ref (G.2.1 + 134)), (1, .int u1)]) rfl (Nat.le_of_ble_eq_true rfl) (fun r s hp => rfl) ?_
  intro x Q hxl h hret
  subst hxl
  have hc := rc136
  have hM := hi.2.1.1
  have hA := hi.2.1.2
  have h12 := hA.1
  have h4 := hA.2.1
  have hm2 := hi.1.2
  have hm6 := hi.2.2.1.2.1
  have hk14 := hi.2.2.1.1
  have hd := hi.2.2.1.2.2
  have ht := hi.1.1
  have hn9 := ht.1
  refine V.sg (show σ = mB σ 136 (σ.1 136) (σ.1 141) (σ.1 142) (σ.1 134) from (mB_self hc).symm) ?_
  refine r_aload_n (pc := 0) h 0 rfl rfl dX6_save_0 ?_
  refine r_iload_n (pc := 1) h 1 rfl rfl dX6_save_1 ?_
  refine r_i2l (pc := 2) (v := u1.toInt64) h rfl dX6_save_2 ?_
  refine r_lconst (pc := 3) (v := 0) h (by decide) dX6_save_3 ?_
  refine r_lconst (pc := 4) (v := 1) h (by decide) dX6_save_4 ?_
  refine r_cSi (pc := 5) (As := [.long u1.toInt64, .long 0, .long 1]) (st := [.ref (G.2.1 + 134)]) h lk_RX6_43 (c_in x.2.1 G (mB σ 136 (σ.1 136) (σ.1 141) (σ.1 142) (σ.1 134)) u1 (nI 0) (nI 1)) (by decide) rfl rfl (by first | decide | exact Nat.le_of_ble_eq_true rfl) (by decide) dX6_save_5 (fun r1 s2 q3 => ?_)
  rw [q3.1, q3.2]
  refine r_if_eq (pc := 8) (tgt := 15) h (by decide) dX6_save_8 (fun c8 => ?_) (fun c8 => ?_)
  · skip
    replace c8 := zB_0.mp c8
    refine r_iconst (pc := 15) (v := nI 1) h (by decide) dX6_save_15 ?_
    refine r_cVi (pc := 16) (As := [.int (nI 1)]) (st := []) h lk_RX6_95 (c_refused x.2.1 G σ 136 hc (σ.1 136) (σ.1 141) (σ.1 142) (σ.1 134) 1 (by omega)) rc_6 (by decide) rfl rfl (by first | decide | exact Nat.le_of_ble_eq_true rfl) (by decide) dX6_save_16 (fun r4 s5 q6 => ?_)
    rw [q6.1, q6.2]
    refine r_topi (b := nI 1) (by decide) ?_
    refine r_if_eq (pc := 19) (tgt := 24) h (by decide) dX6_save_19 (fun c19 => absurd c19 (by decide)) (fun _ => ?_)
    refine r_iconst (pc := 22) (v := nI 0) h (by decide) dX6_save_22 ?_
    exact hret _ _ (pm_no (c0 := 1) (cB_f c8) (by decide) rfl ((mB_m hc 0).trans pk_us) (mB_out hc) (inv_0 hi hM hA ((pk_un (by decide)).trans rfl) ((pk_un (by decide)).trans rfl))) 23 _ dX6_save_23
  · skip
    replace c8 := zB_n0.mp c8
    obtain ⟨v1, rfl, lv1, hv1⟩ := inB_nI (by omega) (by omega) c8
    refine r_iconst (pc := 11) (v := nI 0) h (by decide) dX6_save_11 ?_
    refine r_goto (pc := 12) (tgt := 16) h (by decide) dX6_save_12 ?_
    refine r_cVi (pc := 16) (As := [.int (nI 0)]) (st := []) h lk_RX6_95 (c_refused x.2.1 G σ 136 hc (σ.1 136) (σ.1 141) (σ.1 142) (σ.1 134) 0 (by omega)) rc_6 (by decide) rfl rfl (by first | decide | exact Nat.le_of_ble_eq_true rfl) (by decide) dX6_save_16 (fun r7 s8 q9 => ?_)
    rw [q9.1, q9.2]
    refine r_topi (b := nI 0) (by decide) ?_
    refine r_if_eq (pc := 19) (tgt := 24) h (by decide) dX6_save_19 (fun _ => ?_) (fun c19 => absurd c19 (by decide))
    refine r_aload_n (pc := 24) h 0 rfl rfl dX6_save_24 ?_
    refine g_6_now (pc := 25) h mw_3_21 dX6_save_25 ?_
    refine r_iconst (pc := 28) (v := nI 0) h (by decide) dX6_save_28 ?_
    refine r_aload_n (pc := 29) h 0 rfl rfl dX6_save_29 ?_
    refine g_6_kept (pc := 30) h mw_4_0 dX6_save_30 ?_
    refine r_bipush (pc := 33) (v := nI 59) h (by decide) dX6_save_33 ?_
    refine r_iload_n (pc := 35) h 1 rfl rfl dX6_save_35 ?_
    refine r_imul (pc := 36) (v := nI (59 * v1)) h (pk_mul _ _) dX6_save_36 ?_
    refine r_cSv (pc := 37) (As := [.ref (G.2.1 + 136), .int (nI 0), .ref (G.2.1 + 139), .int (nI (59 * v1))]) (st := []) h lk_RX6_176 (c_copyM x.2.1 G (mB σ 136 (σ.1 136) (σ.1 141) (σ.1 142) (upd (σ.1 134) 0 (nI 0))) 136 139 59 118 0 (59 * v1) a_mn a_mk (by decide) (by omega) (by omega)) (by decide) rfl rfl (by first | decide | exact Nat.le_of_ble_eq_true rfl) (by decide) dX6_save_37 (fun s11 q12 => ?_)
    rw [q12, mB_sF, mB_o (q := 139) (by decide), mB_oB2 (by decide)]
    refine r_aload_n (pc := 40) h 0 rfl rfl dX6_save_40 ?_
    refine g_6_isKept (pc := 41) h mw_4_1 dX6_save_41 ?_
    refine r_iload_n (pc := 44) h 1 rfl rfl dX6_save_44 ?_
    refine r_iconst (pc := 45) (v := nI 1) h (by decide) dX6_save_45 ?_
    refine r_zast (pc := 46) (w := nI 1) h a_mi v1 rfl (by omega) (by decide) dX6_save_46 ?_
    refine V.sg (mB_sq (by decide) _ _) ?_
    refine r_aload_n (pc := 47) h 0 rfl rfl dX6_save_47 ?_
    refine g_6_now (pc := 48) h mw_3_21 dX6_save_48 ?_
    refine r_iconst (pc := 51) (v := nI 0) h (by decide) dX6_save_51 ?_
    refine r_iald (pc := 52) h (a_rc hc) 0 rfl (by omega) dX6_save_52 ?_
    refine r_topi (b := (σ.1 136) 0) (mB_s _) ?_
    refine r_topi (b := nI A.1) hM.1 ?_
    exact hret _ _ (pm_ok (cB_t c8) ((mB_m hc 0).trans pk_us) ((((oB_out σ 139 _).wd (by omega) (by omega)).tr ((out_sI _ 140 v1 _).wd (by omega) (by omega))).tr (mB_out hc)) rfl (inv_g (txM_o ht (by rw [sI_o _ _ _ _ (by decide), oB_o _ (by decide)])) ((pk_un (by decide)).trans hm2) hM hA hk14 ((pk_un (by decide)).trans hm6) (by rw [sI_o _ _ _ _ (by decide), oB_o _ (by decide)]; exact hd) (by rw [toN_nI (show v1 < 2 ^ 31 by omega), sI_at, sI_o _ _ _ _ (by decide), oB_s, oB_o _ (by decide)]; exact kpM_save hi.2.2.2 hM hA))) 53 _ dX6_save_53

set_option maxRecDepth 100000 in
set_option maxHeartbeats 800000 in
theorem c_m_restore (l : Launch) (G : Gl) (σ : Sg) (n : Nat) (tx : Nat → Nat) (A : Ab) (m : Nat) (H : Nat → Ab) (sv : Nat → Bool) (sl : Nat → Ab) (hi : InvM n tx A m H sv sl σ) (u1 : Int32) : Ci l yX6_restore cX6_restore 2 .int ({ frames := 1, cells := 0, slots := 0, locals := 25 } : Room) G [.ref (G.2.1 + 134), .int u1] σ (fun r σ2 => Pm [1, 3] (seqC (cB (inB (nI 0) (nI 1) u1) 1) (cB (sv (toN u1)) 3)) σ σ2 (InvM n tx A m H sv sl) (InvM n tx (sl (toN u1)) 0 H sv sl) r (nI (sl (toN u1)).1)) := by
  refine Ci_of (own := RX6) rfl (by decide +kernel) (lo := [(0, .ref (G.2.1 + 134)), (1, .int u1)]) rfl (Nat.le_of_ble_eq_true rfl) (fun r s hp => rfl) ?_
  intro x Q hxl h hret
  subst hxl
  have hc := rc136
  have hM := hi.2.1.1
  have hA := hi.2.1.2
  have h12 := hA.1
  have h4 := hA.2.1
  have hm2 := hi.1.2
  have hm6 := hi.2.2.1.2.1
  have hk14 := hi.2.2.1.1
  have hd := hi.2.2.1.2.2
  have ht := hi.1.1
  have hn9 := ht.1
  refine V.sg (show σ = mB σ 136 (σ.1 136) (σ.1 141) (σ.1 142) (σ.1 134) from (mB_self hc).symm) ?_
  refine r_aload_n (pc := 0) h 0 rfl rfl dX6_restore_0 ?_
  refine r_iload_n (pc := 1) h 1 rfl rfl dX6_restore_1 ?_
  refine r_i2l (pc := 2) (v := u1.toInt64) h rfl dX6_restore_2 ?_
  refine r_lconst (pc := 3) (v := 0) h (by decide) dX6_restore_3 ?_
  refine r_lconst (pc := 4) (v := 1) h (by decide) dX6_restore_4 ?_
  refine r_cSi (pc := 5) (As := [.long u1.toInt64, .long 0, .long 1]) (st := [.ref (G.2.1 + 134)]) h lk_RX6_43 (c_in x.2.1 G (mB σ 136 (σ.1 136) (σ.1 141) (σ.1 142) (σ.1 134)) u1 (nI 0) (nI 1)) (by decide) rfl rfl (by first | decide | exact Nat.le_of_ble_eq_true rfl) (by decide) dX6_restore_5 (fun r1 s2 q3 => ?_)
  rw [q3.1, q3.2]
  refine r_if_ne (pc := 8) (tgt := 15) h (by decide) dX6_restore_8 (fun c8 => ?_) (fun c8 => ?_)
  · skip
    replace c8 := zB_n0.mp c8
    obtain ⟨v1, rfl, lv1, hv1⟩ := inB_nI (by omega) (by omega) c8
    refine r_aload_n (pc := 15) h 0 rfl rfl dX6_restore_15 ?_
    refine g_6_isKept (pc := 16) h mw_4_1 dX6_restore_16 ?_
    refine r_iload_n (pc := 19) h 1 rfl rfl dX6_restore_19 ?_
    refine r_zald (pc := 20) h a_mi v1 rfl (by omega) dX6_restore_20 ?_
    refine r_topi (b := zB (sv v1)) ((mB_oj (by decide) _).trans (hi.2.2.2 v1 (by omega)).1) ?_
    refine r_if_ne (pc := 21) (tgt := 28) h (by decide) dX6_restore_21 (fun c21 => ?_) (fun c21 => ?_)
    · skip
      replace c21 := zB_n0.mp c21
      have hs9 := (hi.2.2.2 v1 (by omega)).2 c21
      refine r_iconst (pc := 28) (v := nI 0) h (by decide) dX6_restore_28 ?_
      refine r_cVi (pc := 29) (As := [.int (nI 0)]) (st := []) h lk_RX6_95 (c_refused x.2.1 G σ 136 hc (σ.1 136) (σ.1 141) (σ.1 142) (σ.1 134) 0 (by omega)) rc_6 (by decide) rfl rfl (by first | decide | exact Nat.le_of_ble_eq_true rfl) (by decide) dX6_restore_29 (fun r4 s5 q6 => ?_)
      rw [q6.1, q6.2]
      refine r_topi (b := nI 0) (by decide) ?_
      refine r_if_eq (pc := 32) (tgt := 37) h (by decide) dX6_restore_32 (fun _ => ?_) (fun c32 => absurd c32 (by decide))
      refine r_aload_n (pc := 37) h 0 rfl rfl dX6_restore_37 ?_
      refine g_6_kept (pc := 38) h mw_4_0 dX6_restore_38 ?_
      refine r_bipush (pc := 41) (v := nI 59) h (by decide) dX6_restore_41 ?_
      refine r_iload_n (pc := 43) h 1 rfl rfl dX6_restore_43 ?_
      refine r_imul (pc := 44) (v := nI (59 * v1)) h (pk_mul _ _) dX6_restore_44 ?_
      refine r_aload_n (pc := 45) h 0 rfl rfl dX6_restore_45 ?_
      refine g_6_now (pc := 46) h mw_3_21 dX6_restore_46 ?_
      refine r_iconst (pc := 49) (v := nI 0) h (by decide) dX6_restore_49 ?_
      refine r_cSv (pc := 50) (As := [.ref (G.2.1 + 139), .int (nI (59 * v1)), .ref (G.2.1 + 136), .int (nI 0)]) (st := []) h lk_RX6_176 (c_copyM x.2.1 G (mB σ 136 (σ.1 136) (σ.1 141) (σ.1 142) (upd (σ.1 134) 0 (nI 0))) 139 136 118 59 (59 * v1) 0 a_mk a_mn (by decide) (by omega) (by omega)) (by decide) rfl rfl (by first | decide | exact Nat.le_of_ble_eq_true rfl) (by decide) dX6_restore_50 (fun s8 q9 => ?_)
      rw [q9, mB_o (q := 139) (by decide), mB_sF, mB_oBc]
      have hM2 := relM_cp (g := σ.1 136) hs9.1 hs9.2
      refine r_aload_n (pc := 53) h 0 rfl rfl dX6_restore_53 ?_
      refine r_iconst (pc := 54) (v := nI 0) h (by decide) dX6_restore_54 ?_
      refine p_6_acts (pc := 55) h mw_20_6 dX6_restore_55 ?_
      refine V.sg (mB_sm hc _ _) ?_
      refine r_aload_n (pc := 58) h 0 rfl rfl dX6_restore_58 ?_
      refine g_6_now (pc := 59) h mw_3_21 dX6_restore_59 ?_
      refine r_iconst (pc := 62) (v := nI 0) h (by decide) dX6_restore_62 ?_
      refine r_iald (pc := 63) h (a_rc hc) 0 rfl (by omega) dX6_restore_63 ?_
      refine r_topi (b := (cpI (σ.1 139) (σ.1 136) (59 * v1) 0 59) 0) (mB_s _) ?_
      refine r_topi (b := nI (sl v1).1) hM2.1 ?_
      exact hret _ _ (pm_ok (seq_0 (cB_t c8) (by rw [toN_nI (show v1 < 2 ^ 31 by omega)]; exact cB_t c21)) ((mB_m hc 0).trans ((pk_un (by decide)).trans pk_us)) (mB_out hc) (by rw [toN_nI (show v1 < 2 ^ 31 by omega)]) (by rw [toN_nI (show v1 < 2 ^ 31 by omega)]; exact inv_g ht ((pk_un (by decide)).trans ((pk_un (by decide)).trans hm2)) hM2 hs9.2 (Nat.zero_le _) pk_us (fun k hk => absurd hk (Nat.not_lt_zero k)) hi.2.2.2)) 64 _ dX6_restore_64
    · skip
      replace c21 := zB_0.mp c21
      refine r_iconst (pc := 24) (v := nI 2) h (by decide) dX6_restore_24 ?_
      refine r_goto (pc := 25) (tgt := 29) h (by decide) dX6_restore_25 ?_
      refine r_cVi (pc := 29) (As := [.int (nI 2)]) (st := []) h lk_RX6_95 (c_refused x.2.1 G σ 136 hc (σ.1 136) (σ.1 141) (σ.1 142) (σ.1 134) 2 (by omega)) rc_6 (by decide) rfl rfl (by first | decide | exact Nat.le_of_ble_eq_true rfl) (by decide) dX6_restore_29 (fun r10 s11 q12 => ?_)
      rw [q12.1, q12.2]
      refine r_topi (b := nI 1) (by decide) ?_
      refine r_if_eq (pc := 32) (tgt := 37) h (by decide) dX6_restore_32 (fun c32 => absurd c32 (by decide)) (fun _ => ?_)
      refine r_iconst (pc := 35) (v := nI 0) h (by decide) dX6_restore_35 ?_
      exact hret _ _ (pm_no (c0 := 3) (seq_2 (cB_t c8) (by rw [toN_nI (show v1 < 2 ^ 31 by omega)]; exact cB_f c21)) (by decide) rfl ((mB_m hc 0).trans pk_us) (mB_out hc) (inv_0 hi hM hA ((pk_un (by decide)).trans rfl) ((pk_un (by decide)).trans rfl))) 36 _ dX6_restore_36
  · skip
    replace c8 := zB_0.mp c8
    refine r_iconst (pc := 11) (v := nI 1) h (by decide) dX6_restore_11 ?_
    refine r_goto (pc := 12) (tgt := 29) h (by decide) dX6_restore_12 ?_
    refine r_cVi (pc := 29) (As := [.int (nI 1)]) (st := []) h lk_RX6_95 (c_refused x.2.1 G σ 136 hc (σ.1 136) (σ.1 141) (σ.1 142) (σ.1 134) 1 (by omega)) rc_6 (by decide) rfl rfl (by first | decide | exact Nat.le_of_ble_eq_true rfl) (by decide) dX6_restore_29 (fun r13 s14 q15 => ?_)
    rw [q15.1, q15.2]
    refine r_topi (b := nI 1) (by decide) ?_
    refine r_if_eq (pc := 32) (tgt := 37) h (by decide) dX6_restore_32 (fun c32 => absurd c32 (by decide)) (fun _ => ?_)
    refine r_iconst (pc := 35) (v := nI 0) h (by decide) dX6_restore_35 ?_
    exact hret _ _ (pm_no (c0 := 1) (seq_1 (cB_f c8) (by decide)) (by decide) rfl ((mB_m hc 0).trans pk_us) (mB_out hc) (inv_0 hi hM hA ((pk_un (by decide)).trans rfl) ((pk_un (by decide)).trans rfl))) 36 _ dX6_restore_36

set_option maxRecDepth 100000 in
set_option maxHeartbeats 800000 in
theorem c_m_undo (l : Launch) (G : Gl) (σ : Sg) (n : Nat) (tx : Nat → Nat) (A : Ab) (m : Nat) (H : Nat → Ab) (sv : Nat → Bool) (sl : Nat → Ab) (hi : InvM n tx A m H sv sl σ) : Ci l yX6_undo cX6_undo 1 .int ({ frames := 1, cells := 0, slots := 0, locals := 24 } : Room) G [.ref (G.2.1 + 134)] σ (fun r σ2 => Pm [3] (cB (decide (m ≠ 0)) 3) σ σ2 (InvM n tx A m H sv sl) (InvM n tx (H (m - 1)) (m - 1) H sv sl) r (nI (m - 1))) := by
  refine Ci_of (own := RX6) rfl (by decide +kernel) (lo := [(0, .ref (G.2.1 + 134))]) rfl (Nat.le_of_ble_eq_true rfl) (fun r s hp => rfl) ?_
  intro x Q hxl h hret
  subst hxl
  have hc := rc136
  have hM := hi.2.1.1
  have hA := hi.2.1.2
  have h12 := hA.1
  have h4 := hA.2.1
  have hm2 := hi.1.2
  have hm6 := hi.2.2.1.2.1
  have hk14 := hi.2.2.1.1
  have hd := hi.2.2.1.2.2
  have ht := hi.1.1
  have hn9 := ht.1
  refine V.sg (show σ = mB σ 136 (σ.1 136) (σ.1 141) (σ.1 142) (σ.1 134) from (mB_self hc).symm) ?_
  refine r_aload_n (pc := 0) h 0 rfl rfl dX6_undo_0 ?_
  refine r_aload_n (pc := 1) h 0 rfl rfl dX6_undo_1 ?_
  refine g_6_acts (pc := 2) h mw_20_6 dX6_undo_2 ?_
  refine r_topi (b := (σ.1 134) 6) (mB_m hc _) ?_
  refine r_topi (b := nI m) hm6 ?_
  refine r_if_ne (pc := 5) (tgt := 12) h (by decide) dX6_undo_5 (fun c5 => ?_) (fun c5 => ?_)
  · skip
    rw [zI0, nI_eq (by omega) (by omega)] at c5
    have hm1 : 1 ≤ m := by omega
    have hd1 := hd (m - 1) (by omega)
    refine r_iconst (pc := 12) (v := nI 0) h (by decide) dX6_undo_12 ?_
    refine r_cVi (pc := 13) (As := [.int (nI 0)]) (st := []) h lk_RX6_95 (c_refused x.2.1 G σ 136 hc (σ.1 136) (σ.1 141) (σ.1 142) (σ.1 134) 0 (by omega)) rc_6 (by decide) rfl rfl (by first | decide | exact Nat.le_of_ble_eq_true rfl) (by decide) dX6_undo_13 (fun r1 s2 q3 => ?_)
    rw [q3.1, q3.2]
    refine r_topi (b := nI 0) (by decide) ?_
    refine r_if_eq (pc := 16) (tgt := 21) h (by decide) dX6_undo_16 (fun _ => ?_) (fun c16 => absurd c16 (by decide))
    refine r_aload_n (pc := 21) h 0 rfl rfl dX6_undo_21 ?_
    refine r_dup (pc := 22) h rfl dX6_undo_22 ?_
    refine g_6_acts (pc := 23) h mw_20_6 dX6_undo_23 ?_
    refine r_topi (b := (upd (σ.1 134) 0 (nI 0)) 6) (mB_m hc _) ?_
    refine r_topi (b := nI m) ((pk_un (by decide)).trans hm6) ?_
    refine r_iconst (pc := 26) (v := nI 1) h (by decide) dX6_undo_26 ?_
    refine r_isub (pc := 27) (v := nI (m - 1)) h (pk_sub (by omega)) dX6_undo_27 ?_
    refine p_6_acts (pc := 28) h mw_20_6 dX6_undo_28 ?_
    refine V.sg (mB_sm hc _ _) ?_
    refine r_aload_n (pc := 31) h 0 rfl rfl dX6_undo_31 ?_
    refine g_6_diary (pc := 32) h mw_3_23 dX6_undo_32 ?_
    refine r_bipush (pc := 35) (v := nI 59) h (by decide) dX6_undo_35 ?_
    refine r_aload_n (pc := 37) h 0 rfl rfl dX6_undo_37 ?_
    refine g_6_acts (pc := 38) h mw_20_6 dX6_undo_38 ?_
    refine r_topi (b := (upd (upd (σ.1 134) 0 (nI 0)) 6 (nI (m - 1))) 6) (mB_m hc _) ?_
    refine r_topi (b := nI (m - 1)) pk_us ?_
    refine r_imul (pc := 41) (v := nI (59 * (m - 1))) h (pk_mul _ _) dX6_undo_41 ?_
    refine r_aload_n (pc := 42) h 0 rfl rfl dX6_undo_42 ?_
    refine g_6_now (pc := 43) h mw_3_21 dX6_undo_43 ?_
    refine r_iconst (pc := 46) (v := nI 0) h (by decide) dX6_undo_46 ?_
    refine r_cSv (pc := 47) (As := [.ref (G.2.1 + 138), .int (nI (59 * (m - 1))), .ref (G.2.1 + 136), .int (nI 0)]) (st := []) h lk_RX6_176 (c_copyM x.2.1 G (mB σ 136 (σ.1 136) (σ.1 141) (σ.1 142) (upd (upd (σ.1 134) 0 (nI 0)) 6 (nI (m - 1)))) 138 136 826 59 (59 * (m - 1)) 0 a_md a_mn (by decide) (by omega) (by omega)) (by decide) rfl rfl (by first | decide | exact Nat.le_of_ble_eq_true rfl) (by decide) dX6_undo_47 (fun s5 q6 => ?_)
    rw [q6, mB_o (q := 138) (by decide), mB_sF, mB_oBc]
    refine r_aload_n (pc := 50) h 0 rfl rfl dX6_undo_50 ?_
    refine g_6_acts (pc := 51) h mw_20_6 dX6_undo_51 ?_
    refine r_topi (b := (upd (upd (σ.1 134) 0 (nI 0)) 6 (nI (m - 1))) 6) (mB_m hc _) ?_
    refine r_topi (b := nI (m - 1)) pk_us ?_
    exact hret _ _ (pm_ok (cB_t (decide_eq_true (by omega))) ((mB_m hc 0).trans ((pk_un (by decide)).trans pk_us)) (mB_out hc) rfl (inv_g ht ((pk_un (by decide)).trans ((pk_un (by decide)).trans hm2)) (relM_cp hd1.1 hd1.2) hd1.2 (by omega) pk_us (dim_le hd (by omega)) hi.2.2.2)) 54 _ dX6_undo_54
  · skip
    rw [zI0, nI_eq (by omega) (by omega)] at c5
    refine r_iconst (pc := 8) (v := nI 1) h (by decide) dX6_undo_8 ?_
    refine r_goto (pc := 9) (tgt := 13) h (by decide) dX6_undo_9 ?_
    refine r_cVi (pc := 13) (As := [.int (nI 1)]) (st := []) h lk_RX6_95 (c_refused x.2.1 G σ 136 hc (σ.1 136) (σ.1 141) (σ.1 142) (σ.1 134) 1 (by omega)) rc_6 (by decide) rfl rfl (by first | decide | exact Nat.le_of_ble_eq_true rfl) (by decide) dX6_undo_13 (fun r7 s8 q9 => ?_)
    rw [q9.1, q9.2]
    refine r_topi (b := nI 1) (by decide) ?_
    refine r_if_eq (pc := 16) (tgt := 21) h (by decide) dX6_undo_16 (fun c16 => absurd c16 (by decide)) (fun _ => ?_)
    refine r_iconst (pc := 19) (v := nI 0) h (by decide) dX6_undo_19 ?_
    exact hret _ _ (pm_no (c0 := 3) (cB_f (decide_eq_false (fun q => q c5))) (by decide) rfl ((mB_m hc 0).trans pk_us) (mB_out hc) (inv_0 hi hM hA ((pk_un (by decide)).trans rfl) ((pk_un (by decide)).trans rfl))) 20 _ dX6_undo_20

set_option maxRecDepth 100000 in
set_option maxHeartbeats 800000 in
theorem c_turnList0 (l : Launch) (G : Gl) (σ : Sg) (c : Nat) (hc : Rc c) (s hh xx m : Nat → Int32) (A : Ab) (hA : okA A) (hM : RelM A s) (q : Nat) (hq : q < 2 ^ 31) : Cv l yX6_turnList cX6_turnList 5 ({ frames := 1, cells := 0, slots := 0, locals := 25 } : Room) G [.ref (G.2.1 + c), .int (nI 0), .int (nI q)] (mB σ c s hh xx m) (fun σ2 => ∃ s2, σ2 = mB σ c s2 hh xx m ∧ RelM (att A 115 (nI (q % 100)) (nI (1 + q / 128 % 20)) (nI 0)).2 s2) := by
  refine Cv_of (own := RX6) rfl (by decide +kernel) (lo := [(0, .ref (G.2.1 + c)), (1, .int (nI 0)), (2, .int (nI q))]) rfl (Nat.le_of_ble_eq_true rfl) ?_
  intro x Q hxl h hret
  subst hxl
  have h12 := hA.1
  have h4 := hA.2.1
  refine r_iload_n (pc := 0) h 2 rfl rfl dX6_turnList_0 ?_
  refine r_bipush (pc := 1) (v := nI 12) h (by decide) dX6_turnList_1 ?_
  refine r_irem (pc := 3) (v := nI (q % 12)) h (by decide) (pk_rem (by omega) (by omega) (by omega)) dX6_turnList_3 ?_
  refine r_istore_n (pc := 4) (lo2 := [(3, .int (nI (q % 12))), (0, .ref (G.2.1 + c)), (1, .int (nI 0)), (2, .int (nI q))]) h rfl (by decide) rfl dX6_turnList_4 ?_
  refine r_iload_n (pc := 5) h 3 rfl rfl dX6_turnList_5 ?_
  refine r_bipush (pc := 6) (v := nI 16) h (by decide) dX6_turnList_6 ?_
  refine r_idiv (pc := 8) (v := nI (q / 16)) h (by decide) (pk_div (by omega) (by omega) (by omega)) dX6_turnList_8 ?_
  refine r_bipush (pc := 9) (v := nI 12) h (by decide) dX6_turnList_9 ?_
  refine r_irem (pc := 11) (v := nI ((q / 16) % 12)) h (by decide) (pk_rem (by omega) (by omega) (by omega)) dX6_turnList_11 ?_
  refine r_istore (pc := 12) (lo2 := [(4, .int (nI ((q / 16) % 12))), (3, .int (nI (q % 12))), (0, .ref (G.2.1 + c)), (1, .int (nI 0)), (2, .int (nI q))]) h (by decide) rfl dX6_turnList_12 ?_
  refine r_aload_n (pc := 14) h 2 rfl rfl dX6_turnList_14 ?_
  refine r_cSi (pc := 15) (As := [.ref (G.2.1 + c)]) (st := []) h lk_RX6_111 (c_hasRoomM x.2.1 G (mB σ c s hh xx m) c hc A (by rw [mB_sF]; exact hM) (by omega)) (by decide) rfl rfl (by first | decide | exact Nat.le_of_ble_eq_true rfl) (by decide) dX6_turnList_15 (fun r1 s2 q3 => ?_)
  rw [q3.1, q3.2]
  refine r_if_ne (pc := 18) (tgt := 22) h (by decide) dX6_turnList_18 (fun c18 => ?_) (fun c18 => ?_)
  · skip
    replace c18 := zB_n0.mp c18
    refine r_iload_n (pc := 22) h 3 rfl rfl dX6_turnList_22 ?_
    refine r_iconst (pc := 23) (v := nI 2) h (by decide) dX6_turnList_23 ?_
    refine r_icmp_ge (pc := 24) (tgt := 51) h (by decide) dX6_turnList_24 (fun c24 => absurd c24 (by decide)) (fun _ => ?_)
    refine r_aload_n (pc := 27) h 2 rfl rfl dX6_turnList_27 ?_
    refine r_iconst (pc := 28) (v := nI 0) h (by decide) dX6_turnList_28 ?_
    refine r_iload_n (pc := 29) h 4 rfl rfl dX6_turnList_29 ?_
    refine r_bipush (pc := 30) (v := nI 100) h (by decide) dX6_turnList_30 ?_
    refine r_irem (pc := 32) (v := nI (q % 100)) h (by decide) (pk_rem (by omega) (by omega) (by omega)) dX6_turnList_32 ?_
    refine r_iconst (pc := 33) (v := nI 1) h (by decide) dX6_turnList_33 ?_
    refine r_iload_n (pc := 34) h 4 rfl rfl dX6_turnList_34 ?_
    refine r_sipush (pc := 35) (v := nI 128) h (by decide) dX6_turnList_35 ?_
    refine r_idiv (pc := 38) (v := nI (q / 128)) h (by decide) (pk_div (by omega) (by omega) (by omega)) dX6_turnList_38 ?_
    refine r_bipush (pc := 39) (v := nI 20) h (by decide) dX6_turnList_39 ?_
    refine r_irem (pc := 41) (v := nI ((q / 128) % 20)) h (by decide) (pk_rem (by omega) (by omega) (by omega)) dX6_turnList_41 ?_
    refine r_iadd (pc := 42) (v := nI (1 + ((q / 128) % 20))) h (nI_add _ _) dX6_turnList_42 ?_
    refine r_iconst (pc := 43) (v := nI 0) h (by decide) dX6_turnList_43 ?_
    refine r_cSi (pc := 44) (As := [.ref (G.2.1 + c), .int (nI 0), .int (nI (q % 100)), .int (nI (1 + ((q / 128) % 20))), .int (nI 0)]) (st := []) h lk_RX6_115 (c_makeM x.2.1 G σ c hc s hh xx m A hA hM (0, (q % 100), (1 + ((q / 128) % 20)), 0) (nI (1 + ((q / 128) % 20))) (nI 0) (of_decide_eq_true c18) (fun _ _ => rfl) (fun q => by cases q)) (by decide) rfl rfl (by first | decide | exact Nat.le_of_ble_eq_true rfl) (by decide) dX6_turnList_44 (fun r4 s5 q6 => ?_)
    obtain ⟨e9, s2, es, hs2⟩ := q6
    rw [e9]
    subst es
    refine r_pop (pc := 47) h rfl dX6_turnList_47 ?_
    refine r_goto (pc := 48) (tgt := 141) h (by decide) dX6_turnList_48 ?_
    exact hret _ (⟨_, rfl, relM_yes (fst3_y rfl (and_t (inB_of (by omega) (by omega) (by omega)) (inB_of (by omega) (by omega) (by omega))) c18) (by show RelM (mkA A (0, toN (nI (q % 100)), toN (nI (1 + q / 128 % 20)), 0)) _; rw [toN_nI (show q % 100 < 2 ^ 31 by omega), toN_nI (show 1 + q / 128 % 20 < 2 ^ 31 by omega)]; exact hs2)⟩) 141 _ dX6_turnList_141
  · skip
    replace c18 := zB_0.mp c18
    exact hret _ (⟨_, rfl, relM_no (fst3_n3 c18) hM⟩) 21 _ dX6_turnList_21

set_option maxRecDepth 100000 in
set_option maxHeartbeats 800000 in
theorem c_turnList1 (l : Launch) (G : Gl) (σ : Sg) (c : Nat) (hc : Rc c) (s hh xx m : Nat → Int32) (A : Ab) (hA : okA A) (hM : RelM A s) (q : Nat) (hq : q < 2 ^ 31) : Cv l yX6_turnList cX6_turnList 5 ({ frames := 1, cells := 0, slots := 0, locals := 25 } : Room) G [.ref (G.2.1 + c), .int (nI 1), .int (nI q)] (mB σ c s hh xx m) (fun σ2 => ∃ s2, σ2 = mB σ c s2 hh xx m ∧ RelM (att A 115 (nI (q % 100)) (nI (1 + q / 128 % 20)) (nI 0)).2 s2) := by
  refine Cv_of (own := RX6) rfl (by decide +kernel) (lo := [(0, .ref (G.2.1 + c)), (1, .int (nI 1)), (2, .int (nI q))]) rfl (Nat.le_of_ble_eq_true rfl) ?_
  intro x Q hxl h hret
  subst hxl
  have h12 := hA.1
  have h4 := hA.2.1
  refine r_iload_n (pc := 0) h 2 rfl rfl dX6_turnList_0 ?_
  refine r_bipush (pc := 1) (v := nI 12) h (by decide) dX6_turnList_1 ?_
  refine r_irem (pc := 3) (v := nI (q % 12)) h (by decide) (pk_rem (by omega) (by omega) (by omega)) dX6_turnList_3 ?_
  refine r_istore_n (pc := 4) (lo2 := [(3, .int (nI (q % 12))), (0, .ref (G.2.1 + c)), (1, .int (nI 1)), (2, .int (nI q))]) h rfl (by decide) rfl dX6_turnList_4 ?_
  refine r_iload_n (pc := 5) h 3 rfl rfl dX6_turnList_5 ?_
  refine r_bipush (pc := 6) (v := nI 16) h (by decide) dX6_turnList_6 ?_
  refine r_idiv (pc := 8) (v := nI (q / 16)) h (by decide) (pk_div (by omega) (by omega) (by omega)) dX6_turnList_8 ?_
  refine r_bipush (pc := 9) (v := nI 12) h (by decide) dX6_turnList_9 ?_
  refine r_irem (pc := 11) (v := nI ((q / 16) % 12)) h (by decide) (pk_rem (by omega) (by omega) (by omega)) dX6_turnList_11 ?_
  refine r_istore (pc := 12) (lo2 := [(4, .int (nI ((q / 16) % 12))), (3, .int (nI (q % 12))), (0, .ref (G.2.1 + c)), (1, .int (nI 1)), (2, .int (nI q))]) h (by decide) rfl dX6_turnList_12 ?_
  refine r_aload_n (pc := 14) h 2 rfl rfl dX6_turnList_14 ?_
  refine r_cSi (pc := 15) (As := [.ref (G.2.1 + c)]) (st := []) h lk_RX6_111 (c_hasRoomM x.2.1 G (mB σ c s hh xx m) c hc A (by rw [mB_sF]; exact hM) (by omega)) (by decide) rfl rfl (by first | decide | exact Nat.le_of_ble_eq_true rfl) (by decide) dX6_turnList_15 (fun r1 s2 q3 => ?_)
  rw [q3.1, q3.2]
  refine r_if_ne (pc := 18) (tgt := 22) h (by decide) dX6_turnList_18 (fun c18 => ?_) (fun c18 => ?_)
  · skip
    replace c18 := zB_n0.mp c18
    refine r_iload_n (pc := 22) h 3 rfl rfl dX6_turnList_22 ?_
    refine r_iconst (pc := 23) (v := nI 2) h (by decide) dX6_turnList_23 ?_
    refine r_icmp_ge (pc := 24) (tgt := 51) h (by decide) dX6_turnList_24 (fun c24 => absurd c24 (by decide)) (fun _ => ?_)
    refine r_aload_n (pc := 27) h 2 rfl rfl dX6_turnList_27 ?_
    refine r_iconst (pc := 28) (v := nI 0) h (by decide) dX6_turnList_28 ?_
    refine r_iload_n (pc := 29) h 4 rfl rfl dX6_turnList_29 ?_
    refine r_bipush (pc := 30) (v := nI 100) h (by decide) dX6_turnList_30 ?_
    refine r_irem (pc := 32) (v := nI (q % 100)) h (by decide) (pk_rem (by omega) (by omega) (by omega)) dX6_turnList_32 ?_
    refine r_iconst (pc := 33) (v := nI 1) h (by decide) dX6_turnList_33 ?_
    refine r_iload_n (pc := 34) h 4 rfl rfl dX6_turnList_34 ?_
    refine r_sipush (pc := 35) (v := nI 128) h (by decide) dX6_turnList_35 ?_
    refine r_idiv (pc := 38) (v := nI (q / 128)) h (by decide) (pk_div (by omega) (by omega) (by omega)) dX6_turnList_38 ?_
    refine r_bipush (pc := 39) (v := nI 20) h (by decide) dX6_turnList_39 ?_
    refine r_irem (pc := 41) (v := nI ((q / 128) % 20)) h (by decide) (pk_rem (by omega) (by omega) (by omega)) dX6_turnList_41 ?_
    refine r_iadd (pc := 42) (v := nI (1 + ((q / 128) % 20))) h (nI_add _ _) dX6_turnList_42 ?_
    refine r_iconst (pc := 43) (v := nI 0) h (by decide) dX6_turnList_43 ?_
    refine r_cSi (pc := 44) (As := [.ref (G.2.1 + c), .int (nI 0), .int (nI (q % 100)), .int (nI (1 + ((q / 128) % 20))), .int (nI 0)]) (st := []) h lk_RX6_115 (c_makeM x.2.1 G σ c hc s hh xx m A hA hM (0, (q % 100), (1 + ((q / 128) % 20)), 0) (nI (1 + ((q / 128) % 20))) (nI 0) (of_decide_eq_true c18) (fun _ _ => rfl) (fun q => by cases q)) (by decide) rfl rfl (by first | decide | exact Nat.le_of_ble_eq_true rfl) (by decide) dX6_turnList_44 (fun r4 s5 q6 => ?_)
    obtain ⟨e9, s2, es, hs2⟩ := q6
    rw [e9]
    subst es
    refine r_pop (pc := 47) h rfl dX6_turnList_47 ?_
    refine r_goto (pc := 48) (tgt := 141) h (by decide) dX6_turnList_48 ?_
    exact hret _ (⟨_, rfl, relM_yes (fst3_y rfl (and_t (inB_of (by omega) (by omega) (by omega)) (inB_of (by omega) (by omega) (by omega))) c18) (by show RelM (mkA A (0, toN (nI (q % 100)), toN (nI (1 + q / 128 % 20)), 0)) _; rw [toN_nI (show q % 100 < 2 ^ 31 by omega), toN_nI (show 1 + q / 128 % 20 < 2 ^ 31 by omega)]; exact hs2)⟩) 141 _ dX6_turnList_141
  · skip
    replace c18 := zB_0.mp c18
    exact hret _ (⟨_, rfl, relM_no (fst3_n3 c18) hM⟩) 21 _ dX6_turnList_21

set_option maxRecDepth 100000 in
set_option maxHeartbeats 800000 in
theorem c_turnList2 (l : Launch) (G : Gl) (σ : Sg) (c : Nat) (hc : Rc c) (s hh xx m : Nat → Int32) (A : Ab) (hA : okA A) (hM : RelM A s) (q : Nat) (hq : q < 2 ^ 31) : Cv l yX6_turnList cX6_turnList 5 ({ frames := 2, cells := 0, slots := 0, locals := 46 } : Room) G [.ref (G.2.1 + c), .int (nI 2), .int (nI q)] (mB σ c s hh xx m) (fun σ2 => ∃ s2, σ2 = mB σ c s2 hh xx m ∧ RelM (att A 120 (nI (q % 12)) (nI (1 + q / 16 % 3)) (nI 0)).2 s2) := by
  refine Cv_of (own := RX6) rfl (by decide +kernel) (lo := [(0, .ref (G.2.1 + c)), (1, .int (nI 2)), (2, .int (nI q))]) rfl (Nat.le_of_ble_eq_true rfl) ?_
  intro x Q hxl h hret
  subst hxl
  have h12 := hA.1
  have h4 := hA.2.1
  refine r_iload_n (pc := 0) h 2 rfl rfl dX6_turnList_0 ?_
  refine r_bipush (pc := 1) (v := nI 12) h (by decide) dX6_turnList_1 ?_
  refine r_irem (pc := 3) (v := nI (q % 12)) h (by decide) (pk_rem (by omega) (by omega) (by omega)) dX6_turnList_3 ?_
  refine r_istore_n (pc := 4) (lo2 := [(3, .int (nI (q % 12))), (0, .ref (G.2.1 + c)), (1, .int (nI 2)), (2, .int (nI q))]) h rfl (by decide) rfl dX6_turnList_4 ?_
  refine r_iload_n (pc := 5) h 3 rfl rfl dX6_turnList_5 ?_
  refine r_bipush (pc := 6) (v := nI 16) h (by decide) dX6_turnList_6 ?_
  refine r_idiv (pc := 8) (v := nI (q / 16)) h (by decide) (pk_div (by omega) (by omega) (by omega)) dX6_turnList_8 ?_
  refine r_bipush (pc := 9) (v := nI 12) h (by decide) dX6_turnList_9 ?_
  refine r_irem (pc := 11) (v := nI ((q / 16) % 12)) h (by decide) (pk_rem (by omega) (by omega) (by omega)) dX6_turnList_11 ?_
  refine r_istore (pc := 12) (lo2 := [(4, .int (nI ((q / 16) % 12))), (3, .int (nI (q % 12))), (0, .ref (G.2.1 + c)), (1, .int (nI 2)), (2, .int (nI q))]) h (by decide) rfl dX6_turnList_12 ?_
  refine r_aload_n (pc := 14) h 2 rfl rfl dX6_turnList_14 ?_
  refine r_cSi (pc := 15) (As := [.ref (G.2.1 + c)]) (st := []) h lk_RX6_111 (c_hasRoomM x.2.1 G (mB σ c s hh xx m) c hc A (by rw [mB_sF]; exact hM) (by omega)) (by decide) rfl rfl (by first | decide | exact Nat.le_of_ble_eq_true rfl) (by decide) dX6_turnList_15 (fun r1 s2 q3 => ?_)
  rw [q3.1, q3.2]
  refine r_if_ne (pc := 18) (tgt := 22) h (by decide) dX6_turnList_18 (fun c18 => ?_) (fun c18 => ?_)
  · skip
    replace c18 := zB_n0.mp c18
    refine r_iload_n (pc := 22) h 3 rfl rfl dX6_turnList_22 ?_
    refine r_iconst (pc := 23) (v := nI 2) h (by decide) dX6_turnList_23 ?_
    refine r_icmp_ge (pc := 24) (tgt := 51) h (by decide) dX6_turnList_24 (fun _ => ?_) (fun c24 => absurd c24 (by decide))
    refine r_aload_n (pc := 51) h 2 rfl rfl dX6_turnList_51 ?_
    refine r_iload_n (pc := 52) h 1 rfl rfl dX6_turnList_52 ?_
    refine r_cSi (pc := 53) (As := [.ref (G.2.1 + c), .int (nI (q % 12))]) (st := []) h lk_RX6_123 (c_isListM x.2.1 G (mB σ c s hh xx m) c hc A (by rw [mB_sF]; exact hM) (by omega) (nI (q % 12))) (by decide) rfl rfl (by first | decide | exact Nat.le_of_ble_eq_true rfl) (by decide) dX6_turnList_53 (fun r4 s5 q6 => ?_)
    rw [q6.1, q6.2]
    refine r_if_eq (pc := 56) (tgt := 141) h (by decide) dX6_turnList_56 (fun c56 => ?_) (fun c56 => ?_)
    · skip
      replace c56 := zB_0.mp c56
      exact hret _ (⟨_, rfl, relM_no (fst3_n1 c56) hM⟩) 141 _ dX6_turnList_141
    · skip
      replace c56 := zB_n0.mp c56
      refine r_iload_n (pc := 59) h 3 rfl rfl dX6_turnList_59 ?_
      refine r_iconst (pc := 60) (v := nI 2) h (by decide) dX6_turnList_60 ?_
      refine r_icmp_ne (pc := 61) (tgt := 83) h (by decide) dX6_turnList_61 (fun c61 => absurd c61 (by decide)) (fun _ => ?_)
      refine r_aload_n (pc := 64) h 2 rfl rfl dX6_turnList_64 ?_
      refine r_iconst (pc := 65) (v := nI 1) h (by decide) dX6_turnList_65 ?_
      refine r_iload_n (pc := 66) h 1 rfl rfl dX6_turnList_66 ?_
      refine r_iconst (pc := 67) (v := nI 1) h (by decide) dX6_turnList_67 ?_
      refine r_iload_n (pc := 68) h 4 rfl rfl dX6_turnList_68 ?_
      refine r_bipush (pc := 69) (v := nI 16) h (by decide) dX6_turnList_69 ?_
      refine r_idiv (pc := 71) (v := nI (q / 16)) h (by decide) (pk_div (by omega) (by omega) (by omega)) dX6_turnList_71 ?_
      refine r_iconst (pc := 72) (v := nI 3) h (by decide) dX6_turnList_72 ?_
      refine r_irem (pc := 73) (v := nI ((q / 16) % 3)) h (by decide) (pk_rem (by omega) (by omega) (by omega)) dX6_turnList_73 ?_
      refine r_iadd (pc := 74) (v := nI (1 + ((q / 16) % 3))) h (nI_add _ _) dX6_turnList_74 ?_
      refine r_iconst (pc := 75) (v := nI 0) h (by decide) dX6_turnList_75 ?_
      refine r_cSi (pc := 76) (As := [.ref (G.2.1 + c), .int (nI 1), .int (nI (q % 12)), .int (nI (1 + ((q / 16) % 3))), .int (nI 0)]) (st := []) h lk_RX6_115 (c_makeM x.2.1 G σ c hc s hh xx m A hA hM (1, (q % 12), (1 + ((q / 16) % 3)), 0) (nI (1 + ((q / 16) % 3))) (nI 0) (of_decide_eq_true c18) (fun _ _ => rfl) (fun _ => rfl)) (by decide) rfl rfl (by first | decide | exact Nat.le_of_ble_eq_true rfl) (by decide) dX6_turnList_76 (fun r7 s8 q9 => ?_)
      obtain ⟨e9, s2, es, hs2⟩ := q9
      rw [e9]
      subst es
      refine r_pop (pc := 79) h rfl dX6_turnList_79 ?_
      refine r_goto (pc := 80) (tgt := 141) h (by decide) dX6_turnList_80 ?_
      exact hret _ (⟨_, rfl, relM_yes (fst3_y c56 (and_t (inB_of (by omega) (by omega) (by omega)) (inB_of (by omega) (by omega) (by omega))) c18) (by show RelM (mkA A (1, toN (nI (q % 12)), toN (nI (1 + q / 16 % 3)), toN (nI (0)))) _; rw [toN_nI (show q % 12 < 2 ^ 31 by omega), toN_nI (show 1 + q / 16 % 3 < 2 ^ 31 by omega), toN_nI (show 0 < 2 ^ 31 by omega)]; exact hs2)⟩) 141 _ dX6_turnList_141
  · skip
    replace c18 := zB_0.mp c18
    exact hret _ (⟨_, rfl, relM_no (fst3_n3 c18) hM⟩) 21 _ dX6_turnList_21

set_option maxRecDepth 100000 in
set_option maxHeartbeats 800000 in
theorem c_turnList3 (l : Launch) (G : Gl) (σ : Sg) (c : Nat) (hc : Rc c) (s hh xx m : Nat → Int32) (A : Ab) (hA : okA A) (hM : RelM A s) (q : Nat) (hq : q < 2 ^ 31) : Cv l yX6_turnList cX6_turnList 5 ({ frames := 2, cells := 0, slots := 0, locals := 46 } : Room) G [.ref (G.2.1 + c), .int (nI 3), .int (nI q)] (mB σ c s hh xx m) (fun σ2 => ∃ s2, σ2 = mB σ c s2 hh xx m ∧ RelM (att A 106 (nI (q % 12)) (nI (q / 16 % 12)) (nI 0)).2 s2) := by
  refine Cv_of (own := RX6) rfl (by decide +kernel) (lo := [(0, .ref (G.2.1 + c)), (1, .int (nI 3)), (2, .int (nI q))]) rfl (Nat.le_of_ble_eq_true rfl) ?_
  intro x Q hxl h hret
  subst hxl
  have h12 := hA.1
  have h4 := hA.2.1
  refine r_iload_n (pc := 0) h 2 rfl rfl dX6_turnList_0 ?_
  refine r_bipush (pc := 1) (v := nI 12) h (by decide) dX6_turnList_1 ?_
  refine r_irem (pc := 3) (v := nI (q % 12)) h (by decide) (pk_rem (by omega) (by omega) (by omega)) dX6_turnList_3 ?_
  refine r_istore_n (pc := 4) (lo2 := [(3, .int (nI (q % 12))), (0, .ref (G.2.1 + c)), (1, .int (nI 3)), (2, .int (nI q))]) h rfl (by decide) rfl dX6_turnList_4 ?_
  refine r_iload_n (pc := 5) h 3 rfl rfl dX6_turnList_5 ?_
  refine r_bipush (pc := 6) (v := nI 16) h (by decide) dX6_turnList_6 ?_
  refine r_idiv (pc := 8) (v := nI (q / 16)) h (by decide) (pk_div (by omega) (by omega) (by omega)) dX6_turnList_8 ?_
  refine r_bipush (pc := 9) (v := nI 12) h (by decide) dX6_turnList_9 ?_
  refine r_irem (pc := 11) (v := nI ((q / 16) % 12)) h (by decide) (pk_rem (by omega) (by omega) (by omega)) dX6_turnList_11 ?_
  refine r_istore (pc := 12) (lo2 := [(4, .int (nI ((q / 16) % 12))), (3, .int (nI (q % 12))), (0, .ref (G.2.1 + c)), (1, .int (nI 3)), (2, .int (nI q))]) h (by decide) rfl dX6_turnList_12 ?_
  refine r_aload_n (pc := 14) h 2 rfl rfl dX6_turnList_14 ?_
  refine r_cSi (pc := 15) (As := [.ref (G.2.1 + c)]) (st := []) h lk_RX6_111 (c_hasRoomM x.2.1 G (mB σ c s hh xx m) c hc A (by rw [mB_sF]; exact hM) (by omega)) (by decide) rfl rfl (by first | decide | exact Nat.le_of_ble_eq_true rfl) (by decide) dX6_turnList_15 (fun r1 s2 q3 => ?_)
  rw [q3.1, q3.2]
  refine r_if_ne (pc := 18) (tgt := 22) h (by decide) dX6_turnList_18 (fun c18 => ?_) (fun c18 => ?_)
  · skip
    replace c18 := zB_n0.mp c18
    refine r_iload_n (pc := 22) h 3 rfl rfl dX6_turnList_22 ?_
    refine r_iconst (pc := 23) (v := nI 2) h (by decide) dX6_turnList_23 ?_
    refine r_icmp_ge (pc := 24) (tgt := 51) h (by decide) dX6_turnList_24 (fun _ => ?_) (fun c24 => absurd c24 (by decide))
    refine r_aload_n (pc := 51) h 2 rfl rfl dX6_turnList_51 ?_
    refine r_iload_n (pc := 52) h 1 rfl rfl dX6_turnList_52 ?_
    refine r_cSi (pc := 53) (As := [.ref (G.2.1 + c), .int (nI (q % 12))]) (st := []) h lk_RX6_123 (c_isListM x.2.1 G (mB σ c s hh xx m) c hc A (by rw [mB_sF]; exact hM) (by omega) (nI (q % 12))) (by decide) rfl rfl (by first | decide | exact Nat.le_of_ble_eq_true rfl) (by decide) dX6_turnList_53 (fun r4 s5 q6 => ?_)
    rw [q6.1, q6.2]
    refine r_if_eq (pc := 56) (tgt := 141) h (by decide) dX6_turnList_56 (fun c56 => ?_) (fun c56 => ?_)
    · skip
      replace c56 := zB_0.mp c56
      exact hret _ (⟨_, rfl, relM_no (fst3_n1 (and_f1 c56)) hM⟩) 141 _ dX6_turnList_141
    · skip
      replace c56 := zB_n0.mp c56
      refine r_iload_n (pc := 59) h 3 rfl rfl dX6_turnList_59 ?_
      refine r_iconst (pc := 60) (v := nI 2) h (by decide) dX6_turnList_60 ?_
      refine r_icmp_ne (pc := 61) (tgt := 83) h (by decide) dX6_turnList_61 (fun _ => ?_) (fun c61 => absurd c61 (by decide))
      refine r_iload_n (pc := 83) h 3 rfl rfl dX6_turnList_83 ?_
      refine r_bipush (pc := 84) (v := nI 6) h (by decide) dX6_turnList_84 ?_
      refine r_icmp_ge (pc := 86) (tgt := 113) h (by decide) dX6_turnList_86 (fun c86 => absurd c86 (by decide)) (fun _ => ?_)
      refine r_aload_n (pc := 89) h 2 rfl rfl dX6_turnList_89 ?_
      refine r_iload (pc := 90) h 0 rfl dX6_turnList_90 ?_
      refine r_cSi (pc := 92) (As := [.ref (G.2.1 + c), .int (nI ((q / 16) % 12))]) (st := []) h lk_RX6_123 (c_isListM x.2.1 G (mB σ c s hh xx m) c hc A (by rw [mB_sF]; exact hM) (by omega) (nI ((q / 16) % 12))) (by decide) rfl rfl (by first | decide | exact Nat.le_of_ble_eq_true rfl) (by decide) dX6_turnList_92 (fun r7 s8 q9 => ?_)
      rw [q9.1, q9.2]
      refine r_if_eq (pc := 95) (tgt := 141) h (by decide) dX6_turnList_95 (fun c95 => ?_) (fun c95 => ?_)
      · skip
        replace c95 := zB_0.mp c95
        exact hret _ (⟨_, rfl, relM_no (fst3_n1 (and_f2 c95)) hM⟩) 141 _ dX6_turnList_141
      · skip
        replace c95 := zB_n0.mp c95
        refine r_aload_n (pc := 98) h 2 rfl rfl dX6_turnList_98 ?_
        refine r_iload_n (pc := 99) h 3 rfl rfl dX6_turnList_99 ?_
        refine r_iconst (pc := 100) (v := nI 1) h (by decide) dX6_turnList_100 ?_
        refine r_isub (pc := 101) (v := nI 2) h (by decide) dX6_turnList_101 ?_
        refine r_iload_n (pc := 102) h 1 rfl rfl dX6_turnList_102 ?_
        refine r_iload (pc := 103) h 0 rfl dX6_turnList_103 ?_
        refine r_iconst (pc := 105) (v := nI 0) h (by decide) dX6_turnList_105 ?_
        refine r_cSi (pc := 106) (As := [.ref (G.2.1 + c), .int (nI 2), .int (nI (q % 12)), .int (nI ((q / 16) % 12)), .int (nI 0)]) (st := []) h lk_RX6_115 (c_makeM x.2.1 G σ c hc s hh xx m A hA hM (2, (q % 12), ((q / 16) % 12), 0) (nI ((q / 16) % 12)) (nI 0) (of_decide_eq_true c18) (fun _ _ => rfl) (fun q => by cases q)) (by decide) rfl rfl (by first | decide | exact Nat.le_of_ble_eq_true rfl) (by decide) dX6_turnList_106 (fun r10 s11 q12 => ?_)
        obtain ⟨e9, s2, es, hs2⟩ := q12
        rw [e9]
        subst es
        refine r_pop (pc := 109) h rfl dX6_turnList_109 ?_
        refine r_goto (pc := 110) (tgt := 141) h (by decide) dX6_turnList_110 ?_
        exact hret _ (⟨_, rfl, relM_yes (fst3_y (and_t c56 c95) rfl c18) (by show RelM (mkA A (2, toN (nI (q % 12)), toN (nI (q / 16 % 12)), 0)) _; rw [toN_nI (show q % 12 < 2 ^ 31 by omega), toN_nI (show q / 16 % 12 < 2 ^ 31 by omega)]; exact hs2)⟩) 141 _ dX6_turnList_141
  · skip
    replace c18 := zB_0.mp c18
    exact hret _ (⟨_, rfl, relM_no (fst3_n3 c18) hM⟩) 21 _ dX6_turnList_21

set_option maxRecDepth 100000 in
set_option maxHeartbeats 800000 in
theorem c_turnList4 (l : Launch) (G : Gl) (σ : Sg) (c : Nat) (hc : Rc c) (s hh xx m : Nat → Int32) (A : Ab) (hA : okA A) (hM : RelM A s) (q : Nat) (hq : q < 2 ^ 31) : Cv l yX6_turnList cX6_turnList 5 ({ frames := 2, cells := 0, slots := 0, locals := 46 } : Room) G [.ref (G.2.1 + c), .int (nI 4), .int (nI q)] (mB σ c s hh xx m) (fun σ2 => ∃ s2, σ2 = mB σ c s2 hh xx m ∧ RelM (att A 104 (nI (q % 12)) (nI (q / 16 % 12)) (nI 0)).2 s2) := by
  refine Cv_of (own := RX6) rfl (by decide +kernel) (lo := [(0, .ref (G.2.1 + c)), (1, .int (nI 4)), (2, .int (nI q))]) rfl (Nat.le_of_ble_eq_true rfl) ?_
  intro x Q hxl h hret
  subst hxl
  have h12 := hA.1
  have h4 := hA.2.1
  refine r_iload_n (pc := 0) h 2 rfl rfl dX6_turnList_0 ?_
  refine r_bipush (pc := 1) (v := nI 12) h (by decide) dX6_turnList_1 ?_
  refine r_irem (pc := 3) (v := nI (q % 12)) h (by decide) (pk_rem (by omega) (by omega) (by omega)) dX6_turnList_3 ?_
  refine r_istore_n (pc := 4) (lo2 := [(3, .int (nI (q % 12))), (0, .ref (G.2.1 + c)), (1, .int (nI 4)), (2, .int (nI q))]) h rfl (by decide) rfl dX6_turnList_4 ?_
  refine r_iload_n (pc := 5) h 3 rfl rfl dX6_turnList_5 ?_
  refine r_bipush (pc := 6) (v := nI 16) h (by decide) dX6_turnList_6 ?_
  refine r_idiv (pc := 8) (v := nI (q / 16)) h (by decide) (pk_div (by omega) (by omega) (by omega)) dX6_turnList_8 ?_
  refine r_bipush (pc := 9) (v := nI 12) h (by decide) dX6_turnList_9 ?_
  refine r_irem (pc := 11) (v := nI ((q / 16) % 12)) h (by decide) (pk_rem (by omega) (by omega) (by omega)) dX6_turnList_11 ?_
  refine r_istore (pc := 12) (lo2 := [(4, .int (nI ((q / 16) % 12))), (3, .int (nI (q % 12))), (0, .ref (G.2.1 + c)), (1, .int (nI 4)), (2, .int (nI q))]) h (by decide) rfl dX6_turnList_12 ?_
  refine r_aload_n (pc := 14) h 2 rfl rfl dX6_turnList_14 ?_
  refine r_cSi (pc := 15) (As := [.ref (G.2.1 + c)]) (st := []) h lk_RX6_111 (c_hasRoomM x.2.1 G (mB σ c s hh xx m) c hc A (by rw [mB_sF]; exact hM) (by omega)) (by decide) rfl rfl (by first | decide | exact Nat.le_of_ble_eq_true rfl) (by decide) dX6_turnList_15 (fun r1 s2 q3 => ?_)
  rw [q3.1, q3.2]
  refine r_if_ne (pc := 18) (tgt := 22) h (by decide) dX6_turnList_18 (fun c18 => ?_) (fun c18 => ?_)
  · skip
    replace c18 := zB_n0.mp c18
    refine r_iload_n (pc := 22) h 3 rfl rfl dX6_turnList_22 ?_
    refine r_iconst (pc := 23) (v := nI 2) h (by decide) dX6_turnList_23 ?_
    refine r_icmp_ge (pc := 24) (tgt := 51) h (by decide) dX6_turnList_24 (fun _ => ?_) (fun c24 => absurd c24 (by decide))
    refine r_aload_n (pc := 51) h 2 rfl rfl dX6_turnList_51 ?_
    refine r_iload_n (pc := 52) h 1 rfl rfl dX6_turnList_52 ?_
    refine r_cSi (pc := 53) (As := [.ref (G.2.1 + c), .int (nI (q % 12))]) (st := []) h lk_RX6_123 (c_isListM x.2.1 G (mB σ c s hh xx m) c hc A (by rw [mB_sF]; exact hM) (by omega) (nI (q % 12))) (by decide) rfl rfl (by first | decide | exact Nat.le_of_ble_eq_true rfl) (by decide) dX6_turnList_53 (fun r4 s5 q6 => ?_)
    rw [q6.1, q6.2]
    refine r_if_eq (pc := 56) (tgt := 141) h (by decide) dX6_turnList_56 (fun c56 => ?_) (fun c56 => ?_)
    · skip
      replace c56 := zB_0.mp c56
      exact hret _ (⟨_, rfl, relM_no (fst3_n1 (and_f1 c56)) hM⟩) 141 _ dX6_turnList_141
    · skip
      replace c56 := zB_n0.mp c56
      refine r_iload_n (pc := 59) h 3 rfl rfl dX6_turnList_59 ?_
      refine r_iconst (pc := 60) (v := nI 2) h (by decide) dX6_turnList_60 ?_
      refine r_icmp_ne (pc := 61) (tgt := 83) h (by decide) dX6_turnList_61 (fun _ => ?_) (fun c61 => absurd c61 (by decide))
      refine r_iload_n (pc := 83) h 3 rfl rfl dX6_turnList_83 ?_
      refine r_bipush (pc := 84) (v := nI 6) h (by decide) dX6_turnList_84 ?_
      refine r_icmp_ge (pc := 86) (tgt := 113) h (by decide) dX6_turnList_86 (fun c86 => absurd c86 (by decide)) (fun _ => ?_)
      refine r_aload_n (pc := 89) h 2 rfl rfl dX6_turnList_89 ?_
      refine r_iload (pc := 90) h 0 rfl dX6_turnList_90 ?_
      refine r_cSi (pc := 92) (As := [.ref (G.2.1 + c), .int (nI ((q / 16) % 12))]) (st := []) h lk_RX6_123 (c_isListM x.2.1 G (mB σ c s hh xx m) c hc A (by rw [mB_sF]; exact hM) (by omega) (nI ((q / 16) % 12))) (by decide) rfl rfl (by first | decide | exact Nat.le_of_ble_eq_true rfl) (by decide) dX6_turnList_92 (fun r7 s8 q9 => ?_)
      rw [q9.1, q9.2]
      refine r_if_eq (pc := 95) (tgt := 141) h (by decide) dX6_turnList_95 (fun c95 => ?_) (fun c95 => ?_)
      · skip
        replace c95 := zB_0.mp c95
        exact hret _ (⟨_, rfl, relM_no (fst3_n1 (and_f2 c95)) hM⟩) 141 _ dX6_turnList_141
      · skip
        replace c95 := zB_n0.mp c95
        refine r_aload_n (pc := 98) h 2 rfl rfl dX6_turnList_98 ?_
        refine r_iload_n (pc := 99) h 3 rfl rfl dX6_turnList_99 ?_
        refine r_iconst (pc := 100) (v := nI 1) h (by decide) dX6_turnList_100 ?_
        refine r_isub (pc := 101) (v := nI 3) h (by decide) dX6_turnList_101 ?_
        refine r_iload_n (pc := 102) h 1 rfl rfl dX6_turnList_102 ?_
        refine r_iload (pc := 103) h 0 rfl dX6_turnList_103 ?_
        refine r_iconst (pc := 105) (v := nI 0) h (by decide) dX6_turnList_105 ?_
        refine r_cSi (pc := 106) (As := [.ref (G.2.1 + c), .int (nI 3), .int (nI (q % 12)), .int (nI ((q / 16) % 12)), .int (nI 0)]) (st := []) h lk_RX6_115 (c_makeM x.2.1 G σ c hc s hh xx m A hA hM (3, (q % 12), ((q / 16) % 12), 0) (nI ((q / 16) % 12)) (nI 0) (of_decide_eq_true c18) (fun _ _ => rfl) (fun q => by cases q)) (by decide) rfl rfl (by first | decide | exact Nat.le_of_ble_eq_true rfl) (by decide) dX6_turnList_106 (fun r10 s11 q12 => ?_)
        obtain ⟨e9, s2, es, hs2⟩ := q12
        rw [e9]
        subst es
        refine r_pop (pc := 109) h rfl dX6_turnList_109 ?_
        refine r_goto (pc := 110) (tgt := 141) h (by decide) dX6_turnList_110 ?_
        exact hret _ (⟨_, rfl, relM_yes (fst3_y (and_t c56 c95) rfl c18) (by show RelM (mkA A (3, toN (nI (q % 12)), toN (nI (q / 16 % 12)), 0)) _; rw [toN_nI (show q % 12 < 2 ^ 31 by omega), toN_nI (show q / 16 % 12 < 2 ^ 31 by omega)]; exact hs2)⟩) 141 _ dX6_turnList_141
  · skip
    replace c18 := zB_0.mp c18
    exact hret _ (⟨_, rfl, relM_no (fst3_n3 c18) hM⟩) 21 _ dX6_turnList_21

set_option maxRecDepth 100000 in
set_option maxHeartbeats 800000 in
theorem c_turnList5 (l : Launch) (G : Gl) (σ : Sg) (c : Nat) (hc : Rc c) (s hh xx m : Nat → Int32) (A : Ab) (hA : okA A) (hM : RelM A s) (q : Nat) (hq : q < 2 ^ 31) : Cv l yX6_turnList cX6_turnList 5 ({ frames := 2, cells := 0, slots := 0, locals := 46 } : Room) G [.ref (G.2.1 + c), .int (nI 5), .int (nI q)] (mB σ c s hh xx m) (fun σ2 => ∃ s2, σ2 = mB σ c s2 hh xx m ∧ RelM (att A 119 (nI (q % 12)) (nI (q / 16 % 12)) (nI 0)).2 s2) := by
  refine Cv_of (own := RX6) rfl (by decide +kernel) (lo := [(0, .ref (G.2.1 + c)), (1, .int (nI 5)), (2, .int (nI q))]) rfl (Nat.le_of_ble_eq_true rfl) ?_
  intro x Q hxl h hret
  subst hxl
  have h12 := hA.1
  have h4 := hA.2.1
  refine r_iload_n (pc := 0) h 2 rfl rfl dX6_turnList_0 ?_
  refine r_bipush (pc := 1) (v := nI 12) h (by decide) dX6_turnList_1 ?_
  refine r_irem (pc := 3) (v := nI (q % 12)) h (by decide) (pk_rem (by omega) (by omega) (by omega)) dX6_turnList_3 ?_
  refine r_istore_n (pc := 4) (lo2 := [(3, .int (nI (q % 12))), (0, .ref (G.2.1 + c)), (1, .int (nI 5)), (2, .int (nI q))]) h rfl (by decide) rfl dX6_turnList_4 ?_
  refine r_iload_n (pc := 5) h 3 rfl rfl dX6_turnList_5 ?_
  refine r_bipush (pc := 6) (v := nI 16) h (by decide) dX6_turnList_6 ?_
  refine r_idiv (pc := 8) (v := nI (q / 16)) h (by decide) (pk_div (by omega) (by omega) (by omega)) dX6_turnList_8 ?_
  refine r_bipush (pc := 9) (v := nI 12) h (by decide) dX6_turnList_9 ?_
  refine r_irem (pc := 11) (v := nI ((q / 16) % 12)) h (by decide) (pk_rem (by omega) (by omega) (by omega)) dX6_turnList_11 ?_
  refine r_istore (pc := 12) (lo2 := [(4, .int (nI ((q / 16) % 12))), (3, .int (nI (q % 12))), (0, .ref (G.2.1 + c)), (1, .int (nI 5)), (2, .int (nI q))]) h (by decide) rfl dX6_turnList_12 ?_
  refine r_aload_n (pc := 14) h 2 rfl rfl dX6_turnList_14 ?_
  refine r_cSi (pc := 15) (As := [.ref (G.2.1 + c)]) (st := []) h lk_RX6_111 (c_hasRoomM x.2.1 G (mB σ c s hh xx m) c hc A (by rw [mB_sF]; exact hM) (by omega)) (by decide) rfl rfl (by first | decide | exact Nat.le_of_ble_eq_true rfl) (by decide) dX6_turnList_15 (fun r1 s2 q3 => ?_)
  rw [q3.1, q3.2]
  refine r_if_ne (pc := 18) (tgt := 22) h (by decide) dX6_turnList_18 (fun c18 => ?_) (fun c18 => ?_)
  · skip
    replace c18 := zB_n0.mp c18
    refine r_iload_n (pc := 22) h 3 rfl rfl dX6_turnList_22 ?_
    refine r_iconst (pc := 23) (v := nI 2) h (by decide) dX6_turnList_23 ?_
    refine r_icmp_ge (pc := 24) (tgt := 51) h (by decide) dX6_turnList_24 (fun _ => ?_) (fun c24 => absurd c24 (by decide))
    refine r_aload_n (pc := 51) h 2 rfl rfl dX6_turnList_51 ?_
    refine r_iload_n (pc := 52) h 1 rfl rfl dX6_turnList_52 ?_
    refine r_cSi (pc := 53) (As := [.ref (G.2.1 + c), .int (nI (q % 12))]) (st := []) h lk_RX6_123 (c_isListM x.2.1 G (mB σ c s hh xx m) c hc A (by rw [mB_sF]; exact hM) (by omega) (nI (q % 12))) (by decide) rfl rfl (by first | decide | exact Nat.le_of_ble_eq_true rfl) (by decide) dX6_turnList_53 (fun r4 s5 q6 => ?_)
    rw [q6.1, q6.2]
    refine r_if_eq (pc := 56) (tgt := 141) h (by decide) dX6_turnList_56 (fun c56 => ?_) (fun c56 => ?_)
    · skip
      replace c56 := zB_0.mp c56
      exact hret _ (⟨_, rfl, relM_no (fst3_n1 (and_f1 c56)) hM⟩) 141 _ dX6_turnList_141
    · skip
      replace c56 := zB_n0.mp c56
      refine r_iload_n (pc := 59) h 3 rfl rfl dX6_turnList_59 ?_
      refine r_iconst (pc := 60) (v := nI 2) h (by decide) dX6_turnList_60 ?_
      refine r_icmp_ne (pc := 61) (tgt := 83) h (by decide) dX6_turnList_61 (fun _ => ?_) (fun c61 => absurd c61 (by decide))
      refine r_iload_n (pc := 83) h 3 rfl rfl dX6_turnList_83 ?_
      refine r_bipush (pc := 84) (v := nI 6) h (by decide) dX6_turnList_84 ?_
      refine r_icmp_ge (pc := 86) (tgt := 113) h (by decide) dX6_turnList_86 (fun c86 => absurd c86 (by decide)) (fun _ => ?_)
      refine r_aload_n (pc := 89) h 2 rfl rfl dX6_turnList_89 ?_
      refine r_iload (pc := 90) h 0 rfl dX6_turnList_90 ?_
      refine r_cSi (pc := 92) (As := [.ref (G.2.1 + c), .int (nI ((q / 16) % 12))]) (st := []) h lk_RX6_123 (c_isListM x.2.1 G (mB σ c s hh xx m) c hc A (by rw [mB_sF]; exact hM) (by omega) (nI ((q / 16) % 12))) (by decide) rfl rfl (by first | decide | exact Nat.le_of_ble_eq_true rfl) (by decide) dX6_turnList_92 (fun r7 s8 q9 => ?_)
      rw [q9.1, q9.2]
      refine r_if_eq (pc := 95) (tgt := 141) h (by decide) dX6_turnList_95 (fun c95 => ?_) (fun c95 => ?_)
      · skip
        replace c95 := zB_0.mp c95
        exact hret _ (⟨_, rfl, relM_no (fst3_n1 (and_f2 c95)) hM⟩) 141 _ dX6_turnList_141
      · skip
        replace c95 := zB_n0.mp c95
        refine r_aload_n (pc := 98) h 2 rfl rfl dX6_turnList_98 ?_
        refine r_iload_n (pc := 99) h 3 rfl rfl dX6_turnList_99 ?_
        refine r_iconst (pc := 100) (v := nI 1) h (by decide) dX6_turnList_100 ?_
        refine r_isub (pc := 101) (v := nI 4) h (by decide) dX6_turnList_101 ?_
        refine r_iload_n (pc := 102) h 1 rfl rfl dX6_turnList_102 ?_
        refine r_iload (pc := 103) h 0 rfl dX6_turnList_103 ?_
        refine r_iconst (pc := 105) (v := nI 0) h (by decide) dX6_turnList_105 ?_
        refine r_cSi (pc := 106) (As := [.ref (G.2.1 + c), .int (nI 4), .int (nI (q % 12)), .int (nI ((q / 16) % 12)), .int (nI 0)]) (st := []) h lk_RX6_115 (c_makeM x.2.1 G σ c hc s hh xx m A hA hM (4, (q % 12), ((q / 16) % 12), 0) (nI ((q / 16) % 12)) (nI 0) (of_decide_eq_true c18) (fun _ _ => rfl) (fun q => by cases q)) (by decide) rfl rfl (by first | decide | exact Nat.le_of_ble_eq_true rfl) (by decide) dX6_turnList_106 (fun r10 s11 q12 => ?_)
        obtain ⟨e9, s2, es, hs2⟩ := q12
        rw [e9]
        subst es
        refine r_pop (pc := 109) h rfl dX6_turnList_109 ?_
        refine r_goto (pc := 110) (tgt := 141) h (by decide) dX6_turnList_110 ?_
        exact hret _ (⟨_, rfl, relM_yes (fst3_y (and_t c56 c95) rfl c18) (by show RelM (mkA A (4, toN (nI (q % 12)), toN (nI (q / 16 % 12)), 0)) _; rw [toN_nI (show q % 12 < 2 ^ 31 by omega), toN_nI (show q / 16 % 12 < 2 ^ 31 by omega)]; exact hs2)⟩) 141 _ dX6_turnList_141
  · skip
    replace c18 := zB_0.mp c18
    exact hret _ (⟨_, rfl, relM_no (fst3_n3 c18) hM⟩) 21 _ dX6_turnList_21

set_option maxRecDepth 100000 in
set_option maxHeartbeats 800000 in
theorem c_turnList6 (l : Launch) (G : Gl) (σ : Sg) (c : Nat) (hc : Rc c) (s hh xx m : Nat → Int32) (A : Ab) (hA : okA A) (hM : RelM A s) (q : Nat) (hq : q < 2 ^ 31) : Cv l yX6_turnList cX6_turnList 5 ({ frames := 2, cells := 0, slots := 0, locals := 46 } : Room) G [.ref (G.2.1 + c), .int (nI 6), .int (nI q)] (mB σ c s hh xx m) (fun σ2 => ∃ s2, σ2 = mB σ c s2 hh xx m ∧ RelM (att A 118 (nI (q % 12)) (nI 0) (nI 0)).2 s2) := by
  refine Cv_of (own := RX6) rfl (by decide +kernel) (lo := [(0, .ref (G.2.1 + c)), (1, .int (nI 6)), (2, .int (nI q))]) rfl (Nat.le_of_ble_eq_true rfl) ?_
  intro x Q hxl h hret
  subst hxl
  have h12 := hA.1
  have h4 := hA.2.1
  refine r_iload_n (pc := 0) h 2 rfl rfl dX6_turnList_0 ?_
  refine r_bipush (pc := 1) (v := nI 12) h (by decide) dX6_turnList_1 ?_
  refine r_irem (pc := 3) (v := nI (q % 12)) h (by decide) (pk_rem (by omega) (by omega) (by omega)) dX6_turnList_3 ?_
  refine r_istore_n (pc := 4) (lo2 := [(3, .int (nI (q % 12))), (0, .ref (G.2.1 + c)), (1, .int (nI 6)), (2, .int (nI q))]) h rfl (by decide) rfl dX6_turnList_4 ?_
  refine r_iload_n (pc := 5) h 3 rfl rfl dX6_turnList_5 ?_
  refine r_bipush (pc := 6) (v := nI 16) h (by decide) dX6_turnList_6 ?_
  refine r_idiv (pc := 8) (v := nI (q / 16)) h (by decide) (pk_div (by omega) (by omega) (by omega)) dX6_turnList_8 ?_
  refine r_bipush (pc := 9) (v := nI 12) h (by decide) dX6_turnList_9 ?_
  refine r_irem (pc := 11) (v := nI ((q / 16) % 12)) h (by decide) (pk_rem (by omega) (by omega) (by omega)) dX6_turnList_11 ?_
  refine r_istore (pc := 12) (lo2 := [(4, .int (nI ((q / 16) % 12))), (3, .int (nI (q % 12))), (0, .ref (G.2.1 + c)), (1, .int (nI 6)), (2, .int (nI q))]) h (by decide) rfl dX6_turnList_12 ?_
  refine r_aload_n (pc := 14) h 2 rfl rfl dX6_turnList_14 ?_
  refine r_cSi (pc := 15) (As := [.ref (G.2.1 + c)]) (st := []) h lk_RX6_111 (c_hasRoomM x.2.1 G (mB σ c s hh xx m) c hc A (by rw [mB_sF]; exact hM) (by omega)) (by decide) rfl rfl (by first | decide | exact Nat.le_of_ble_eq_true rfl) (by decide) dX6_turnList_15 (fun r1 s2 q3 => ?_)
  rw [q3.1, q3.2]
  refine r_if_ne (pc := 18) (tgt := 22) h (by decide) dX6_turnList_18 (fun c18 => ?_) (fun c18 => ?_)
  · skip
    replace c18 := zB_n0.mp c18
    refine r_iload_n (pc := 22) h 3 rfl rfl dX6_turnList_22 ?_
    refine r_iconst (pc := 23) (v := nI 2) h (by decide) dX6_turnList_23 ?_
    refine r_icmp_ge (pc := 24) (tgt := 51) h (by decide) dX6_turnList_24 (fun _ => ?_) (fun c24 => absurd c24 (by decide))
    refine r_aload_n (pc := 51) h 2 rfl rfl dX6_turnList_51 ?_
    refine r_iload_n (pc := 52) h 1 rfl rfl dX6_turnList_52 ?_
    refine r_cSi (pc := 53) (As := [.ref (G.2.1 + c), .int (nI (q % 12))]) (st := []) h lk_RX6_123 (c_isListM x.2.1 G (mB σ c s hh xx m) c hc A (by rw [mB_sF]; exact hM) (by omega) (nI (q % 12))) (by decide) rfl rfl (by first | decide | exact Nat.le_of_ble_eq_true rfl) (by decide) dX6_turnList_53 (fun r4 s5 q6 => ?_)
    rw [q6.1, q6.2]
    refine r_if_eq (pc := 56) (tgt := 141) h (by decide) dX6_turnList_56 (fun c56 => ?_) (fun c56 => ?_)
    · skip
      replace c56 := zB_0.mp c56
      exact hret _ (⟨_, rfl, relM_no (fst3_n1 c56) hM⟩) 141 _ dX6_turnList_141
    · skip
      replace c56 := zB_n0.mp c56
      refine r_iload_n (pc := 59) h 3 rfl rfl dX6_turnList_59 ?_
      refine r_iconst (pc := 60) (v := nI 2) h (by decide) dX6_turnList_60 ?_
      refine r_icmp_ne (pc := 61) (tgt := 83) h (by decide) dX6_turnList_61 (fun _ => ?_) (fun c61 => absurd c61 (by decide))
      refine r_iload_n (pc := 83) h 3 rfl rfl dX6_turnList_83 ?_
      refine r_bipush (pc := 84) (v := nI 6) h (by decide) dX6_turnList_84 ?_
      refine r_icmp_ge (pc := 86) (tgt := 113) h (by decide) dX6_turnList_86 (fun _ => ?_) (fun c86 => absurd c86 (by decide))
      refine r_aload_n (pc := 113) h 2 rfl rfl dX6_turnList_113 ?_
      refine r_iload_n (pc := 114) h 3 rfl rfl dX6_turnList_114 ?_
      refine r_iconst (pc := 115) (v := nI 1) h (by decide) dX6_turnList_115 ?_
      refine r_isub (pc := 116) (v := nI 5) h (by decide) dX6_turnList_116 ?_
      refine r_iload_n (pc := 117) h 1 rfl rfl dX6_turnList_117 ?_
      refine r_iload_n (pc := 118) h 3 rfl rfl dX6_turnList_118 ?_
      refine r_bipush (pc := 119) (v := nI 7) h (by decide) dX6_turnList_119 ?_
      refine r_icmp_ne (pc := 121) (tgt := 135) h (by decide) dX6_turnList_121 (fun _ => ?_) (fun c121 => absurd c121 (by decide))
      refine r_iconst (pc := 135) (v := nI 0) h (by decide) dX6_turnList_135 ?_
      refine r_iconst (pc := 136) (v := nI 0) h (by decide) dX6_turnList_136 ?_
      refine r_cSi (pc := 137) (As := [.ref (G.2.1 + c), .int (nI 5), .int (nI (q % 12)), .int (nI 0), .int (nI 0)]) (st := []) h lk_RX6_115 (c_makeM x.2.1 G σ c hc s hh xx m A hA hM (5, (q % 12), 0, 0) (nI 0) (nI 0) (of_decide_eq_true c18) (fun q _ => absurd rfl q) (fun q => by cases q)) (by decide) rfl rfl (by first | decide | exact Nat.le_of_ble_eq_true rfl) (by decide) dX6_turnList_137 (fun r7 s8 q9 => ?_)
      obtain ⟨e9, s2, es, hs2⟩ := q9
      rw [e9]
      subst es
      refine r_pop (pc := 140) h rfl dX6_turnList_140 ?_
      exact hret _ (⟨_, rfl, relM_yes (fst3_y c56 rfl c18) (by show RelM (mkA A (5, toN (nI (q % 12)), 0, 0)) _; rw [toN_nI (show q % 12 < 2 ^ 31 by omega)]; exact hs2)⟩) 141 _ dX6_turnList_141
  · skip
    replace c18 := zB_0.mp c18
    exact hret _ (⟨_, rfl, relM_no (fst3_n3 c18) hM⟩) 21 _ dX6_turnList_21

set_option maxRecDepth 100000 in
set_option maxHeartbeats 800000 in
theorem c_turnList7 (l : Launch) (G : Gl) (σ : Sg) (c : Nat) (hc : Rc c) (s hh xx m : Nat → Int32) (A : Ab) (hA : okA A) (hM : RelM A s) (q : Nat) (hq : q < 2 ^ 31) : Cv l yX6_turnList cX6_turnList 5 ({ frames := 2, cells := 0, slots := 0, locals := 46 } : Room) G [.ref (G.2.1 + c), .int (nI 7), .int (nI q)] (mB σ c s hh xx m) (fun σ2 => ∃ s2, σ2 = mB σ c s2 hh xx m ∧ RelM (att A 101 (nI (q % 12)) (nI (1 + q / 16 % 4)) (nI 0)).2 s2) := by
  refine Cv_of (own := RX6) rfl (by decide +kernel) (lo := [(0, .ref (G.2.1 + c)), (1, .int (nI 7)), (2, .int (nI q))]) rfl (Nat.le_of_ble_eq_true rfl) ?_
  intro x Q hxl h hret
  subst hxl
  have h12 := hA.1
  have h4 := hA.2.1
  refine r_iload_n (pc := 0) h 2 rfl rfl dX6_turnList_0 ?_
  refine r_bipush (pc := 1) (v := nI 12) h (by decide) dX6_turnList_1 ?_
  refine r_irem (pc := 3) (v := nI (q % 12)) h (by decide) (pk_rem (by omega) (by omega) (by omega)) dX6_turnList_3 ?_
  refine r_istore_n (pc := 4) (lo2 := [(3, .int (nI (q % 12))), (0, .ref (G.2.1 + c)), (1, .int (nI 7)), (2, .int (nI q))]) h rfl (by decide) rfl dX6_turnList_4 ?_
  refine r_iload_n (pc := 5) h 3 rfl rfl dX6_turnList_5 ?_
  refine r_bipush (pc := 6) (v := nI 16) h (by decide) dX6_turnList_6 ?_
  refine r_idiv (pc := 8) (v := nI (q / 16)) h (by decide) (pk_div (by omega) (by omega) (by omega)) dX6_turnList_8 ?_
  refine r_bipush (pc := 9) (v := nI 12) h (by decide) dX6_turnList_9 ?_
  refine r_irem (pc := 11) (v := nI ((q / 16) % 12)) h (by decide) (pk_rem (by omega) (by omega) (by omega)) dX6_turnList_11 ?_
  refine r_istore (pc := 12) (lo2 := [(4, .int (nI ((q / 16) % 12))), (3, .int (nI (q % 12))), (0, .ref (G.2.1 + c)), (1, .int (nI 7)), (2, .int (nI q))]) h (by decide) rfl dX6_turnList_12 ?_
  refine r_aload_n (pc := 14) h 2 rfl rfl dX6_turnList_14 ?_
  refine r_cSi (pc := 15) (As := [.ref (G.2.1 + c)]) (st := []) h lk_RX6_111 (c_hasRoomM x.2.1 G (mB σ c s hh xx m) c hc A (by rw [mB_sF]; exact hM) (by omega)) (by decide) rfl rfl (by first | decide | exact Nat.le_of_ble_eq_true rfl) (by decide) dX6_turnList_15 (fun r1 s2 q3 => ?_)
  rw [q3.1, q3.2]
  refine r_if_ne (pc := 18) (tgt := 22) h (by decide) dX6_turnList_18 (fun c18 => ?_) (fun c18 => ?_)
  · skip
    replace c18 := zB_n0.mp c18
    refine r_iload_n (pc := 22) h 3 rfl rfl dX6_turnList_22 ?_
    refine r_iconst (pc := 23) (v := nI 2) h (by decide) dX6_turnList_23 ?_
    refine r_icmp_ge (pc := 24) (tgt := 51) h (by decide) dX6_turnList_24 (fun _ => ?_) (fun c24 => absurd c24 (by decide))
    refine r_aload_n (pc := 51) h 2 rfl rfl dX6_turnList_51 ?_
    refine r_iload_n (pc := 52) h 1 rfl rfl dX6_turnList_52 ?_
    refine r_cSi (pc := 53) (As := [.ref (G.2.1 + c), .int (nI (q % 12))]) (st := []) h lk_RX6_123 (c_isListM x.2.1 G (mB σ c s hh xx m) c hc A (by rw [mB_sF]; exact hM) (by omega) (nI (q % 12))) (by decide) rfl rfl (by first | decide | exact Nat.le_of_ble_eq_true rfl) (by decide) dX6_turnList_53 (fun r4 s5 q6 => ?_)
    rw [q6.1, q6.2]
    refine r_if_eq (pc := 56) (tgt := 141) h (by decide) dX6_turnList_56 (fun c56 => ?_) (fun c56 => ?_)
    · skip
      replace c56 := zB_0.mp c56
      exact hret _ (⟨_, rfl, relM_no (fst3_n1 c56) hM⟩) 141 _ dX6_turnList_141
    · skip
      replace c56 := zB_n0.mp c56
      refine r_iload_n (pc := 59) h 3 rfl rfl dX6_turnList_59 ?_
      refine r_iconst (pc := 60) (v := nI 2) h (by decide) dX6_turnList_60 ?_
      refine r_icmp_ne (pc := 61) (tgt := 83) h (by decide) dX6_turnList_61 (fun _ => ?_) (fun c61 => absurd c61 (by decide))
      refine r_iload_n (pc := 83) h 3 rfl rfl dX6_turnList_83 ?_
      refine r_bipush (pc := 84) (v := nI 6) h (by decide) dX6_turnList_84 ?_
      refine r_icmp_ge (pc := 86) (tgt := 113) h (by decide) dX6_turnList_86 (fun _ => ?_) (fun c86 => absurd c86 (by decide))
      refine r_aload_n (pc := 113) h 2 rfl rfl dX6_turnList_113 ?_
      refine r_iload_n (pc := 114) h 3 rfl rfl dX6_turnList_114 ?_
      refine r_iconst (pc := 115) (v := nI 1) h (by decide) dX6_turnList_115 ?_
      refine r_isub (pc := 116) (v := nI 6) h (by decide) dX6_turnList_116 ?_
      refine r_iload_n (pc := 117) h 1 rfl rfl dX6_turnList_117 ?_
      refine r_iload_n (pc := 118) h 3 rfl rfl dX6_turnList_118 ?_
      refine r_bipush (pc := 119) (v := nI 7) h (by decide) dX6_turnList_119 ?_
      refine r_icmp_ne (pc := 121) (tgt := 135) h (by decide) dX6_turnList_121 (fun c121 => absurd c121 (by decide)) (fun _ => ?_)
      refine r_iconst (pc := 124) (v := nI 1) h (by decide) dX6_turnList_124 ?_
      refine r_iload_n (pc := 125) h 4 rfl rfl dX6_turnList_125 ?_
      refine r_bipush (pc := 126) (v := nI 16) h (by decide) dX6_turnList_126 ?_
      refine r_idiv (pc := 128) (v := nI (q / 16)) h (by decide) (pk_div (by omega) (by omega) (by omega)) dX6_turnList_128 ?_
      refine r_iconst (pc := 129) (v := nI 4) h (by decide) dX6_turnList_129 ?_
      refine r_irem (pc := 130) (v := nI ((q / 16) % 4)) h (by decide) (pk_rem (by omega) (by omega) (by omega)) dX6_turnList_130 ?_
      refine r_iadd (pc := 131) (v := nI (1 + ((q / 16) % 4))) h (nI_add _ _) dX6_turnList_131 ?_
      refine r_goto (pc := 132) (tgt := 136) h (by decide) dX6_turnList_132 ?_
      refine r_iconst (pc := 136) (v := nI 0) h (by decide) dX6_turnList_136 ?_
      refine r_cSi (pc := 137) (As := [.ref (G.2.1 + c), .int (nI 6), .int (nI (q % 12)), .int (nI (1 + ((q / 16) % 4))), .int (nI 0)]) (st := []) h lk_RX6_115 (c_makeM x.2.1 G σ c hc s hh xx m A hA hM (6, (q % 12), (1 + ((q / 16) % 4)), 0) (nI (1 + ((q / 16) % 4))) (nI 0) (of_decide_eq_true c18) (fun _ _ => rfl) (fun q => by cases q)) (by decide) rfl rfl (by first | decide | exact Nat.le_of_ble_eq_true rfl) (by decide) dX6_turnList_137 (fun r7 s8 q9 => ?_)
      obtain ⟨e9, s2, es, hs2⟩ := q9
      rw [e9]
      subst es
      refine r_pop (pc := 140) h rfl dX6_turnList_140 ?_
      exact hret _ (⟨_, rfl, relM_yes (fst3_y c56 (inB_of (by omega) (by omega) (by omega)) c18) (by show RelM (mkA A (6, toN (nI (q % 12)), toN (nI (1 + q / 16 % 4)), 0)) _; rw [toN_nI (show q % 12 < 2 ^ 31 by omega), toN_nI (show 1 + q / 16 % 4 < 2 ^ 31 by omega)]; exact hs2)⟩) 141 _ dX6_turnList_141
  · skip
    replace c18 := zB_0.mp c18
    exact hret _ (⟨_, rfl, relM_no (fst3_n3 c18) hM⟩) 21 _ dX6_turnList_21

set_option maxRecDepth 100000 in
set_option maxHeartbeats 800000 in
theorem c_turnList8 (l : Launch) (G : Gl) (σ : Sg) (c : Nat) (hc : Rc c) (s hh xx m : Nat → Int32) (A : Ab) (hA : okA A) (hM : RelM A s) (q : Nat) (hq : q < 2 ^ 31) : Cv l yX6_turnList cX6_turnList 5 ({ frames := 2, cells := 0, slots := 0, locals := 46 } : Room) G [.ref (G.2.1 + c), .int (nI 8), .int (nI q)] (mB σ c s hh xx m) (fun σ2 => ∃ s2, σ2 = mB σ c s2 hh xx m ∧ RelM (att A 117 (nI (q % 12)) (nI 0) (nI 0)).2 s2) := by
  refine Cv_of (own := RX6) rfl (by decide +kernel) (lo := [(0, .ref (G.2.1 + c)), (1, .int (nI 8)), (2, .int (nI q))]) rfl (Nat.le_of_ble_eq_true rfl) ?_
  intro x Q hxl h hret
  subst hxl
  have h12 := hA.1
  have h4 := hA.2.1
  refine r_iload_n (pc := 0) h 2 rfl rfl dX6_turnList_0 ?_
  refine r_bipush (pc := 1) (v := nI 12) h (by decide) dX6_turnList_1 ?_
  refine r_irem (pc := 3) (v := nI (q % 12)) h (by decide) (pk_rem (by omega) (by omega) (by omega)) dX6_turnList_3 ?_
  refine r_istore_n (pc := 4) (lo2 := [(3, .int (nI (q % 12))), (0, .ref (G.2.1 + c)), (1, .int (nI 8)), (2, .int (nI q))]) h rfl (by decide) rfl dX6_turnList_4 ?_
  refine r_iload_n (pc := 5) h 3 rfl rfl dX6_turnList_5 ?_
  refine r_bipush (pc := 6) (v := nI 16) h (by decide) dX6_turnList_6 ?_
  refine r_idiv (pc := 8) (v := nI (q / 16)) h (by decide) (pk_div (by omega) (by omega) (by omega)) dX6_turnList_8 ?_
  refine r_bipush (pc := 9) (v := nI 12) h (by decide) dX6_turnList_9 ?_
  refine r_irem (pc := 11) (v := nI ((q / 16) % 12)) h (by decide) (pk_rem (by omega) (by omega) (by omega)) dX6_turnList_11 ?_
  refine r_istore (pc := 12) (lo2 := [(4, .int (nI ((q / 16) % 12))), (3, .int (nI (q % 12))), (0, .ref (G.2.1 + c)), (1, .int (nI 8)), (2, .int (nI q))]) h (by decide) rfl dX6_turnList_12 ?_
  refine r_aload_n (pc := 14) h 2 rfl rfl dX6_turnList_14 ?_
  refine r_cSi (pc := 15) (As := [.ref (G.2.1 + c)]) (st := []) h lk_RX6_111 (c_hasRoomM x.2.1 G (mB σ c s hh xx m) c hc A (by rw [mB_sF]; exact hM) (by omega)) (by decide) rfl rfl (by first | decide | exact Nat.le_of_ble_eq_true rfl) (by decide) dX6_turnList_15 (fun r1 s2 q3 => ?_)
  rw [q3.1, q3.2]
  refine r_if_ne (pc := 18) (tgt := 22) h (by decide) dX6_turnList_18 (fun c18 => ?_) (fun c18 => ?_)
  · skip
    replace c18 := zB_n0.mp c18
    refine r_iload_n (pc := 22) h 3 rfl rfl dX6_turnList_22 ?_
    refine r_iconst (pc := 23) (v := nI 2) h (by decide) dX6_turnList_23 ?_
    refine r_icmp_ge (pc := 24) (tgt := 51) h (by decide) dX6_turnList_24 (fun _ => ?_) (fun c24 => absurd c24 (by decide))
    refine r_aload_n (pc := 51) h 2 rfl rfl dX6_turnList_51 ?_
    refine r_iload_n (pc := 52) h 1 rfl rfl dX6_turnList_52 ?_
    refine r_cSi (pc := 53) (As := [.ref (G.2.1 + c), .int (nI (q % 12))]) (st := []) h lk_RX6_123 (c_isListM x.2.1 G (mB σ c s hh xx m) c hc A (by rw [mB_sF]; exact hM) (by omega) (nI (q % 12))) (by decide) rfl rfl (by first | decide | exact Nat.le_of_ble_eq_true rfl) (by decide) dX6_turnList_53 (fun r4 s5 q6 => ?_)
    rw [q6.1, q6.2]
    refine r_if_eq (pc := 56) (tgt := 141) h (by decide) dX6_turnList_56 (fun c56 => ?_) (fun c56 => ?_)
    · skip
      replace c56 := zB_0.mp c56
      exact hret _ (⟨_, rfl, relM_no (fst3_n1 c56) hM⟩) 141 _ dX6_turnList_141
    · skip
      replace c56 := zB_n0.mp c56
      refine r_iload_n (pc := 59) h 3 rfl rfl dX6_turnList_59 ?_
      refine r_iconst (pc := 60) (v := nI 2) h (by decide) dX6_turnList_60 ?_
      refine r_icmp_ne (pc := 61) (tgt := 83) h (by decide) dX6_turnList_61 (fun _ => ?_) (fun c61 => absurd c61 (by decide))
      refine r_iload_n (pc := 83) h 3 rfl rfl dX6_turnList_83 ?_
      refine r_bipush (pc := 84) (v := nI 6) h (by decide) dX6_turnList_84 ?_
      refine r_icmp_ge (pc := 86) (tgt := 113) h (by decide) dX6_turnList_86 (fun _ => ?_) (fun c86 => absurd c86 (by decide))
      refine r_aload_n (pc := 113) h 2 rfl rfl dX6_turnList_113 ?_
      refine r_iload_n (pc := 114) h 3 rfl rfl dX6_turnList_114 ?_
      refine r_iconst (pc := 115) (v := nI 1) h (by decide) dX6_turnList_115 ?_
      refine r_isub (pc := 116) (v := nI 7) h (by decide) dX6_turnList_116 ?_
      refine r_iload_n (pc := 117) h 1 rfl rfl dX6_turnList_117 ?_
      refine r_iload_n (pc := 118) h 3 rfl rfl dX6_turnList_118 ?_
      refine r_bipush (pc := 119) (v := nI 7) h (by decide) dX6_turnList_119 ?_
      refine r_icmp_ne (pc := 121) (tgt := 135) h (by decide) dX6_turnList_121 (fun _ => ?_) (fun c121 => absurd c121 (by decide))
      refine r_iconst (pc := 135) (v := nI 0) h (by decide) dX6_turnList_135 ?_
      refine r_iconst (pc := 136) (v := nI 0) h (by decide) dX6_turnList_136 ?_
      refine r_cSi (pc := 137) (As := [.ref (G.2.1 + c), .int (nI 7), .int (nI (q % 12)), .int (nI 0), .int (nI 0)]) (st := []) h lk_RX6_115 (c_makeM x.2.1 G σ c hc s hh xx m A hA hM (7, (q % 12), 0, 0) (nI 0) (nI 0) (of_decide_eq_true c18) (fun _ q => absurd rfl q) (fun q => by cases q)) (by decide) rfl rfl (by first | decide | exact Nat.le_of_ble_eq_true rfl) (by decide) dX6_turnList_137 (fun r7 s8 q9 => ?_)
      obtain ⟨e9, s2, es, hs2⟩ := q9
      rw [e9]
      subst es
      refine r_pop (pc := 140) h rfl dX6_turnList_140 ?_
      exact hret _ (⟨_, rfl, relM_yes (fst3_y c56 rfl c18) (by show RelM (mkA A (7, toN (nI (q % 12)), 0, 0)) _; rw [toN_nI (show q % 12 < 2 ^ 31 by omega)]; exact hs2)⟩) 141 _ dX6_turnList_141
  · skip
    replace c18 := zB_0.mp c18
    exact hret _ (⟨_, rfl, relM_no (fst3_n3 c18) hM⟩) 21 _ dX6_turnList_21

set_option maxRecDepth 100000 in
set_option maxHeartbeats 800000 in
theorem c_turnOf (l : Launch) (G : Gl) (σ : Sg) (c : Nat) (hc : Rc c) (s hh xx m : Nat → Int32) (A : Ab) (hA : okA A) (hM : RelM A s) (r : Nat) (hr31 : r < 2 ^ 31) : Ci l yX6_turnOf cX6_turnOf 4 .int ({ frames := 4, cells := 0, slots := 0, locals := 91 } : Room) G [.ref (G.2.1 + 134), .ref (G.2.1 + c), .int (nI (r % 16)), .int (nI (r / 16))] (mB σ c s hh xx m) (fun r1 σ2 => r1 = turnV A r ∧ ∃ s2 h2 x2, σ2 = mB σ c s2 h2 x2 m ∧ RelM (turnA A r) s2) := by
  refine Ci_of (own := RX6) rfl (by decide +kernel) (lo := [(0, .ref (G.2.1 + 134)), (1, .ref (G.2.1 + c)), (2, .int (nI (r % 16))), (3, .int (nI (r / 16)))]) rfl (Nat.le_of_ble_eq_true rfl) (fun _ s hp => by obtain ⟨rfl, _⟩ := hp; rfl) ?_
  intro x Q hxl h hret
  subst hxl
  have h12 := hA.1
  have h4 := hA.2.1
  have h16 : r % 16 < 16 := Nat.mod_lt _ (by decide)
  have hwy := whyN_le A
  rcases (show r % 16 = 0 ∨ r % 16 = 1 ∨ r % 16 = 2 ∨ r % 16 = 3 ∨ r % 16 = 4 ∨ r % 16 = 5 ∨ r % 16 = 6 ∨ r % 16 = 7 ∨ r % 16 = 8 ∨ r % 16 = 9 ∨ r % 16 = 10 ∨ r % 16 = 11 ∨ r % 16 = 12 ∨ r % 16 = 13 ∨ r % 16 = 14 ∨ r % 16 = 15 by omega) with hm | hm | hm | hm | hm | hm | hm | hm | hm | hm | hm | hm | hm | hm | hm | hm
  · skip
    rw [hm]
    refine r_iload_n (pc := 0) h 2 rfl rfl dX6_turnOf_0 ?_
    refine r_bipush (pc := 1) (v := nI 9) h (by decide) dX6_turnOf_1 ?_
    refine r_icmp_ge (pc := 3) (tgt := 15) h (by decide) dX6_turnOf_3 (fun c3 => absurd c3 (by decide)) (fun _ => ?_)
    refine r_aload_n (pc := 6) h 1 rfl rfl dX6_turnOf_6 ?_
    refine r_iload_n (pc := 7) h 2 rfl rfl dX6_turnOf_7 ?_
    refine r_iload_n (pc := 8) h 3 rfl rfl dX6_turnOf_8 ?_
    refine r_cSv (pc := 9) (As := [.ref (G.2.1 + c), .int (nI 0), .int (nI (r / 16))]) (st := []) h lk_RX6_211 (c_turnList0 x.2.1 G σ c hc s hh xx m A hA hM (r / 16) (by omega)) (by decide) rfl rfl (by first | decide | exact Nat.le_of_ble_eq_true rfl) (by decide) dX6_turnOf_9 (fun s2 q3 => ?_)
    obtain ⟨s2, es, hs2⟩ := q3
    subst es
    refine r_goto (pc := 12) (tgt := 112) h (by decide) dX6_turnOf_12 ?_
    refine r_iconst (pc := 112) (v := nI 0) h (by decide) dX6_turnOf_112 ?_
    exact hret _ _ (⟨(by unfold turnV; rw [if_pos (by omega)]), _, _, _, rfl, by rw [show turnA A r = _ from by unfold turnA turnK; rw [hm]]; exact hs2⟩) 113 _ dX6_turnOf_113
  · skip
    rw [hm]
    refine r_iload_n (pc := 0) h 2 rfl rfl dX6_turnOf_0 ?_
    refine r_bipush (pc := 1) (v := nI 9) h (by decide) dX6_turnOf_1 ?_
    refine r_icmp_ge (pc := 3) (tgt := 15) h (by decide) dX6_turnOf_3 (fun c3 => absurd c3 (by decide)) (fun _ => ?_)
    refine r_aload_n (pc := 6) h 1 rfl rfl dX6_turnOf_6 ?_
    refine r_iload_n (pc := 7) h 2 rfl rfl dX6_turnOf_7 ?_
    refine r_iload_n (pc := 8) h 3 rfl rfl dX6_turnOf_8 ?_
    refine r_cSv (pc := 9) (As := [.ref (G.2.1 + c), .int (nI 1), .int (nI (r / 16))]) (st := []) h lk_RX6_211 (c_turnList1 x.2.1 G σ c hc s hh xx m A hA hM (r / 16) (by omega)) (by decide) rfl rfl (by first | decide | exact Nat.le_of_ble_eq_true rfl) (by decide) dX6_turnOf_9 (fun s5 q6 => ?_)
    obtain ⟨s2, es, hs2⟩ := q6
    subst es
    refine r_goto (pc := 12) (tgt := 112) h (by decide) dX6_turnOf_12 ?_
    refine r_iconst (pc := 112) (v := nI 0) h (by decide) dX6_turnOf_112 ?_
    exact hret _ _ (⟨(by unfold turnV; rw [if_pos (by omega)]), _, _, _, rfl, by rw [show turnA A r = _ from by unfold turnA turnK; rw [hm]]; exact hs2⟩) 113 _ dX6_turnOf_113
  · skip
    rw [hm]
    refine r_iload_n (pc := 0) h 2 rfl rfl dX6_turnOf_0 ?_
    refine r_bipush (pc := 1) (v := nI 9) h (by decide) dX6_turnOf_1 ?_
    refine r_icmp_ge (pc := 3) (tgt := 15) h (by decide) dX6_turnOf_3 (fun c3 => absurd c3 (by decide)) (fun _ => ?_)
    refine r_aload_n (pc := 6) h 1 rfl rfl dX6_turnOf_6 ?_
    refine r_iload_n (pc := 7) h 2 rfl rfl dX6_turnOf_7 ?_
    refine r_iload_n (pc := 8) h 3 rfl rfl dX6_turnOf_8 ?_
    refine r_cSv (pc := 9) (As := [.ref (G.2.1 + c), .int (nI 2), .int (nI (r / 16))]) (st := []) h lk_RX6_211 (c_turnList2 x.2.1 G σ c hc s hh xx m A hA hM (r / 16) (by omega)) (by decide) rfl rfl (by first | decide | exact Nat.le_of_ble_eq_true rfl) (by decide) dX6_turnOf_9 (fun s8 q9 => ?_)
    obtain ⟨s2, es, hs2⟩ := q9
    subst es
    refine r_goto (pc := 12) (tgt := 112) h (by decide) dX6_turnOf_12 ?_
    refine r_iconst (pc := 112) (v := nI 0) h (by decide) dX6_turnOf_112 ?_
    exact hret _ _ (⟨(by unfold turnV; rw [if_pos (by omega)]), _, _, _, rfl, by rw [show turnA A r = _ from by unfold turnA turnK; rw [hm]]; exact hs2⟩) 113 _ dX6_turnOf_113
  · skip
    rw [hm]
    refine r_iload_n (pc := 0) h 2 rfl rfl dX6_turnOf_0 ?_
    refine r_bipush (pc := 1) (v := nI 9) h (by decide) dX6_turnOf_1 ?_
    refine r_icmp_ge (pc := 3) (tgt := 15) h (by decide) dX6_turnOf_3 (fun c3 => absurd c3 (by decide)) (fun _ => ?_)
    refine r_aload_n (pc := 6) h 1 rfl rfl dX6_turnOf_6 ?_
    refine r_iload_n (pc := 7) h 2 rfl rfl dX6_turnOf_7 ?_
    refine r_iload_n (pc := 8) h 3 rfl rfl dX6_turnOf_8 ?_
    refine r_cSv (pc := 9) (As := [.ref (G.2.1 + c), .int (nI 3), .int (nI (r / 16))]) (st := []) h lk_RX6_211 (c_turnList3 x.2.1 G σ c hc s hh xx m A hA hM (r / 16) (by omega)) (by decide) rfl rfl (by first | decide | exact Nat.le_of_ble_eq_true rfl) (by decide) dX6_turnOf_9 (fun s11 q12 => ?_)
    obtain ⟨s2, es, hs2⟩ := q12
    subst es
    refine r_goto (pc := 12) (tgt := 112) h (by decide) dX6_turnOf_12 ?_
    refine r_iconst (pc := 112) (v := nI 0) h (by decide) dX6_turnOf_112 ?_
    exact hret _ _ (⟨(by unfold turnV; rw [if_pos (by omega)]), _, _, _, rfl, by rw [show turnA A r = _ from by unfold turnA turnK; rw [hm]]; exact hs2⟩) 113 _ dX6_turnOf_113
  · skip
    rw [hm]
    refine r_iload_n (pc := 0) h 2 rfl rfl dX6_turnOf_0 ?_
    refine r_bipush (pc := 1) (v := nI 9) h (by decide) dX6_turnOf_1 ?_
    refine r_icmp_ge (pc := 3) (tgt := 15) h (by decide) dX6_turnOf_3 (fun c3 => absurd c3 (by decide)) (fun _ => ?_)
    refine r_aload_n (pc := 6) h 1 rfl rfl dX6_turnOf_6 ?_
    refine r_iload_n (pc := 7) h 2 rfl rfl dX6_turnOf_7 ?_
    refine r_iload_n (pc := 8) h 3 rfl rfl dX6_turnOf_8 ?_
    refine r_cSv (pc := 9) (As := [.ref (G.2.1 + c), .int (nI 4), .int (nI (r / 16))]) (st := []) h lk_RX6_211 (c_turnList4 x.2.1 G σ c hc s hh xx m A hA hM (r / 16) (by omega)) (by decide) rfl rfl (by first | decide | exact Nat.le_of_ble_eq_true rfl) (by decide) dX6_turnOf_9 (fun s14 q15 => ?_)
    obtain ⟨s2, es, hs2⟩ := q15
    subst es
    refine r_goto (pc := 12) (tgt := 112) h (by decide) dX6_turnOf_12 ?_
    refine r_iconst (pc := 112) (v := nI 0) h (by decide) dX6_turnOf_112 ?_
    exact hret _ _ (⟨(by unfold turnV; rw [if_pos (by omega)]), _, _, _, rfl, by rw [show turnA A r = _ from by unfold turnA turnK; rw [hm]]; exact hs2⟩) 113 _ dX6_turnOf_113
  · skip
    rw [hm]
    refine r_iload_n (pc := 0) h 2 rfl rfl dX6_turnOf_0 ?_
    refine r_bipush (pc := 1) (v := nI 9) h (by decide) dX6_turnOf_1 ?_
    refine r_icmp_ge (pc := 3) (tgt := 15) h (by decide) dX6_turnOf_3 (fun c3 => absurd c3 (by decide)) (fun _ => ?_)
    refine r_aload_n (pc := 6) h 1 rfl rfl dX6_turnOf_6 ?_
    refine r_iload_n (pc := 7) h 2 rfl rfl dX6_turnOf_7 ?_
    refine r_iload_n (pc := 8) h 3 rfl rfl dX6_turnOf_8 ?_
    refine r_cSv (pc := 9) (As := [.ref (G.2.1 + c), .int (nI 5), .int (nI (r / 16))]) (st := []) h lk_RX6_211 (c_turnList5 x.2.1 G σ c hc s hh xx m A hA hM (r / 16) (by omega)) (by decide) rfl rfl (by first | decide | exact Nat.le_of_ble_eq_true rfl) (by decide) dX6_turnOf_9 (fun s17 q18 => ?_)
    obtain ⟨s2, es, hs2⟩ := q18
    subst es
    refine r_goto (pc := 12) (tgt := 112) h (by decide) dX6_turnOf_12 ?_
    refine r_iconst (pc := 112) (v := nI 0) h (by decide) dX6_turnOf_112 ?_
    exact hret _ _ (⟨(by unfold turnV; rw [if_pos (by omega)]), _, _, _, rfl, by rw [show turnA A r = _ from by unfold turnA turnK; rw [hm]]; exact hs2⟩) 113 _ dX6_turnOf_113
  · skip
    rw [hm]
    refine r_iload_n (pc := 0) h 2 rfl rfl dX6_turnOf_0 ?_
    refine r_bipush (pc := 1) (v := nI 9) h (by decide) dX6_turnOf_1 ?_
    refine r_icmp_ge (pc := 3) (tgt := 15) h (by decide) dX6_turnOf_3 (fun c3 => absurd c3 (by decide)) (fun _ => ?_)
    refine r_aload_n (pc := 6) h 1 rfl rfl dX6_turnOf_6 ?_
    refine r_iload_n (pc := 7) h 2 rfl rfl dX6_turnOf_7 ?_
    refine r_iload_n (pc := 8) h 3 rfl rfl dX6_turnOf_8 ?_
    refine r_cSv (pc := 9) (As := [.ref (G.2.1 + c), .int (nI 6), .int (nI (r / 16))]) (st := []) h lk_RX6_211 (c_turnList6 x.2.1 G σ c hc s hh xx m A hA hM (r / 16) (by omega)) (by decide) rfl rfl (by first | decide | exact Nat.le_of_ble_eq_true rfl) (by decide) dX6_turnOf_9 (fun s20 q21 => ?_)
    obtain ⟨s2, es, hs2⟩ := q21
    subst es
    refine r_goto (pc := 12) (tgt := 112) h (by decide) dX6_turnOf_12 ?_
    refine r_iconst (pc := 112) (v := nI 0) h (by decide) dX6_turnOf_112 ?_
    exact hret _ _ (⟨(by unfold turnV; rw [if_pos (by omega)]), _, _, _, rfl, by rw [show turnA A r = _ from by unfold turnA turnK; rw [hm]]; exact hs2⟩) 113 _ dX6_turnOf_113
  · skip
    rw [hm]
    refine r_iload_n (pc := 0) h 2 rfl rfl dX6_turnOf_0 ?_
    refine r_bipush (pc := 1) (v := nI 9) h (by decide) dX6_turnOf_1 ?_
    refine r_icmp_ge (pc := 3) (tgt := 15) h (by decide) dX6_turnOf_3 (fun c3 => absurd c3 (by decide)) (fun _ => ?_)
    refine r_aload_n (pc := 6) h 1 rfl rfl dX6_turnOf_6 ?_
    refine r_iload_n (pc := 7) h 2 rfl rfl dX6_turnOf_7 ?_
    refine r_iload_n (pc := 8) h 3 rfl rfl dX6_turnOf_8 ?_
    refine r_cSv (pc := 9) (As := [.ref (G.2.1 + c), .int (nI 7), .int (nI (r / 16))]) (st := []) h lk_RX6_211 (c_turnList7 x.2.1 G σ c hc s hh xx m A hA hM (r / 16) (by omega)) (by decide) rfl rfl (by first | decide | exact Nat.le_of_ble_eq_true rfl) (by decide) dX6_turnOf_9 (fun s23 q24 => ?_)
    obtain ⟨s2, es, hs2⟩ := q24
    subst es
    refine r_goto (pc := 12) (tgt := 112) h (by decide) dX6_turnOf_12 ?_
    refine r_iconst (pc := 112) (v := nI 0) h (by decide) dX6_turnOf_112 ?_
    exact hret _ _ (⟨(by unfold turnV; rw [if_pos (by omega)]), _, _, _, rfl, by rw [show turnA A r = _ from by unfold turnA turnK; rw [hm]]; exact hs2⟩) 113 _ dX6_turnOf_113
  · skip
    rw [hm]
    refine r_iload_n (pc := 0) h 2 rfl rfl dX6_turnOf_0 ?_
    refine r_bipush (pc := 1) (v := nI 9) h (by decide) dX6_turnOf_1 ?_
    refine r_icmp_ge (pc := 3) (tgt := 15) h (by decide) dX6_turnOf_3 (fun c3 => absurd c3 (by decide)) (fun _ => ?_)
    refine r_aload_n (pc := 6) h 1 rfl rfl dX6_turnOf_6 ?_
    refine r_iload_n (pc := 7) h 2 rfl rfl dX6_turnOf_7 ?_
    refine r_iload_n (pc := 8) h 3 rfl rfl dX6_turnOf_8 ?_
    refine r_cSv (pc := 9) (As := [.ref (G.2.1 + c), .int (nI 8), .int (nI (r / 16))]) (st := []) h lk_RX6_211 (c_turnList8 x.2.1 G σ c hc s hh xx m A hA hM (r / 16) (by omega)) (by decide) rfl rfl (by first | decide | exact Nat.le_of_ble_eq_true rfl) (by decide) dX6_turnOf_9 (fun s26 q27 => ?_)
    obtain ⟨s2, es, hs2⟩ := q27
    subst es
    refine r_goto (pc := 12) (tgt := 112) h (by decide) dX6_turnOf_12 ?_
    refine r_iconst (pc := 112) (v := nI 0) h (by decide) dX6_turnOf_112 ?_
    exact hret _ _ (⟨(by unfold turnV; rw [if_pos (by omega)]), _, _, _, rfl, by rw [show turnA A r = _ from by unfold turnA turnK; rw [hm]]; exact hs2⟩) 113 _ dX6_turnOf_113
  · skip
    rw [hm]
    refine r_iload_n (pc := 0) h 2 rfl rfl dX6_turnOf_0 ?_
    refine r_bipush (pc := 1) (v := nI 9) h (by decide) dX6_turnOf_1 ?_
    refine r_icmp_ge (pc := 3) (tgt := 15) h (by decide) dX6_turnOf_3 (fun _ => ?_) (fun c3 => absurd c3 (by decide))
    refine r_iload_n (pc := 15) h 2 rfl rfl dX6_turnOf_15 ?_
    refine r_bipush (pc := 16) (v := nI 9) h (by decide) dX6_turnOf_16 ?_
    refine r_icmp_ne (pc := 18) (tgt := 51) h (by decide) dX6_turnOf_18 (fun c18 => absurd c18 (by decide)) (fun _ => ?_)
    refine r_aload_n (pc := 21) h 1 rfl rfl dX6_turnOf_21 ?_
    refine r_iload_n (pc := 22) h 3 rfl rfl dX6_turnOf_22 ?_
    refine r_bipush (pc := 23) (v := nI 12) h (by decide) dX6_turnOf_23 ?_
    refine r_irem (pc := 25) (v := nI ((r / 16) % 12)) h (by decide) (pk_rem (by omega) (by omega) (by omega)) dX6_turnOf_25 ?_
    refine r_cSi (pc := 26) (As := [.ref (G.2.1 + c), .int (nI ((r / 16) % 12))]) (st := []) h lk_RX6_123 (c_isListM x.2.1 G (mB σ c s hh xx m) c hc A (by rw [mB_sF]; exact hM) (by omega) (nI ((r / 16) % 12))) (by decide) rfl rfl (by first | decide | exact Nat.le_of_ble_eq_true rfl) (by decide) dX6_turnOf_26 (fun r28 s29 q30 => ?_)
    rw [q30.1, q30.2]
    refine r_if_eq (pc := 29) (tgt := 112) h (by decide) dX6_turnOf_29 (fun c29 => ?_) (fun c29 => ?_)
    · skip
      replace c29 := zB_0.mp c29
      refine r_iconst (pc := 112) (v := nI 0) h (by decide) dX6_turnOf_112 ?_
      exact hret _ _ (⟨(by unfold turnV; rw [if_pos (by omega)]), _, _, _, rfl, by rw [show turnA A r = _ from by unfold turnA turnK; rw [hm]]; exact relM_no (fst3_n1 c29) hM⟩) 113 _ dX6_turnOf_113
    · skip
      replace c29 := zB_n0.mp c29
      refine r_aload_n (pc := 32) h 1 rfl rfl dX6_turnOf_32 ?_
      refine r_iconst (pc := 33) (v := nI 1) h (by decide) dX6_turnOf_33 ?_
      refine r_iald (pc := 34) h (a_rc hc) 1 rfl (by omega) dX6_turnOf_34 ?_
      refine r_topi (b := s 1) (mB_s _) ?_
      refine r_topi (b := nI A.2.1) hM.2.1 ?_
      refine r_iconst (pc := 35) (v := nI 4) h (by decide) dX6_turnOf_35 ?_
      refine r_icmp_ge (pc := 36) (tgt := 112) h (by decide) dX6_turnOf_36 (fun c36 => ?_) (fun c36 => ?_)
      · skip
        rw [nI_leI (by omega) (by omega)] at c36
        refine r_iconst (pc := 112) (v := nI 0) h (by decide) dX6_turnOf_112 ?_
        exact hret _ _ (⟨(by unfold turnV; rw [if_pos (by omega)]), _, _, _, rfl, by rw [show turnA A r = _ from by unfold turnA turnK; rw [hm]]; exact relM_no (fst3_n3 (decide_eq_false (by omega))) hM⟩) 113 _ dX6_turnOf_113
      · skip
        rw [nI_leI (by omega) (by omega)] at c36
        have c36 : A.2.1 < 4 := by omega
        refine r_aload_n (pc := 39) h 1 rfl rfl dX6_turnOf_39 ?_
        refine r_iload_n (pc := 40) h 3 rfl rfl dX6_turnOf_40 ?_
        refine r_bipush (pc := 41) (v := nI 12) h (by decide) dX6_turnOf_41 ?_
        refine r_irem (pc := 43) (v := nI ((r / 16) % 12)) h (by decide) (pk_rem (by omega) (by omega) (by omega)) dX6_turnOf_43 ?_
        refine r_cSi (pc := 44) (As := [.ref (G.2.1 + c), .int (nI ((r / 16) % 12))]) (st := []) h lk_RX6_157 (c_beginM x.2.1 G σ c hc s hh xx m A hA hM ((r / 16) % 12) (by omega)) (by decide) rfl rfl (by first | decide | exact Nat.le_of_ble_eq_true rfl) (by decide) dX6_turnOf_44 (fun r31 s32 q33 => ?_)
        obtain ⟨e9, s2, es, hs2⟩ := q33
        rw [e9]
        subst es
        refine r_pop (pc := 47) h rfl dX6_turnOf_47 ?_
        refine r_goto (pc := 48) (tgt := 112) h (by decide) dX6_turnOf_48 ?_
        refine r_iconst (pc := 112) (v := nI 0) h (by decide) dX6_turnOf_112 ?_
        exact hret _ _ (⟨(by unfold turnV; rw [if_pos (by omega)]), _, _, _, rfl, by rw [show turnA A r = _ from by unfold turnA turnK; rw [hm]]; exact relM_yes (fst3_y c29 rfl (decide_eq_true c36)) (by show RelM (A.1, A.2.1 + 1, A.2.2.1, aU A, va_up (aL A) A.2.1 (toN (nI (r / 16 % 12))), va_up (aP A) A.2.1 0) _; rw [toN_nI (show r / 16 % 12 < 2 ^ 31 by omega)]; exact hs2)⟩) 113 _ dX6_turnOf_113
  · skip
    rw [hm]
    refine r_iload_n (pc := 0) h 2 rfl rfl dX6_turnOf_0 ?_
    refine r_bipush (pc := 1) (v := nI 9) h (by decide) dX6_turnOf_1 ?_
    refine r_icmp_ge (pc := 3) (tgt := 15) h (by decide) dX6_turnOf_3 (fun _ => ?_) (fun c3 => absurd c3 (by decide))
    refine r_iload_n (pc := 15) h 2 rfl rfl dX6_turnOf_15 ?_
    refine r_bipush (pc := 16) (v := nI 9) h (by decide) dX6_turnOf_16 ?_
    refine r_icmp_ne (pc := 18) (tgt := 51) h (by decide) dX6_turnOf_18 (fun _ => ?_) (fun c18 => absurd c18 (by decide))
    refine r_iload_n (pc := 51) h 2 rfl rfl dX6_turnOf_51 ?_
    refine r_bipush (pc := 52) (v := nI 10) h (by decide) dX6_turnOf_52 ?_
    refine r_icmp_ne (pc := 54) (tgt := 72) h (by decide) dX6_turnOf_54 (fun c54 => absurd c54 (by decide)) (fun _ => ?_)
    refine r_aload_n (pc := 57) h 1 rfl rfl dX6_turnOf_57 ?_
    refine r_cSi (pc := 58) (As := [.ref (G.2.1 + c)]) (st := []) h lk_RX6_163 (c_reasonM x.2.1 G (mB σ c s hh xx m) c hc A (by rw [mB_sF]; exact hM) hA) (by decide) rfl rfl (by first | decide | exact Nat.le_of_ble_eq_true rfl) (by decide) dX6_turnOf_58 (fun r34 s35 q36 => ?_)
    rw [q36.1, q36.2]
    refine r_if_ne (pc := 61) (tgt := 112) h (by decide) dX6_turnOf_61 (fun c61 => ?_) (fun c61 => ?_)
    · skip
      rw [zI0, nI_eq (by omega) (by omega)] at c61
      refine r_iconst (pc := 112) (v := nI 0) h (by decide) dX6_turnOf_112 ?_
      exact hret _ _ (⟨(by unfold turnV; rw [if_pos (by omega)]), _, _, _, rfl, by rw [show turnA A r = _ from by unfold turnA turnK; rw [hm]]; exact relM_no (fst3_n3 (decide_eq_false c61)) hM⟩) 113 _ dX6_turnOf_113
    · skip
      rw [zI0, nI_eq (by omega) (by omega)] at c61
      have hw1 := why_0 c61
      refine r_aload_n (pc := 64) h 1 rfl rfl dX6_turnOf_64 ?_
      refine r_cSi (pc := 65) (As := [.ref (G.2.1 + c)]) (st := []) h lk_RX6_167 (c_dropM x.2.1 G σ c hc s hh xx m A hA hM (by omega)) (by decide) rfl rfl (by first | decide | exact Nat.le_of_ble_eq_true rfl) (by decide) dX6_turnOf_65 (fun r37 s38 q39 => ?_)
      obtain ⟨e9, s2, es, hs2⟩ := q39
      rw [e9]
      subst es
      refine r_pop (pc := 68) h rfl dX6_turnOf_68 ?_
      refine r_goto (pc := 69) (tgt := 112) h (by decide) dX6_turnOf_69 ?_
      refine r_iconst (pc := 112) (v := nI 0) h (by decide) dX6_turnOf_112 ?_
      exact hret _ _ (⟨(by unfold turnV; rw [if_pos (by omega)]), _, _, _, rfl, by rw [show turnA A r = _ from by unfold turnA turnK; rw [hm]]; exact relM_yes (fst3_y rfl rfl (decide_eq_true c61)) hs2⟩) 113 _ dX6_turnOf_113
  · skip
    rw [hm]
    refine r_iload_n (pc := 0) h 2 rfl rfl dX6_turnOf_0 ?_
    refine r_bipush (pc := 1) (v := nI 9) h (by decide) dX6_turnOf_1 ?_
    refine r_icmp_ge (pc := 3) (tgt := 15) h (by decide) dX6_turnOf_3 (fun _ => ?_) (fun c3 => absurd c3 (by decide))
    refine r_iload_n (pc := 15) h 2 rfl rfl dX6_turnOf_15 ?_
    refine r_bipush (pc := 16) (v := nI 9) h (by decide) dX6_turnOf_16 ?_
    refine r_icmp_ne (pc := 18) (tgt := 51) h (by decide) dX6_turnOf_18 (fun _ => ?_) (fun c18 => absurd c18 (by decide))
    refine r_iload_n (pc := 51) h 2 rfl rfl dX6_turnOf_51 ?_
    refine r_bipush (pc := 52) (v := nI 10) h (by decide) dX6_turnOf_52 ?_
    refine r_icmp_ne (pc := 54) (tgt := 72) h (by decide) dX6_turnOf_54 (fun _ => ?_) (fun c54 => absurd c54 (by decide))
    refine r_aload_n (pc := 72) h 1 rfl rfl dX6_turnOf_72 ?_
    refine r_iload_n (pc := 73) h 3 rfl rfl dX6_turnOf_73 ?_
    refine r_iconst (pc := 74) (v := nI 4) h (by decide) dX6_turnOf_74 ?_
    refine r_irem (pc := 75) (v := nI ((r / 16) % 4)) h (by decide) (pk_rem (by omega) (by omega) (by omega)) dX6_turnOf_75 ?_
    refine r_cSi (pc := 76) (As := [.ref (G.2.1 + c), .int (nI ((r / 16) % 4))]) (st := []) h lk_RX6_130 (c_isReaderM x.2.1 G (mB σ c s hh xx m) c hc A (by rw [mB_sF]; exact hM) (by omega) (nI ((r / 16) % 4))) (by decide) rfl rfl (by first | decide | exact Nat.le_of_ble_eq_true rfl) (by decide) dX6_turnOf_76 (fun r40 s41 q42 => ?_)
    rw [q42.1, q42.2]
    refine r_if_eq (pc := 79) (tgt := 112) h (by decide) dX6_turnOf_79 (fun c79 => ?_) (fun c79 => ?_)
    · skip
      replace c79 := zB_0.mp c79
      refine r_iconst (pc := 112) (v := nI 0) h (by decide) dX6_turnOf_112 ?_
      have hob : ¬ ob A 110 (nI (r / 16 % 4)) (nI 0) (nI 0) = 0 := fst3_n1 c79
      exact hret _ _ (⟨by unfold turnV; rw [if_neg (by omega), if_neg hob], _, _, _, rfl, by rw [show turnA A r = _ from by unfold turnA; rw [turnK_d (by omega)]]; exact relM_no hob hM⟩) 113 _ dX6_turnOf_113
    · skip
      replace c79 := zB_n0.mp c79
      obtain ⟨i9, ei9, hi9⟩ := rdB_nI h4 c79
      have hv1r : r / 16 % 4 < A.2.1 := by rw [nI_eq (by omega) (by omega)] at ei9; omega
      refine r_aload_n (pc := 82) h 0 rfl rfl dX6_turnOf_82 ?_
      refine r_aload_n (pc := 83) h 1 rfl rfl dX6_turnOf_83 ?_
      refine r_cVv (pc := 84) (As := [.ref (G.2.1 + c)]) (st := []) h lk_RX6_127 (c_finds x.2.1 G σ c hc s hh xx m A hA hM) rc_6 (by decide) rfl rfl (by first | decide | exact Nat.le_of_ble_eq_true rfl) (by decide) dX6_turnOf_84 (fun s44 q45 => ?_)
      obtain ⟨h2, x2, e8, hH⟩ := q45
      subst e8
      refine r_aload_n (pc := 87) h 0 rfl rfl dX6_turnOf_87 ?_
      refine r_aload_n (pc := 88) h 1 rfl rfl dX6_turnOf_88 ?_
      refine r_iload_n (pc := 89) h 3 rfl rfl dX6_turnOf_89 ?_
      refine r_iconst (pc := 90) (v := nI 4) h (by decide) dX6_turnOf_90 ?_
      refine r_irem (pc := 91) (v := nI ((r / 16) % 4)) h (by decide) (pk_rem (by omega) (by omega) (by omega)) dX6_turnOf_91 ?_
      refine r_cVi (pc := 92) (As := [.ref (G.2.1 + c), .int (nI ((r / 16) % 4))]) (st := []) h lk_RX6_84 (c_next x.2.1 G (mB σ c s h2 x2 m) c hc A (by rw [mB_sF]; exact hM) hA ((r / 16) % 4) (by omega) (fun L hL v hv => (mB_h hc _).trans (hH L hL v hv))) rc_6 (by decide) rfl rfl (by first | decide | exact Nat.le_of_ble_eq_true rfl) (by decide) dX6_turnOf_92 (fun r46 s47 q48 => ?_)
      rw [q48.1, q48.2]
      refine r_iconst (pc := 95) (v := (-1)) h (by decide) dX6_turnOf_95 ?_
      refine r_icmp_ne (pc := 96) (tgt := 103) h (by decide) dX6_turnOf_96 (fun c96 => ?_) (fun c96 => ?_)
      · skip
        rw [oI_nextO] at c96
        refine r_aload_n (pc := 103) h 0 rfl rfl dX6_turnOf_103 ?_
        refine r_aload_n (pc := 104) h 1 rfl rfl dX6_turnOf_104 ?_
        refine r_iload_n (pc := 105) h 3 rfl rfl dX6_turnOf_105 ?_
        refine r_iconst (pc := 106) (v := nI 4) h (by decide) dX6_turnOf_106 ?_
        refine r_irem (pc := 107) (v := nI ((r / 16) % 4)) h (by decide) (pk_rem (by omega) (by omega) (by omega)) dX6_turnOf_107 ?_
        refine r_cVi (pc := 108) (As := [.ref (G.2.1 + c), .int (nI ((r / 16) % 4))]) (st := []) h lk_RX6_133 (c_readOn x.2.1 G σ c hc s h2 x2 m A hA hM ((r / 16) % 4) (by omega) hH) rc_6 (by decide) rfl rfl (by first | decide | exact Nat.le_of_ble_eq_true rfl) (by decide) dX6_turnOf_108 (fun r49 s50 q51 => ?_)
        obtain ⟨e9, s2, es, hs2⟩ := q51
        rw [e9]
        subst es
        have hob : ob A 110 (nI (r / 16 % 4)) (nI 0) (nI 0) = 0 := fst3_y c79 rfl (by rw [toN_nI (show r / 16 % 4 < 2 ^ 31 by omega)]; exact isSome_t c96)
        exact hret _ _ (⟨by unfold turnV; rw [if_neg (by omega), if_pos hob]; show _ = oI (nextO A (toN (nI (r / 16 % 4)))); rw [toN_nI (show r / 16 % 4 < 2 ^ 31 by omega)], _, _, _, rfl, by rw [show turnA A r = _ from by unfold turnA; rw [turnK_d (by omega)]]; exact relM_yes hob (by show RelM (A.1, A.2.1, A.2.2.1 + 1, aU A, aL A, va_up (aP A) (toN (nI (r / 16 % 4))) (aP A (toN (nI (r / 16 % 4))) + 1)) _; rw [toN_nI (show r / 16 % 4 < 2 ^ 31 by omega)]; exact hs2)⟩) 111 _ dX6_turnOf_111
      · skip
        rw [oI_nextO] at c96
        refine r_iconst (pc := 99) (v := nI 0) h (by decide) dX6_turnOf_99 ?_
        refine r_goto (pc := 100) (tgt := 111) h (by decide) dX6_turnOf_100 ?_
        have hob : ¬ ob A 110 (nI (r / 16 % 4)) (nI 0) (nI 0) = 0 := fst3_n3 (by rw [toN_nI (show r / 16 % 4 < 2 ^ 31 by omega)]; exact isSome_f c96)
        exact hret _ _ (⟨by unfold turnV; rw [if_neg (by omega), if_neg hob], _, _, _, rfl, by rw [show turnA A r = _ from by unfold turnA; rw [turnK_d (by omega)]]; exact relM_no hob hM⟩) 111 _ dX6_turnOf_111
  · skip
    rw [hm]
    refine r_iload_n (pc := 0) h 2 rfl rfl dX6_turnOf_0 ?_
    refine r_bipush (pc := 1) (v := nI 9) h (by decide) dX6_turnOf_1 ?_
    refine r_icmp_ge (pc := 3) (tgt := 15) h (by decide) dX6_turnOf_3 (fun _ => ?_) (fun c3 => absurd c3 (by decide))
    refine r_iload_n (pc := 15) h 2 rfl rfl dX6_turnOf_15 ?_
    refine r_bipush (pc := 16) (v := nI 9) h (by decide) dX6_turnOf_16 ?_
    refine r_icmp_ne (pc := 18) (tgt := 51) h (by decide) dX6_turnOf_18 (fun _ => ?_) (fun c18 => absurd c18 (by decide))
    refine r_iload_n (pc := 51) h 2 rfl rfl dX6_turnOf_51 ?_
    refine r_bipush (pc := 52) (v := nI 10) h (by decide) dX6_turnOf_52 ?_
    refine r_icmp_ne (pc := 54) (tgt := 72) h (by decide) dX6_turnOf_54 (fun _ => ?_) (fun c54 => absurd c54 (by decide))
    refine r_aload_n (pc := 72) h 1 rfl rfl dX6_turnOf_72 ?_
    refine r_iload_n (pc := 73) h 3 rfl rfl dX6_turnOf_73 ?_
    refine r_iconst (pc := 74) (v := nI 4) h (by decide) dX6_turnOf_74 ?_
    refine r_irem (pc := 75) (v := nI ((r / 16) % 4)) h (by decide) (pk_rem (by omega) (by omega) (by omega)) dX6_turnOf_75 ?_
    refine r_cSi (pc := 76) (As := [.ref (G.2.1 + c), .int (nI ((r / 16) % 4))]) (st := []) h lk_RX6_130 (c_isReaderM x.2.1 G (mB σ c s hh xx m) c hc A (by rw [mB_sF]; exact hM) (by omega) (nI ((r / 16) % 4))) (by decide) rfl rfl (by first | decide | exact Nat.le_of_ble_eq_true rfl) (by decide) dX6_turnOf_76 (fun r52 s53 q54 => ?_)
    rw [q54.1, q54.2]
    refine r_if_eq (pc := 79) (tgt := 112) h (by decide) dX6_turnOf_79 (fun c79 => ?_) (fun c79 => ?_)
    · skip
      replace c79 := zB_0.mp c79
      refine r_iconst (pc := 112) (v := nI 0) h (by decide) dX6_turnOf_112 ?_
      have hob : ¬ ob A 110 (nI (r / 16 % 4)) (nI 0) (nI 0) = 0 := fst3_n1 c79
      exact hret _ _ (⟨by unfold turnV; rw [if_neg (by omega), if_neg hob], _, _, _, rfl, by rw [show turnA A r = _ from by unfold turnA; rw [turnK_d (by omega)]]; exact relM_no hob hM⟩) 113 _ dX6_turnOf_113
    · skip
      replace c79 := zB_n0.mp c79
      obtain ⟨i9, ei9, hi9⟩ := rdB_nI h4 c79
      have hv1r : r / 16 % 4 < A.2.1 := by rw [nI_eq (by omega) (by omega)] at ei9; omega
      refine r_aload_n (pc := 82) h 0 rfl rfl dX6_turnOf_82 ?_
      refine r_aload_n (pc := 83) h 1 rfl rfl dX6_turnOf_83 ?_
      refine r_cVv (pc := 84) (As := [.ref (G.2.1 + c)]) (st := []) h lk_RX6_127 (c_finds x.2.1 G σ c hc s hh xx m A hA hM) rc_6 (by decide) rfl rfl (by first | decide | exact Nat.le_of_ble_eq_true rfl) (by decide) dX6_turnOf_84 (fun s56 q57 => ?_)
      obtain ⟨h2, x2, e8, hH⟩ := q57
      subst e8
      refine r_aload_n (pc := 87) h 0 rfl rfl dX6_turnOf_87 ?_
      refine r_aload_n (pc := 88) h 1 rfl rfl dX6_turnOf_88 ?_
      refine r_iload_n (pc := 89) h 3 rfl rfl dX6_turnOf_89 ?_
      refine r_iconst (pc := 90) (v := nI 4) h (by decide) dX6_turnOf_90 ?_
      refine r_irem (pc := 91) (v := nI ((r / 16) % 4)) h (by decide) (pk_rem (by omega) (by omega) (by omega)) dX6_turnOf_91 ?_
      refine r_cVi (pc := 92) (As := [.ref (G.2.1 + c), .int (nI ((r / 16) % 4))]) (st := []) h lk_RX6_84 (c_next x.2.1 G (mB σ c s h2 x2 m) c hc A (by rw [mB_sF]; exact hM) hA ((r / 16) % 4) (by omega) (fun L hL v hv => (mB_h hc _).trans (hH L hL v hv))) rc_6 (by decide) rfl rfl (by first | decide | exact Nat.le_of_ble_eq_true rfl) (by decide) dX6_turnOf_92 (fun r58 s59 q60 => ?_)
      rw [q60.1, q60.2]
      refine r_iconst (pc := 95) (v := (-1)) h (by decide) dX6_turnOf_95 ?_
      refine r_icmp_ne (pc := 96) (tgt := 103) h (by decide) dX6_turnOf_96 (fun c96 => ?_) (fun c96 => ?_)
      · skip
        rw [oI_nextO] at c96
        refine r_aload_n (pc := 103) h 0 rfl rfl dX6_turnOf_103 ?_
        refine r_aload_n (pc := 104) h 1 rfl rfl dX6_turnOf_104 ?_
        refine r_iload_n (pc := 105) h 3 rfl rfl dX6_turnOf_105 ?_
        refine r_iconst (pc := 106) (v := nI 4) h (by decide) dX6_turnOf_106 ?_
        refine r_irem (pc := 107) (v := nI ((r / 16) % 4)) h (by decide) (pk_rem (by omega) (by omega) (by omega)) dX6_turnOf_107 ?_
        refine r_cVi (pc := 108) (As := [.ref (G.2.1 + c), .int (nI ((r / 16) % 4))]) (st := []) h lk_RX6_133 (c_readOn x.2.1 G σ c hc s h2 x2 m A hA hM ((r / 16) % 4) (by omega) hH) rc_6 (by decide) rfl rfl (by first | decide | exact Nat.le_of_ble_eq_true rfl) (by decide) dX6_turnOf_108 (fun r61 s62 q63 => ?_)
        obtain ⟨e9, s2, es, hs2⟩ := q63
        rw [e9]
        subst es
        have hob : ob A 110 (nI (r / 16 % 4)) (nI 0) (nI 0) = 0 := fst3_y c79 rfl (by rw [toN_nI (show r / 16 % 4 < 2 ^ 31 by omega)]; exact isSome_t c96)
        exact hret _ _ (⟨by unfold turnV; rw [if_neg (by omega), if_pos hob]; show _ = oI (nextO A (toN (nI (r / 16 % 4)))); rw [toN_nI (show r / 16 % 4 < 2 ^ 31 by omega)], _, _, _, rfl, by rw [show turnA A r = _ from by unfold turnA; rw [turnK_d (by omega)]]; exact relM_yes hob (by show RelM (A.1, A.2.1, A.2.2.1 + 1, aU A, aL A, va_up (aP A) (toN (nI (r / 16 % 4))) (aP A (toN (nI (r / 16 % 4))) + 1)) _; rw [toN_nI (show r / 16 % 4 < 2 ^ 31 by omega)]; exact hs2)⟩) 111 _ dX6_turnOf_111
      · skip
        rw [oI_nextO] at c96
        refine r_iconst (pc := 99) (v := nI 0) h (by decide) dX6_turnOf_99 ?_
        refine r_goto (pc := 100) (tgt := 111) h (by decide) dX6_turnOf_100 ?_
        have hob : ¬ ob A 110 (nI (r / 16 % 4)) (nI 0) (nI 0) = 0 := fst3_n3 (by rw [toN_nI (show r / 16 % 4 < 2 ^ 31 by omega)]; exact isSome_f c96)
        exact hret _ _ (⟨by unfold turnV; rw [if_neg (by omega), if_neg hob], _, _, _, rfl, by rw [show turnA A r = _ from by unfold turnA; rw [turnK_d (by omega)]]; exact relM_no hob hM⟩) 111 _ dX6_turnOf_111
  · skip
    rw [hm]
    refine r_iload_n (pc := 0) h 2 rfl rfl dX6_turnOf_0 ?_
    refine r_bipush (pc := 1) (v := nI 9) h (by decide) dX6_turnOf_1 ?_
    refine r_icmp_ge (pc := 3) (tgt := 15) h (by decide) dX6_turnOf_3 (fun _ => ?_) (fun c3 => absurd c3 (by decide))
    refine r_iload_n (pc := 15) h 2 rfl rfl dX6_turnOf_15 ?_
    refine r_bipush (pc := 16) (v := nI 9) h (by decide) dX6_turnOf_16 ?_
    refine r_icmp_ne (pc := 18) (tgt := 51) h (by decide) dX6_turnOf_18 (fun _ => ?_) (fun c18 => absurd c18 (by decide))
    refine r_iload_n (pc := 51) h 2 rfl rfl dX6_turnOf_51 ?_
    refine r_bipush (pc := 52) (v := nI 10) h (by decide) dX6_turnOf_52 ?_
    refine r_icmp_ne (pc := 54) (tgt := 72) h (by decide) dX6_turnOf_54 (fun _ => ?_) (fun c54 => absurd c54 (by decide))
    refine r_aload_n (pc := 72) h 1 rfl rfl dX6_turnOf_72 ?_
    refine r_iload_n (pc := 73) h 3 rfl rfl dX6_turnOf_73 ?_
    refine r_iconst (pc := 74) (v := nI 4) h (by decide) dX6_turnOf_74 ?_
    refine r_irem (pc := 75) (v := nI ((r / 16) % 4)) h (by decide) (pk_rem (by omega) (by omega) (by omega)) dX6_turnOf_75 ?_
    refine r_cSi (pc := 76) (As := [.ref (G.2.1 + c), .int (nI ((r / 16) % 4))]) (st := []) h lk_RX6_130 (c_isReaderM x.2.1 G (mB σ c s hh xx m) c hc A (by rw [mB_sF]; exact hM) (by omega) (nI ((r / 16) % 4))) (by decide) rfl rfl (by first | decide | exact Nat.le_of_ble_eq_true rfl) (by decide) dX6_turnOf_76 (fun r64 s65 q66 => ?_)
    rw [q66.1, q66.2]
    refine r_if_eq (pc := 79) (tgt := 112) h (by decide) dX6_turnOf_79 (fun c79 => ?_) (fun c79 => ?_)
    · skip
      replace c79 := zB_0.mp c79
      refine r_iconst (pc := 112) (v := nI 0) h (by decide) dX6_turnOf_112 ?_
      have hob : ¬ ob A 110 (nI (r / 16 % 4)) (nI 0) (nI 0) = 0 := fst3_n1 c79
      exact hret _ _ (⟨by unfold turnV; rw [if_neg (by omega), if_neg hob], _, _, _, rfl, by rw [show turnA A r = _ from by unfold turnA; rw [turnK_d (by omega)]]; exact relM_no hob hM⟩) 113 _ dX6_turnOf_113
    · skip
      replace c79 := zB_n0.mp c79
      obtain ⟨i9, ei9, hi9⟩ := rdB_nI h4 c79
      have hv1r : r / 16 % 4 < A.2.1 := by rw [nI_eq (by omega) (by omega)] at ei9; omega
      refine r_aload_n (pc := 82) h 0 rfl rfl dX6_turnOf_82 ?_
      refine r_aload_n (pc := 83) h 1 rfl rfl dX6_turnOf_83 ?_
      refine r_cVv (pc := 84) (As := [.ref (G.2.1 + c)]) (st := []) h lk_RX6_127 (c_finds x.2.1 G σ c hc s hh xx m A hA hM) rc_6 (by decide) rfl rfl (by first | decide | exact Nat.le_of_ble_eq_true rfl) (by decide) dX6_turnOf_84 (fun s68 q69 => ?_)
      obtain ⟨h2, x2, e8, hH⟩ := q69
      subst e8
      refine r_aload_n (pc := 87) h 0 rfl rfl dX6_turnOf_87 ?_
      refine r_aload_n (pc := 88) h 1 rfl rfl dX6_turnOf_88 ?_
      refine r_iload_n (pc := 89) h 3 rfl rfl dX6_turnOf_89 ?_
      refine r_iconst (pc := 90) (v := nI 4) h (by decide) dX6_turnOf_90 ?_
      refine r_irem (pc := 91) (v := nI ((r / 16) % 4)) h (by decide) (pk_rem (by omega) (by omega) (by omega)) dX6_turnOf_91 ?_
      refine r_cVi (pc := 92) (As := [.ref (G.2.1 + c), .int (nI ((r / 16) % 4))]) (st := []) h lk_RX6_84 (c_next x.2.1 G (mB σ c s h2 x2 m) c hc A (by rw [mB_sF]; exact hM) hA ((r / 16) % 4) (by omega) (fun L hL v hv => (mB_h hc _).trans (hH L hL v hv))) rc_6 (by decide) rfl rfl (by first | decide | exact Nat.le_of_ble_eq_true rfl) (by decide) dX6_turnOf_92 (fun r70 s71 q72 => ?_)
      rw [q72.1, q72.2]
      refine r_iconst (pc := 95) (v := (-1)) h (by decide) dX6_turnOf_95 ?_
      refine r_icmp_ne (pc := 96) (tgt := 103) h (by decide) dX6_turnOf_96 (fun c96 => ?_) (fun c96 => ?_)
      · skip
        rw [oI_nextO] at c96
        refine r_aload_n (pc := 103) h 0 rfl rfl dX6_turnOf_103 ?_
        refine r_aload_n (pc := 104) h 1 rfl rfl dX6_turnOf_104 ?_
        refine r_iload_n (pc := 105) h 3 rfl rfl dX6_turnOf_105 ?_
        refine r_iconst (pc := 106) (v := nI 4) h (by decide) dX6_turnOf_106 ?_
        refine r_irem (pc := 107) (v := nI ((r / 16) % 4)) h (by decide) (pk_rem (by omega) (by omega) (by omega)) dX6_turnOf_107 ?_
        refine r_cVi (pc := 108) (As := [.ref (G.2.1 + c), .int (nI ((r / 16) % 4))]) (st := []) h lk_RX6_133 (c_readOn x.2.1 G σ c hc s h2 x2 m A hA hM ((r / 16) % 4) (by omega) hH) rc_6 (by decide) rfl rfl (by first | decide | exact Nat.le_of_ble_eq_true rfl) (by decide) dX6_turnOf_108 (fun r73 s74 q75 => ?_)
        obtain ⟨e9, s2, es, hs2⟩ := q75
        rw [e9]
        subst es
        have hob : ob A 110 (nI (r / 16 % 4)) (nI 0) (nI 0) = 0 := fst3_y c79 rfl (by rw [toN_nI (show r / 16 % 4 < 2 ^ 31 by omega)]; exact isSome_t c96)
        exact hret _ _ (⟨by unfold turnV; rw [if_neg (by omega), if_pos hob]; show _ = oI (nextO A (toN (nI (r / 16 % 4)))); rw [toN_nI (show r / 16 % 4 < 2 ^ 31 by omega)], _, _, _, rfl, by rw [show turnA A r = _ from by unfold turnA; rw [turnK_d (by omega)]]; exact relM_yes hob (by show RelM (A.1, A.2.1, A.2.2.1 + 1, aU A, aL A, va_up (aP A) (toN (nI (r / 16 % 4))) (aP A (toN (nI (r / 16 % 4))) + 1)) _; rw [toN_nI (show r / 16 % 4 < 2 ^ 31 by omega)]; exact hs2)⟩) 111 _ dX6_turnOf_111
      · skip
        rw [oI_nextO] at c96
        refine r_iconst (pc := 99) (v := nI 0) h (by decide) dX6_turnOf_99 ?_
        refine r_goto (pc := 100) (tgt := 111) h (by decide) dX6_turnOf_100 ?_
        have hob : ¬ ob A 110 (nI (r / 16 % 4)) (nI 0) (nI 0) = 0 := fst3_n3 (by rw [toN_nI (show r / 16 % 4 < 2 ^ 31 by omega)]; exact isSome_f c96)
        exact hret _ _ (⟨by unfold turnV; rw [if_neg (by omega), if_neg hob], _, _, _, rfl, by rw [show turnA A r = _ from by unfold turnA; rw [turnK_d (by omega)]]; exact relM_no hob hM⟩) 111 _ dX6_turnOf_111
  · skip
    rw [hm]
    refine r_iload_n (pc := 0) h 2 rfl rfl dX6_turnOf_0 ?_
    refine r_bipush (pc := 1) (v := nI 9) h (by decide) dX6_turnOf_1 ?_
    refine r_icmp_ge (pc := 3) (tgt := 15) h (by decide) dX6_turnOf_3 (fun _ => ?_) (fun c3 => absurd c3 (by decide))
    refine r_iload_n (pc := 15) h 2 rfl rfl dX6_turnOf_15 ?_
    refine r_bipush (pc := 16) (v := nI 9) h (by decide) dX6_turnOf_16 ?_
    refine r_icmp_ne (pc := 18) (tgt := 51) h (by decide) dX6_turnOf_18 (fun _ => ?_) (fun c18 => absurd c18 (by decide))
    refine r_iload_n (pc := 51) h 2 rfl rfl dX6_turnOf_51 ?_
    refine r_bipush (pc := 52) (v := nI 10) h (by decide) dX6_turnOf_52 ?_
    refine r_icmp_ne (pc := 54) (tgt := 72) h (by decide) dX6_turnOf_54 (fun _ => ?_) (fun c54 => absurd c54 (by decide))
    refine r_aload_n (pc := 72) h 1 rfl rfl dX6_turnOf_72 ?_
    refine r_iload_n (pc := 73) h 3 rfl rfl dX6_turnOf_73 ?_
    refine r_iconst (pc := 74) (v := nI 4) h (by decide) dX6_turnOf_74 ?_
    refine r_irem (pc := 75) (v := nI ((r / 16) % 4)) h (by decide) (pk_rem (by omega) (by omega) (by omega)) dX6_turnOf_75 ?_
    refine r_cSi (pc := 76) (As := [.ref (G.2.1 + c), .int (nI ((r / 16) % 4))]) (st := []) h lk_RX6_130 (c_isReaderM x.2.1 G (mB σ c s hh xx m) c hc A (by rw [mB_sF]; exact hM) (by omega) (nI ((r / 16) % 4))) (by decide) rfl rfl (by first | decide | exact Nat.le_of_ble_eq_true rfl) (by decide) dX6_turnOf_76 (fun r76 s77 q78 => ?_)
    rw [q78.1, q78.2]
    refine r_if_eq (pc := 79) (tgt := 112) h (by decide) dX6_turnOf_79 (fun c79 => ?_) (fun c79 => ?_)
    · skip
      replace c79 := zB_0.mp c79
      refine r_iconst (pc := 112) (v := nI 0) h (by decide) dX6_turnOf_112 ?_
      have hob : ¬ ob A 110 (nI (r / 16 % 4)) (nI 0) (nI 0) = 0 := fst3_n1 c79
      exact hret _ _ (⟨by unfold turnV; rw [if_neg (by omega), if_neg hob], _, _, _, rfl, by rw [show turnA A r = _ from by unfold turnA; rw [turnK_d (by omega)]]; exact relM_no hob hM⟩) 113 _ dX6_turnOf_113
    · skip
      replace c79 := zB_n0.mp c79
      obtain ⟨i9, ei9, hi9⟩ := rdB_nI h4 c79
      have hv1r : r / 16 % 4 < A.2.1 := by rw [nI_eq (by omega) (by omega)] at ei9; omega
      refine r_aload_n (pc := 82) h 0 rfl rfl dX6_turnOf_82 ?_
      refine r_aload_n (pc := 83) h 1 rfl rfl dX6_turnOf_83 ?_
      refine r_cVv (pc := 84) (As := [.ref (G.2.1 + c)]) (st := []) h lk_RX6_127 (c_finds x.2.1 G σ c hc s hh xx m A hA hM) rc_6 (by decide) rfl rfl (by first | decide | exact Nat.le_of_ble_eq_true rfl) (by decide) dX6_turnOf_84 (fun s80 q81 => ?_)
      obtain ⟨h2, x2, e8, hH⟩ := q81
      subst e8
      refine r_aload_n (pc := 87) h 0 rfl rfl dX6_turnOf_87 ?_
      refine r_aload_n (pc := 88) h 1 rfl rfl dX6_turnOf_88 ?_
      refine r_iload_n (pc := 89) h 3 rfl rfl dX6_turnOf_89 ?_
      refine r_iconst (pc := 90) (v := nI 4) h (by decide) dX6_turnOf_90 ?_
      refine r_irem (pc := 91) (v := nI ((r / 16) % 4)) h (by decide) (pk_rem (by omega) (by omega) (by omega)) dX6_turnOf_91 ?_
      refine r_cVi (pc := 92) (As := [.ref (G.2.1 + c), .int (nI ((r / 16) % 4))]) (st := []) h lk_RX6_84 (c_next x.2.1 G (mB σ c s h2 x2 m) c hc A (by rw [mB_sF]; exact hM) hA ((r / 16) % 4) (by omega) (fun L hL v hv => (mB_h hc _).trans (hH L hL v hv))) rc_6 (by decide) rfl rfl (by first | decide | exact Nat.le_of_ble_eq_true rfl) (by decide) dX6_turnOf_92 (fun r82 s83 q84 => ?_)
      rw [q84.1, q84.2]
      refine r_iconst (pc := 95) (v := (-1)) h (by decide) dX6_turnOf_95 ?_
      refine r_icmp_ne (pc := 96) (tgt := 103) h (by decide) dX6_turnOf_96 (fun c96 => ?_) (fun c96 => ?_)
      · skip
        rw [oI_nextO] at c96
        refine r_aload_n (pc := 103) h 0 rfl rfl dX6_turnOf_103 ?_
        refine r_aload_n (pc := 104) h 1 rfl rfl dX6_turnOf_104 ?_
        refine r_iload_n (pc := 105) h 3 rfl rfl dX6_turnOf_105 ?_
        refine r_iconst (pc := 106) (v := nI 4) h (by decide) dX6_turnOf_106 ?_
        refine r_irem (pc := 107) (v := nI ((r / 16) % 4)) h (by decide) (pk_rem (by omega) (by omega) (by omega)) dX6_turnOf_107 ?_
        refine r_cVi (pc := 108) (As := [.ref (G.2.1 + c), .int (nI ((r / 16) % 4))]) (st := []) h lk_RX6_133 (c_readOn x.2.1 G σ c hc s h2 x2 m A hA hM ((r / 16) % 4) (by omega) hH) rc_6 (by decide) rfl rfl (by first | decide | exact Nat.le_of_ble_eq_true rfl) (by decide) dX6_turnOf_108 (fun r85 s86 q87 => ?_)
        obtain ⟨e9, s2, es, hs2⟩ := q87
        rw [e9]
        subst es
        have hob : ob A 110 (nI (r / 16 % 4)) (nI 0) (nI 0) = 0 := fst3_y c79 rfl (by rw [toN_nI (show r / 16 % 4 < 2 ^ 31 by omega)]; exact isSome_t c96)
        exact hret _ _ (⟨by unfold turnV; rw [if_neg (by omega), if_pos hob]; show _ = oI (nextO A (toN (nI (r / 16 % 4)))); rw [toN_nI (show r / 16 % 4 < 2 ^ 31 by omega)], _, _, _, rfl, by rw [show turnA A r = _ from by unfold turnA; rw [turnK_d (by omega)]]; exact relM_yes hob (by show RelM (A.1, A.2.1, A.2.2.1 + 1, aU A, aL A, va_up (aP A) (toN (nI (r / 16 % 4))) (aP A (toN (nI (r / 16 % 4))) + 1)) _; rw [toN_nI (show r / 16 % 4 < 2 ^ 31 by omega)]; exact hs2)⟩) 111 _ dX6_turnOf_111
      · skip
        rw [oI_nextO] at c96
        refine r_iconst (pc := 99) (v := nI 0) h (by decide) dX6_turnOf_99 ?_
        refine r_goto (pc := 100) (tgt := 111) h (by decide) dX6_turnOf_100 ?_
        have hob : ¬ ob A 110 (nI (r / 16 % 4)) (nI 0) (nI 0) = 0 := fst3_n3 (by rw [toN_nI (show r / 16 % 4 < 2 ^ 31 by omega)]; exact isSome_f c96)
        exact hret _ _ (⟨by unfold turnV; rw [if_neg (by omega), if_neg hob], _, _, _, rfl, by rw [show turnA A r = _ from by unfold turnA; rw [turnK_d (by omega)]]; exact relM_no hob hM⟩) 111 _ dX6_turnOf_111
  · skip
    rw [hm]
    refine r_iload_n (pc := 0) h 2 rfl rfl dX6_turnOf_0 ?_
    refine r_bipush (pc := 1) (v := nI 9) h (by decide) dX6_turnOf_1 ?_
    refine r_icmp_ge (pc := 3) (tgt := 15) h (by decide) dX6_turnOf_3 (fun _ => ?_) (fun c3 => absurd c3 (by decide))
    refine r_iload_n (pc := 15) h 2 rfl rfl dX6_turnOf_15 ?_
    refine r_bipush (pc := 16) (v := nI 9) h (by decide) dX6_turnOf_16 ?_
    refine r_icmp_ne (pc := 18) (tgt := 51) h (by decide) dX6_turnOf_18 (fun _ => ?_) (fun c18 => absurd c18 (by decide))
    refine r_iload_n (pc := 51) h 2 rfl rfl dX6_turnOf_51 ?_
    refine r_bipush (pc := 52) (v := nI 10) h (by decide) dX6_turnOf_52 ?_
    refine r_icmp_ne (pc := 54) (tgt := 72) h (by decide) dX6_turnOf_54 (fun _ => ?_) (fun c54 => absurd c54 (by decide))
    refine r_aload_n (pc := 72) h 1 rfl rfl dX6_turnOf_72 ?_
    refine r_iload_n (pc := 73) h 3 rfl rfl dX6_turnOf_73 ?_
    refine r_iconst (pc := 74) (v := nI 4) h (by decide) dX6_turnOf_74 ?_
    refine r_irem (pc := 75) (v := nI ((r / 16) % 4)) h (by decide) (pk_rem (by omega) (by omega) (by omega)) dX6_turnOf_75 ?_
    refine r_cSi (pc := 76) (As := [.ref (G.2.1 + c), .int (nI ((r / 16) % 4))]) (st := []) h lk_RX6_130 (c_isReaderM x.2.1 G (mB σ c s hh xx m) c hc A (by rw [mB_sF]; exact hM) (by omega) (nI ((r / 16) % 4))) (by decide) rfl rfl (by first | decide | exact Nat.le_of_ble_eq_true rfl) (by decide) dX6_turnOf_76 (fun r88 s89 q90 => ?_)
    rw [q90.1, q90.2]
    refine r_if_eq (pc := 79) (tgt := 112) h (by decide) dX6_turnOf_79 (fun c79 => ?_) (fun c79 => ?_)
    · skip
      replace c79 := zB_0.mp c79
      refine r_iconst (pc := 112) (v := nI 0) h (by decide) dX6_turnOf_112 ?_
      have hob : ¬ ob A 110 (nI (r / 16 % 4)) (nI 0) (nI 0) = 0 := fst3_n1 c79
      exact hret _ _ (⟨by unfold turnV; rw [if_neg (by omega), if_neg hob], _, _, _, rfl, by rw [show turnA A r = _ from by unfold turnA; rw [turnK_d (by omega)]]; exact relM_no hob hM⟩) 113 _ dX6_turnOf_113
    · skip
      replace c79 := zB_n0.mp c79
      obtain ⟨i9, ei9, hi9⟩ := rdB_nI h4 c79
      have hv1r : r / 16 % 4 < A.2.1 := by rw [nI_eq (by omega) (by omega)] at ei9; omega
      refine r_aload_n (pc := 82) h 0 rfl rfl dX6_turnOf_82 ?_
      refine r_aload_n (pc := 83) h 1 rfl rfl dX6_turnOf_83 ?_
      refine r_cVv (pc := 84) (As := [.ref (G.2.1 + c)]) (st := []) h lk_RX6_127 (c_finds x.2.1 G σ c hc s hh xx m A hA hM) rc_6 (by decide) rfl rfl (by first | decide | exact Nat.le_of_ble_eq_true rfl) (by decide) dX6_turnOf_84 (fun s92 q93 => ?_)
      obtain ⟨h2, x2, e8, hH⟩ := q93
      subst e8
      refine r_aload_n (pc := 87) h 0 rfl rfl dX6_turnOf_87 ?_
      refine r_aload_n (pc := 88) h 1 rfl rfl dX6_turnOf_88 ?_
      refine r_iload_n (pc := 89) h 3 rfl rfl dX6_turnOf_89 ?_
      refine r_iconst (pc := 90) (v := nI 4) h (by decide) dX6_turnOf_90 ?_
      refine r_irem (pc := 91) (v := nI ((r / 16) % 4)) h (by decide) (pk_rem (by omega) (by omega) (by omega)) dX6_turnOf_91 ?_
      refine r_cVi (pc := 92) (As := [.ref (G.2.1 + c), .int (nI ((r / 16) % 4))]) (st := []) h lk_RX6_84 (c_next x.2.1 G (mB σ c s h2 x2 m) c hc A (by rw [mB_sF]; exact hM) hA ((r / 16) % 4) (by omega) (fun L hL v hv => (mB_h hc _).trans (hH L hL v hv))) rc_6 (by decide) rfl rfl (by first | decide | exact Nat.le_of_ble_eq_true rfl) (by decide) dX6_turnOf_92 (fun r94 s95 q96 => ?_)
      rw [q96.1, q96.2]
      refine r_iconst (pc := 95) (v := (-1)) h (by decide) dX6_turnOf_95 ?_
      refine r_icmp_ne (pc := 96) (tgt := 103) h (by decide) dX6_turnOf_96 (fun c96 => ?_) (fun c96 => ?_)
      · skip
        rw [oI_nextO] at c96
        refine r_aload_n (pc := 103) h 0 rfl rfl dX6_turnOf_103 ?_
        refine r_aload_n (pc := 104) h 1 rfl rfl dX6_turnOf_104 ?_
        refine r_iload_n (pc := 105) h 3 rfl rfl dX6_turnOf_105 ?_
        refine r_iconst (pc := 106) (v := nI 4) h (by decide) dX6_turnOf_106 ?_
        refine r_irem (pc := 107) (v := nI ((r / 16) % 4)) h (by decide) (pk_rem (by omega) (by omega) (by omega)) dX6_turnOf_107 ?_
        refine r_cVi (pc := 108) (As := [.ref (G.2.1 + c), .int (nI ((r / 16) % 4))]) (st := []) h lk_RX6_133 (c_readOn x.2.1 G σ c hc s h2 x2 m A hA hM ((r / 16) % 4) (by omega) hH) rc_6 (by decide) rfl rfl (by first | decide | exact Nat.le_of_ble_eq_true rfl) (by decide) dX6_turnOf_108 (fun r97 s98 q99 => ?_)
        obtain ⟨e9, s2, es, hs2⟩ := q99
        rw [e9]
        subst es
        have hob : ob A 110 (nI (r / 16 % 4)) (nI 0) (nI 0) = 0 := fst3_y c79 rfl (by rw [toN_nI (show r / 16 % 4 < 2 ^ 31 by omega)]; exact isSome_t c96)
        exact hret _ _ (⟨by unfold turnV; rw [if_neg (by omega), if_pos hob]; show _ = oI (nextO A (toN (nI (r / 16 % 4)))); rw [toN_nI (show r / 16 % 4 < 2 ^ 31 by omega)], _, _, _, rfl, by rw [show turnA A r = _ from by unfold turnA; rw [turnK_d (by omega)]]; exact relM_yes hob (by show RelM (A.1, A.2.1, A.2.2.1 + 1, aU A, aL A, va_up (aP A) (toN (nI (r / 16 % 4))) (aP A (toN (nI (r / 16 % 4))) + 1)) _; rw [toN_nI (show r / 16 % 4 < 2 ^ 31 by omega)]; exact hs2)⟩) 111 _ dX6_turnOf_111
      · skip
        rw [oI_nextO] at c96
        refine r_iconst (pc := 99) (v := nI 0) h (by decide) dX6_turnOf_99 ?_
        refine r_goto (pc := 100) (tgt := 111) h (by decide) dX6_turnOf_100 ?_
        have hob : ¬ ob A 110 (nI (r / 16 % 4)) (nI 0) (nI 0) = 0 := fst3_n3 (by rw [toN_nI (show r / 16 % 4 < 2 ^ 31 by omega)]; exact isSome_f c96)
        exact hret _ _ (⟨by unfold turnV; rw [if_neg (by omega), if_neg hob], _, _, _, rfl, by rw [show turnA A r = _ from by unfold turnA; rw [turnK_d (by omega)]]; exact relM_no hob hM⟩) 111 _ dX6_turnOf_111

set_option maxRecDepth 100000 in
set_option maxHeartbeats 800000 in
theorem c_m_simulate (l : Launch) (G : Gl) (σ : Sg) (n : Nat) (tx : Nat → Nat) (A : Ab) (m : Nat) (H : Nat → Ab) (sv : Nat → Bool) (sl : Nat → Ab) (hi : InvM n tx A m H sv sl σ) (u1 : Int64) (u2 : Int32) : Ci l yX6_simulate cX6_simulate 9 .int ({ frames := 5, cells := 0, slots := 0, locals := 114 } : Room) G [.ref (G.2.1 + 134), .long u1, .int u2] σ (fun r σ2 => Pm [2] (cB (inB (nI 1) (nI 60) u2) 2) σ σ2 (InvM n tx A m H sv sl) (InvM n tx A m H sv sl) r (simV A u1 (toN u2))) := by
  refine Ci_of (own := RX6) rfl (by decide +kernel) (lo := [(0, .ref (G.2.1 + 134)), (1, .long u1), (3, .int u2)]) rfl (Nat.le_of_ble_eq_true rfl) (fun r s hp => rfl) ?_
  intro x Q hxl h hret
  subst hxl
  have hc := rc137
  have hM := hi.2.1.1
  have hA := hi.2.1.2
  have h12 := hA.1
  have h4 := hA.2.1
  have hm2 := hi.1.2
  have hm6 := hi.2.2.1.2.1
  have hk14 := hi.2.2.1.1
  have hd := hi.2.2.1.2.2
  have ht := hi.1.1
  have hn9 := ht.1
  refine V.sg (show σ = mB σ 137 (σ.1 137) (σ.1 141) (σ.1 142) (σ.1 134) from (mB_self hc).symm) ?_
  refine r_aload_n (pc := 0) h 0 rfl rfl dX6_simulate_0 ?_
  refine r_iload_n (pc := 1) h 2 rfl rfl dX6_simulate_1 ?_
  refine r_i2l (pc := 2) (v := u2.toInt64) h rfl dX6_simulate_2 ?_
  refine r_lconst (pc := 3) (v := 1) h (by decide) dX6_simulate_3 ?_
  refine r_ldc2 (pc := 4) (v := 60) h mw_42_23 dX6_simulate_4 ?_
  refine r_cSi (pc := 7) (As := [.long u2.toInt64, .long 1, .long 60]) (st := [.ref (G.2.1 + 134)]) h lk_RX6_43 (c_in x.2.1 G (mB σ 137 (σ.1 137) (σ.1 141) (σ.1 142) (σ.1 134)) u2 (nI 1) (nI 60)) (by decide) rfl rfl (by first | decide | exact Nat.le_of_ble_eq_true rfl) (by decide) dX6_simulate_7 (fun r1 s2 q3 => ?_)
  rw [q3.1, q3.2]
  refine r_if_eq (pc := 10) (tgt := 17) h (by decide) dX6_simulate_10 (fun c10 => ?_) (fun c10 => ?_)
  · skip
    replace c10 := zB_0.mp c10
    refine r_iconst (pc := 17) (v := nI 1) h (by decide) dX6_simulate_17 ?_
    refine r_cVi (pc := 18) (As := [.int (nI 1)]) (st := []) h lk_RX6_95 (c_refused x.2.1 G σ 137 hc (σ.1 137) (σ.1 141) (σ.1 142) (σ.1 134) 1 (by omega)) rc_6 (by decide) rfl rfl (by first | decide | exact Nat.le_of_ble_eq_true rfl) (by decide) dX6_simulate_18 (fun r4 s5 q6 => ?_)
    rw [q6.1, q6.2]
    refine r_topi (b := nI 1) (by decide) ?_
    refine r_if_eq (pc := 21) (tgt := 26) h (by decide) dX6_simulate_21 (fun c21 => absurd c21 (by decide)) (fun _ => ?_)
    refine r_iconst (pc := 24) (v := nI 0) h (by decide) dX6_simulate_24 ?_
    exact hret _ _ (pm_no (c0 := 2) (cB_f c10) (by decide) rfl ((mB_m hc 0).trans pk_us) (mB_out hc) (inv_7 hi (pk_un (by decide)) (pk_un (by decide)))) 25 _ dX6_simulate_25
  · skip
    replace c10 := zB_n0.mp c10
    obtain ⟨t, rfl, lt, ht⟩ := inB_nI (by omega) (by omega) c10
    refine r_iconst (pc := 13) (v := nI 0) h (by decide) dX6_simulate_13 ?_
    refine r_goto (pc := 14) (tgt := 18) h (by decide) dX6_simulate_14 ?_
    refine r_cVi (pc := 18) (As := [.int (nI 0)]) (st := []) h lk_RX6_95 (c_refused x.2.1 G σ 137 hc (σ.1 137) (σ.1 141) (σ.1 142) (σ.1 134) 0 (by omega)) rc_6 (by decide) rfl rfl (by first | decide | exact Nat.le_of_ble_eq_true rfl) (by decide) dX6_simulate_18 (fun r7 s8 q9 => ?_)
    rw [q9.1, q9.2]
    refine r_topi (b := nI 0) (by decide) ?_
    refine r_if_eq (pc := 21) (tgt := 26) h (by decide) dX6_simulate_21 (fun _ => ?_) (fun c21 => absurd c21 (by decide))
    refine r_aload_n (pc := 26) h 0 rfl rfl dX6_simulate_26 ?_
    refine g_6_now (pc := 27) h mw_3_21 dX6_simulate_27 ?_
    refine r_iconst (pc := 30) (v := nI 0) h (by decide) dX6_simulate_30 ?_
    refine r_aload_n (pc := 31) h 0 rfl rfl dX6_simulate_31 ?_
    refine g_6_trial (pc := 32) h mw_3_22 dX6_simulate_32 ?_
    refine r_iconst (pc := 35) (v := nI 0) h (by decide) dX6_simulate_35 ?_
    refine r_cSv (pc := 36) (As := [.ref (G.2.1 + 136), .int (nI 0), .ref (G.2.1 + 137), .int (nI 0)]) (st := []) h lk_RX6_176 (c_copyM x.2.1 G (mB σ 137 (σ.1 137) (σ.1 141) (σ.1 142) (upd (σ.1 134) 0 (nI 0))) 136 137 59 59 0 0 a_mn a_mr (by decide) (by omega) (by omega)) (by decide) rfl rfl (by first | decide | exact Nat.le_of_ble_eq_true rfl) (by decide) dX6_simulate_36 (fun s11 q12 => ?_)
    rw [q12, mB_o (q := 136) (by decide), mB_sF, mB_oBc]
    refine r_iconst (pc := 39) (v := nI 0) h (by decide) dX6_simulate_39 ?_
    refine r_istore (pc := 40) (lo2 := [(4, .int (nI 0)), (0, .ref (G.2.1 + 134)), (1, .long u1), (3, .int (nI t))]) h (by decide) rfl dX6_simulate_40 ?_
    refine r_lload_n (pc := 42) h 2 rfl rfl dX6_simulate_42 ?_
    refine r_lstore (pc := 43) (lo2 := [(5, .long u1), (4, .int (nI 0)), (0, .ref (G.2.1 + 134)), (1, .long u1), (3, .int (nI t))]) h (by decide) rfl dX6_simulate_43 ?_
    refine r_iconst (pc := 45) (v := nI 0) h (by decide) dX6_simulate_45 ?_
    refine r_istore (pc := 46) (lo2 := [(7, .int (nI 0)), (5, .long u1), (4, .int (nI 0)), (0, .ref (G.2.1 + 134)), (1, .long u1), (3, .int (nI t))]) h (by decide) rfl dX6_simulate_46 ?_
    have lp48 : ∀ (fu : Nat) (i : Nat) (y : Int64) (sm : Int32) (A1 : Ab) (s1 : Nat → Int32) (h1 : Nat → Int32) (x1 : Nat → Int32), i ≤ t → simI (u1, A, nI 0) i = (y, A1, sm) → okA A1 → RelM A1 s1 → t - i < fu → V x G 9 0 0 Q (mB σ 137 s1 h1 x1 (upd (σ.1 134) 0 (nI 0))) 48 [(0, .ref (G.2.1 + 134)), (3, .int (nI t)), (4, .int sm), (5, .long y), (7, .int (nI i))] [] := by
      intro fu
      induction fu with
      | zero => intro i y sm A1 s1 h1 x1 hi9 hsim hA1 hM1 hfu; exact absurd hfu (Nat.not_lt_zero _)
      | succ fu ih48 =>
        intro i y sm A1 s1 h1 x1 hi9 hsim hA1 hM1 hfu
        refine r_iload (pc := 48) h 4 rfl dX6_simulate_48 ?_
        refine r_iload_n (pc := 50) h 1 rfl rfl dX6_simulate_50 ?_
        refine r_icmp_ge (pc := 51) (tgt := 103) h (by decide) dX6_simulate_51 (fun c51 => ?_) (fun c51 => ?_)
        · skip
          rw [nI_leI (by omega) (by omega)] at c51
          refine r_sipush (pc := 103) (v := nI 10000) h (by decide) dX6_simulate_103 ?_
          refine r_aload_n (pc := 106) h 0 rfl rfl dX6_simulate_106 ?_
          refine g_6_trial (pc := 107) h mw_3_22 dX6_simulate_107 ?_
          refine r_iconst (pc := 110) (v := nI 0) h (by decide) dX6_simulate_110 ?_
          refine r_iald (pc := 111) h (a_rc hc) 0 rfl (by omega) dX6_simulate_111 ?_
          refine r_topi (b := s1 0) (mB_s _) ?_
          refine r_topi (b := nI A1.1) hM1.1 ?_
          refine r_imul (pc := 112) (v := nI (10000 * A1.1)) h (pk_mul _ _) dX6_simulate_112 ?_
          refine r_iload (pc := 113) h 2 rfl dX6_simulate_113 ?_
          refine r_sipush (pc := 115) (v := nI 10000) h (by decide) dX6_simulate_115 ?_
          refine r_irem (pc := 118) (v := sm - sm / (nI 10000) * (nI 10000)) h (by decide) rfl dX6_simulate_118 ?_
          refine r_iadd (pc := 119) (v := (nI (10000 * A1.1)) + (sm - sm / (nI 10000) * (nI 10000))) h rfl dX6_simulate_119 ?_
          have ei : i = t := by omega
          subst ei
          exact hret _ _ (pm_ok (cB_t c10) ((mB_m hc 0).trans pk_us) (mB_out hc) (by rw [toN_nI (show i < 2 ^ 31 by omega), simV_e hsim]) (inv_7 hi (pk_un (by decide)) (pk_un (by decide)))) 120 _ dX6_simulate_120
        · skip
          rw [nI_leI (by omega) (by omega)] at c51
          refine r_lload (pc := 54) h 3 rfl dX6_simulate_54 ?_
          refine r_ldc2 (pc := 56) (v := 6364136223846793005) h mw_43_0 dX6_simulate_56 ?_
          refine r_lmul (pc := 59) (v := y * 6364136223846793005) h rfl dX6_simulate_59 ?_
          refine r_ldc2 (pc := 60) (v := 1442695040888963407) h mw_43_1 dX6_simulate_60 ?_
          refine r_ladd (pc := 63) (v := nxX y) h rfl dX6_simulate_63 ?_
          refine r_lstore (pc := 64) (lo2 := [(5, .long (nxX y)), (0, .ref (G.2.1 + 134)), (3, .int (nI t)), (4, .int sm), (7, .int (nI i))]) h (by decide) rfl dX6_simulate_64 ?_
          refine r_lload (pc := 66) h 0 rfl dX6_simulate_66 ?_
          refine r_bipush (pc := 68) (v := nI 33) h (by decide) dX6_simulate_68 ?_
          refine r_lushr (pc := 70) (v := ((nxX y).toUInt64 >>> ((nI 33).toInt64.toUInt64 &&& Int64.toUInt64 63)).toInt64) h rfl dX6_simulate_70 ?_
          refine r_l2i (pc := 71) (v := nI (rN (nxX y))) h (rN_at (nxX y)) dX6_simulate_71 ?_
          have hr9 := rN_lt (nxX y)
          refine r_istore (pc := 72) (lo2 := [(8, .int (nI (rN (nxX y)))), (5, .long (nxX y)), (0, .ref (G.2.1 + 134)), (3, .int (nI t)), (4, .int sm), (7, .int (nI i))]) h (by decide) rfl dX6_simulate_72 ?_
          refine r_iload (pc := 74) h 4 rfl dX6_simulate_74 ?_
          refine r_aload_n (pc := 76) h 2 rfl rfl dX6_simulate_76 ?_
          refine r_aload_n (pc := 77) h 2 rfl rfl dX6_simulate_77 ?_
          refine g_6_trial (pc := 78) h mw_3_22 dX6_simulate_78 ?_
          refine r_iload (pc := 81) h 0 rfl dX6_simulate_81 ?_
          refine r_bipush (pc := 83) (v := nI 16) h (by decide) dX6_simulate_83 ?_
          refine r_irem (pc := 85) (v := nI ((rN (nxX y)) % 16)) h (by decide) (pk_rem (by omega) (by omega) (by omega)) dX6_simulate_85 ?_
          refine r_iload (pc := 86) h 0 rfl dX6_simulate_86 ?_
          refine r_bipush (pc := 88) (v := nI 16) h (by decide) dX6_simulate_88 ?_
          refine r_idiv (pc := 90) (v := nI ((rN (nxX y)) / 16)) h (by decide) (pk_div (by omega) (by omega) (by omega)) dX6_simulate_90 ?_
          refine r_cVi (pc := 91) (As := [.ref (G.2.1 + 137), .int (nI ((rN (nxX y)) % 16)), .int (nI ((rN (nxX y)) / 16))]) (st := [.int sm]) h lk_RX6_221 (c_turnOf x.2.1 G σ 137 hc s1 h1 x1 (upd (σ.1 134) 0 (nI 0)) A1 hA1 hM1 (rN (nxX y)) (rN_lt _)) rc_6 (by decide) rfl rfl (by first | decide | exact Nat.le_of_ble_eq_true rfl) (by decide) dX6_simulate_91 (fun r13 s14 q15 => ?_)
          obtain ⟨e9, s2, h2, x2, es, hs2⟩ := q15
          rw [e9]
          subst es
          refine r_iadd (pc := 94) (v := sm + (turnV A1 (rN (nxX y)))) h rfl dX6_simulate_94 ?_
          refine r_istore (pc := 95) (lo2 := [(4, .int (sm + (turnV A1 (rN (nxX y))))), (8, .int (nI (rN (nxX y)))), (5, .long (nxX y)), (0, .ref (G.2.1 + 134)), (3, .int (nI t)), (7, .int (nI i))]) h (by decide) rfl dX6_simulate_95 ?_
          refine r_iinc (pc := 97) (v := nI (i + 1)) (lo2 := [(7, .int (nI (i + 1))), (4, .int (sm + (turnV A1 (rN (nxX y))))), (8, .int (nI (rN (nxX y)))), (5, .long (nxX y)), (0, .ref (G.2.1 + 134)), (3, .int (nI t))]) h 5 rfl (iinc1 _) (by decide) rfl dX6_simulate_97 ?_
          refine r_goto (pc := 100) (tgt := 48) h (by decide) dX6_simulate_100 ?_
          refine r_sub (lo2 := [(0, .ref (G.2.1 + 134)), (3, .int (nI t)), (4, .int (sm + (turnV A1 (rN (nxX y))))), (5, .long (nxX y)), (7, .int (nI (i + 1)))]) [4, 5, 1, 3, 0] rfl ?_
          exact ih48 (i + 1) (nxX y) _ _ s2 h2 x2 (by omega) (simI_s hsim) (okA_turn hA1 _) hs2 (by omega)
    refine r_sub (lo2 := [(0, .ref (G.2.1 + 134)), (3, .int (nI t)), (4, .int (nI 0)), (5, .long u1), (7, .int (nI 0))]) [3, 5, 2, 1, 0] rfl ?_
    exact lp48 _ 0 u1 (nI 0) A _ _ _ (by omega) rfl hA (relM_cp0 hM hA) (Nat.lt_succ_self _)

