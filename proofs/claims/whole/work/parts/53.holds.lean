/-! THE REFERENCE HOLDS -/
def DiM (m : Nat) (H : Nat → Ab) (fd : Nat → Int32) : Prop := ∀ k, k < m → RelM (H k) (fun j => fd (59 * k + j)) ∧ okA (H k)
def KpM (sv : Nat → Bool) (sl : Nat → Ab) (fk fi : Nat → Int32) : Prop := ∀ j, j < 2 → fi j = zB (sv j) ∧ (sv j = true → RelM (sl j) (fun i => fk (59 * j + i)) ∧ okA (sl j))
/-- the reference holds: the text, the state A, m remembered states H, what is saved -/
def InvM (n : Nat) (tx : Nat → Nat) (A : Ab) (m : Nat) (H : Nat → Ab) (sv : Nat → Bool) (sl : Nat → Ab) (σ : Sg) : Prop := (TxM n tx σ ∧ σ.1 134 2 = nI n) ∧ (RelM A (σ.1 136) ∧ okA A) ∧ (m ≤ 14 ∧ σ.1 134 6 = nI m ∧ DiM m H (σ.1 138)) ∧ KpM sv sl (σ.1 139) (σ.1 140)
theorem InvM.o {n : Nat} {tx : Nat → Nat} {A : Ab} {m : Nat} {H : Nat → Ab} {sv : Nat → Bool} {sl : Nat → Ab} {σ σ2 : Sg} {lo hi : Nat} (h : InvM n tx A m H sv sl σ) (ho : Out lo hi σ σ2) (hd : hi ≤ 134 ∨ 143 ≤ lo) : InvM n tx A m H sv sl σ2 := by
  have e : ∀ q, 134 ≤ q → q < 143 → σ2.1 q = σ.1 q := fun q h1 h2 => (ho q (by omega)).1
  unfold InvM TxM at h ⊢
  rw [e 134 (by omega) (by omega), e 135 (by omega) (by omega), e 136 (by omega) (by omega), e 138 (by omega) (by omega), e 139 (by omega) (by omega), e 140 (by omega) (by omega)]
  exact h
/-- the number of an exception among those that a method lists -/
def kq : List Nat → Nat → Nat
  | [], _ => 0
  | a :: l, C => if C = 0 then 0 else if C = a then 1 else kq l C + 1
theorem kq_0 (l : List Nat) : kq l 0 = 0 := by cases l <;> rfl
theorem kq_n {a : Nat} {l : List Nat} {C : Nat} (h : C ≠ 0) : kq (a :: l) C ≠ 0 := by
  rw [kq, if_neg h]
  split <;> omega
/-- how a method of the reference ends: C stands against it, by the class's numbers -/
def Pm (lst : List Nat) (C : Nat) (σ σ2 : Sg) (I0 I1 : Sg → Prop) (r a : Int32) : Prop := σ2.1 134 0 = nI (kq lst C) ∧ Out 134 143 σ σ2 ∧ (C ≠ 0 → I0 σ2) ∧ (C = 0 → r = a ∧ I1 σ2)
theorem pm_no {lst : List Nat} {C c0 w : Nat} {σ σ2 : Sg} {I0 I1 : Sg → Prop} {r a : Int32} (hC : C = c0) (h0 : c0 ≠ 0) (hk : kq lst c0 = w) (e : σ2.1 134 0 = nI w) (o : Out 134 143 σ σ2) (i : I0 σ2) : Pm lst C σ σ2 I0 I1 r a := by
  subst hC; subst hk
  exact ⟨e, o, fun _ => i, fun q => absurd q h0⟩
theorem pm_ok {lst : List Nat} {C : Nat} {σ σ2 : Sg} {I0 I1 : Sg → Prop} {r a : Int32} (hC : C = 0) (e : σ2.1 134 0 = nI 0) (o : Out 134 143 σ σ2) (hr : r = a) (i : I1 σ2) : Pm lst C σ σ2 I0 I1 r a := by
  subst hC
  exact ⟨by rw [e, kq_0], o, fun q => absurd rfl q, fun _ => ⟨hr, i⟩⟩
section
variable {σ : Sg} {s h x mm fd : Nat → Int32} {n : Nat} {tx : Nat → Nat} {A A2 : Ab} {m m2 : Nat} {H H2 : Nat → Ab} {sv : Nat → Bool} {sl : Nat → Ab}
theorem rc136 : Rc 136 := Or.inl rfl
theorem rc137 : Rc 137 := Or.inr rfl
theorem mB_d (j : Nat) {c : Nat} (hc : Rc c) : (mB (oB σ 138 fd) c s h x mm).1 138 j = fd j := (mB_oj (by rcases hc with rfl | rfl <;> decide) j).trans (congrFun (oB_s _ _ _) j)
theorem mB_dF {c : Nat} (hc : Rc c) : (mB (oB σ 138 fd) c s h x mm).1 138 = fd := funext fun j => mB_d j hc
theorem mB_oB {c q : Nat} (f g : Nat → Int32) (hq : q ≠ c ∧ q ≠ 134 ∧ q ≠ 141 ∧ q ≠ 142) : oB (mB (oB σ q f) c s h x mm) q g = mB (oB σ q g) c s h x mm := sg_ext (fun i => by
  by_cases e : i = q
  · subst e; simp [oB, mB, va_up, hq.1, hq.2.1, hq.2.2.1, hq.2.2.2]
  · simp [oB, mB, va_up, e]) rfl
theorem mB_sd {c : Nat} (hc : Rc c) (j : Nat) (v : Int32) : sI (mB (oB σ 138 fd) c s h x mm) 138 j v = mB (oB σ 138 (upd fd j v)) c s h x mm := sg_ext (fun i => by
  rcases hc with rfl | rfl
  all_goals
    by_cases e : i = 138
    · subst e; simp [oB, mB, va_up, sI]
    · simp [oB, mB, va_up, sI, e]) rfl
theorem mB_out2 (f : Nat → Int32) {q : Nat} (hq : 134 ≤ q ∧ q < 143) {c : Nat} (hc : Rc c) : Out 134 143 σ (mB (oB σ q f) c s h x mm) := ((oB_out σ q f).wd (by omega) (by omega)).tr (mB_out hc)
theorem inv_k {lst : Nat} (e : mm 0 = nI lst) : (mB σ 136 s h x mm).1 134 0 = nI lst := (mB_m rc136 0).trans e
/-- nothing but the row of the state and the reference's own fields -/
theorem inv_0 (hi : InvM n tx A m H sv sl σ) (hM : RelM A2 s) (hA : okA A2) (e2 : mm 2 = σ.1 134 2) (e6 : mm 6 = σ.1 134 6) : InvM n tx A2 m H sv sl (mB σ 136 s h x mm) := by
  obtain ⟨⟨⟨a1, a2⟩, a3⟩, -, ⟨a5, a6, a7⟩, a8⟩ := hi
  refine ⟨⟨⟨a1, fun i h => ?_⟩, (mB_m rc136 2).trans (e2.trans a3)⟩, ⟨by rw [mB_sF]; exact hM, hA⟩, ⟨a5, (mB_m rc136 6).trans (e6.trans a6), by rw [mB_o (by decide)]; exact a7⟩, by rw [mB_o (by decide), mB_o (by decide)]; exact a8⟩
  rw [mB_o (by decide)]; exact a2 i h
/-- with a diary -/
theorem inv_1 (hi : InvM n tx A m H sv sl σ) (hM : RelM A2 s) (hA : okA A2) (e2 : mm 2 = σ.1 134 2) (h14 : m2 ≤ 14) (e6 : mm 6 = nI m2) (hd : DiM m2 H2 fd) : InvM n tx A2 m2 H2 sv sl (mB (oB σ 138 fd) 136 s h x mm) := by
  obtain ⟨⟨⟨a1, a2⟩, a3⟩, -, ⟨a5, a6, a7⟩, a8⟩ := hi
  refine ⟨⟨⟨a1, fun i h => ?_⟩, (mB_m rc136 2).trans (e2.trans a3)⟩, ⟨by rw [mB_sF]; exact hM, hA⟩, ⟨h14, (mB_m rc136 6).trans e6, by rw [mB_dF rc136]; exact hd⟩, by rw [mB_o (by decide), mB_o (by decide), oB_o _ (by decide), oB_o _ (by decide)]; exact a8⟩
  rw [mB_o (by decide), oB_o _ (by decide)]; exact a2 i h
theorem pushN_le (k : Nat) : pushN k ≤ 14 := by unfold pushN; split <;> omega
theorem dim_push1 {k : Nat} (hk : k < 14) (hd : DiM k H fd) (hM : RelM A s) (hA : okA A) : DiM (pushN k) (pushH k H A) (cpI s fd 0 (59 * k) 59) := by
  unfold pushN pushH
  rw [if_pos hk, if_pos hk]
  intro i hi
  by_cases e : i = k
  · subst e
    rw [va_s]
    exact ⟨hM.cong hA (fun j hj => (cpI_in hj).trans (by rw [Nat.zero_add])), hA⟩
  · rw [va_n _ _ e]
    obtain ⟨q1, q2⟩ := hd i (by omega)
    exact ⟨q1.cong q2 (fun j hj => cpI_out (by omega)), q2⟩
theorem dim_push2 {f1 : Nat → Int32} (hd : DiM 14 H fd) (hf : ∀ j, j < 767 → f1 j = fd (j + 59)) (hM : RelM A s) (hA : okA A) : DiM (pushN 14) (pushH 14 H A) (cpI s f1 0 (59 * 13) 59) := by
  show DiM 14 (va_up (fun k => H (k + 1)) 13 A) (cpI s f1 0 (59 * 13) 59)
  intro i hi
  by_cases e : i = 13
  · subst e
    rw [va_s]
    exact ⟨hM.cong hA (fun j hj => (cpI_in hj).trans (by rw [Nat.zero_add])), hA⟩
  · rw [va_n _ _ e]
    obtain ⟨q1, q2⟩ := hd (i + 1) (by omega)
    exact ⟨q1.cong q2 (fun j hj => (cpI_out (by omega)).trans ((hf _ (by omega)).trans (congrArg fd (by omega)))), q2⟩
end
theorem f3_1 {a b c : Bool} (h : a = false) : fst3 a b c = 1 := by subst h; rfl
theorem f3_2 {a b c : Bool} (h1 : a = true) (h : b = false) : fst3 a b c = 2 := by subst h; subst h1; rfl
theorem f3_3 {a b c : Bool} (h1 : a = true) (h2 : b = true) (h : c = false) : fst3 a b c = 3 := by subst h; subst h1; subst h2; rfl
theorem seq_1 {a b k : Nat} (h : a = k) (hk : k ≠ 0) : seqC a b = k := by subst h; exact if_neg hk
theorem seq_2 {a b k : Nat} (h : a = 0) (h2 : b = k) : seqC a b = k := by rw [show seqC a b = b from if_pos h, h2]
theorem seq_r (a : Nat) : seqC a 0 = a := by unfold seqC; split <;> omega
set_option maxRecDepth 100000 in
set_option maxHeartbeats 800000 in
theorem c_rememberM (l : Launch) (G : Gl) (σ : Sg) (fd s hh xx mm : Nat → Int32) (A : Ab) (hM : RelM A s) (hA : okA A) (k : Nat) (H : Nat → Ab) (hk : k ≤ 14) (hm6 : mm 6 = nI k) (hd : DiM k H fd) : Cv l yX6_remember cX6_remember 2 ({ frames := 1, cells := 0, slots := 0, locals := 24 } : Room) G [.ref (G.2.1 + 134)] (mB (oB σ 138 fd) 136 s hh xx mm) (fun σ2 => ∃ f2, σ2 = mB (oB σ 138 f2) 136 s hh xx (upd mm 6 (nI (pushN k))) ∧ DiM (pushN k) (pushH k H A) f2) := by
  refine Cv_of (own := RX6) rfl (by decide +kernel) (lo := [(0, .ref (G.2.1 + 134))]) rfl (Nat.le_of_ble_eq_true rfl) ?_
  intro x Q hxl h hret
  subst hxl
  have hc := rc136
  refine r_aload_n (pc := 0) h 0 rfl rfl dX6_remember_0 ?_
  refine g_6_acts (pc := 1) h mw_20_6 dX6_remember_1 ?_
  refine r_topi (b := mm 6) (mB_m hc _) ?_
  refine r_topi (b := nI k) hm6 ?_
  refine r_bipush (pc := 4) (v := nI 14) h (by decide) dX6_remember_4 ?_
  refine r_icmp_ne (pc := 6) (tgt := 49) h (by decide) dX6_remember_6 (fun c6 => ?_) (fun c6 => ?_)
  · skip
    rw [nI_eq (by omega) (by omega)] at c6
    refine r_aload_n (pc := 49) h 0 rfl rfl dX6_remember_49 ?_
    refine g_6_now (pc := 50) h mw_3_21 dX6_remember_50 ?_
    refine r_iconst (pc := 53) (v := nI 0) h (by decide) dX6_remember_53 ?_
    refine r_aload_n (pc := 54) h 0 rfl rfl dX6_remember_54 ?_
    refine g_6_diary (pc := 55) h mw_3_23 dX6_remember_55 ?_
    refine r_bipush (pc := 58) (v := nI 59) h (by decide) dX6_remember_58 ?_
    refine r_aload_n (pc := 60) h 0 rfl rfl dX6_remember_60 ?_
    refine g_6_acts (pc := 61) h mw_20_6 dX6_remember_61 ?_
    refine r_topi (b := mm 6) (mB_m hc _) ?_
    refine r_topi (b := nI k) hm6 ?_
    refine r_imul (pc := 64) (v := nI (59 * k)) h (pk_mul _ _) dX6_remember_64 ?_
    refine r_cSv (pc := 65) (As := [.ref (G.2.1 + 136), .int (nI 0), .ref (G.2.1 + 138), .int (nI (59 * k))]) (st := []) h lk_RX6_176 (c_copyM x.2.1 G (mB (oB σ 138 fd) 136 s hh xx mm) 136 138 59 826 0 ((59 * k)) a_mn a_md (by decide) (by omega) (by omega)) (by decide) rfl rfl (by first | decide | exact Nat.le_of_ble_eq_true rfl) (by decide) dX6_remember_65 (fun s2 q3 => ?_)
    rw [q3, mB_sF, mB_dF hc, mB_oB _ _ (by decide)]
    refine r_aload_n (pc := 68) h 0 rfl rfl dX6_remember_68 ?_
    refine r_dup (pc := 69) h rfl dX6_remember_69 ?_
    refine g_6_acts (pc := 70) h mw_20_6 dX6_remember_70 ?_
    refine r_topi (b := mm 6) (mB_m hc _) ?_
    refine r_topi (b := nI k) hm6 ?_
    refine r_iconst (pc := 73) (v := nI 1) h (by decide) dX6_remember_73 ?_
    refine r_iadd (pc := 74) (v := nI (k + 1)) h (nI_add _ _) dX6_remember_74 ?_
    refine p_6_acts (pc := 75) h mw_20_6 dX6_remember_75 ?_
    refine V.sg (mB_sm hc _ _) ?_
    exact hret _ (⟨_, (by rw [show pushN k = k + 1 from if_pos (by omega)]), dim_push1 (by omega) hd hM hA⟩) 78 _ dX6_remember_78
  · skip
    rw [nI_eq (by omega) (by omega)] at c6
    subst c6
    refine r_iconst (pc := 9) (v := nI 0) h (by decide) dX6_remember_9 ?_
    refine r_istore_n (pc := 10) (lo2 := [(1, .int (nI 0)), (0, .ref (G.2.1 + 134))]) h rfl (by decide) rfl dX6_remember_10 ?_
    have lp11 : ∀ (fu : Nat) (i : Nat) (f1 : Nat → Int32), i ≤ 767 → (∀ j, j < i → f1 j = fd (j + 59)) → (∀ j, i ≤ j → f1 j = fd j) → 767 - i < fu → V x G 2 0 0 Q (mB (oB σ 138 f1) 136 s hh xx mm) 11 [(0, .ref (G.2.1 + 134)), (1, .int (nI i))] [] := by
      intro fu
      induction fu with
      | zero => intro i f1 hi hz hz2 hfu; exact absurd hfu (Nat.not_lt_zero _)
      | succ fu ih11 =>
        intro i f1 hi hz hz2 hfu
        refine r_iload_n (pc := 11) h 1 rfl rfl dX6_remember_11 ?_
        refine r_sipush (pc := 12) (v := nI 767) h (by decide) dX6_remember_12 ?_
        refine r_icmp_ge (pc := 15) (tgt := 39) h (by decide) dX6_remember_15 (fun c15 => ?_) (fun c15 => ?_)
        · skip
          rw [nI_leI (by omega) (by omega)] at c15
          have e9 : i = 767 := by omega
          subst e9
          refine r_aload_n (pc := 39) h 0 rfl rfl dX6_remember_39 ?_
          refine r_dup (pc := 40) h rfl dX6_remember_40 ?_
          refine g_6_acts (pc := 41) h mw_20_6 dX6_remember_41 ?_
          refine r_topi (b := mm 6) (mB_m hc _) ?_
          refine r_topi (b := nI 14) hm6 ?_
          refine r_iconst (pc := 44) (v := nI 1) h (by decide) dX6_remember_44 ?_
          refine r_isub (pc := 45) (v := nI (14 - 1)) h (pk_sub (by omega)) dX6_remember_45 ?_
          refine p_6_acts (pc := 46) h mw_20_6 dX6_remember_46 ?_
          refine V.sg (mB_sm hc _ _) ?_
          refine r_aload_n (pc := 49) h 0 rfl rfl dX6_remember_49 ?_
          refine g_6_now (pc := 50) h mw_3_21 dX6_remember_50 ?_
          refine r_iconst (pc := 53) (v := nI 0) h (by decide) dX6_remember_53 ?_
          refine r_aload_n (pc := 54) h 0 rfl rfl dX6_remember_54 ?_
          refine g_6_diary (pc := 55) h mw_3_23 dX6_remember_55 ?_
          refine r_bipush (pc := 58) (v := nI 59) h (by decide) dX6_remember_58 ?_
          refine r_aload_n (pc := 60) h 0 rfl rfl dX6_remember_60 ?_
          refine g_6_acts (pc := 61) h mw_20_6 dX6_remember_61 ?_
          refine r_topi (b := (upd mm 6 (nI (14 - 1))) 6) (mB_m hc _) ?_
          refine r_topi (b := nI 13) pk_us ?_
          refine r_imul (pc := 64) (v := nI (59 * 13)) h (pk_mul _ _) dX6_remember_64 ?_
          refine r_cSv (pc := 65) (As := [.ref (G.2.1 + 136), .int (nI 0), .ref (G.2.1 + 138), .int (nI (59 * 13))]) (st := []) h lk_RX6_176 (c_copyM x.2.1 G (mB (oB σ 138 f1) 136 s hh xx (upd mm 6 (nI (14 - 1)))) 136 138 59 826 0 ((59 * 13)) a_mn a_md (by decide) (by omega) (by omega)) (by decide) rfl rfl (by first | decide | exact Nat.le_of_ble_eq_true rfl) (by decide) dX6_remember_65 (fun s5 q6 => ?_)
          rw [q6, mB_sF, mB_dF hc, mB_oB _ _ (by decide)]
          refine r_aload_n (pc := 68) h 0 rfl rfl dX6_remember_68 ?_
          refine r_dup (pc := 69) h rfl dX6_remember_69 ?_
          refine g_6_acts (pc := 70) h mw_20_6 dX6_remember_70 ?_
          refine r_topi (b := (upd mm 6 (nI (14 - 1))) 6) (mB_m hc _) ?_
          refine r_topi (b := nI 13) pk_us ?_
          refine r_iconst (pc := 73) (v := nI 1) h (by decide) dX6_remember_73 ?_
          refine r_iadd (pc := 74) (v := nI (13 + 1)) h (nI_add _ _) dX6_remember_74 ?_
          refine p_6_acts (pc := 75) h mw_20_6 dX6_remember_75 ?_
          refine V.sg (mB_sm hc _ _) ?_
          refine V.sg (congrArg (mB (oB σ 138 (cpI s f1 0 ((59 * 13)) 59)) 136 s hh xx) (upd_2 mm 6 _ _)) ?_
          exact hret _ (⟨_, rfl, dim_push2 hd hz hM hA⟩) 78 _ dX6_remember_78
        · skip
          rw [nI_leI (by omega) (by omega)] at c15
          refine r_aload_n (pc := 18) h 0 rfl rfl dX6_remember_18 ?_
          refine g_6_diary (pc := 19) h mw_3_23 dX6_remember_19 ?_
          refine r_iload_n (pc := 22) h 1 rfl rfl dX6_remember_22 ?_
          refine r_aload_n (pc := 23) h 0 rfl rfl dX6_remember_23 ?_
          refine g_6_diary (pc := 24) h mw_3_23 dX6_remember_24 ?_
          refine r_iload_n (pc := 27) h 1 rfl rfl dX6_remember_27 ?_
          refine r_bipush (pc := 28) (v := nI 59) h (by decide) dX6_remember_28 ?_
          refine r_iadd (pc := 30) (v := nI (i + 59)) h (nI_add _ _) dX6_remember_30 ?_
          refine r_iald (pc := 31) h a_md (i + 59) rfl (by omega) dX6_remember_31 ?_
          refine r_topi (b := f1 (i + 59)) (mB_d _ hc) ?_
          refine r_iast (pc := 32) (w := f1 (i + 59)) h a_md i rfl (by omega) rfl dX6_remember_32 ?_
          refine V.sg (mB_sd hc _ _) ?_
          refine r_iinc (pc := 33) (v := nI (i + 1)) (lo2 := [(1, .int (nI (i + 1))), (0, .ref (G.2.1 + 134))]) h 1 rfl (iinc1 _) (by decide) rfl dX6_remember_33 ?_
          refine r_goto (pc := 36) (tgt := 11) h (by decide) dX6_remember_36 ?_
          refine r_sub (lo2 := [(0, .ref (G.2.1 + 134)), (1, .int (nI (i + 1)))]) [1, 0] rfl ?_
          exact ih11 (i + 1) _ (by omega) (fun j hj => by by_cases e : j = i; (subst e; exact pk_us.trans (hz2 _ (by omega))); (rw [pk_un e]; exact hz j (by omega))) (fun j hj => (pk_un (by omega)).trans (hz2 j (by omega))) (by omega)
    refine r_sub (lo2 := [(0, .ref (G.2.1 + 134)), (1, .int (nI 0))]) [1, 0] rfl ?_
    exact lp11 _ 0 fd (by omega) (fun j hj => absurd hj (Nat.not_lt_zero j)) (fun j hj => rfl) (Nat.lt_succ_self _)

set_option maxRecDepth 100000 in
set_option maxHeartbeats 800000 in
theorem c_neither (l : Launch) (G : Gl) (σ : Sg) (s hh xx mm : Nat → Int32) (A : Ab) (hM : RelM A s) (hA : okA A) (u1 u2 : Int32) : Ci l yX6_neither cX6_neither 3 .int ({ frames := 2, cells := 0, slots := 0, locals := 46 } : Room) G [.ref (G.2.1 + 134), .int u1, .int u2] (mB σ 136 s hh xx mm) (fun r σ2 => r = nI (if (liB A u1 && liB A u2) = true then 0 else 1) ∧ σ2 = mB σ 136 s hh xx mm) := by
  refine Ci_of (own := RX6) rfl (by decide +kernel) (lo := [(0, .ref (G.2.1 + 134)), (1, .int u1), (2, .int u2)]) rfl (Nat.le_of_ble_eq_true rfl) (fun r s hp => by obtain ⟨rfl, _⟩ := hp; rfl) ?_
  intro x Q hxl h hret
  subst hxl
  have hc := rc136
  have h12 := hA.1
  have h4 := hA.2.1
  refine r_aload_n (pc := 0) h 0 rfl rfl dX6_neither_0 ?_
  refine g_6_now (pc := 1) h mw_3_21 dX6_neither_1 ?_
  refine r_iload_n (pc := 4) h 1 rfl rfl dX6_neither_4 ?_
  refine r_cSi (pc := 5) (As := [.ref (G.2.1 + 136), .int u1]) (st := []) h lk_RX6_123 (c_isListM x.2.1 G (mB σ 136 s hh xx mm) 136 hc A (by rw [mB_sF]; exact hM) (by omega) u1) (by decide) rfl rfl (by first | decide | exact Nat.le_of_ble_eq_true rfl) (by decide) dX6_neither_5 (fun r1 s2 q3 => ?_)
  rw [q3.1, q3.2]
  refine r_if_eq (pc := 8) (tgt := 26) h (by decide) dX6_neither_8 (fun c8 => ?_) (fun c8 => ?_)
  · skip
    replace c8 := zB_0.mp c8
    refine r_iconst (pc := 26) (v := nI 1) h (by decide) dX6_neither_26 ?_
    exact hret _ _ (⟨by rw [and_f1 c8]; rfl, rfl⟩) 27 _ dX6_neither_27
  · skip
    replace c8 := zB_n0.mp c8
    refine r_aload_n (pc := 11) h 0 rfl rfl dX6_neither_11 ?_
    refine g_6_now (pc := 12) h mw_3_21 dX6_neither_12 ?_
    refine r_iload_n (pc := 15) h 2 rfl rfl dX6_neither_15 ?_
    refine r_cSi (pc := 16) (As := [.ref (G.2.1 + 136), .int u2]) (st := []) h lk_RX6_123 (c_isListM x.2.1 G (mB σ 136 s hh xx mm) 136 hc A (by rw [mB_sF]; exact hM) (by omega) u2) (by decide) rfl rfl (by first | decide | exact Nat.le_of_ble_eq_true rfl) (by decide) dX6_neither_16 (fun r4 s5 q6 => ?_)
    rw [q6.1, q6.2]
    refine r_if_eq (pc := 19) (tgt := 26) h (by decide) dX6_neither_19 (fun c19 => ?_) (fun c19 => ?_)
    · skip
      replace c19 := zB_0.mp c19
      refine r_iconst (pc := 26) (v := nI 1) h (by decide) dX6_neither_26 ?_
      exact hret _ _ (⟨by rw [and_f2 c19]; rfl, rfl⟩) 27 _ dX6_neither_27
    · skip
      replace c19 := zB_n0.mp c19
      refine r_iconst (pc := 22) (v := nI 0) h (by decide) dX6_neither_22 ?_
      refine r_goto (pc := 23) (tgt := 27) h (by decide) dX6_neither_23 ?_
      exact hret _ _ (⟨by rw [and_t c8 c19]; rfl, rfl⟩) 27 _ dX6_neither_27

