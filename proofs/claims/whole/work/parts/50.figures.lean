/-! A STATE AS IT CAN BE stays so -/
section
variable {A : Ab}
theorem anyN_no {l : Nat → Nat} {q : Nat} : ∀ {n : Nat}, anyN l q n = false → ∀ r, r < n → l r ≠ q
  | 0, _, r, hr => absurd hr (Nat.not_lt_zero r)
  | n + 1, h, r, hr => by
    rw [anyN, Bool.or_eq_false_iff, decide_eq_false_iff_not] at h
    by_cases z : r = n
    · subst z; exact h.2
    · exact anyN_no h.1 r (by omega)
theorem okA_make (hA : okA A) {u : Rul} (hu : okR u A.1) (hN : A.1 < 12) : okA (mkA A u) := by
  obtain ⟨h1, h2, h3, h4⟩ := hA
  refine ⟨hN, h2, fun L hL => ?_, fun r hr => ?_⟩
  · have hL : L < A.1 + 1 := hL
    show okR (va_up (aU A) A.1 u L) L
    by_cases e : L = A.1
    · subst e; rw [va_s]; exact hu
    · rw [va_n _ _ e]; exact h3 L (by omega)
  · obtain ⟨q1, q2⟩ := h4 r hr
    refine ⟨Nat.lt_succ_of_lt q1, ?_⟩
    show aP A r ≤ cS (mem (va_up (aU A) A.1 u) (aL A r)) 1000
    rw [mem_cong (U2 := aU A) (fun j hj => va_n _ _ (by omega))]
    exact q2
theorem okA_drop (hA : okA A) (hn : anyN (aL A) (A.1 - 1) A.2.1 = false) : okA (A.1 - 1, A.2) := by
  obtain ⟨h1, h2, h3, h4⟩ := hA
  refine ⟨by show A.1 - 1 ≤ 12; omega, h2, fun L hL => h3 L (by have : L < A.1 - 1 := hL; omega), fun r hr => ?_⟩
  obtain ⟨q1, q2⟩ := h4 r hr
  have := anyN_no hn r hr
  exact ⟨by show aL A r < A.1 - 1; omega, q2⟩
theorem okA_begin (hA : okA A) {L : Nat} (hL : L < A.1) (hR : A.2.1 < 4) : okA (A.1, A.2.1 + 1, A.2.2.1, aU A, va_up (aL A) A.2.1 L, va_up (aP A) A.2.1 0) := by
  obtain ⟨h1, h2, h3, h4⟩ := hA
  refine ⟨h1, hR, h3, fun r hr => ?_⟩
  have hr : r < A.2.1 + 1 := hr
  show va_up (aL A) A.2.1 L r < A.1 ∧ va_up (aP A) A.2.1 0 r ≤ cS (mem (aU A) (va_up (aL A) A.2.1 L r)) 1000
  by_cases e : r = A.2.1
  · subst e; rw [va_s, va_s]; exact ⟨hL, Nat.zero_le _⟩
  · rw [va_n _ _ e, va_n _ _ e]; exact h4 r (by omega)
theorem okA_pass (hA : okA A) {i P : Nat} {d : Int32} (hP : P ≤ cS (mem (aU A) (aL A i)) 1000) : okA (A.1, A.2.1, d, aU A, aL A, va_up (aP A) i P) := by
  obtain ⟨h1, h2, h3, h4⟩ := hA
  refine ⟨h1, h2, h3, fun r hr => ?_⟩
  show aL A r < A.1 ∧ va_up (aP A) i P r ≤ cS (mem (aU A) (aL A r)) 1000
  by_cases e : r = i
  · subst e; rw [va_s]; exact ⟨(h4 r hr).1, hP⟩
  · rw [va_n _ _ e]; exact h4 r hr
theorem okA_stop (hA : okA A) {i : Nat} (hi : i < A.2.1) : okA (A.1, A.2.1 - 1, A.2.2.1, aU A, (fun j => if i ≤ j then aL A (j + 1) else aL A j), (fun j => if i ≤ j then aP A (j + 1) else aP A j)) := by
  obtain ⟨h1, h2, h3, h4⟩ := hA
  refine ⟨h1, by show A.2.1 - 1 ≤ 4; omega, h3, fun r hr => ?_⟩
  have hr : r < A.2.1 - 1 := hr
  show (if i ≤ r then aL A (r + 1) else aL A r) < A.1 ∧ (if i ≤ r then aP A (r + 1) else aP A r) ≤ cS (mem (aU A) (if i ≤ r then aL A (r + 1) else aL A r)) 1000
  by_cases e : i ≤ r
  · rw [if_pos e, if_pos e]; exact h4 (r + 1) (by omega)
  · rw [if_neg e, if_neg e]; exact h4 r (by omega)
theorem okA_empty : okA emptyA := ⟨by decide, by decide, fun L hL => absurd hL (Nat.not_lt_zero L), fun r hr => absurd hr (Nat.not_lt_zero r)⟩
theorem nextO_le {i v : Nat} (hv : nextO A i = some v) : aP A i + 1 ≤ cS (mem (aU A) (aL A i)) 1000 := by
  obtain ⟨v1, v2, v3⟩ := ath_spec hv
  have h := cS_up v2 v3
  have := cS_mono (mem (aU A) (aL A i)) (show v + 1 ≤ 1000 by omega)
  omega
theorem okA_co (hA : okA A) {K : Nat} (hK : K = 115 ∨ K = 120 ∨ K = 106 ∨ K = 104 ∨ K = 119 ∨ K = 118 ∨ K = 117 ∨ K = 101 ∨ K = 100 ∨ K = 114 ∨ K = 110 ∨ K = 107 ∨ K = 122 ∨ K = 113) {u1 u2 u3 : Int32} (h0 : ob A K u1 u2 u3 = 0) : okA (co A K u1 u2 u3).2 := by
  have hN := hA.1
  have hR := hA.2.1
  rcases hK with rfl | rfl | rfl | rfl | rfl | rfl | rfl | rfl | rfl | rfl | rfl | rfl | rfl | rfl
  · obtain ⟨m, n, rfl, rfl, a, b, c, d⟩ := ob_115 h0
    show okA (mkA A (0, toN (nI m), toN (nI n), 0))
    rw [toN_nI (by omega), toN_nI (by omega)]
    exact okA_make hA ⟨a, b, c⟩ d
  · obtain ⟨L, m, n, rfl, rfl, rfl, a, b, c, d, e⟩ := ob_120 hN h0
    show okA (mkA A (1, toN (nI L), toN (nI m), toN (nI n)))
    rw [toN_nI (by omega), toN_nI (by omega), toN_nI (by omega)]
    exact okA_make hA ⟨a, b, c, d⟩ e
  · obtain ⟨L, M, rfl, rfl, a, b, c⟩ := ob_LL hN h0
    show okA (mkA A (2, toN (nI L), toN (nI M), 0))
    rw [toN_nI (by omega), toN_nI (by omega)]
    exact okA_make hA ⟨a, b⟩ c
  · obtain ⟨L, M, rfl, rfl, a, b, c⟩ := ob_LL hN h0
    show okA (mkA A (3, toN (nI L), toN (nI M), 0))
    rw [toN_nI (by omega), toN_nI (by omega)]
    exact okA_make hA ⟨a, b⟩ c
  · obtain ⟨L, M, rfl, rfl, a, b, c⟩ := ob_LL hN h0
    show okA (mkA A (4, toN (nI L), toN (nI M), 0))
    rw [toN_nI (by omega), toN_nI (by omega)]
    exact okA_make hA ⟨a, b⟩ c
  · obtain ⟨L, rfl, a, c⟩ := ob_L hN h0
    show okA (mkA A (5, toN (nI L), 0, 0))
    rw [toN_nI (by omega)]
    exact okA_make hA a c
  · obtain ⟨L, rfl, a, c⟩ := ob_L hN h0
    show okA (mkA A (7, toN (nI L), 0, 0))
    rw [toN_nI (by omega)]
    exact okA_make hA a c
  · obtain ⟨L, m, rfl, rfl, a, b, c, d⟩ := ob_101 hN h0
    show okA (mkA A (6, toN (nI L), toN (nI m), 0))
    rw [toN_nI (by omega), toN_nI (by omega)]
    exact okA_make hA ⟨a, b, c⟩ d
  · obtain ⟨-, b⟩ := ob_100 h0
    exact okA_drop hA b
  · obtain ⟨L, rfl, a, b⟩ := ob_114 hN h0
    show okA (A.1, A.2.1 + 1, A.2.2.1, aU A, va_up (aL A) A.2.1 (toN (nI L)), va_up (aP A) A.2.1 0)
    rw [toN_nI (by omega)]
    exact okA_begin hA a b
  · obtain ⟨i, v, rfl, hi, hv⟩ := ob_110 hR h0
    show okA (A.1, A.2.1, A.2.2.1 + 1, aU A, aL A, va_up (aP A) (toN (nI i)) (aP A (toN (nI i)) + 1))
    rw [toN_nI (by omega)]
    exact okA_pass hA (nextO_le hv)
  · obtain ⟨i, m, rfl, rfl, hi, h1, h2⟩ := ob_107 hR h0
    show okA (A.1, A.2.1, A.2.2.1, aU A, aL A, va_up (aP A) (toN (nI i)) (aP A (toN (nI i)) + skN A (toN (nI i)) (toN (nI m))))
    rw [toN_nI (by omega), toN_nI (by omega)]
    refine okA_pass hA ?_
    have := (hA.2.2.2 i hi).2
    unfold skN cntL; omega
  · obtain ⟨i, rfl, hi⟩ := ob_R hR h0
    show okA (A.1, A.2.1, A.2.2.1, aU A, aL A, va_up (aP A) (toN (nI i)) 0)
    exact okA_pass hA (Nat.zero_le _)
  · obtain ⟨i, rfl, hi⟩ := ob_R hR h0
    show okA (A.1, A.2.1 - 1, A.2.2.1, aU A, (fun j => if toN (nI i) ≤ j then aL A (j + 1) else aL A j), (fun j => if toN (nI i) ≤ j then aP A (j + 1) else aP A j))
    rw [toN_nI (by omega)]
    exact okA_stop hA hi
theorem okA_att (hA : okA A) {K : Nat} (hK : K = 115 ∨ K = 120 ∨ K = 106 ∨ K = 104 ∨ K = 119 ∨ K = 118 ∨ K = 117 ∨ K = 101 ∨ K = 100 ∨ K = 114 ∨ K = 110 ∨ K = 107 ∨ K = 122 ∨ K = 113) (u1 u2 u3 : Int32) : okA (att A K u1 u2 u3).2 := by
  by_cases h : ob A K u1 u2 u3 = 0
  · rw [att_0 h]; exact okA_co hA hK h
  · unfold att; rw [if_neg h]; exact hA
end
/-! THE REFERENCE: it reads a number -/
def usK : Nat → List Nat
  | 0 => []
  | 1 => [1]
  | 2 => [10, 1]
  | _ => [100, 10, 1]
def pwK : Nat → Nat
  | 0 => 0
  | 1 => 1
  | 2 => 10
  | _ => 100
theorem usK_s {k : Nat} (h : k < 3) : usK (k + 1) = pwK (k + 1) :: usK k := by
  rcases (show k = 0 ∨ k = 1 ∨ k = 2 by omega) with rfl | rfl | rfl <;> rfl
theorem pwK_d {k : Nat} (h : k < 3) : pwK (k + 1) / 10 = pwK k := by
  rcases (show k = 0 ∨ k = 1 ∨ k = 2 by omega) with rfl | rfl | rfl <;> rfl
theorem pwK_le {k : Nat} (h : k ≤ 3) : pwK k ≤ 100 ∧ (0 < pwK k ↔ 0 < k) := by
  rcases (show k = 0 ∨ k = 1 ∨ k = 2 ∨ k = 3 by omega) with rfl | rfl | rfl | rfl <;> decide
theorem upd_2 (f : Nat → Int32) (j : Nat) (x y : Int32) : upd (upd f j x) j y = upd f j y := funext fun i => by
  by_cases e : i = j
  · subst e; rw [pk_us, pk_us]
  · rw [pk_un e, pk_un e, pk_un e]
theorem upd_id {f : Nat → Int32} {j : Nat} {x : Int32} (h : f j = x) : upd f j x = f := by rw [← h]; exact upd_self f j
theorem dig_in {tx : Nat → Nat} {n a : Nat} (ha : a < n) (ht : tx a < 256) : (∃ d, d ≤ 9 ∧ dig tx n a = some d ∧ nI (tx a) - nI 48 = nI d) ∨ (dig tx n a = none ∧ inB (nI 0) (nI 9) (nI (tx a) - nI 48) = false) := by
  have lo48 : ∀ t, t < 48 → inB (nI 0) (nI 9) (nI t - nI 48) = false := by decide +kernel
  by_cases h : 48 ≤ tx a
  · by_cases h2 : tx a ≤ 57
    · exact Or.inl ⟨tx a - 48, by omega, by unfold dig; rw [if_pos ⟨ha, h, h2⟩], pk_sub h⟩
    · refine Or.inr ⟨by unfold dig; rw [if_neg (fun q => h2 q.2.2)], ?_⟩
      rw [pk_sub h]
      exact decide_eq_false (fun q => by have := q.2; rw [nI_leI (by omega) (by omega)] at this; omega)
  · exact Or.inr ⟨by unfold dig; rw [if_neg (fun q => h q.2.1)], lo48 _ (by omega)⟩
theorem dig_no {tx : Nat → Nat} {n a : Nat} (ha : n ≤ a) : dig tx n a = none := by unfold dig; rw [if_neg (fun q => by omega)]
theorem in_09 {d : Nat} (h : d ≤ 9) : inB (nI 0) (nI 9) (nI d) = true := decide_eq_true ⟨by rw [nI_leI (by omega) (by omega)]; omega, by rw [nI_leI (by omega) (by omega)]; omega⟩
theorem mB_t {σ : Sg} {c : Nat} {s h x m : Nat → Int32} (hc : Rc c) (j : Nat) : (mB σ c s h x m).1 135 j = σ.1 135 j := mB_oj (by rcases hc with rfl | rfl <;> decide) j
def TxM (n : Nat) (tx : Nat → Nat) (σ : Sg) : Prop := n ≤ 120 ∧ ∀ i, i < n → σ.1 135 i = nI (tx i) ∧ tx i < 256
set_option maxRecDepth 100000 in
set_option maxHeartbeats 800000 in
theorem c_fig (l : Launch) (G : Gl) (σ : Sg) (c : Nat) (hc : Rc c) (s hh xx m : Nat → Int32) (n : Nat) (tx : Nat → Nat) (ht : TxM n tx σ) (hm2 : m 2 = nI n) (a : Nat) (ha : a ≤ n) (hm11 : m 11 = nI a) (p k lo hi : Nat) (hp : p < 2 ^ 31) (hk : k ≤ 3) (hlo : lo ≤ 999) (hhi : hi ≤ 999) : Ci l yX6_figures cX6_figures 9 .int ({ frames := 1, cells := 0, slots := 0, locals := 25 } : Room) G [.ref (G.2.1 + 134), .int (nI p), .int (nI (pwK k)), .int (nI lo), .int (nI hi)] (mB σ c s hh xx m) (fun r σ2 => r = oI (fig tx n lo hi (usK k) 0 a).1 ∧ σ2 = mB σ c s hh xx (upd m 11 (nI ((fig tx n lo hi (usK k) 0 a).2)))) := by
  refine Ci_of (own := RX6) rfl (by decide +kernel) (lo := [(0, .ref (G.2.1 + 134)), (1, .int (nI p)), (2, .int (nI (pwK k))), (3, .int (nI lo)), (4, .int (nI hi))]) rfl (Nat.le_of_ble_eq_true rfl) (fun r s hp => by obtain ⟨rfl, _⟩ := hp; rfl) ?_
  intro x Q hxl h hret
  subst hxl
  have hn9 := ht.1
  have hpk := fun j (hj : j ≤ k) => pwK_le (show j ≤ 3 by omega)
  refine r_iconst (pc := 0) (v := nI 0) h (by decide) dX6_figures_0 ?_
  refine r_istore (pc := 1) (lo2 := [(5, .int (nI 0)), (0, .ref (G.2.1 + 134)), (1, .int (nI p)), (2, .int (nI (pwK k))), (3, .int (nI lo)), (4, .int (nI hi))]) h (by decide) rfl dX6_figures_1 ?_
  refine r_iload_n (pc := 3) h 3 rfl rfl dX6_figures_3 ?_
  refine r_istore (pc := 4) (lo2 := [(6, .int (nI (pwK k))), (5, .int (nI 0)), (0, .ref (G.2.1 + 134)), (1, .int (nI p)), (2, .int (nI (pwK k))), (3, .int (nI lo)), (4, .int (nI hi))]) h (by decide) rfl dX6_figures_4 ?_
  have lp6 : ∀ (fu : Nat) (j : Nat) (v : Nat) (b : Nat), j ≤ k → b ≤ n → v ≤ 999 → fig tx n lo hi (usK k) 0 a = fig tx n lo hi (usK j) v b → j < fu → V x G 9 0 0 Q (mB σ c s hh xx (upd m 11 (nI b))) 6 [(0, .ref (G.2.1 + 134)), (1, .int (nI p)), (3, .int (nI lo)), (4, .int (nI hi)), (5, .int (nI v)), (6, .int (nI (pwK j)))] [] := by
    intro fu
    induction fu with
    | zero => intro j v b hj hb hv hf hfu; exact absurd hfu (Nat.not_lt_zero _)
    | succ fu ih6 =>
      intro j v b hj hb hv hf hfu
      refine r_iload (pc := 6) h 5 rfl dX6_figures_6 ?_
      refine r_if_le (pc := 8) (tgt := 112) h (by decide) dX6_figures_8 (fun c8 => ?_) (fun c8 => ?_)
      · skip
        have hpj := hpk j hj
        rw [zI0, nI_leI (by omega) (by omega)] at c8
        obtain rfl : j = 0 := by omega
        refine r_iload_n (pc := 112) h 1 rfl rfl dX6_figures_112 ?_
        refine r_iconst (pc := 113) (v := (-1)) h (by decide) dX6_figures_113 ?_
        refine r_icmp_ne (pc := 114) (tgt := 121) h (by decide) dX6_figures_114 (fun c114 => ?_) (fun c114 => ?_)
        · skip
          refine r_iload (pc := 121) h 4 rfl dX6_figures_121 ?_
          exact hret _ _ ((by rw [hf]; exact ⟨rfl, rfl⟩)) 123 _ dX6_figures_123
        · skip
          exact absurd c114 (nI_ne hp)
      · skip
        have hpj := hpk j hj
        rw [zI0, nI_leI (by omega) (by omega)] at c8
        obtain ⟨i, rfl⟩ : ∃ i, j = i + 1 := ⟨j - 1, by omega⟩
        rw [usK_s (by omega)] at hf
        refine r_iload_n (pc := 11) h 1 rfl rfl dX6_figures_11 ?_
        refine r_iconst (pc := 12) (v := (-1)) h (by decide) dX6_figures_12 ?_
        refine r_icmp_eq (pc := 13) (tgt := 112) h (by decide) dX6_figures_13 (fun c13 => absurd c13 (nI_ne hp)) (fun c13 => ?_)
        refine r_aload_n (pc := 16) h 0 rfl rfl dX6_figures_16 ?_
        refine g_6_spot (pc := 17) h mw_8_11 dX6_figures_17 ?_
        refine r_topi (b := (upd m 11 (nI b)) 11) (mB_m hc _) ?_
        refine r_topi (b := nI b) pk_us ?_
        refine r_aload_n (pc := 20) h 0 rfl rfl dX6_figures_20 ?_
        refine g_6_size (pc := 21) h mw_5_14 dX6_figures_21 ?_
        refine r_topi (b := (upd m 11 (nI b)) 2) (mB_m hc _) ?_
        refine r_topi (b := nI n) ((pk_un (by omega)).trans hm2) ?_
        refine r_icmp_ge (pc := 24) (tgt := 42) h (by decide) dX6_figures_24 (fun c24 => ?_) (fun c24 => ?_)
        · skip
          rw [nI_leI (by omega) (by omega)] at c24
          refine r_iconst (pc := 42) (v := (-1)) h (by decide) dX6_figures_42 ?_
          have hdg := dig_no (tx := tx) (show n ≤ b by omega)
          have hde : inB (nI 0) (nI 9) (-1) = false := by decide
          obtain ⟨dv, hdv⟩ : ∃ dv : Int32, dv = (-1) := ⟨_, rfl⟩
          rw [← hdv] at hde
          refine r_topi (b := dv) hdv.symm ?_
          refine r_istore (pc := 43) (lo2 := [(7, .int dv), (0, .ref (G.2.1 + 134)), (1, .int (nI p)), (3, .int (nI lo)), (4, .int (nI hi)), (5, .int (nI v)), (6, .int (nI (pwK (i + 1))))]) h (by decide) rfl dX6_figures_43 ?_
          refine r_iload (pc := 45) h 5 rfl dX6_figures_45 ?_
          refine r_iload (pc := 47) h 0 rfl dX6_figures_47 ?_
          refine r_iload (pc := 49) h 6 rfl dX6_figures_49 ?_
          refine r_imul (pc := 51) (v := dv * (nI (pwK (i + 1)))) h rfl dX6_figures_51 ?_
          refine r_iadd (pc := 52) (v := (nI v) + (dv * (nI (pwK (i + 1))))) h rfl dX6_figures_52 ?_
          refine r_istore (pc := 53) (lo2 := [(8, .int ((nI v) + (dv * (nI (pwK (i + 1)))))), (7, .int dv), (0, .ref (G.2.1 + 134)), (1, .int (nI p)), (3, .int (nI lo)), (4, .int (nI hi)), (5, .int (nI v)), (6, .int (nI (pwK (i + 1))))]) h (by decide) rfl dX6_figures_53 ?_
          refine r_iload (pc := 55) h 1 rfl dX6_figures_55 ?_
          refine r_i2l (pc := 57) (v := dv.toInt64) h rfl dX6_figures_57 ?_
          refine r_lconst (pc := 58) (v := 0) h (by decide) dX6_figures_58 ?_
          refine r_ldc2 (pc := 59) (v := 9) h mw_9_0 dX6_figures_59 ?_
          refine r_cSi (pc := 62) (As := [.long dv.toInt64, .long 0, .long 9]) (st := []) h lk_RX6_43 (c_in x.2.1 G (mB σ c s hh xx (upd m 11 (nI b))) dv (nI 0) (nI 9)) (by decide) rfl rfl (by first | decide | exact Nat.le_of_ble_eq_true rfl) (by decide) dX6_figures_62 (fun r1 s2 q3 => ?_)
          rw [q3.1, q3.2]
          refine r_if_eq (pc := 65) (tgt := 86) h (by decide) dX6_figures_65 (fun c65 => ?_) (fun c65 => ?_)
          · skip
            replace c65 := zB_0.mp c65
            refine r_iconst (pc := 86) (v := (-1)) h (by decide) dX6_figures_86 ?_
            exact hret _ _ ((by rw [hf, fig_n hdg]; exact ⟨rfl, rfl⟩)) 87 _ dX6_figures_87
          · skip
            replace c65 := zB_n0.mp c65
            exact absurd c65 (by rw [hde]; decide)
        · skip
          rw [nI_leI (by omega) (by omega)] at c24
          refine r_aload_n (pc := 27) h 0 rfl rfl dX6_figures_27 ?_
          refine g_6_text (pc := 28) h mw_3_20 dX6_figures_28 ?_
          refine r_aload_n (pc := 31) h 0 rfl rfl dX6_figures_31 ?_
          refine g_6_spot (pc := 32) h mw_8_11 dX6_figures_32 ?_
          refine r_topi (b := (upd m 11 (nI b)) 11) (mB_m hc _) ?_
          refine r_topi (b := nI b) pk_us ?_
          refine r_iald (pc := 35) h a_mt b rfl (by omega) dX6_figures_35 ?_
          refine r_topi (b := nI (tx b)) ((mB_t hc _).trans (ht.2 b (by omega)).1) ?_
          refine r_bipush (pc := 36) (v := nI 48) h (by decide) dX6_figures_36 ?_
          refine r_isub (pc := 38) (v := nI (tx b) - nI 48) h rfl dX6_figures_38 ?_
          refine r_goto (pc := 39) (tgt := 43) h (by decide) dX6_figures_39 ?_
          rcases dig_in (show b < n by omega) (ht.2 b (by omega)).2 with ⟨d, hd9, hdg, hde⟩ | ⟨hdg, hde⟩
          · skip
            refine r_topi (b := nI d) hde ?_
            have hpl := pwK_le (show i + 1 ≤ 3 by omega)
            have hdu : d * pwK (i + 1) ≤ 9 * 100 := Nat.mul_le_mul hd9 hpl.1
            refine r_istore (pc := 43) (lo2 := [(7, .int (nI d)), (0, .ref (G.2.1 + 134)), (1, .int (nI p)), (3, .int (nI lo)), (4, .int (nI hi)), (5, .int (nI v)), (6, .int (nI (pwK (i + 1))))]) h (by decide) rfl dX6_figures_43 ?_
            refine r_iload (pc := 45) h 5 rfl dX6_figures_45 ?_
            refine r_iload (pc := 47) h 0 rfl dX6_figures_47 ?_
            refine r_iload (pc := 49) h 6 rfl dX6_figures_49 ?_
            refine r_imul (pc := 51) (v := nI (d * (pwK (i + 1)))) h (pk_mul _ _) dX6_figures_51 ?_
            refine r_iadd (pc := 52) (v := nI (v + (d * (pwK (i + 1))))) h (nI_add _ _) dX6_figures_52 ?_
            refine r_istore (pc := 53) (lo2 := [(8, .int (nI (v + (d * (pwK (i + 1)))))), (7, .int (nI d)), (0, .ref (G.2.1 + 134)), (1, .int (nI p)), (3, .int (nI lo)), (4, .int (nI hi)), (5, .int (nI v)), (6, .int (nI (pwK (i + 1))))]) h (by decide) rfl dX6_figures_53 ?_
            refine r_iload (pc := 55) h 1 rfl dX6_figures_55 ?_
            refine r_i2l (pc := 57) (v := (nI d).toInt64) h rfl dX6_figures_57 ?_
            refine r_lconst (pc := 58) (v := 0) h (by decide) dX6_figures_58 ?_
            refine r_ldc2 (pc := 59) (v := 9) h mw_9_0 dX6_figures_59 ?_
            refine r_cSi (pc := 62) (As := [.long ((nI d).toInt64), .long 0, .long 9]) (st := []) h lk_RX6_43 (c_in x.2.1 G (mB σ c s hh xx (upd m 11 (nI b))) (nI d) (nI 0) (nI 9)) (by decide) rfl rfl (by first | decide | exact Nat.le_of_ble_eq_true rfl) (by decide) dX6_figures_62 (fun r4 s5 q6 => ?_)
            rw [q6.1, q6.2]
            refine r_if_eq (pc := 65) (tgt := 86) h (by decide) dX6_figures_65 (fun c65 => ?_) (fun c65 => ?_)
            · skip
              replace c65 := zB_0.mp c65
              exact absurd c65 (by rw [in_09 hd9]; decide)
            · skip
              replace c65 := zB_n0.mp c65
              refine r_iload (pc := 68) h 0 rfl dX6_figures_68 ?_
              refine r_iload (pc := 70) h 5 rfl dX6_figures_70 ?_
              refine r_icmp_gt (pc := 72) (tgt := 86) h (by decide) dX6_figures_72 (fun c72 => ?_) (fun c72 => ?_)
              · skip
                rw [nI_ltI (by omega) (by omega)] at c72
                refine r_iconst (pc := 86) (v := (-1)) h (by decide) dX6_figures_86 ?_
                exact hret _ _ ((by rw [hf, fig_f hdg (fun q => by have := q.1; omega)]; exact ⟨rfl, rfl⟩)) 87 _ dX6_figures_87
              · skip
                rw [nI_ltI (by omega) (by omega)] at c72
                refine r_iload (pc := 75) h 0 rfl dX6_figures_75 ?_
                refine r_iload (pc := 77) h 7 rfl dX6_figures_77 ?_
                refine r_iadd (pc := 79) (v := nI ((v + (d * (pwK (i + 1)))) + (pwK (i + 1)))) h (nI_add _ _) dX6_figures_79 ?_
                refine r_iconst (pc := 80) (v := nI 1) h (by decide) dX6_figures_80 ?_
                refine r_isub (pc := 81) (v := nI (((v + (d * (pwK (i + 1)))) + (pwK (i + 1))) - 1)) h (pk_sub (by omega)) dX6_figures_81 ?_
                refine r_iload_n (pc := 82) h 4 rfl rfl dX6_figures_82 ?_
                refine r_icmp_ge (pc := 83) (tgt := 88) h (by decide) dX6_figures_83 (fun c83 => ?_) (fun c83 => ?_)
                · skip
                  rw [nI_leI (by omega) (by omega)] at c83
                  rw [fig_s hdg (by omega) (by omega)] at hf
                  refine r_iload (pc := 88) h 0 rfl dX6_figures_88 ?_
                  refine r_istore (pc := 90) (lo2 := [(5, .int (nI (v + (d * (pwK (i + 1)))))), (8, .int (nI (v + (d * (pwK (i + 1)))))), (7, .int (nI d)), (0, .ref (G.2.1 + 134)), (1, .int (nI p)), (3, .int (nI lo)), (4, .int (nI hi)), (6, .int (nI (pwK (i + 1))))]) h (by decide) rfl dX6_figures_90 ?_
                  refine r_aload_n (pc := 92) h 3 rfl rfl dX6_figures_92 ?_
                  refine r_dup (pc := 93) h rfl dX6_figures_93 ?_
                  refine g_6_spot (pc := 94) h mw_8_11 dX6_figures_94 ?_
                  refine r_topi (b := (upd m 11 (nI b)) 11) (mB_m hc _) ?_
                  refine r_topi (b := nI b) pk_us ?_
                  refine r_iconst (pc := 97) (v := nI 1) h (by decide) dX6_figures_97 ?_
                  refine r_iadd (pc := 98) (v := nI (b + 1)) h (nI_add _ _) dX6_figures_98 ?_
                  refine p_6_spot (pc := 99) h mw_8_11 dX6_figures_99 ?_
                  refine V.sg (mB_sm hc _ _) ?_
                  refine V.sg (congrArg (mB σ c s hh xx) (upd_2 m 11 _ _)) ?_
                  refine r_iload (pc := 102) h 7 rfl dX6_figures_102 ?_
                  refine r_bipush (pc := 104) (v := nI 10) h (by decide) dX6_figures_104 ?_
                  refine r_idiv (pc := 106) (v := nI (pwK i)) h (by decide) ((pk_div (by omega) (by omega) (by omega)).trans (congrArg nI (pwK_d (by omega)))) dX6_figures_106 ?_
                  refine r_istore (pc := 107) (lo2 := [(6, .int (nI (pwK i))), (5, .int (nI (v + (d * (pwK (i + 1)))))), (8, .int (nI (v + (d * (pwK (i + 1)))))), (7, .int (nI d)), (0, .ref (G.2.1 + 134)), (1, .int (nI p)), (3, .int (nI lo)), (4, .int (nI hi))]) h (by decide) rfl dX6_figures_107 ?_
                  refine r_goto (pc := 109) (tgt := 6) h (by decide) dX6_figures_109 ?_
                  refine r_sub (lo2 := [(0, .ref (G.2.1 + 134)), (1, .int (nI p)), (3, .int (nI lo)), (4, .int (nI hi)), (5, .int (nI (v + (d * (pwK (i + 1)))))), (6, .int (nI (pwK i)))]) [4, 5, 6, 7, 1, 0] rfl ?_
                  exact ih6 i (v + d * pwK (i + 1)) (b + 1) (by omega) (by omega) (by omega) hf (by omega)
                · skip
                  rw [nI_leI (by omega) (by omega)] at c83
                  refine r_iconst (pc := 86) (v := (-1)) h (by decide) dX6_figures_86 ?_
                  exact hret _ _ ((by rw [hf, fig_f hdg (fun q => by have := q.2; omega)]; exact ⟨rfl, rfl⟩)) 87 _ dX6_figures_87
          · skip
            obtain ⟨dv, hdv⟩ : ∃ dv : Int32, dv = nI (tx b) - nI 48 := ⟨_, rfl⟩
            rw [← hdv] at hde
            refine r_topi (b := dv) hdv.symm ?_
            refine r_istore (pc := 43) (lo2 := [(7, .int dv), (0, .ref (G.2.1 + 134)), (1, .int (nI p)), (3, .int (nI lo)), (4, .int (nI hi)), (5, .int (nI v)), (6, .int (nI (pwK (i + 1))))]) h (by decide) rfl dX6_figures_43 ?_
            refine r_iload (pc := 45) h 5 rfl dX6_figures_45 ?_
            refine r_iload (pc := 47) h 0 rfl dX6_figures_47 ?_
            refine r_iload (pc := 49) h 6 rfl dX6_figures_49 ?_
            refine r_imul (pc := 51) (v := dv * (nI (pwK (i + 1)))) h rfl dX6_figures_51 ?_
            refine r_iadd (pc := 52) (v := (nI v) + (dv * (nI (pwK (i + 1))))) h rfl dX6_figures_52 ?_
            refine r_istore (pc := 53) (lo2 := [(8, .int ((nI v) + (dv * (nI (pwK (i + 1)))))), (7, .int dv), (0, .ref (G.2.1 + 134)), (1, .int (nI p)), (3, .int (nI lo)), (4, .int (nI hi)), (5, .int (nI v)), (6, .int (nI (pwK (i + 1))))]) h (by decide) rfl dX6_figures_53 ?_
            refine r_iload (pc := 55) h 1 rfl dX6_figures_55 ?_
            refine r_i2l (pc := 57) (v := dv.toInt64) h rfl dX6_figures_57 ?_
            refine r_lconst (pc := 58) (v := 0) h (by decide) dX6_figures_58 ?_
            refine r_ldc2 (pc := 59) (v := 9) h mw_9_0 dX6_figures_59 ?_
            refine r_cSi (pc := 62) (As := [.long dv.toInt64, .long 0, .long 9]) (st := []) h lk_RX6_43 (c_in x.2.1 G (mB σ c s hh xx (upd m 11 (nI b))) dv (nI 0) (nI 9)) (by decide) rfl rfl (by first | decide | exact Nat.le_of_ble_eq_true rfl) (by decide) dX6_figures_62 (fun r7 s8 q9 => ?_)
            rw [q9.1, q9.2]
            refine r_if_eq (pc := 65) (tgt := 86) h (by decide) dX6_figures_65 (fun c65 => ?_) (fun c65 => ?_)
            · skip
              replace c65 := zB_0.mp c65
              refine r_iconst (pc := 86) (v := (-1)) h (by decide) dX6_figures_86 ?_
              exact hret _ _ ((by rw [hf, fig_n hdg]; exact ⟨rfl, rfl⟩)) 87 _ dX6_figures_87
            · skip
              replace c65 := zB_n0.mp c65
              exact absurd c65 (by rw [hde]; decide)
  refine r_sub (lo2 := [(0, .ref (G.2.1 + 134)), (1, .int (nI p)), (3, .int (nI lo)), (4, .int (nI hi)), (5, .int (nI 0)), (6, .int (nI (pwK k)))]) [2, 3, 5, 6, 1, 0] rfl ?_
  refine V.sg (show mB σ c s hh xx m = mB σ c s hh xx (upd m 11 (nI a)) from congrArg (mB σ c s hh xx) (upd_id hm11).symm) ?_
  exact lp6 _ k 0 a (by omega) ha (by omega) rfl (Nat.lt_succ_self _)

set_option maxRecDepth 100000 in
set_option maxHeartbeats 800000 in
theorem c_figN (l : Launch) (G : Gl) (σ : Sg) (c : Nat) (hc : Rc c) (s hh xx m : Nat → Int32) (k lo hi : Nat) (hk : k ≤ 3) : Ci l yX6_figures cX6_figures 9 .int ({ frames := 0, cells := 0, slots := 0, locals := 0 } : Room) G [.ref (G.2.1 + 134), .int (-1), .int (nI (pwK k)), .int (nI lo), .int (nI hi)] (mB σ c s hh xx m) (fun r σ2 => r = (-1 : Int32) ∧ σ2 = mB σ c s hh xx m) := by
  refine Ci_of (own := RX6) rfl (by decide +kernel) (lo := [(0, .ref (G.2.1 + 134)), (1, .int (-1)), (2, .int (nI (pwK k))), (3, .int (nI lo)), (4, .int (nI hi))]) rfl (Nat.le_of_ble_eq_true rfl) (fun r s hp => by obtain ⟨rfl, _⟩ := hp; rfl) ?_
  intro x Q hxl h hret
  subst hxl
  have hpk := pwK_le hk
  refine r_iconst (pc := 0) (v := nI 0) h (by decide) dX6_figures_0 ?_
  refine r_istore (pc := 1) (lo2 := [(5, .int (nI 0)), (0, .ref (G.2.1 + 134)), (1, .int (-1)), (2, .int (nI (pwK k))), (3, .int (nI lo)), (4, .int (nI hi))]) h (by decide) rfl dX6_figures_1 ?_
  refine r_iload_n (pc := 3) h 3 rfl rfl dX6_figures_3 ?_
  refine r_istore (pc := 4) (lo2 := [(6, .int (nI (pwK k))), (5, .int (nI 0)), (0, .ref (G.2.1 + 134)), (1, .int (-1)), (2, .int (nI (pwK k))), (3, .int (nI lo)), (4, .int (nI hi))]) h (by decide) rfl dX6_figures_4 ?_
  refine r_iload (pc := 6) h 0 rfl dX6_figures_6 ?_
  refine r_if_le (pc := 8) (tgt := 112) h (by decide) dX6_figures_8 (fun c8 => ?_) (fun c8 => ?_)
  · skip
    rw [zI0, nI_leI (by omega) (by omega)] at c8
    refine r_iload_n (pc := 112) h 3 rfl rfl dX6_figures_112 ?_
    refine r_iconst (pc := 113) (v := (-1)) h (by decide) dX6_figures_113 ?_
    refine r_icmp_ne (pc := 114) (tgt := 121) h (by decide) dX6_figures_114 (fun c114 => absurd c114 (by decide)) (fun _ => ?_)
    refine r_iconst (pc := 117) (v := (-1)) h (by decide) dX6_figures_117 ?_
    refine r_goto (pc := 118) (tgt := 123) h (by decide) dX6_figures_118 ?_
    exact hret _ _ (⟨rfl, rfl⟩) 123 _ dX6_figures_123
  · skip
    rw [zI0, nI_leI (by omega) (by omega)] at c8
    refine r_iload_n (pc := 11) h 3 rfl rfl dX6_figures_11 ?_
    refine r_iconst (pc := 12) (v := (-1)) h (by decide) dX6_figures_12 ?_
    refine r_icmp_eq (pc := 13) (tgt := 112) h (by decide) dX6_figures_13 (fun _ => ?_) (fun c13 => absurd c13 (by decide))
    refine r_iload_n (pc := 112) h 3 rfl rfl dX6_figures_112 ?_
    refine r_iconst (pc := 113) (v := (-1)) h (by decide) dX6_figures_113 ?_
    refine r_icmp_ne (pc := 114) (tgt := 121) h (by decide) dX6_figures_114 (fun c114 => absurd c114 (by decide)) (fun _ => ?_)
    refine r_iconst (pc := 117) (v := (-1)) h (by decide) dX6_figures_117 ?_
    refine r_goto (pc := 118) (tgt := 123) h (by decide) dX6_figures_118 ?_
    exact hret _ _ (⟨rfl, rfl⟩) 123 _ dX6_figures_123

set_option maxRecDepth 100000 in
set_option maxHeartbeats 800000 in
theorem c_doneT (l : Launch) (G : Gl) (σ : Sg) (c : Nat) (hc : Rc c) (s hh xx m : Nat → Int32) (sk : Nat) (hm12 : m 12 = nI sk) : Ci l yX6_done cX6_done 2 .boolean ({ frames := 0, cells := 0, slots := 0, locals := 0 } : Room) G [.ref (G.2.1 + 134), .int (nI 1)] (mB σ c s hh xx m) (fun r σ2 => r = nI 1 ∧ σ2 = mB σ c s hh xx (upd m 12 (nI (sk + 0)))) := by
  refine Ci_of (own := RX6) rfl (by decide +kernel) (lo := [(0, .ref (G.2.1 + 134)), (1, .int (nI 1))]) rfl (Nat.le_of_ble_eq_true rfl) (fun r s hp => by obtain ⟨rfl, rfl⟩ := hp; rfl) ?_
  intro x Q hxl h hret
  subst hxl
  refine r_aload_n (pc := 0) h 0 rfl rfl dX6_done_0 ?_
  refine r_dup (pc := 1) h rfl dX6_done_1 ?_
  refine g_6_skipped (pc := 2) h mw_8_10 dX6_done_2 ?_
  refine r_topi (b := m 12) (mB_m hc _) ?_
  refine r_topi (b := nI sk) hm12 ?_
  refine r_iload_n (pc := 5) h 1 rfl rfl dX6_done_5 ?_
  refine r_if_eq (pc := 6) (tgt := 13) h (by decide) dX6_done_6 (fun c6 => absurd c6 (by decide)) (fun _ => ?_)
  refine r_iconst (pc := 9) (v := nI 0) h (by decide) dX6_done_9 ?_
  refine r_goto (pc := 10) (tgt := 14) h (by decide) dX6_done_10 ?_
  refine r_iadd (pc := 14) (v := nI (sk + 0)) h (nI_add _ _) dX6_done_14 ?_
  refine p_6_skipped (pc := 15) h mw_8_10 dX6_done_15 ?_
  refine V.sg (mB_sm hc _ _) ?_
  refine r_iconst (pc := 18) (v := nI 1) h (by decide) dX6_done_18 ?_
  exact hret _ _ (⟨rfl, rfl⟩) 19 _ dX6_done_19

set_option maxRecDepth 100000 in
set_option maxHeartbeats 800000 in
theorem c_doneF (l : Launch) (G : Gl) (σ : Sg) (c : Nat) (hc : Rc c) (s hh xx m : Nat → Int32) (sk : Nat) (hm12 : m 12 = nI sk) : Ci l yX6_done cX6_done 2 .boolean ({ frames := 0, cells := 0, slots := 0, locals := 0 } : Room) G [.ref (G.2.1 + 134), .int (nI 0)] (mB σ c s hh xx m) (fun r σ2 => r = nI 1 ∧ σ2 = mB σ c s hh xx (upd m 12 (nI (sk + 1)))) := by
  refine Ci_of (own := RX6) rfl (by decide +kernel) (lo := [(0, .ref (G.2.1 + 134)), (1, .int (nI 0))]) rfl (Nat.le_of_ble_eq_true rfl) (fun r s hp => by obtain ⟨rfl, rfl⟩ := hp; rfl) ?_
  intro x Q hxl h hret
  subst hxl
  refine r_aload_n (pc := 0) h 0 rfl rfl dX6_done_0 ?_
  refine r_dup (pc := 1) h rfl dX6_done_1 ?_
  refine g_6_skipped (pc := 2) h mw_8_10 dX6_done_2 ?_
  refine r_topi (b := m 12) (mB_m hc _) ?_
  refine r_topi (b := nI sk) hm12 ?_
  refine r_iload_n (pc := 5) h 1 rfl rfl dX6_done_5 ?_
  refine r_if_eq (pc := 6) (tgt := 13) h (by decide) dX6_done_6 (fun _ => ?_) (fun c6 => absurd c6 (by decide))
  refine r_iconst (pc := 13) (v := nI 1) h (by decide) dX6_done_13 ?_
  refine r_iadd (pc := 14) (v := nI (sk + 1)) h (nI_add _ _) dX6_done_14 ?_
  refine p_6_skipped (pc := 15) h mw_8_10 dX6_done_15 ?_
  refine V.sg (mB_sm hc _ _) ?_
  refine r_iconst (pc := 18) (v := nI 1) h (by decide) dX6_done_18 ?_
  exact hret _ _ (⟨rfl, rfl⟩) 19 _ dX6_done_19

