/-! THE REFERENCE: it changes a state -/
section
variable {A : Ab} {s : Nat → Int32}
theorem relM_make (hM : RelM A s) {u : Rul} {x2 x3 : Int32} (hR : A.2.1 ≤ 4) (hN : A.1 < 12) (e2 : u.1 ≠ 5 → u.1 ≠ 7 → x2 = nI u.2.2.1) (e3 : u.1 = 1 → x3 = nI u.2.2.2) : RelM (mkA A u) (upd (upd (upd (upd (upd s (3 + 4 * A.1) (nI u.1)) (3 + 4 * A.1 + 1) (nI u.2.1)) (3 + 4 * A.1 + 2) x2) (3 + 4 * A.1 + 3) x3) 0 (nI (A.1 + 1))) := by
  obtain ⟨h0, h1, h2, h3, h4⟩ := hM
  have o : ∀ j, j ≠ 0 → (j < 3 + 4 * A.1 ∨ 3 + 4 * A.1 + 3 < j) → upd (upd (upd (upd (upd s (3 + 4 * A.1) (nI u.1)) (3 + 4 * A.1 + 1) (nI u.2.1)) (3 + 4 * A.1 + 2) x2) (3 + 4 * A.1 + 3) x3) 0 (nI (A.1 + 1)) j = s j := fun j hj hk => by
    rw [pk_un hj, pk_un (by omega), pk_un (by omega), pk_un (by omega), pk_un (by omega)]
  refine ⟨pk_us, (o 1 (by omega) (by omega)).trans h1, (o 2 (by omega) (by omega)).trans h2, fun L hL => ?_, fun r hr => ?_⟩
  · have hL : L < A.1 + 1 := hL
    show _ = nI (va_up (aU A) A.1 u L).1 ∧ _ = nI (va_up (aU A) A.1 u L).2.1 ∧ ((va_up (aU A) A.1 u L).1 ≠ 5 → (va_up (aU A) A.1 u L).1 ≠ 7 → _ = nI (va_up (aU A) A.1 u L).2.2.1) ∧ ((va_up (aU A) A.1 u L).1 = 1 → _ = nI (va_up (aU A) A.1 u L).2.2.2)
    by_cases e : L = A.1
    · subst e
      rw [va_s]
      refine ⟨?_, ?_, fun q1 q2 => ?_, fun q => ?_⟩
      · rw [pk_un (by omega), pk_un (by omega), pk_un (by omega), pk_un (by omega), pk_us]
      · rw [pk_un (by omega), pk_un (by omega), pk_un (by omega), pk_us]
      · rw [pk_un (by omega), pk_un (by omega), pk_us]; exact e2 q1 q2
      · rw [pk_un (by omega), pk_us]; exact e3 q
    · rw [va_n _ _ e, o _ (by omega) (by omega), o _ (by omega) (by omega), o _ (by omega) (by omega), o _ (by omega) (by omega)]
      exact h3 L (by omega)
  · have hr : r < A.2.1 := hr
    rw [o _ (by omega) (by omega), o _ (by omega) (by omega)]
    exact h4 r hr
theorem relM_drop (hM : RelM A s) (h1 : 1 ≤ A.1) : RelM (A.1 - 1, A.2) (upd s 0 (nI (A.1 - 1))) := by
  obtain ⟨h0, h1, h2, h3, h4⟩ := hM
  refine ⟨pk_us, (pk_un (by omega)).trans h1, (pk_un (by omega)).trans h2, fun L hL => ?_, fun r hr => ?_⟩
  · have hL : L < A.1 - 1 := hL
    rw [pk_un (by omega), pk_un (by omega), pk_un (by omega), pk_un (by omega)]
    exact h3 L (by omega)
  · rw [pk_un (by omega), pk_un (by omega)]
    exact h4 r hr
theorem relM_begin (hM : RelM A s) (hN : A.1 ≤ 12) {L : Nat} : RelM (A.1, A.2.1 + 1, A.2.2.1, aU A, va_up (aL A) A.2.1 L, va_up (aP A) A.2.1 0) (upd (upd (upd s (51 + 2 * A.2.1) (nI L)) (51 + 2 * A.2.1 + 1) (nI 0)) 1 (nI (A.2.1 + 1))) := by
  obtain ⟨h0, h1, h2, h3, h4⟩ := hM
  have o : ∀ j, j ≠ 1 → j < 51 + 2 * A.2.1 → upd (upd (upd s (51 + 2 * A.2.1) (nI L)) (51 + 2 * A.2.1 + 1) (nI 0)) 1 (nI (A.2.1 + 1)) j = s j := fun j hj hk => by
    rw [pk_un hj, pk_un (by omega), pk_un (by omega)]
  refine ⟨(o 0 (by omega) (by omega)).trans h0, pk_us, (o 2 (by omega) (by omega)).trans h2, fun K hK => ?_, fun r hr => ?_⟩
  · have hK : K < A.1 := hK
    rw [o _ (by omega) (by omega), o _ (by omega) (by omega), o _ (by omega) (by omega), o _ (by omega) (by omega)]
    exact h3 K hK
  · have hr : r < A.2.1 + 1 := hr
    show _ = nI (va_up (aL A) A.2.1 L r) ∧ _ = nI (va_up (aP A) A.2.1 0 r)
    by_cases e : r = A.2.1
    · subst e
      rw [va_s, va_s, pk_un (by omega), pk_un (by omega), pk_us, pk_un (by omega), pk_us]
      exact ⟨rfl, rfl⟩
    · rw [va_n _ _ e, va_n _ _ e, o _ (by omega) (by omega), o _ (by omega) (by omega)]
      exact h4 r (by omega)
/-- a reader has passed P now, d were read -/
theorem relM_pass (hM : RelM A s) (hN : A.1 ≤ 12) {i P : Nat} {d : Int32} {s2 : Nat → Int32} (hp : s2 (51 + 2 * i + 1) = nI P) (hd : s2 2 = d) (ho : ∀ j, j ≠ 51 + 2 * i + 1 → j ≠ 2 → s2 j = s j) : RelM (A.1, A.2.1, d, aU A, aL A, va_up (aP A) i P) s2 := by
  obtain ⟨h0, h1, h2, h3, h4⟩ := hM
  refine ⟨(ho 0 (by omega) (by omega)).trans h0, (ho 1 (by omega) (by omega)).trans h1, hd, fun K hK => ?_, fun r hr => ?_⟩
  · have hK : K < A.1 := hK
    rw [ho _ (by omega) (by omega), ho _ (by omega) (by omega), ho _ (by omega) (by omega), ho _ (by omega) (by omega)]
    exact h3 K hK
  · show _ = nI (aL A r) ∧ _ = nI (va_up (aP A) i P r)
    refine ⟨(ho _ (by omega) (by omega)).trans (h4 r hr).1, ?_⟩
    by_cases e : r = i
    · subst e; rw [va_s]; exact hp
    · rw [va_n _ _ e, ho _ (by omega) (by omega)]; exact (h4 r hr).2
/-- the row while the readers behind i are moved up, as far as k -/
def ShR (s s1 : Nat → Int32) (i k : Nat) : Prop := ∀ j, s1 j = if 51 + 2 * i ≤ j ∧ j < k then s (j + 2) else s j
theorem shR_0 (s : Nat → Int32) (i : Nat) : ShR s s i (51 + 2 * i) := fun j => by rw [if_neg (by omega)]
theorem shR_s {s1 : Nat → Int32} {i k : Nat} (h : ShR s s1 i k) (hk : 51 + 2 * i ≤ k) : ShR s (upd s1 k (s (k + 2))) i (k + 1) := fun j => by
  by_cases e : j = k
  · subst e; rw [pk_us, if_pos (by omega)]
  · rw [pk_un e, h j]
    by_cases q : 51 + 2 * i ≤ j ∧ j < k
    · rw [if_pos q, if_pos (by omega)]
    · rw [if_neg q, if_neg (by omega)]
theorem relM_stop (hM : RelM A s) (hN : A.1 ≤ 12) {i : Nat} {s1 : Nat → Int32} (hi : i < A.2.1) (hs : ShR s s1 i (51 + 2 * (A.2.1 - 1))) : RelM (A.1, A.2.1 - 1, A.2.2.1, aU A, (fun j => if i ≤ j then aL A (j + 1) else aL A j), (fun j => if i ≤ j then aP A (j + 1) else aP A j)) (upd s1 1 (nI (A.2.1 - 1))) := by
  obtain ⟨h0, h1, h2, h3, h4⟩ := hM
  have o : ∀ j, j ≠ 1 → j < 51 → upd s1 1 (nI (A.2.1 - 1)) j = s j := fun j hj hk => by rw [pk_un hj, hs j, if_neg (by omega)]
  refine ⟨(o 0 (by omega) (by omega)).trans h0, pk_us, (o 2 (by omega) (by omega)).trans h2, fun K hK => ?_, fun r hr => ?_⟩
  · have hK : K < A.1 := hK
    rw [o _ (by omega) (by omega), o _ (by omega) (by omega), o _ (by omega) (by omega), o _ (by omega) (by omega)]
    exact h3 K hK
  · have hr : r < A.2.1 - 1 := hr
    show _ = nI (if i ≤ r then aL A (r + 1) else aL A r) ∧ _ = nI (if i ≤ r then aP A (r + 1) else aP A r)
    rw [pk_un (by omega), pk_un (by omega), hs _, hs _]
    by_cases q : i ≤ r
    · rw [if_pos (by omega), if_pos q, if_pos (by omega), if_pos q]
      exact h4 (r + 1) (by omega)
    · rw [if_neg (by omega), if_neg q, if_neg (by omega), if_neg q]
      exact h4 r (by omega)
theorem relM_empty {s2 : Nat → Int32} (h : ∀ j, j < 3 → s2 j = nI 0) : RelM emptyA s2 := ⟨h 0 (by omega), h 1 (by omega), h 2 (by omega), fun L hL => absurd hL (Nat.not_lt_zero L), fun r hr => absurd hr (Nat.not_lt_zero r)⟩
theorem RelM.cong {s2 : Nat → Int32} (hM : RelM A s) (hA : okA A) (h : ∀ j, j < 59 → s2 j = s j) : RelM A s2 := by
  obtain ⟨h0, h1, h2, h3, h4⟩ := hM
  have hN := hA.1
  have hR := hA.2.1
  refine ⟨(h 0 (by omega)).trans h0, (h 1 (by omega)).trans h1, (h 2 (by omega)).trans h2, fun L hL => ?_, fun r hr => ?_⟩
  · rw [h _ (by omega), h _ (by omega), h _ (by omega), h _ (by omega)]; exact h3 L hL
  · rw [h _ (by omega), h _ (by omega)]; exact h4 r hr
end
theorem anyN_hit {l : Nat → Nat} {q r : Nat} (h : l r = q) : ∀ {n : Nat}, r < n → anyN l q n = true
  | 0, hr => absurd hr (Nat.not_lt_zero r)
  | n + 1, hr => by
    rw [anyN]
    by_cases e : r = n
    · subst e; rw [decide_eq_true h, Bool.or_true]
    · rw [anyN_hit h (show r < n by omega), Bool.true_or]
theorem whyN_2 {A : Ab} (h : A.1 ≠ 0) (h2 : anyN (aL A) (A.1 - 1) A.2.1 = true) : whyN A = 2 := by unfold whyN; rw [if_neg h, if_pos h2]
theorem whyN_0 {A : Ab} (h : A.1 ≠ 0) (h2 : anyN (aL A) (A.1 - 1) A.2.1 = false) : whyN A = 0 := by unfold whyN; rw [if_neg h, if_neg (by rw [h2]; decide)]
theorem whyN_1 {A : Ab} (h : A.1 = 0) : whyN A = 1 := if_pos h
/-- 59 numbers of the row f from a1 on lie in the row g from a2 on: i of them so far -/
def cpI (f g : Nat → Int32) (a1 a2 i : Nat) : Nat → Int32 := fun j => if a2 ≤ j ∧ j < a2 + i then f (a1 + (j - a2)) else g j
theorem cpI_0 (f g : Nat → Int32) (a1 a2 : Nat) : cpI f g a1 a2 0 = g := funext fun j => if_neg (by omega)
theorem cpI_s (f g : Nat → Int32) (a1 a2 i : Nat) : upd (cpI f g a1 a2 i) (a2 + i) (f (a1 + i)) = cpI f g a1 a2 (i + 1) := funext fun j => by
  unfold cpI
  by_cases e : j = a2 + i
  · subst e; rw [pk_us, if_pos (by omega), Nat.add_sub_cancel_left]
  · rw [pk_un e]
    by_cases q : a2 ≤ j ∧ j < a2 + i
    · rw [if_pos q, if_pos (by omega)]
    · rw [if_neg q, if_neg (by omega)]
theorem cpI_in {f g : Nat → Int32} {a1 a2 i j : Nat} (h : j < i) : cpI f g a1 a2 i (a2 + j) = f (a1 + j) := by
  unfold cpI; rw [if_pos (by omega), Nat.add_sub_cancel_left]
theorem cpI_out {f g : Nat → Int32} {a1 a2 i j : Nat} (h : j < a2 ∨ a2 + i ≤ j) : cpI f g a1 a2 i j = g j := if_neg (by omega)
def oB (σ : Sg) (c : Nat) (f : Nat → Int32) : Sg := (va_up σ.1 c f, σ.2)
theorem oB_s (σ : Sg) (c : Nat) (f : Nat → Int32) : (oB σ c f).1 c = f := va_s _ _ _
theorem oB_o {σ : Sg} {c q : Nat} (f : Nat → Int32) (h : q ≠ c) : (oB σ c f).1 q = σ.1 q := va_n _ _ h
theorem oB_self (σ : Sg) (c : Nat) : oB σ c (σ.1 c) = σ := sg_ext (fun q => by
  by_cases e : q = c
  · subst e; exact va_s _ _ _
  · exact va_n _ _ e) rfl
theorem oB_sI (σ : Sg) (c : Nat) (f : Nat → Int32) (j : Nat) (v : Int32) : sI (oB σ c f) c j v = oB σ c (upd f j v) := sg_ext (fun q => by
  by_cases e : q = c
  · subst e; simp [sI, oB, va_up]
  · simp [sI, oB, va_up, e]) rfl
theorem oB_out (σ : Sg) (c : Nat) (f : Nat → Int32) : Out c (c + 1) σ (oB σ c f) := fun q hq => ⟨va_n _ _ (by omega), rfl⟩
set_option maxRecDepth 100000 in
set_option maxHeartbeats 800000 in
theorem c_makeM (l : Launch) (G : Gl) (σ : Sg) (c : Nat) (hc : Rc c) (s hh xx m : Nat → Int32) (A : Ab) (hA : okA A) (hM : RelM A s) (u : Rul) (x2 x3 : Int32) (h11 : A.1 < 12) (e2 : u.1 ≠ 5 → u.1 ≠ 7 → x2 = nI u.2.2.1) (e3 : u.1 = 1 → x3 = nI u.2.2.2) : Ci l yX6_make cX6_make 6 .int ({ frames := 0, cells := 0, slots := 0, locals := 0 } : Room) G [.ref (G.2.1 + c), .int (nI u.1), .int (nI u.2.1), .int x2, .int x3] (mB σ c s hh xx m) (fun r σ2 => r = nI A.1 ∧ ∃ s2, σ2 = mB σ c s2 hh xx m ∧ RelM (mkA A u) s2) := by
  refine Ci_of (own := RX6) rfl (by decide +kernel) (lo := [(0, .ref (G.2.1 + c)), (1, .int (nI u.1)), (2, .int (nI u.2.1)), (3, .int x2), (4, .int x3)]) rfl (Nat.le_of_ble_eq_true rfl) (fun r s hp => by obtain ⟨rfl, _⟩ := hp; rfl) ?_
  intro x Q hxl h hret
  subst hxl
  have h12 := hA.1
  have h4 := hA.2.1
  refine r_iconst (pc := 0) (v := nI 3) h (by decide) dX6_make_0 ?_
  refine r_iconst (pc := 1) (v := nI 4) h (by decide) dX6_make_1 ?_
  refine r_aload_n (pc := 2) h 0 rfl rfl dX6_make_2 ?_
  refine r_iconst (pc := 3) (v := nI 0) h (by decide) dX6_make_3 ?_
  refine r_iald (pc := 4) h (a_rc hc) 0 rfl (by omega) dX6_make_4 ?_
  refine r_topi (b := s 0) (mB_s _) ?_
  refine r_topi (b := nI A.1) hM.1 ?_
  refine r_imul (pc := 5) (v := nI (4 * A.1)) h (pk_mul _ _) dX6_make_5 ?_
  refine r_iadd (pc := 6) (v := nI (3 + (4 * A.1))) h (nI_add _ _) dX6_make_6 ?_
  refine r_istore (pc := 7) (lo2 := [(5, .int (nI (3 + (4 * A.1)))), (0, .ref (G.2.1 + c)), (1, .int (nI u.1)), (2, .int (nI u.2.1)), (3, .int x2), (4, .int x3)]) h (by decide) rfl dX6_make_7 ?_
  refine r_aload_n (pc := 9) h 1 rfl rfl dX6_make_9 ?_
  refine r_iload (pc := 10) h 0 rfl dX6_make_10 ?_
  refine r_iload_n (pc := 12) h 2 rfl rfl dX6_make_12 ?_
  refine r_iast (pc := 13) (w := nI u.1) h (a_rc hc) (3 + (4 * A.1)) rfl (by omega) rfl dX6_make_13 ?_
  refine V.sg (mB_ss _ _) ?_
  refine r_aload_n (pc := 14) h 1 rfl rfl dX6_make_14 ?_
  refine r_iload (pc := 15) h 0 rfl dX6_make_15 ?_
  refine r_iconst (pc := 17) (v := nI 1) h (by decide) dX6_make_17 ?_
  refine r_iadd (pc := 18) (v := nI ((3 + (4 * A.1)) + 1)) h (nI_add _ _) dX6_make_18 ?_
  refine r_iload_n (pc := 19) h 3 rfl rfl dX6_make_19 ?_
  refine r_iast (pc := 20) (w := nI u.2.1) h (a_rc hc) ((3 + (4 * A.1)) + 1) rfl (by omega) rfl dX6_make_20 ?_
  refine V.sg (mB_ss _ _) ?_
  refine r_aload_n (pc := 21) h 1 rfl rfl dX6_make_21 ?_
  refine r_iload (pc := 22) h 0 rfl dX6_make_22 ?_
  refine r_iconst (pc := 24) (v := nI 2) h (by decide) dX6_make_24 ?_
  refine r_iadd (pc := 25) (v := nI ((3 + (4 * A.1)) + 2)) h (nI_add _ _) dX6_make_25 ?_
  refine r_iload_n (pc := 26) h 4 rfl rfl dX6_make_26 ?_
  refine r_iast (pc := 27) (w := x2) h (a_rc hc) ((3 + (4 * A.1)) + 2) rfl (by omega) rfl dX6_make_27 ?_
  refine V.sg (mB_ss _ _) ?_
  refine r_aload_n (pc := 28) h 1 rfl rfl dX6_make_28 ?_
  refine r_iload (pc := 29) h 0 rfl dX6_make_29 ?_
  refine r_iconst (pc := 31) (v := nI 3) h (by decide) dX6_make_31 ?_
  refine r_iadd (pc := 32) (v := nI ((3 + (4 * A.1)) + 3)) h (nI_add _ _) dX6_make_32 ?_
  refine r_iload (pc := 33) h 5 rfl dX6_make_33 ?_
  refine r_iast (pc := 35) (w := x3) h (a_rc hc) ((3 + (4 * A.1)) + 3) rfl (by omega) rfl dX6_make_35 ?_
  refine V.sg (mB_ss _ _) ?_
  refine r_aload_n (pc := 36) h 1 rfl rfl dX6_make_36 ?_
  refine r_iconst (pc := 37) (v := nI 0) h (by decide) dX6_make_37 ?_
  refine r_dup2 (pc := 38) h rfl rfl dX6_make_38 ?_
  refine r_iald (pc := 39) h (a_rc hc) 0 rfl (by omega) dX6_make_39 ?_
  refine r_topi (b := (upd (upd (upd (upd s (3 + (4 * A.1)) (nI u.1)) ((3 + (4 * A.1)) + 1) (nI u.2.1)) ((3 + (4 * A.1)) + 2) x2) ((3 + (4 * A.1)) + 3) x3) 0) (mB_s _) ?_
  refine r_topi (b := nI A.1) (by rw [pk_un (by omega), pk_un (by omega), pk_un (by omega), pk_un (by omega)]; exact hM.1) ?_
  refine r_iconst (pc := 40) (v := nI 1) h (by decide) dX6_make_40 ?_
  refine r_iadd (pc := 41) (v := nI (A.1 + 1)) h (nI_add _ _) dX6_make_41 ?_
  refine r_iast (pc := 42) (w := nI (A.1 + 1)) h (a_rc hc) 0 rfl (by omega) rfl dX6_make_42 ?_
  refine V.sg (mB_ss _ _) ?_
  refine r_aload_n (pc := 43) h 1 rfl rfl dX6_make_43 ?_
  refine r_iconst (pc := 44) (v := nI 0) h (by decide) dX6_make_44 ?_
  refine r_iald (pc := 45) h (a_rc hc) 0 rfl (by omega) dX6_make_45 ?_
  refine r_topi (b := (upd (upd (upd (upd (upd s (3 + (4 * A.1)) (nI u.1)) ((3 + (4 * A.1)) + 1) (nI u.2.1)) ((3 + (4 * A.1)) + 2) x2) ((3 + (4 * A.1)) + 3) x3) 0 (nI (A.1 + 1))) 0) (mB_s _) ?_
  refine r_topi (b := nI (A.1 + 1)) pk_us ?_
  refine r_iconst (pc := 46) (v := nI 1) h (by decide) dX6_make_46 ?_
  refine r_isub (pc := 47) (v := nI ((A.1 + 1) - 1)) h (pk_sub (by omega)) dX6_make_47 ?_
  exact hret _ _ (⟨rfl, _, rfl, relM_make hM h4 h11 e2 e3⟩) 48 _ dX6_make_48

set_option maxRecDepth 100000 in
set_option maxHeartbeats 800000 in
theorem c_reasonM (l : Launch) (G : Gl) (σ : Sg) (c : Nat) (hc : Rc c) (A : Ab) (hM : RelM A (σ.1 c)) (hA : okA A) : Ci l yX6_reason cX6_reason 2 .int ({ frames := 1, cells := 0, slots := 0, locals := 21 } : Room) G [.ref (G.2.1 + c)] σ (fun r σ2 => r = nI (whyN A) ∧ σ2 = σ) := by
  refine Ci_of (own := RX6) rfl (by decide +kernel) (lo := [(0, .ref (G.2.1 + c))]) rfl (Nat.le_of_ble_eq_true rfl) (fun r s hp => by obtain ⟨rfl, _⟩ := hp; rfl) ?_
  intro x Q hxl h hret
  subst hxl
  have h12 := hA.1
  have h4 := hA.2.1
  refine r_iconst (pc := 0) (v := nI 0) h (by decide) dX6_reason_0 ?_
  refine r_istore_n (pc := 1) (lo2 := [(1, .int (nI 0)), (0, .ref (G.2.1 + c))]) h rfl (by decide) rfl dX6_reason_1 ?_
  have lp2 : ∀ (fu : Nat) (r : Nat), r ≤ A.2.1 → anyN (aL A) (A.1 - 1) r = false → A.2.1 - r < fu → V x G 2 0 0 Q σ 2 [(0, .ref (G.2.1 + c)), (1, .int (nI r))] [] := by
    intro fu
    induction fu with
    | zero => intro r hr9 hn hfu; exact absurd hfu (Nat.not_lt_zero _)
    | succ fu ih2 =>
      intro r hr9 hn hfu
      refine r_iload_n (pc := 2) h 1 rfl rfl dX6_reason_2 ?_
      refine r_aload_n (pc := 3) h 0 rfl rfl dX6_reason_3 ?_
      refine r_iconst (pc := 4) (v := nI 1) h (by decide) dX6_reason_4 ?_
      refine r_iald (pc := 5) h (a_rc hc) 1 rfl (by omega) dX6_reason_5 ?_
      refine r_topi (b := nI A.2.1) hM.2.1 ?_
      refine r_icmp_ge (pc := 6) (tgt := 30) h (by decide) dX6_reason_6 (fun c6 => ?_) (fun c6 => ?_)
      · skip
        rw [nI_leI (by omega) (by omega)] at c6
        refine r_aload_n (pc := 30) h 0 rfl rfl dX6_reason_30 ?_
        refine r_iconst (pc := 31) (v := nI 0) h (by decide) dX6_reason_31 ?_
        refine r_iald (pc := 32) h (a_rc hc) 0 rfl (by omega) dX6_reason_32 ?_
        refine r_topi (b := nI A.1) hM.1 ?_
        refine r_if_ne (pc := 33) (tgt := 40) h (by decide) dX6_reason_33 (fun c33 => ?_) (fun c33 => ?_)
        · skip
          rw [zI0, nI_eq (by omega) (by omega)] at c33
          refine r_iconst (pc := 40) (v := nI 0) h (by decide) dX6_reason_40 ?_
          have e : r = A.2.1 := by omega
          subst e
          exact hret _ _ (⟨by rw [whyN_0 c33 hn], rfl⟩) 41 _ dX6_reason_41
        · skip
          rw [zI0, nI_eq (by omega) (by omega)] at c33
          refine r_iconst (pc := 36) (v := nI 1) h (by decide) dX6_reason_36 ?_
          refine r_goto (pc := 37) (tgt := 41) h (by decide) dX6_reason_37 ?_
          have e : r = A.2.1 := by omega
          subst e
          exact hret _ _ (⟨by rw [whyN_1 c33], rfl⟩) 41 _ dX6_reason_41
      · skip
        rw [nI_leI (by omega) (by omega)] at c6
        have ha9 := (hA.2.2.2 r (by omega)).1
        refine r_aload_n (pc := 9) h 0 rfl rfl dX6_reason_9 ?_
        refine r_iload_n (pc := 10) h 1 rfl rfl dX6_reason_10 ?_
        refine r_cSi (pc := 11) (As := [.ref (G.2.1 + c), .int (nI r)]) (st := []) h lk_RX6_73 (c_listOfReader x.2.1 G σ c hc r (by omega)) (by decide) rfl rfl (by first | decide | exact Nat.le_of_ble_eq_true rfl) (by decide) dX6_reason_11 (fun r1 s2 q3 => ?_)
        rw [q3.1, q3.2]
        refine r_topi (b := nI (aL A r)) (hM.2.2.2.2 _ (by omega)).1 ?_
        refine r_aload_n (pc := 14) h 0 rfl rfl dX6_reason_14 ?_
        refine r_iconst (pc := 15) (v := nI 0) h (by decide) dX6_reason_15 ?_
        refine r_iald (pc := 16) h (a_rc hc) 0 rfl (by omega) dX6_reason_16 ?_
        refine r_topi (b := nI A.1) hM.1 ?_
        refine r_iconst (pc := 17) (v := nI 1) h (by decide) dX6_reason_17 ?_
        refine r_isub (pc := 18) (v := nI (A.1 - 1)) h (pk_sub (by omega)) dX6_reason_18 ?_
        refine r_icmp_ne (pc := 19) (tgt := 24) h (by decide) dX6_reason_19 (fun c19 => ?_) (fun c19 => ?_)
        · skip
          rw [nI_eq (by omega) (by omega)] at c19
          refine r_iinc (pc := 24) (v := nI (r + 1)) (lo2 := [(1, .int (nI (r + 1))), (0, .ref (G.2.1 + c))]) h 1 rfl (iinc1 _) (by decide) rfl dX6_reason_24 ?_
          refine r_goto (pc := 27) (tgt := 2) h (by decide) dX6_reason_27 ?_
          refine r_sub (lo2 := [(0, .ref (G.2.1 + c)), (1, .int (nI (r + 1)))]) [1, 0] rfl ?_
          exact ih2 (r + 1) (by omega) (by rw [anyN, hn, decide_eq_false c19]; rfl) (by omega)
        · skip
          rw [nI_eq (by omega) (by omega)] at c19
          refine r_iconst (pc := 22) (v := nI 2) h (by decide) dX6_reason_22 ?_
          exact hret _ _ (⟨by rw [whyN_2 (by omega) (anyN_hit c19 (by omega))], rfl⟩) 23 _ dX6_reason_23
  refine r_sub (lo2 := [(0, .ref (G.2.1 + c)), (1, .int (nI 0))]) [1, 0] rfl ?_
  exact lp2 _ 0 (by omega) rfl (Nat.lt_succ_self _)

set_option maxRecDepth 100000 in
set_option maxHeartbeats 800000 in
theorem c_dropM (l : Launch) (G : Gl) (σ : Sg) (c : Nat) (hc : Rc c) (s hh xx m : Nat → Int32) (A : Ab) (hA : okA A) (hM : RelM A s) (h1 : 1 ≤ A.1) : Ci l yX6_drop cX6_drop 1 .int ({ frames := 0, cells := 0, slots := 0, locals := 0 } : Room) G [.ref (G.2.1 + c)] (mB σ c s hh xx m) (fun r σ2 => r = nI (A.1 - 1) ∧ ∃ s2, σ2 = mB σ c s2 hh xx m ∧ RelM (A.1 - 1, A.2) s2) := by
  refine Ci_of (own := RX6) rfl (by decide +kernel) (lo := [(0, .ref (G.2.1 + c))]) rfl (Nat.le_of_ble_eq_true rfl) (fun r s hp => by obtain ⟨rfl, _⟩ := hp; rfl) ?_
  intro x Q hxl h hret
  subst hxl
  have h12 := hA.1
  have h4 := hA.2.1
  refine r_aload_n (pc := 0) h 0 rfl rfl dX6_drop_0 ?_
  refine r_iconst (pc := 1) (v := nI 0) h (by decide) dX6_drop_1 ?_
  refine r_dup2 (pc := 2) h rfl rfl dX6_drop_2 ?_
  refine r_iald (pc := 3) h (a_rc hc) 0 rfl (by omega) dX6_drop_3 ?_
  refine r_topi (b := s 0) (mB_s _) ?_
  refine r_topi (b := nI A.1) hM.1 ?_
  refine r_iconst (pc := 4) (v := nI 1) h (by decide) dX6_drop_4 ?_
  refine r_isub (pc := 5) (v := nI (A.1 - 1)) h (pk_sub (by omega)) dX6_drop_5 ?_
  refine r_iast (pc := 6) (w := nI (A.1 - 1)) h (a_rc hc) 0 rfl (by omega) rfl dX6_drop_6 ?_
  refine V.sg (mB_ss _ _) ?_
  refine r_aload_n (pc := 7) h 0 rfl rfl dX6_drop_7 ?_
  refine r_iconst (pc := 8) (v := nI 0) h (by decide) dX6_drop_8 ?_
  refine r_iald (pc := 9) h (a_rc hc) 0 rfl (by omega) dX6_drop_9 ?_
  refine r_topi (b := (upd s 0 (nI (A.1 - 1))) 0) (mB_s _) ?_
  refine r_topi (b := nI (A.1 - 1)) pk_us ?_
  exact hret _ _ (⟨rfl, _, rfl, relM_drop hM h1⟩) 10 _ dX6_drop_10

set_option maxRecDepth 100000 in
set_option maxHeartbeats 800000 in
theorem c_beginM (l : Launch) (G : Gl) (σ : Sg) (c : Nat) (hc : Rc c) (s hh xx m : Nat → Int32) (A : Ab) (hA : okA A) (hM : RelM A s) (L : Nat) (hR : A.2.1 < 4) : Ci l yX6_begin cX6_begin 2 .int ({ frames := 0, cells := 0, slots := 0, locals := 0 } : Room) G [.ref (G.2.1 + c), .int (nI L)] (mB σ c s hh xx m) (fun r σ2 => r = nI A.2.1 ∧ ∃ s2, σ2 = mB σ c s2 hh xx m ∧ RelM (A.1, A.2.1 + 1, A.2.2.1, aU A, va_up (aL A) A.2.1 L, va_up (aP A) A.2.1 0) s2) := by
  refine Ci_of (own := RX6) rfl (by decide +kernel) (lo := [(0, .ref (G.2.1 + c)), (1, .int (nI L))]) rfl (Nat.le_of_ble_eq_true rfl) (fun r s hp => by obtain ⟨rfl, _⟩ := hp; rfl) ?_
  intro x Q hxl h hret
  subst hxl
  have h12 := hA.1
  have h4 := hA.2.1
  refine r_aload_n (pc := 0) h 0 rfl rfl dX6_begin_0 ?_
  refine r_bipush (pc := 1) (v := nI 51) h (by decide) dX6_begin_1 ?_
  refine r_iconst (pc := 3) (v := nI 2) h (by decide) dX6_begin_3 ?_
  refine r_aload_n (pc := 4) h 0 rfl rfl dX6_begin_4 ?_
  refine r_iconst (pc := 5) (v := nI 1) h (by decide) dX6_begin_5 ?_
  refine r_iald (pc := 6) h (a_rc hc) 1 rfl (by omega) dX6_begin_6 ?_
  refine r_topi (b := s 1) (mB_s _) ?_
  refine r_topi (b := nI A.2.1) hM.2.1 ?_
  refine r_imul (pc := 7) (v := nI (2 * A.2.1)) h (pk_mul _ _) dX6_begin_7 ?_
  refine r_iadd (pc := 8) (v := nI (51 + (2 * A.2.1))) h (nI_add _ _) dX6_begin_8 ?_
  refine r_iload_n (pc := 9) h 1 rfl rfl dX6_begin_9 ?_
  refine r_iast (pc := 10) (w := nI L) h (a_rc hc) (51 + (2 * A.2.1)) rfl (by omega) rfl dX6_begin_10 ?_
  refine V.sg (mB_ss _ _) ?_
  refine r_aload_n (pc := 11) h 0 rfl rfl dX6_begin_11 ?_
  refine r_bipush (pc := 12) (v := nI 51) h (by decide) dX6_begin_12 ?_
  refine r_iconst (pc := 14) (v := nI 2) h (by decide) dX6_begin_14 ?_
  refine r_aload_n (pc := 15) h 0 rfl rfl dX6_begin_15 ?_
  refine r_iconst (pc := 16) (v := nI 1) h (by decide) dX6_begin_16 ?_
  refine r_iald (pc := 17) h (a_rc hc) 1 rfl (by omega) dX6_begin_17 ?_
  refine r_topi (b := (upd s (51 + (2 * A.2.1)) (nI L)) 1) (mB_s _) ?_
  refine r_topi (b := nI A.2.1) ((pk_un (by omega)).trans hM.2.1) ?_
  refine r_imul (pc := 18) (v := nI (2 * A.2.1)) h (pk_mul _ _) dX6_begin_18 ?_
  refine r_iadd (pc := 19) (v := nI (51 + (2 * A.2.1))) h (nI_add _ _) dX6_begin_19 ?_
  refine r_iconst (pc := 20) (v := nI 1) h (by decide) dX6_begin_20 ?_
  refine r_iadd (pc := 21) (v := nI ((51 + (2 * A.2.1)) + 1)) h (nI_add _ _) dX6_begin_21 ?_
  refine r_iconst (pc := 22) (v := nI 0) h (by decide) dX6_begin_22 ?_
  refine r_iast (pc := 23) (w := nI 0) h (a_rc hc) ((51 + (2 * A.2.1)) + 1) rfl (by omega) rfl dX6_begin_23 ?_
  refine V.sg (mB_ss _ _) ?_
  refine r_aload_n (pc := 24) h 0 rfl rfl dX6_begin_24 ?_
  refine r_iconst (pc := 25) (v := nI 1) h (by decide) dX6_begin_25 ?_
  refine r_dup2 (pc := 26) h rfl rfl dX6_begin_26 ?_
  refine r_iald (pc := 27) h (a_rc hc) 1 rfl (by omega) dX6_begin_27 ?_
  refine r_topi (b := (upd (upd s (51 + (2 * A.2.1)) (nI L)) ((51 + (2 * A.2.1)) + 1) (nI 0)) 1) (mB_s _) ?_
  refine r_topi (b := nI A.2.1) (by rw [pk_un (by omega), pk_un (by omega)]; exact hM.2.1) ?_
  refine r_iconst (pc := 28) (v := nI 1) h (by decide) dX6_begin_28 ?_
  refine r_iadd (pc := 29) (v := nI (A.2.1 + 1)) h (nI_add _ _) dX6_begin_29 ?_
  refine r_iast (pc := 30) (w := nI (A.2.1 + 1)) h (a_rc hc) 1 rfl (by omega) rfl dX6_begin_30 ?_
  refine V.sg (mB_ss _ _) ?_
  refine r_aload_n (pc := 31) h 0 rfl rfl dX6_begin_31 ?_
  refine r_iconst (pc := 32) (v := nI 1) h (by decide) dX6_begin_32 ?_
  refine r_iald (pc := 33) h (a_rc hc) 1 rfl (by omega) dX6_begin_33 ?_
  refine r_topi (b := (upd (upd (upd s (51 + (2 * A.2.1)) (nI L)) ((51 + (2 * A.2.1)) + 1) (nI 0)) 1 (nI (A.2.1 + 1))) 1) (mB_s _) ?_
  refine r_topi (b := nI (A.2.1 + 1)) pk_us ?_
  refine r_iconst (pc := 34) (v := nI 1) h (by decide) dX6_begin_34 ?_
  refine r_isub (pc := 35) (v := nI ((A.2.1 + 1) - 1)) h (pk_sub (by omega)) dX6_begin_35 ?_
  exact hret _ _ (⟨rfl, _, rfl, relM_begin hM h12⟩) 36 _ dX6_begin_36

set_option maxRecDepth 100000 in
set_option maxHeartbeats 800000 in
theorem c_readOn (l : Launch) (G : Gl) (σ : Sg) (c : Nat) (hc : Rc c) (s hh xx m : Nat → Int32) (A : Ab) (hA : okA A) (hM : RelM A s) (i : Nat) (hi : i < A.2.1) (hH : HasN (aU A) A.1 hh) : Ci l yX6_readOn cX6_readOn 4 .int ({ frames := 3, cells := 0, slots := 0, locals := 68 } : Room) G [.ref (G.2.1 + 134), .ref (G.2.1 + c), .int (nI i)] (mB σ c s hh xx m) (fun r σ2 => r = oI (nextO A i) ∧ ∃ s2, σ2 = mB σ c s2 hh xx m ∧ RelM (A.1, A.2.1, A.2.2.1 + 1, aU A, aL A, va_up (aP A) i (aP A i + 1)) s2) := by
  refine Ci_of (own := RX6) rfl (by decide +kernel) (lo := [(0, .ref (G.2.1 + 134)), (1, .ref (G.2.1 + c)), (2, .int (nI i))]) rfl (Nat.le_of_ble_eq_true rfl) (fun _ s hp => by obtain ⟨rfl, _⟩ := hp; rfl) ?_
  intro x Q hxl h hret
  subst hxl
  have h12 := hA.1
  have h4 := hA.2.1
  refine r_aload_n (pc := 0) h 0 rfl rfl dX6_readOn_0 ?_
  refine r_aload_n (pc := 1) h 1 rfl rfl dX6_readOn_1 ?_
  refine r_iload_n (pc := 2) h 2 rfl rfl dX6_readOn_2 ?_
  refine r_cVi (pc := 3) (As := [.ref (G.2.1 + c), .int (nI i)]) (st := []) h lk_RX6_84 (c_next x.2.1 G (mB σ c s hh xx m) c hc A (by rw [mB_sF]; exact hM) hA i (by omega) (fun L hL v hv => (mB_h hc _).trans (hH L hL v hv))) rc_6 (by decide) rfl rfl (by first | decide | exact Nat.le_of_ble_eq_true rfl) (by decide) dX6_readOn_3 (fun r1 s2 q3 => ?_)
  rw [q3.1, q3.2]
  refine r_istore_n (pc := 6) (lo2 := [(3, .int (oI (nextO A i))), (0, .ref (G.2.1 + 134)), (1, .ref (G.2.1 + c)), (2, .int (nI i))]) h rfl (by decide) rfl dX6_readOn_6 ?_
  refine r_aload_n (pc := 7) h 2 rfl rfl dX6_readOn_7 ?_
  refine r_bipush (pc := 8) (v := nI 51) h (by decide) dX6_readOn_8 ?_
  refine r_iconst (pc := 10) (v := nI 2) h (by decide) dX6_readOn_10 ?_
  refine r_iload_n (pc := 11) h 3 rfl rfl dX6_readOn_11 ?_
  refine r_imul (pc := 12) (v := nI (2 * i)) h (pk_mul _ _) dX6_readOn_12 ?_
  refine r_iadd (pc := 13) (v := nI (51 + (2 * i))) h (nI_add _ _) dX6_readOn_13 ?_
  refine r_iconst (pc := 14) (v := nI 1) h (by decide) dX6_readOn_14 ?_
  refine r_iadd (pc := 15) (v := nI ((51 + (2 * i)) + 1)) h (nI_add _ _) dX6_readOn_15 ?_
  refine r_dup2 (pc := 16) h rfl rfl dX6_readOn_16 ?_
  refine r_iald (pc := 17) h (a_rc hc) ((51 + (2 * i)) + 1) rfl (by omega) dX6_readOn_17 ?_
  refine r_topi (b := s ((51 + (2 * i)) + 1)) (mB_s _) ?_
  refine r_topi (b := nI (aP A i)) ((hM.2.2.2.2 i (by omega)).2) ?_
  refine r_iconst (pc := 18) (v := nI 1) h (by decide) dX6_readOn_18 ?_
  refine r_iadd (pc := 19) (v := nI ((aP A i) + 1)) h (nI_add _ _) dX6_readOn_19 ?_
  refine r_iast (pc := 20) (w := nI ((aP A i) + 1)) h (a_rc hc) ((51 + (2 * i)) + 1) rfl (by omega) rfl dX6_readOn_20 ?_
  refine V.sg (mB_ss _ _) ?_
  refine r_aload_n (pc := 21) h 2 rfl rfl dX6_readOn_21 ?_
  refine r_iconst (pc := 22) (v := nI 2) h (by decide) dX6_readOn_22 ?_
  refine r_dup2 (pc := 23) h rfl rfl dX6_readOn_23 ?_
  refine r_iald (pc := 24) h (a_rc hc) 2 rfl (by omega) dX6_readOn_24 ?_
  refine r_topi (b := (upd s ((51 + (2 * i)) + 1) (nI ((aP A i) + 1))) 2) (mB_s _) ?_
  refine r_topi (b := A.2.2.1) ((pk_un (by omega)).trans hM.2.2.1) ?_
  refine r_iconst (pc := 25) (v := nI 1) h (by decide) dX6_readOn_25 ?_
  refine r_iadd (pc := 26) (v := A.2.2.1 + (nI 1)) h rfl dX6_readOn_26 ?_
  refine r_iast (pc := 27) (w := A.2.2.1 + (nI 1)) h (a_rc hc) 2 rfl (by omega) rfl dX6_readOn_27 ?_
  refine V.sg (mB_ss _ _) ?_
  refine r_iload_n (pc := 28) h 0 rfl rfl dX6_readOn_28 ?_
  exact hret _ _ (⟨rfl, _, rfl, relM_pass hM h12 ((pk_un (by omega)).trans pk_us) pk_us (fun j q1 q2 => (pk_un q2).trans (pk_un q1))⟩) 29 _ dX6_readOn_29

set_option maxRecDepth 100000 in
set_option maxHeartbeats 800000 in
theorem c_skipOn (l : Launch) (G : Gl) (σ : Sg) (c : Nat) (hc : Rc c) (s hh xx m : Nat → Int32) (A : Ab) (hA : okA A) (hM : RelM A s) (i k : Nat) (hi : i < A.2.1) (hk : k < 2 ^ 31) (hH : HasN (aU A) A.1 hh) : Ci l yX6_skipOn cX6_skipOn 6 .int ({ frames := 2, cells := 0, slots := 0, locals := 46 } : Room) G [.ref (G.2.1 + 134), .ref (G.2.1 + c), .int (nI i), .int (nI k)] (mB σ c s hh xx m) (fun r σ2 => r = nI (skN A i k) ∧ ∃ s2, σ2 = mB σ c s2 hh xx m ∧ RelM (A.1, A.2.1, A.2.2.1, aU A, aL A, va_up (aP A) i (aP A i + skN A i k)) s2) := by
  refine Ci_of (own := RX6) rfl (by decide +kernel) (lo := [(0, .ref (G.2.1 + 134)), (1, .ref (G.2.1 + c)), (2, .int (nI i)), (3, .int (nI k))]) rfl (Nat.le_of_ble_eq_true rfl) (fun _ s hp => by obtain ⟨rfl, _⟩ := hp; rfl) ?_
  intro x Q hxl h hret
  subst hxl
  have h12 := hA.1
  have h4 := hA.2.1
  refine r_aload_n (pc := 0) h 0 rfl rfl dX6_skipOn_0 ?_
  refine r_aload_n (pc := 1) h 1 rfl rfl dX6_skipOn_1 ?_
  refine r_iload_n (pc := 2) h 2 rfl rfl dX6_skipOn_2 ?_
  refine r_cSi (pc := 3) (As := [.ref (G.2.1 + c), .int (nI i)]) (st := [.ref (G.2.1 + 134)]) h lk_RX6_73 (c_listOfReader x.2.1 G (mB σ c s hh xx m) c hc i (by omega)) (by decide) rfl rfl (by first | decide | exact Nat.le_of_ble_eq_true rfl) (by decide) dX6_skipOn_3 (fun r1 s2 q3 => ?_)
  rw [q3.1, q3.2]
  refine r_topi (b := nI (aL A i)) ((mB_s _).trans (hM.2.2.2.2 _ (by omega)).1) ?_
  refine r_sipush (pc := 6) (v := nI 999) h (by decide) dX6_skipOn_6 ?_
  have hq := hA.2.2.2 i hi
  have hcl := cS_le (mem (aU A) (aL A i)) 1000
  refine r_cVi (pc := 9) (As := [.int (nI (aL A i)), .int (nI 999)]) (st := []) h lk_RX6_87 (c_countM x.2.1 G (mB σ c s hh xx m) (aL A i) 999 (by omega) (by omega) (mem (aU A) (aL A i)) (fun v hv => (mB_h hc _).trans (hH _ (by omega) v hv))) rc_6 (by decide) rfl rfl (by first | decide | exact Nat.le_of_ble_eq_true rfl) (by decide) dX6_skipOn_9 (fun r4 s5 q6 => ?_)
  rw [q6.1, q6.2]
  refine r_topi (b := nI (cntL A (aL A i))) rfl ?_
  have hq3 : cntL A (aL A i) = cS (mem (aU A) (aL A i)) 1000 := rfl
  refine r_aload_n (pc := 12) h 1 rfl rfl dX6_skipOn_12 ?_
  refine r_iload_n (pc := 13) h 2 rfl rfl dX6_skipOn_13 ?_
  refine r_cSi (pc := 14) (As := [.ref (G.2.1 + c), .int (nI i)]) (st := [.int (nI (cntL A (aL A i)))]) h lk_RX6_77 (c_readBy x.2.1 G (mB σ c s hh xx m) c hc i (by omega)) (by decide) rfl rfl (by first | decide | exact Nat.le_of_ble_eq_true rfl) (by decide) dX6_skipOn_14 (fun r7 s8 q9 => ?_)
  rw [q9.1, q9.2]
  refine r_topi (b := nI (aP A i)) ((mB_s _).trans (hM.2.2.2.2 _ (by omega)).2) ?_
  refine r_isub (pc := 17) (v := nI ((cntL A (aL A i)) - (aP A i))) h (pk_sub (by omega)) dX6_skipOn_17 ?_
  refine r_istore (pc := 18) (lo2 := [(4, .int (nI ((cntL A (aL A i)) - (aP A i)))), (0, .ref (G.2.1 + 134)), (1, .ref (G.2.1 + c)), (2, .int (nI i)), (3, .int (nI k))]) h (by decide) rfl dX6_skipOn_18 ?_
  refine r_iload_n (pc := 20) h 4 rfl rfl dX6_skipOn_20 ?_
  refine r_iload (pc := 21) h 0 rfl dX6_skipOn_21 ?_
  refine r_icmp_ge (pc := 23) (tgt := 30) h (by decide) dX6_skipOn_23 (fun c23 => ?_) (fun c23 => ?_)
  · skip
    rw [nI_leI (by omega) (by omega)] at c23
    refine r_iload (pc := 30) h 0 rfl dX6_skipOn_30 ?_
    refine r_istore (pc := 32) (lo2 := [(5, .int (nI ((cntL A (aL A i)) - (aP A i)))), (4, .int (nI ((cntL A (aL A i)) - (aP A i)))), (0, .ref (G.2.1 + 134)), (1, .ref (G.2.1 + c)), (2, .int (nI i)), (3, .int (nI k))]) h (by decide) rfl dX6_skipOn_32 ?_
    have hsk : skN A i k = ((cntL A (aL A i)) - (aP A i)) := by unfold skN; omega
    refine r_aload_n (pc := 34) h 3 rfl rfl dX6_skipOn_34 ?_
    refine r_bipush (pc := 35) (v := nI 51) h (by decide) dX6_skipOn_35 ?_
    refine r_iconst (pc := 37) (v := nI 2) h (by decide) dX6_skipOn_37 ?_
    refine r_iload_n (pc := 38) h 4 rfl rfl dX6_skipOn_38 ?_
    refine r_imul (pc := 39) (v := nI (2 * i)) h (pk_mul _ _) dX6_skipOn_39 ?_
    refine r_iadd (pc := 40) (v := nI (51 + (2 * i))) h (nI_add _ _) dX6_skipOn_40 ?_
    refine r_iconst (pc := 41) (v := nI 1) h (by decide) dX6_skipOn_41 ?_
    refine r_iadd (pc := 42) (v := nI ((51 + (2 * i)) + 1)) h (nI_add _ _) dX6_skipOn_42 ?_
    refine r_dup2 (pc := 43) h rfl rfl dX6_skipOn_43 ?_
    refine r_iald (pc := 44) h (a_rc hc) ((51 + (2 * i)) + 1) rfl (by omega) dX6_skipOn_44 ?_
    refine r_topi (b := s ((51 + (2 * i)) + 1)) (mB_s _) ?_
    refine r_topi (b := nI (aP A i)) ((hM.2.2.2.2 i (by omega)).2) ?_
    refine r_iload (pc := 45) h 0 rfl dX6_skipOn_45 ?_
    refine r_iadd (pc := 47) (v := nI ((aP A i) + ((cntL A (aL A i)) - (aP A i)))) h (nI_add _ _) dX6_skipOn_47 ?_
    refine r_iast (pc := 48) (w := nI ((aP A i) + ((cntL A (aL A i)) - (aP A i)))) h (a_rc hc) ((51 + (2 * i)) + 1) rfl (by omega) rfl dX6_skipOn_48 ?_
    refine V.sg (mB_ss _ _) ?_
    refine r_iload (pc := 49) h 0 rfl dX6_skipOn_49 ?_
    exact hret _ _ (⟨by rw [hsk], _, rfl, by rw [hsk]; exact relM_pass hM h12 pk_us ((pk_un (by omega)).trans hM.2.2.1) (fun j q1 q2 => pk_un q1)⟩) 51 _ dX6_skipOn_51
  · skip
    rw [nI_leI (by omega) (by omega)] at c23
    refine r_iload_n (pc := 26) h 4 rfl rfl dX6_skipOn_26 ?_
    refine r_goto (pc := 27) (tgt := 32) h (by decide) dX6_skipOn_27 ?_
    refine r_istore (pc := 32) (lo2 := [(5, .int (nI k)), (4, .int (nI ((cntL A (aL A i)) - (aP A i)))), (0, .ref (G.2.1 + 134)), (1, .ref (G.2.1 + c)), (2, .int (nI i)), (3, .int (nI k))]) h (by decide) rfl dX6_skipOn_32 ?_
    have hsk : skN A i k = k := by unfold skN; omega
    refine r_aload_n (pc := 34) h 3 rfl rfl dX6_skipOn_34 ?_
    refine r_bipush (pc := 35) (v := nI 51) h (by decide) dX6_skipOn_35 ?_
    refine r_iconst (pc := 37) (v := nI 2) h (by decide) dX6_skipOn_37 ?_
    refine r_iload_n (pc := 38) h 4 rfl rfl dX6_skipOn_38 ?_
    refine r_imul (pc := 39) (v := nI (2 * i)) h (pk_mul _ _) dX6_skipOn_39 ?_
    refine r_iadd (pc := 40) (v := nI (51 + (2 * i))) h (nI_add _ _) dX6_skipOn_40 ?_
    refine r_iconst (pc := 41) (v := nI 1) h (by decide) dX6_skipOn_41 ?_
    refine r_iadd (pc := 42) (v := nI ((51 + (2 * i)) + 1)) h (nI_add _ _) dX6_skipOn_42 ?_
    refine r_dup2 (pc := 43) h rfl rfl dX6_skipOn_43 ?_
    refine r_iald (pc := 44) h (a_rc hc) ((51 + (2 * i)) + 1) rfl (by omega) dX6_skipOn_44 ?_
    refine r_topi (b := s ((51 + (2 * i)) + 1)) (mB_s _) ?_
    refine r_topi (b := nI (aP A i)) ((hM.2.2.2.2 i (by omega)).2) ?_
    refine r_iload (pc := 45) h 0 rfl dX6_skipOn_45 ?_
    refine r_iadd (pc := 47) (v := nI ((aP A i) + k)) h (nI_add _ _) dX6_skipOn_47 ?_
    refine r_iast (pc := 48) (w := nI ((aP A i) + k)) h (a_rc hc) ((51 + (2 * i)) + 1) rfl (by omega) rfl dX6_skipOn_48 ?_
    refine V.sg (mB_ss _ _) ?_
    refine r_iload (pc := 49) h 0 rfl dX6_skipOn_49 ?_
    exact hret _ _ (⟨by rw [hsk], _, rfl, by rw [hsk]; exact relM_pass hM h12 pk_us ((pk_un (by omega)).trans hM.2.2.1) (fun j q1 q2 => pk_un q1)⟩) 51 _ dX6_skipOn_51

set_option maxRecDepth 100000 in
set_option maxHeartbeats 800000 in
theorem c_backOn (l : Launch) (G : Gl) (σ : Sg) (c : Nat) (hc : Rc c) (s hh xx m : Nat → Int32) (A : Ab) (hA : okA A) (hM : RelM A s) (i : Nat) (hi : i < A.2.1) : Ci l yX6_backOn cX6_backOn 3 .int ({ frames := 1, cells := 0, slots := 0, locals := 21 } : Room) G [.ref (G.2.1 + c), .int (nI i)] (mB σ c s hh xx m) (fun r σ2 => r = nI (aP A i) ∧ ∃ s2, σ2 = mB σ c s2 hh xx m ∧ RelM (A.1, A.2.1, A.2.2.1, aU A, aL A, va_up (aP A) i 0) s2) := by
  refine Ci_of (own := RX6) rfl (by decide +kernel) (lo := [(0, .ref (G.2.1 + c)), (1, .int (nI i))]) rfl (Nat.le_of_ble_eq_true rfl) (fun _ s hp => by obtain ⟨rfl, _⟩ := hp; rfl) ?_
  intro x Q hxl h hret
  subst hxl
  have h12 := hA.1
  have h4 := hA.2.1
  refine r_aload_n (pc := 0) h 0 rfl rfl dX6_backOn_0 ?_
  refine r_iload_n (pc := 1) h 1 rfl rfl dX6_backOn_1 ?_
  refine r_cSi (pc := 2) (As := [.ref (G.2.1 + c), .int (nI i)]) (st := []) h lk_RX6_77 (c_readBy x.2.1 G (mB σ c s hh xx m) c hc i (by omega)) (by decide) rfl rfl (by first | decide | exact Nat.le_of_ble_eq_true rfl) (by decide) dX6_backOn_2 (fun r1 s2 q3 => ?_)
  rw [q3.1, q3.2]
  refine r_topi (b := nI (aP A i)) ((mB_s _).trans (hM.2.2.2.2 _ (by omega)).2) ?_
  refine r_istore_n (pc := 5) (lo2 := [(2, .int (nI (aP A i))), (0, .ref (G.2.1 + c)), (1, .int (nI i))]) h rfl (by decide) rfl dX6_backOn_5 ?_
  refine r_aload_n (pc := 6) h 1 rfl rfl dX6_backOn_6 ?_
  refine r_bipush (pc := 7) (v := nI 51) h (by decide) dX6_backOn_7 ?_
  refine r_iconst (pc := 9) (v := nI 2) h (by decide) dX6_backOn_9 ?_
  refine r_iload_n (pc := 10) h 2 rfl rfl dX6_backOn_10 ?_
  refine r_imul (pc := 11) (v := nI (2 * i)) h (pk_mul _ _) dX6_backOn_11 ?_
  refine r_iadd (pc := 12) (v := nI (51 + (2 * i))) h (nI_add _ _) dX6_backOn_12 ?_
  refine r_iconst (pc := 13) (v := nI 1) h (by decide) dX6_backOn_13 ?_
  refine r_iadd (pc := 14) (v := nI ((51 + (2 * i)) + 1)) h (nI_add _ _) dX6_backOn_14 ?_
  refine r_iconst (pc := 15) (v := nI 0) h (by decide) dX6_backOn_15 ?_
  refine r_iast (pc := 16) (w := nI 0) h (a_rc hc) ((51 + (2 * i)) + 1) rfl (by omega) rfl dX6_backOn_16 ?_
  refine V.sg (mB_ss _ _) ?_
  refine r_iload_n (pc := 17) h 0 rfl rfl dX6_backOn_17 ?_
  exact hret _ _ (⟨rfl, _, rfl, relM_pass hM h12 pk_us ((pk_un (by omega)).trans hM.2.2.1) (fun j q1 q2 => pk_un q1)⟩) 18 _ dX6_backOn_18

set_option maxRecDepth 100000 in
set_option maxHeartbeats 800000 in
theorem c_stopOn (l : Launch) (G : Gl) (σ : Sg) (c : Nat) (hc : Rc c) (s hh xx m : Nat → Int32) (A : Ab) (hA : okA A) (hM : RelM A s) (i : Nat) (hi : i < A.2.1) : Ci l yX6_stopOn cX6_stopOn 3 .int ({ frames := 0, cells := 0, slots := 0, locals := 0 } : Room) G [.ref (G.2.1 + c), .int (nI i)] (mB σ c s hh xx m) (fun r σ2 => r = nI (A.2.1 - 1) ∧ ∃ s2, σ2 = mB σ c s2 hh xx m ∧ RelM (A.1, A.2.1 - 1, A.2.2.1, aU A, (fun j => if i ≤ j then aL A (j + 1) else aL A j), (fun j => if i ≤ j then aP A (j + 1) else aP A j)) s2) := by
  refine Ci_of (own := RX6) rfl (by decide +kernel) (lo := [(0, .ref (G.2.1 + c)), (1, .int (nI i))]) rfl (Nat.le_of_ble_eq_true rfl) (fun _ s hp => by obtain ⟨rfl, _⟩ := hp; rfl) ?_
  intro x Q hxl h hret
  subst hxl
  have h12 := hA.1
  have h4 := hA.2.1
  refine r_bipush (pc := 0) (v := nI 51) h (by decide) dX6_stopOn_0 ?_
  refine r_iconst (pc := 2) (v := nI 2) h (by decide) dX6_stopOn_2 ?_
  refine r_iload_n (pc := 3) h 1 rfl rfl dX6_stopOn_3 ?_
  refine r_imul (pc := 4) (v := nI (2 * i)) h (pk_mul _ _) dX6_stopOn_4 ?_
  refine r_iadd (pc := 5) (v := nI (51 + (2 * i))) h (nI_add _ _) dX6_stopOn_5 ?_
  refine r_istore_n (pc := 6) (lo2 := [(2, .int (nI (51 + (2 * i)))), (0, .ref (G.2.1 + c)), (1, .int (nI i))]) h rfl (by decide) rfl dX6_stopOn_6 ?_
  have lp7 : ∀ (fu : Nat) (k : Nat) (s1 : Nat → Int32), 51 + 2 * i ≤ k → k ≤ 51 + 2 * (A.2.1 - 1) → ShR s s1 i k → 200 - k < fu → V x G 3 0 0 Q (mB σ c s1 hh xx m) 7 [(0, .ref (G.2.1 + c)), (2, .int (nI k))] [] := by
    intro fu
    induction fu with
    | zero => intro k s1 hk1 hk2 hs hfu; exact absurd hfu (Nat.not_lt_zero _)
    | succ fu ih7 =>
      intro k s1 hk1 hk2 hs hfu
      refine r_iload_n (pc := 7) h 1 rfl rfl dX6_stopOn_7 ?_
      refine r_bipush (pc := 8) (v := nI 51) h (by decide) dX6_stopOn_8 ?_
      refine r_iconst (pc := 10) (v := nI 2) h (by decide) dX6_stopOn_10 ?_
      refine r_aload_n (pc := 11) h 0 rfl rfl dX6_stopOn_11 ?_
      refine r_iconst (pc := 12) (v := nI 1) h (by decide) dX6_stopOn_12 ?_
      refine r_iald (pc := 13) h (a_rc hc) 1 rfl (by omega) dX6_stopOn_13 ?_
      refine r_topi (b := s1 1) (mB_s _) ?_
      refine r_topi (b := nI A.2.1) (by rw [hs 1, if_neg (by omega)]; exact hM.2.1) ?_
      refine r_iconst (pc := 14) (v := nI 1) h (by decide) dX6_stopOn_14 ?_
      refine r_isub (pc := 15) (v := nI (A.2.1 - 1)) h (pk_sub (by omega)) dX6_stopOn_15 ?_
      refine r_imul (pc := 16) (v := nI (2 * (A.2.1 - 1))) h (pk_mul _ _) dX6_stopOn_16 ?_
      refine r_iadd (pc := 17) (v := nI (51 + (2 * (A.2.1 - 1)))) h (nI_add _ _) dX6_stopOn_17 ?_
      refine r_icmp_ge (pc := 18) (tgt := 35) h (by decide) dX6_stopOn_18 (fun c18 => ?_) (fun c18 => ?_)
      · skip
        rw [nI_leI (by omega) (by omega)] at c18
        have e : k = 51 + 2 * (A.2.1 - 1) := by omega
        subst e
        refine r_aload_n (pc := 35) h 0 rfl rfl dX6_stopOn_35 ?_
        refine r_iconst (pc := 36) (v := nI 1) h (by decide) dX6_stopOn_36 ?_
        refine r_dup2 (pc := 37) h rfl rfl dX6_stopOn_37 ?_
        refine r_iald (pc := 38) h (a_rc hc) 1 rfl (by omega) dX6_stopOn_38 ?_
        refine r_topi (b := s1 1) (mB_s _) ?_
        refine r_topi (b := nI A.2.1) (by rw [hs 1, if_neg (by omega)]; exact hM.2.1) ?_
        refine r_iconst (pc := 39) (v := nI 1) h (by decide) dX6_stopOn_39 ?_
        refine r_isub (pc := 40) (v := nI (A.2.1 - 1)) h (pk_sub (by omega)) dX6_stopOn_40 ?_
        refine r_iast (pc := 41) (w := nI (A.2.1 - 1)) h (a_rc hc) 1 rfl (by omega) rfl dX6_stopOn_41 ?_
        refine V.sg (mB_ss _ _) ?_
        refine r_aload_n (pc := 42) h 0 rfl rfl dX6_stopOn_42 ?_
        refine r_iconst (pc := 43) (v := nI 1) h (by decide) dX6_stopOn_43 ?_
        refine r_iald (pc := 44) h (a_rc hc) 1 rfl (by omega) dX6_stopOn_44 ?_
        refine r_topi (b := (upd s1 1 (nI (A.2.1 - 1))) 1) (mB_s _) ?_
        refine r_topi (b := nI (A.2.1 - 1)) pk_us ?_
        exact hret _ _ (⟨rfl, _, rfl, relM_stop hM h12 hi hs⟩) 45 _ dX6_stopOn_45
      · skip
        rw [nI_leI (by omega) (by omega)] at c18
        refine r_aload_n (pc := 21) h 0 rfl rfl dX6_stopOn_21 ?_
        refine r_iload_n (pc := 22) h 1 rfl rfl dX6_stopOn_22 ?_
        refine r_aload_n (pc := 23) h 0 rfl rfl dX6_stopOn_23 ?_
        refine r_iload_n (pc := 24) h 1 rfl rfl dX6_stopOn_24 ?_
        refine r_iconst (pc := 25) (v := nI 2) h (by decide) dX6_stopOn_25 ?_
        refine r_iadd (pc := 26) (v := nI (k + 2)) h (nI_add _ _) dX6_stopOn_26 ?_
        refine r_iald (pc := 27) h (a_rc hc) (k + 2) rfl (by omega) dX6_stopOn_27 ?_
        refine r_topi (b := s1 (k + 2)) (mB_s _) ?_
        refine r_topi (b := s (k + 2)) (by rw [hs (k + 2), if_neg (by omega)]) ?_
        refine r_iast (pc := 28) (w := s (k + 2)) h (a_rc hc) k rfl (by omega) rfl dX6_stopOn_28 ?_
        refine V.sg (mB_ss _ _) ?_
        refine r_iinc (pc := 29) (v := nI (k + 1)) (lo2 := [(2, .int (nI (k + 1))), (0, .ref (G.2.1 + c))]) h 1 rfl (iinc1 _) (by decide) rfl dX6_stopOn_29 ?_
        refine r_goto (pc := 32) (tgt := 7) h (by decide) dX6_stopOn_32 ?_
        refine r_sub (lo2 := [(0, .ref (G.2.1 + c)), (2, .int (nI (k + 1)))]) [1, 0] rfl ?_
        exact ih7 (k + 1) _ (by omega) (by omega) (shR_s hs hk1) (by omega)
  refine r_sub (lo2 := [(0, .ref (G.2.1 + c)), (2, .int (nI (51 + (2 * i))))]) [1, 0] rfl ?_
  exact lp7 _ (51 + 2 * i) s (by omega) (by omega) (shR_0 s i) (Nat.lt_succ_self _)

set_option maxRecDepth 100000 in
set_option maxHeartbeats 800000 in
theorem c_copyM (l : Launch) (G : Gl) (σ : Sg) (c1 c2 n1 n2 a1 a2 : Nat) (h1 : isA G c1 n1 0) (h2 : isA G c2 n2 0) (hne : c1 ≠ c2) (g1 : a1 + 59 ≤ n1) (g2 : a2 + 59 ≤ n2) : Cv l yX6_copyState cX6_copyState 5 ({ frames := 0, cells := 0, slots := 0, locals := 0 } : Room) G [.ref (G.2.1 + c1), .int (nI a1), .ref (G.2.1 + c2), .int (nI a2)] σ (fun σ2 => σ2 = oB σ c2 (cpI (σ.1 c1) (σ.1 c2) a1 a2 59)) := by
  refine Cv_of (own := RX6) rfl (by decide +kernel) (lo := [(0, .ref (G.2.1 + c1)), (1, .int (nI a1)), (2, .ref (G.2.1 + c2)), (3, .int (nI a2))]) rfl (Nat.le_of_ble_eq_true rfl) ?_
  intro x Q hxl h hret
  subst hxl
  have g3 := h1.2.1
  have g4 := h2.2.1
  refine r_iconst (pc := 0) (v := nI 0) h (by decide) dX6_copyState_0 ?_
  refine r_istore (pc := 1) (lo2 := [(4, .int (nI 0)), (0, .ref (G.2.1 + c1)), (1, .int (nI a1)), (2, .ref (G.2.1 + c2)), (3, .int (nI a2))]) h (by decide) rfl dX6_copyState_1 ?_
  have lp3 : ∀ (fu : Nat) (i : Nat), i ≤ 59 → 59 - i < fu → V x G 5 0 0 Q (oB σ c2 (cpI (σ.1 c1) (σ.1 c2) a1 a2 i)) 3 [(0, .ref (G.2.1 + c1)), (1, .int (nI a1)), (2, .ref (G.2.1 + c2)), (3, .int (nI a2)), (4, .int (nI i))] [] := by
    intro fu
    induction fu with
    | zero => intro i hi hfu; exact absurd hfu (Nat.not_lt_zero _)
    | succ fu ih3 =>
      intro i hi hfu
      refine r_iload (pc := 3) h 4 rfl dX6_copyState_3 ?_
      refine r_bipush (pc := 5) (v := nI 59) h (by decide) dX6_copyState_5 ?_
      refine r_icmp_ge (pc := 7) (tgt := 28) h (by decide) dX6_copyState_7 (fun c7 => ?_) (fun c7 => ?_)
      · skip
        rw [nI_leI (by omega) (by omega)] at c7
        have e : i = 59 := by omega
        subst e
        exact hret _ (rfl) 28 _ dX6_copyState_28
      · skip
        rw [nI_leI (by omega) (by omega)] at c7
        refine r_aload_n (pc := 10) h 2 rfl rfl dX6_copyState_10 ?_
        refine r_iload_n (pc := 11) h 3 rfl rfl dX6_copyState_11 ?_
        refine r_iload (pc := 12) h 4 rfl dX6_copyState_12 ?_
        refine r_iadd (pc := 14) (v := nI (a2 + i)) h (nI_add _ _) dX6_copyState_14 ?_
        refine r_aload_n (pc := 15) h 0 rfl rfl dX6_copyState_15 ?_
        refine r_iload_n (pc := 16) h 1 rfl rfl dX6_copyState_16 ?_
        refine r_iload (pc := 17) h 4 rfl dX6_copyState_17 ?_
        refine r_iadd (pc := 19) (v := nI (a1 + i)) h (nI_add _ _) dX6_copyState_19 ?_
        refine r_iald (pc := 20) h h1 (a1 + i) rfl (by omega) dX6_copyState_20 ?_
        refine r_topi (b := σ.1 c1 (a1 + i)) (congrFun (oB_o _ hne) _) ?_
        refine r_iast (pc := 21) (w := σ.1 c1 (a1 + i)) h h2 (a2 + i) rfl (by omega) rfl dX6_copyState_21 ?_
        refine V.sg ((oB_sI _ _ _ _ _).trans (congrArg (oB σ c2) (cpI_s _ _ _ _ _))) ?_
        refine r_iinc (pc := 22) (v := nI (i + 1)) (lo2 := [(4, .int (nI (i + 1))), (0, .ref (G.2.1 + c1)), (1, .int (nI a1)), (2, .ref (G.2.1 + c2)), (3, .int (nI a2))]) h 4 rfl (iinc1 _) (by decide) rfl dX6_copyState_22 ?_
        refine r_goto (pc := 25) (tgt := 3) h (by decide) dX6_copyState_25 ?_
        refine r_sub (lo2 := [(0, .ref (G.2.1 + c1)), (1, .int (nI a1)), (2, .ref (G.2.1 + c2)), (3, .int (nI a2)), (4, .int (nI (i + 1)))]) [1, 2, 3, 4, 0] rfl ?_
        exact ih3 (i + 1) (by omega) (by omega)
  refine r_sub (lo2 := [(0, .ref (G.2.1 + c1)), (1, .int (nI a1)), (2, .ref (G.2.1 + c2)), (3, .int (nI a2)), (4, .int (nI 0))]) [1, 2, 3, 4, 0] rfl ?_
  refine V.sg (show σ = oB σ c2 (cpI (σ.1 c1) (σ.1 c2) a1 a2 0) from by rw [cpI_0, oB_self]) ?_
  exact lp3 _ 0 (by omega) (Nat.lt_succ_self _)

set_option maxRecDepth 100000 in
set_option maxHeartbeats 800000 in
theorem c_clearM (l : Launch) (G : Gl) (σ : Sg) (c : Nat) (hc : Rc c) (s hh xx m : Nat → Int32) : Cv l yX6_clear cX6_clear 2 ({ frames := 0, cells := 0, slots := 0, locals := 0 } : Room) G [.ref (G.2.1 + c)] (mB σ c s hh xx m) (fun σ2 => ∃ s2, σ2 = mB σ c s2 hh xx m ∧ ∀ j, j < 59 → s2 j = nI 0) := by
  refine Cv_of (own := RX6) rfl (by decide +kernel) (lo := [(0, .ref (G.2.1 + c))]) rfl (Nat.le_of_ble_eq_true rfl) ?_
  intro x Q hxl h hret
  subst hxl
  refine r_iconst (pc := 0) (v := nI 0) h (by decide) dX6_clear_0 ?_
  refine r_istore_n (pc := 1) (lo2 := [(1, .int (nI 0)), (0, .ref (G.2.1 + c))]) h rfl (by decide) rfl dX6_clear_1 ?_
  have lp2 : ∀ (fu : Nat) (i : Nat) (s1 : Nat → Int32), i ≤ 59 → (∀ j, j < i → s1 j = nI 0) → 59 - i < fu → V x G 2 0 0 Q (mB σ c s1 hh xx m) 2 [(0, .ref (G.2.1 + c)), (1, .int (nI i))] [] := by
    intro fu
    induction fu with
    | zero => intro i s1 hi hz hfu; exact absurd hfu (Nat.not_lt_zero _)
    | succ fu ih2 =>
      intro i s1 hi hz hfu
      refine r_iload_n (pc := 2) h 1 rfl rfl dX6_clear_2 ?_
      refine r_bipush (pc := 3) (v := nI 59) h (by decide) dX6_clear_3 ?_
      refine r_icmp_ge (pc := 5) (tgt := 18) h (by decide) dX6_clear_5 (fun c5 => ?_) (fun c5 => ?_)
      · skip
        rw [nI_leI (by omega) (by omega)] at c5
        exact hret _ (⟨_, rfl, fun j hj => hz j (by omega)⟩) 18 _ dX6_clear_18
      · skip
        rw [nI_leI (by omega) (by omega)] at c5
        refine r_aload_n (pc := 8) h 0 rfl rfl dX6_clear_8 ?_
        refine r_iload_n (pc := 9) h 1 rfl rfl dX6_clear_9 ?_
        refine r_iconst (pc := 10) (v := nI 0) h (by decide) dX6_clear_10 ?_
        refine r_iast (pc := 11) (w := nI 0) h (a_rc hc) i rfl (by omega) rfl dX6_clear_11 ?_
        refine V.sg (mB_ss _ _) ?_
        refine r_iinc (pc := 12) (v := nI (i + 1)) (lo2 := [(1, .int (nI (i + 1))), (0, .ref (G.2.1 + c))]) h 1 rfl (iinc1 _) (by decide) rfl dX6_clear_12 ?_
        refine r_goto (pc := 15) (tgt := 2) h (by decide) dX6_clear_15 ?_
        refine r_sub (lo2 := [(0, .ref (G.2.1 + c)), (1, .int (nI (i + 1)))]) [1, 0] rfl ?_
        exact ih2 (i + 1) _ (by omega) (fun j hj => by by_cases e : j = i; (subst e; exact pk_us); (rw [pk_un e]; exact hz j (by omega))) (by omega)
  refine r_sub (lo2 := [(0, .ref (G.2.1 + c)), (1, .int (nI 0))]) [1, 0] rfl ?_
  exact lp2 _ 0 s (by omega) (fun j hj => absurd hj (Nat.not_lt_zero j)) (Nat.lt_succ_self _)

set_option maxRecDepth 100000 in
set_option maxHeartbeats 800000 in
theorem c_refused (l : Launch) (G : Gl) (σ : Sg) (c : Nat) (hc : Rc c) (s hh xx m : Nat → Int32) (k : Nat) (hk : k ≤ 3) : Ci l yX6_refused cX6_refused 2 .boolean ({ frames := 0, cells := 0, slots := 0, locals := 0 } : Room) G [.ref (G.2.1 + 134), .int (nI k)] (mB σ c s hh xx m) (fun r σ2 => r = zB (decide (0 < k)) ∧ σ2 = mB σ c s hh xx (upd m 0 (nI k))) := by
  refine Ci_of (own := RX6) rfl (by decide +kernel) (lo := [(0, .ref (G.2.1 + 134)), (1, .int (nI k))]) rfl (Nat.le_of_ble_eq_true rfl) (fun r s hp => by obtain ⟨rfl, rfl⟩ := hp; exact zB_nar _) ?_
  intro x Q hxl h hret
  subst hxl
  refine r_aload_n (pc := 0) h 0 rfl rfl dX6_refused_0 ?_
  refine r_iload_n (pc := 1) h 1 rfl rfl dX6_refused_1 ?_
  refine p_6_refusal (pc := 2) h mw_5_22 dX6_refused_2 ?_
  refine V.sg (mB_sm hc _ _) ?_
  refine r_iload_n (pc := 5) h 1 rfl rfl dX6_refused_5 ?_
  refine r_if_le (pc := 6) (tgt := 13) h (by decide) dX6_refused_6 (fun c6 => ?_) (fun c6 => ?_)
  · skip
    rw [zI0, nI_leI (by omega) (by omega)] at c6
    have c6 : ¬ 0 < k := by omega
    refine r_iconst (pc := 13) (v := nI 0) h (by decide) dX6_refused_13 ?_
    exact hret _ _ (⟨by rw [decide_eq_false c6]; rfl, rfl⟩) 14 _ dX6_refused_14
  · skip
    rw [zI0, nI_leI (by omega) (by omega)] at c6
    have c6 : 0 < k := by omega
    refine r_iconst (pc := 9) (v := nI 1) h (by decide) dX6_refused_9 ?_
    refine r_goto (pc := 10) (tgt := 14) h (by decide) dX6_refused_10 ?_
    exact hret _ _ (⟨by rw [decide_eq_true c6]; rfl, rfl⟩) 14 _ dX6_refused_14

