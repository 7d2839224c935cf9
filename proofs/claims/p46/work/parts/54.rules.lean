/-! THE LAW: rules -/
theorem mk_mem {A : Ab} {u : Rul} (L : Nat) (hL : L < A.1) : mem (aU (mkA A u)) L = mem (aU A) L := mem_cong (fun j hj => va_n _ _ (by omega))
theorem mk_new {A : Ab} {u : Rul} (hu : okR u A.1) {v : Nat} (hv : v < 1000) : mem (aU (mkA A u)) A.1 v = true ↔ rS u (mem (aU A)) v := by
  have e : aU (mkA A u) A.1 = u := va_s _ _ _
  rw [mem_iff (by rw [e]; exact hu) hv, e]
  exact rS_ok hu hv (fun j hj x _ => congrFun (mk_mem j hj) x)
/-- T is S with the joined, the shared, the one without the other and the sieved list of i and j -/
def RU (S T : Cs) (i j : Nat) : Prop := nLi T = nLi S + 4 ∧ (∀ L, L < nLi S → mS T L = mS S L) ∧ (∀ v, v < 1000 → mS T (nLi S) v = (mS S i v || mS S j v)) ∧ (∀ v, v < 1000 → mS T (nLi S + 1) v = (mS S i v && mS S j v)) ∧ (∀ v, v < 1000 → mS T (nLi S + 2) v = (mS S i v && !mS S j v)) ∧ (∀ v, v < 1000 → mS T (nLi S + 3) v = (mS S i v && !svU (mS S i) v v))
theorem bo_or {p q r : Bool} (h : p = true ↔ (q = true ∨ r = true)) : p = (q || r) := by cases p <;> cases q <;> cases r <;> simp_all
theorem bo_and {p q r : Bool} (h : p = true ↔ (q = true ∧ r = true)) : p = (q && r) := by cases p <;> cases q <;> cases r <;> simp_all
theorem bo_no {p q r : Bool} (h : p = true ↔ (q = true ∧ r = false)) : p = (q && !r) := by cases p <;> cases q <;> cases r <;> simp_all
theorem RU_of {S : Cs} {i j : Nat} {a b c d : Int32} (hi : i < nLi S) (hj : j < nLi S) (hN : nLi S ≤ 8) : RU S (nK_7 (nK_6 (nK_5 (nK_4 S (nI i) (nI j) a) (nI i) (nI j) b) (nI i) (nI j) c) (nI i) (nI 0) d) i j := by
  have ei : toN (nI i) = i := toN_nI (by omega)
  have ej : toN (nI j) = j := toN_nI (by omega)
  obtain ⟨A, hA⟩ : ∃ A, A = sA S := ⟨_, rfl⟩
  have hi' : i < A.1 := by rw [hA]; exact hi
  have hj' : j < A.1 := by rw [hA]; exact hj
  have e4 : sA (nK_7 (nK_6 (nK_5 (nK_4 S (nI i) (nI j) a) (nI i) (nI j) b) (nI i) (nI j) c) (nI i) (nI 0) d) = mkA (mkA (mkA (mkA A (2, i, j, 0)) (3, i, j, 0)) (4, i, j, 0)) (5, i, 0, 0) := by
    show mkA (mkA (mkA (mkA (sA S) (2, toN (nI i), toN (nI j), 0)) (3, toN (nI i), toN (nI j), 0)) (4, toN (nI i), toN (nI j), 0)) (5, toN (nI i), 0, 0) = _
    rw [ei, ej, hA]
  have q1 := fun L hL => mk_mem (A := A) (u := (2, i, j, 0)) L hL
  have q2 := fun L hL => mk_mem (A := mkA A (2, i, j, 0)) (u := (3, i, j, 0)) L hL
  have q3 := fun L hL => mk_mem (A := mkA (mkA A (2, i, j, 0)) (3, i, j, 0)) (u := (4, i, j, 0)) L hL
  have q4 := fun L hL => mk_mem (A := mkA (mkA (mkA A (2, i, j, 0)) (3, i, j, 0)) (4, i, j, 0)) (u := (5, i, 0, 0)) L hL
  unfold RU
  rw [show nLi (nK_7 (nK_6 (nK_5 (nK_4 S (nI i) (nI j) a) (nI i) (nI j) b) (nI i) (nI j) c) (nI i) (nI 0) d) = nLi S + 4 from rfl]
  have hU : ∀ L, mS (nK_7 (nK_6 (nK_5 (nK_4 S (nI i) (nI j) a) (nI i) (nI j) b) (nI i) (nI j) c) (nI i) (nI 0) d) L = mem (aU (mkA (mkA (mkA (mkA A (2, i, j, 0)) (3, i, j, 0)) (4, i, j, 0)) (5, i, 0, 0))) L := fun L => by show mem (aU (sA _)) L = _; rw [e4]
  have hV : ∀ L, mS S L = mem (aU A) L := fun L => by show mem (aU (sA S)) L = _; rw [hA]
  have hNA : nLi S = A.1 := by rw [hA]
  rw [hNA]
  refine ⟨rfl, fun L hL => ?_, fun v hv => ?_, fun v hv => ?_, fun v hv => ?_, fun v hv => ?_⟩
  · rw [hU, hV, q4 L (by show L < A.1 + 1 + 1 + 1; omega), q3 L (by show L < A.1 + 1 + 1; omega), q2 L (by show L < A.1 + 1; omega), q1 L hL]
  · rw [hU, hV, hV, q4 A.1 (by show A.1 < A.1 + 1 + 1 + 1; omega), q3 A.1 (by show A.1 < A.1 + 1 + 1; omega), q2 A.1 (by show A.1 < A.1 + 1; omega)]
    exact bo_or (mk_new (u := (2, i, j, 0)) ⟨hi', hj'⟩ hv)
  · rw [hU, hV, hV, q4 (A.1 + 1) (by show A.1 + 1 < A.1 + 1 + 1 + 1; omega), q3 (A.1 + 1) (by show A.1 + 1 < A.1 + 1 + 1; omega), ← q1 i hi', ← q1 j hj']
    exact bo_and (mk_new (A := mkA A (2, i, j, 0)) (u := (3, i, j, 0)) ⟨(by show i < A.1 + 1; omega), (by show j < A.1 + 1; omega)⟩ hv)
  · rw [hU, hV, hV, q4 (A.1 + 2) (by show A.1 + 2 < A.1 + 1 + 1 + 1; omega), ← q1 i hi', ← q1 j hj', ← q2 i (by show i < A.1 + 1; omega), ← q2 j (by show j < A.1 + 1; omega)]
    exact bo_no (mk_new (A := mkA (mkA A (2, i, j, 0)) (3, i, j, 0)) (u := (4, i, j, 0)) ⟨(by show i < A.1 + 1 + 1; omega), (by show j < A.1 + 1 + 1; omega)⟩ hv)
  · rw [hU, hV, ← q1 i hi', ← q2 i (by show i < A.1 + 1; omega), ← q3 i (by show i < A.1 + 1 + 1; omega)]
    exact bo_no (mk_new (A := mkA (mkA (mkA A (2, i, j, 0)) (3, i, j, 0)) (4, i, j, 0)) (u := (5, i, 0, 0)) (by show i < A.1 + 1 + 1 + 1; omega) hv)
/-- counts of two sets -/
theorem cS_oa (M N : Nat → Bool) : ∀ n, cS (fun v => M v || N v) n + cS (fun v => M v && N v) n = cS M n + cS N n
  | 0 => rfl
  | n + 1 => by
    have := cS_oa M N n
    simp only [cS]
    by_cases a : M n = true <;> by_cases b : N n = true <;> simp [a, b] <;> omega
theorem cS_ow (M N : Nat → Bool) : ∀ n, cS (fun v => M v || N v) n = cS (fun v => M v && !N v) n + cS N n
  | 0 => rfl
  | n + 1 => by
    have := cS_ow M N n
    simp only [cS]
    by_cases a : M n = true <;> by_cases b : N n = true <;> simp [a, b] <;> omega
theorem ath_0 (M : Nat → Bool) : ath M 0 = nxt M 0 := (nxt_ath (S := M) (g := 0) (p := 0) rfl (by omega)).symm
theorem no_wo (M N : Nat → Bool) : nxt (fun v => N v && (M v && !N v)) 0 = none := nxt_none (fun u _ _ => by cases M u <;> cases N u <;> rfl)
/-- what is struck out -/
theorem svU_iff {M : Nat → Bool} : ∀ {m v : Nat}, svU M m v = true ↔ ∃ k, k < m ∧ 1 < k ∧ M k = true ∧ svU M k k = false ∧ k < v ∧ v % k = 0
  | 0, v => ⟨(fun h => by cases h), (fun ⟨k, h, _⟩ => absurd h (Nat.not_lt_zero k))⟩
  | m + 1, v => by
    rw [svU]
    simp only [Bool.or_eq_true, Bool.and_eq_true, decide_eq_true_eq, Bool.not_eq_true']
    rw [svU_iff]
    constructor
    · rintro (⟨k, h1, h2⟩ | ⟨⟨⟨⟨h1, h2⟩, h3⟩, h4⟩, h5⟩)
      · exact ⟨k, by omega, h2⟩
      · exact ⟨m, by omega, h1, h2, h3, h4, h5⟩
    · rintro ⟨k, h1, h2, h3, h4, h5, h6⟩
      by_cases e : k = m
      · subst e; exact Or.inr ⟨⟨⟨⟨h2, h3⟩, h4⟩, h5⟩, h6⟩
      · exact Or.inl ⟨k, by omega, h2, h3, h4, h5, h6⟩
theorem sv_yes {M : Nat → Bool} {v d : Nat} (h1 : 1 < d) (h2 : d < v) (h3 : (M d && !svU M d d) = true) (h4 : v % d = 0) : svU M v v = true := by
  rw [Bool.and_eq_true, Bool.not_eq_true'] at h3
  exact svU_iff.mpr ⟨d, h2, h1, h3.1, h3.2, h2, h4⟩
theorem sv_no {M : Nat → Bool} {v d : Nat} (h1 : v < d * 2) (h : ∀ e, 2 ≤ e → e < d → v % e = 0 → (M e && !svU M e e) = false) : svU M v v = false := by
  cases q : svU M v v with
  | false => rfl
  | true =>
    obtain ⟨k, g1, g2, g3, g4, g5, g6⟩ := svU_iff.mp q
    have g7 : k < d := by
      have := Nat.div_add_mod v k
      rw [g6, Nat.add_zero] at this
      have g8 : 1 < v / k := by
        rcases Nat.lt_or_ge 1 (v / k) with z | z
        · exact z
        · have : k * (v / k) ≤ k * 1 := Nat.mul_le_mul_left k z
          omega
      have g9 : k * 2 ≤ k * (v / k) := Nat.mul_le_mul_left k g8
      omega
    have := h k g2 g7 g6
    rw [g3, g4] at this
    cases this
theorem zB_le (b : Bool) : ¬ nI 1 < zB b := by cases b <;> decide
theorem upT {S T : Cs} {L : Nat} {M : Nat → Bool} {c : Int32} (hL : L < 2 ^ 31) (h : ∀ v, v < 1000 → mS T L v = M v) : vK_20 T (nI L) (nI 999) c = nI (cS M 1000) := by
  show nI (cS (mem (aU (sA T)) (toN (nI L))) (toN (nI 999) + 1)) = _
  rw [toN_nI hL, toN_nI (by decide)]
  exact congrArg nI (cS_cong (fun v hv => h v hv))
theorem isT {T : Cs} {L v : Nat} {b : Bool} (hL : L < 2 ^ 31) (hv : v < 2 ^ 31) (h : mS T L v = b) : vW_is T (nI L) (nI v) = zB b := by
  show zB (mem (aU (sA T)) (toN (nI L)) (toN (nI v))) = _
  rw [toN_nI hL, toN_nI hv]
  exact congrArg zB h
theorem atT {T : Cs} {L p : Nat} {M : Nat → Bool} {c : Int32} (hL : L < 2 ^ 31) (hp : p < 2 ^ 31) (h : ∀ v, v < 1000 → mS T L v = M v) : vK_17 T (nI L) (nI p) c = oI (ath M p) := by
  show oI (ath (mem (aU (sA T)) (toN (nI L))) (toN (nI p))) = _
  rw [toN_nI hL, toN_nI hp]
  exact congrArg oI (ath_cong h p)
theorem coT {T : Cs} {L J : Nat} {M N : Nat → Bool} {c : Int32} (hL : L < 2 ^ 31) (hJ : J < 2 ^ 31) (h : ∀ v, v < 1000 → mS T L v = M v) (h2 : ∀ v, v < 1000 → mS T J v = N v) : vK_22 T (nI L) (nI J) c = oI (nxt (fun v => M v && N v) 0) := by
  show oI (nxt (fun v => mem (aU (sA T)) (toN (nI L)) v && mem (aU (sA T)) (toN (nI J)) v) 0) = _
  rw [toN_nI hL, toN_nI hJ]
  exact congrArg oI (nxt_cong (fun v hv => by
    have a := h v hv
    have b := h2 v hv
    show (mS T L v && mS T J v) = _
    rw [a, b]))
theorem jnT {T : Cs} {L J : Nat} {M N : Nat → Bool} {c : Int32} (hL : L < 2 ^ 31) (hJ : J < 2 ^ 31) (h : ∀ v, v < 1000 → mS T L v = M v) (h2 : ∀ v, v < 1000 → mS T J v = N v) : vK_30 T (nI L) (nI J) c = nI (cS (fun v => M v || N v) 1000) := by
  show nI (cS (fun v => mem (aU (sA T)) (toN (nI L)) v || mem (aU (sA T)) (toN (nI J)) v) 1000) = _
  rw [toN_nI hL, toN_nI hJ]
  exact congrArg nI (cS_cong (fun v hv => by
    have a := h v hv
    have b := h2 v hv
    show (mS T L v || mS T J v) = _
    rw [a, b]))
theorem oc_LL {S : Cs} {i j : Nat} (hi : i < nLi S) (hj : j < nLi S) (hN : nLi S < 12) : fst3 (liB (sA S) (nI i) && liB (sA S) (nI j)) true (roomL (sA S)) = 0 := by
  rw [li_s hi (by omega), li_s hj (by omega), show roomL (sA S) = true from decide_eq_true hN]
  rfl
theorem oc_L {S : Cs} {i : Nat} (hi : i < nLi S) (hN : nLi S < 12) : fst3 (liB (sA S) (nI i)) true (roomL (sA S)) = 0 := by
  rw [li_s hi (by omega), show roomL (sA S) = true from decide_eq_true hN]
  rfl
/-- four makings undone -/
theorem un4 {S S1 S2 S3 S4 : Cs} {A1 A2 A3 A4 : Ab} (hm : sM S ≤ 14) (h1 : S1 = pu S A1) (h2 : S2 = pu S1 A2) (h3 : S3 = pu S2 A3) (h4 : S4 = pu S3 A4) : 4 ≤ sM S4 ∧ sM S4 ≤ 14 ∧ sA (poN S4 4) = sA S ∧ (LI S → A1.1 = nLi S + 1 → A2.1 = nLi S + 2 → A3.1 = nLi S + 3 → A4.1 = nLi S + 4 → LI (poN S4 4)) := by
  have m1 : sM S1 = pushN (sM S) := by rw [h1]; rfl
  have m2 : sM S2 = pushN (sM S1) := by rw [h2]; rfl
  have m3 : sM S3 = pushN (sM S2) := by rw [h3]; rfl
  have m4 : sM S4 = pushN (sM S3) := by rw [h4]; rfl
  have g1 := pn_ge (j := 0) (Nat.zero_le _) (by omega) hm
  have b1 := pn_b hm
  rw [← m1] at g1 b1
  have g2 := pn_ge (j := 1) g1 (by omega) b1.2.1
  have b2 := pn_b b1.2.1
  rw [← m2] at g2 b2
  have g3 := pn_ge (j := 2) g2 (by omega) b2.2.1
  have b3 := pn_b b2.2.1
  rw [← m3] at g3 b3
  have g4 := pn_ge (j := 3) g3 (by omega) b3.2.1
  have b4 := pn_b b3.2.1
  rw [← m4] at g4 b4
  have r0 : rem S4 0 = sA S3 := by rw [h4]; exact rem_0 b3.2.1
  have r1 : rem S4 1 = sA S2 := by
    rw [h4]
    refine (rem_s (k := 0) b3.2.1 (by omega) (by omega)).trans ?_
    rw [h3]; exact rem_0 b2.2.1
  have r2 : rem S4 2 = sA S1 := by
    rw [h4]
    refine (rem_s (k := 1) b3.2.1 (by omega) (by omega)).trans ?_
    rw [h3]
    refine (rem_s (k := 0) b2.2.1 (by omega) (by omega)).trans ?_
    rw [h2]; exact rem_0 b1.2.1
  have r3 : rem S4 3 = sA S := by
    rw [h4]
    refine (rem_s (k := 2) b3.2.1 (by omega) (by omega)).trans ?_
    rw [h3]
    refine (rem_s (k := 1) b2.2.1 (by omega) (by omega)).trans ?_
    rw [h2]
    refine (rem_s (k := 0) b1.2.1 (by omega) (by omega)).trans ?_
    rw [h1]; exact rem_0 hm
  refine ⟨g4, b4.2.1, by rw [poN_A]; exact r3, fun hL a1 a2 a3 a4 => ?_⟩
  have n1 : sA S1 = A1 := by rw [h1]; rfl
  have n2 : sA S2 = A2 := by rw [h2]; rfl
  have n3 : sA S3 = A3 := by rw [h3]; rfl
  have h20 := hL.1
  have L1 : LI S1 := by rw [h1]; exact LI_pu hL hm (by omega) (by omega)
  have L2 : LI S2 := by rw [h2]; exact LI_pu L1 b1.2.1 (by show _ ≤ (sA S1).1 + 1; rw [n1]; omega) (by omega)
  have L3 : LI S3 := by rw [h3]; exact LI_pu L2 b2.2.1 (by show _ ≤ (sA S2).1 + 1; rw [n2]; omega) (by omega)
  have L4 : LI S4 := by rw [h4]; exact LI_pu L3 b3.2.1 (by show _ ≤ (sA S3).1 + 1; rw [n3]; omega) (by omega)
  refine LI_poN L4 4 g4 (fun k hk => ?_)
  rcases (show k = 0 ∨ k = 1 ∨ k = 2 ∨ k = 3 by omega) with rfl | rfl | rfl | rfl
  · rw [r0, n3]; omega
  · rw [r1, n2]; omega
  · rw [r2, n1]; omega
  · rw [r3]; exact h20
/-- the state behind it -/
noncomputable def rlT (S : Cs) (n : Nat) : Cs := if nLi S ≤ 8 then poN (nK_7 (nK_6 (nK_5 (nK_4 S (nI (n % nLi S)) (nI (n / 12 % nLi S)) (nI 0)) (nI (n % nLi S)) (nI (n / 12 % nLi S)) (nI 0)) (nI (n % nLi S)) (nI (n / 12 % nLi S)) (nI 0)) (nI (n % nLi S)) (nI 0) (nI 0)) 4 else S
set_option maxRecDepth 100000 in
set_option maxHeartbeats 4000000 in
theorem n_rules (l : Launch) (hst : l.stackTraces = false) (G K : Gl) (h2 : Two G K) (S : Cs) (n : Nat) (hn : n < 500000000) (h1 : 1 ≤ nLi S) : K2 l yL_rules cL_rules 17 .boolean ({ frames := 11, cells := 12400, slots := 74400, locals := 216 } : Room) G K [.ref (G.2.1 + 0), .ref (K.2.1 + 0), .int (nI n)] S (nI 1) (rlT S n) := by
  refine K2_of rfl (by decide +kernel) (lo := [(0, .ref (G.2.1 + 0)), (1, .ref (K.2.1 + 0)), (2, .int (nI n))]) rfl (Nat.le_of_ble_eq_true rfl) rfl (rfl) ?_
  intro x Q hxl h hE hE2 hX hret
  subst hxl
  refine vl_fact (fun H hH => W1.ok hH.1) (fun ok => ?_)
  have hN := ok_N ok
  have hR := ok_R ok
  have hm14 := ok_m ok
  refine vl_aload_n (pc := 0) h 0 rfl rfl dL_rules_0 ?_
  refine wVo (pc := 1) (As := []) (st := []) (r2 := nI (nLi S)) (u2 := 0) h2 h hE lk_RL_242 (kv_lists (S := S)) rfl rfl rfl (by decide) rfl (Nat.le_of_ble_eq_true rfl) (by decide) dL_rules_1 ?_
  refine vl_istore_n (pc := 4) (lo2 := [(3, .int (nI (nLi S))), (0, .ref (G.2.1 + 0)), (1, .ref (K.2.1 + 0)), (2, .int (nI n))]) h rfl (by decide) rfl dL_rules_4 ?_
  refine vl_iload_n (pc := 5) h 0 rfl rfl dL_rules_5 ?_
  refine vl_bipush (pc := 6) (v := nI 8) h (by decide) dL_rules_6 ?_
  refine vl_icmp_le (pc := 8) (tgt := 13) h (by decide) dL_rules_8 (fun c8 => ?_) (fun c8 => ?_)
  · skip
    rw [nI_leI (by omega) (by omega)] at c8
    have hiN := Nat.mod_lt n (show 0 < nLi S by omega)
    have hjN := Nat.mod_lt (n / 12) (show 0 < nLi S by omega)
    refine vl_iload_n (pc := 13) h 3 rfl rfl dL_rules_13 ?_
    refine vl_iload_n (pc := 14) h 0 rfl rfl dL_rules_14 ?_
    refine vl_irem (pc := 15) (v := nI (n % (nLi S))) h (nI_ne0 (by omega) (by omega)) (pk_rem (by omega) (by omega) (by omega)) dL_rules_15 ?_
    refine vl_istore (pc := 16) (lo2 := [(4, .int (nI (n % (nLi S)))), (3, .int (nI (nLi S))), (0, .ref (G.2.1 + 0)), (1, .ref (K.2.1 + 0)), (2, .int (nI n))]) h (by decide) rfl dL_rules_16 ?_
    refine vl_iload_n (pc := 18) h 4 rfl rfl dL_rules_18 ?_
    refine vl_bipush (pc := 19) (v := nI 12) h (by decide) dL_rules_19 ?_
    refine vl_idiv (pc := 21) (v := nI (n / 12)) h (by decide) (pk_div (by omega) (by omega) (by omega)) dL_rules_21 ?_
    refine vl_iload_n (pc := 22) h 1 rfl rfl dL_rules_22 ?_
    refine vl_irem (pc := 23) (v := nI ((n / 12) % (nLi S))) h (nI_ne0 (by omega) (by omega)) (pk_rem (by omega) (by omega) (by omega)) dL_rules_23 ?_
    refine vl_istore (pc := 24) (lo2 := [(5, .int (nI ((n / 12) % (nLi S)))), (4, .int (nI (n % (nLi S)))), (3, .int (nI (nLi S))), (0, .ref (G.2.1 + 0)), (1, .ref (K.2.1 + 0)), (2, .int (nI n))]) h (by decide) rfl dL_rules_24 ?_
    refine vl_aload_n (pc := 26) h 3 rfl rfl dL_rules_26 ?_
    refine vl_bipush (pc := 27) (v := nI 20) h (by decide) dL_rules_27 ?_
    refine vl_iload (pc := 29) h 1 rfl dL_rules_29 ?_
    refine vl_sipush (pc := 31) (v := nI 999) h (by decide) dL_rules_31 ?_
    refine vl_iconst (pc := 34) (v := nI 0) h (by decide) dL_rules_34 ?_
    refine wSo (pc := 35) (As := [.ref (G.2.1 + 0), .int (nI 20), .int (nI (n % (nLi S))), .int (nI 999), .int (nI 0)]) (st := []) (r2 := nI (cS (mS S (n % nLi S)) 1000)) (u2 := 2) h2 h hE hX lk_RL_248 (kc_20 hst G S (nI (n % (nLi S))) (nI 999) (nI 0) (sc0 (li_s (S := S) (i := n % nLi S) hiN hN) (in_t (by omega) (by omega) (by omega)))) (upT (S := S) (by omega) (fun _ _ => rfl)) rfl rfl (by decide) rfl (Nat.le_of_ble_eq_true rfl) (by decide) dL_rules_35 ?_
    refine vl_istore (pc := 38) (lo2 := [(6, .int (nI (cS (mS S (n % nLi S)) 1000))), (5, .int (nI ((n / 12) % (nLi S)))), (4, .int (nI (n % (nLi S)))), (3, .int (nI (nLi S))), (0, .ref (G.2.1 + 0)), (1, .ref (K.2.1 + 0)), (2, .int (nI n))]) h (by decide) rfl dL_rules_38 ?_
    refine vl_aload_n (pc := 40) h 4 rfl rfl dL_rules_40 ?_
    refine vl_bipush (pc := 41) (v := nI 20) h (by decide) dL_rules_41 ?_
    refine vl_iload (pc := 43) h 1 rfl dL_rules_43 ?_
    refine vl_sipush (pc := 45) (v := nI 999) h (by decide) dL_rules_45 ?_
    refine vl_iconst (pc := 48) (v := nI 0) h (by decide) dL_rules_48 ?_
    refine wSo (pc := 49) (As := [.ref (G.2.1 + 0), .int (nI 20), .int (nI ((n / 12) % (nLi S))), .int (nI 999), .int (nI 0)]) (st := []) (r2 := nI (cS (mS S (n / 12 % nLi S)) 1000)) (u2 := 4) h2 h hE hX lk_RL_248 (kc_20 hst G S (nI ((n / 12) % (nLi S))) (nI 999) (nI 0) (sc0 (li_s (S := S) (i := n / 12 % nLi S) hjN hN) (in_t (by omega) (by omega) (by omega)))) (upT (S := S) (by omega) (fun _ _ => rfl)) rfl rfl (by decide) rfl (Nat.le_of_ble_eq_true rfl) (by decide) dL_rules_49 ?_
    refine vl_istore (pc := 52) (lo2 := [(7, .int (nI (cS (mS S (n / 12 % nLi S)) 1000))), (6, .int (nI (cS (mS S (n % nLi S)) 1000))), (5, .int (nI ((n / 12) % (nLi S)))), (4, .int (nI (n % (nLi S)))), (3, .int (nI (nLi S))), (0, .ref (G.2.1 + 0)), (1, .ref (K.2.1 + 0)), (2, .int (nI n))]) h (by decide) rfl dL_rules_52 ?_
    refine vl_aload_n (pc := 54) h 5 rfl rfl dL_rules_54 ?_
    refine vl_bipush (pc := 55) (v := nI 30) h (by decide) dL_rules_55 ?_
    refine vl_iload (pc := 57) h 3 rfl dL_rules_57 ?_
    refine vl_iload (pc := 59) h 2 rfl dL_rules_59 ?_
    refine vl_iconst (pc := 61) (v := nI 0) h (by decide) dL_rules_61 ?_
    refine wSo (pc := 62) (As := [.ref (G.2.1 + 0), .int (nI 30), .int (nI (n % (nLi S))), .int (nI ((n / 12) % (nLi S))), .int (nI 0)]) (st := []) (r2 := nI (cS (fun v => (mS S (n % nLi S)) v || (mS S (n / 12 % nLi S)) v) 1000)) (u2 := 6) h2 h hE hX lk_RL_248 (kc_30 hst G S (nI (n % (nLi S))) (nI ((n / 12) % (nLi S))) (nI 0) (sc0 (li_s (S := S) (i := n % nLi S) hiN hN) (li_s (S := S) (i := n / 12 % nLi S) hjN hN))) (jnT (by omega) (by omega) (fun _ _ => rfl) (fun _ _ => rfl)) rfl rfl (by decide) rfl (Nat.le_of_ble_eq_true rfl) (by decide) dL_rules_62 ?_
    refine vl_istore (pc := 65) (lo2 := [(8, .int (nI (cS (fun v => (mS S (n % nLi S)) v || (mS S (n / 12 % nLi S)) v) 1000))), (7, .int (nI (cS (mS S (n / 12 % nLi S)) 1000))), (6, .int (nI (cS (mS S (n % nLi S)) 1000))), (5, .int (nI ((n / 12) % (nLi S)))), (4, .int (nI (n % (nLi S)))), (3, .int (nI (nLi S))), (0, .ref (G.2.1 + 0)), (1, .ref (K.2.1 + 0)), (2, .int (nI n))]) h (by decide) rfl dL_rules_65 ?_
    refine vl_aload_n (pc := 67) h 6 rfl rfl dL_rules_67 ?_
    refine vl_iconst (pc := 68) (v := nI 4) h (by decide) dL_rules_68 ?_
    refine vl_iload (pc := 69) h 4 rfl dL_rules_69 ?_
    refine vl_iload (pc := 71) h 3 rfl dL_rules_71 ?_
    refine vl_iconst (pc := 73) (v := nI 0) h (by decide) dL_rules_73 ?_
    obtain ⟨S1, hS1⟩ : ∃ T, T = nK_4 S (nI (n % nLi S)) (nI (n / 12 % nLi S)) (nI 0) := ⟨_, rfl⟩
    have n1 : nLi S1 = nLi S + 1 := by rw [hS1]; rfl
    refine wSo (pc := 74) (As := [.ref (G.2.1 + 0), .int (nI 4), .int (nI (n % (nLi S))), .int (nI ((n / 12) % (nLi S))), .int (nI 0)]) (st := []) (r2 := nI (nLi S)) (u2 := 7) h2 h hE hX lk_RL_248 (KL.eqs rfl hS1.symm (kc_4 hst G S (nI (n % (nLi S))) (nI ((n / 12) % (nLi S))) (nI 0) (oc_LL (S := S) (by omega) (by omega) (by omega)))) rfl rfl rfl (by decide) rfl (Nat.le_of_ble_eq_true rfl) (by decide) dL_rules_74 ?_
    refine vl_iload_n (pc := 77) h 5 rfl rfl dL_rules_77 ?_
    refine vl_icmp_ne_f (pc := 78) (tgt := 197) h rfl (by decide) dL_rules_78 ?_
    refine vl_aload_n (pc := 81) h 7 rfl rfl dL_rules_81 ?_
    refine vl_iconst (pc := 82) (v := nI 4) h (by decide) dL_rules_82 ?_
    refine vl_iload (pc := 83) h 4 rfl dL_rules_83 ?_
    refine vl_iload (pc := 85) h 3 rfl dL_rules_85 ?_
    refine vl_iconst (pc := 87) (v := nI 0) h (by decide) dL_rules_87 ?_
    refine wSq (pc := 88) (As := [.ref (K.2.1 + 0), .int (nI 4), .int (nI (n % (nLi S))), .int (nI ((n / 12) % (nLi S))), .int (nI 0)]) (st := []) (r2 := nI (nLi S)) (u2 := 8) h2 h hE2 hX lk_RL_248 (KL.eqs rfl hS1.symm (kc_4 hst K S (nI (n % (nLi S))) (nI ((n / 12) % (nLi S))) (nI 0) (oc_LL (S := S) (by omega) (by omega) (by omega)))) rfl rfl rfl (by decide) rfl (Nat.le_of_ble_eq_true rfl) (by decide) dL_rules_88 ?_
    refine vl_iload_n (pc := 91) h 5 rfl rfl dL_rules_91 ?_
    refine vl_icmp_ne_f (pc := 92) (tgt := 197) h rfl (by decide) dL_rules_92 ?_
    refine vl_aload_n (pc := 95) h 6 rfl rfl dL_rules_95 ?_
    refine vl_iconst (pc := 96) (v := nI 5) h (by decide) dL_rules_96 ?_
    refine vl_iload (pc := 97) h 4 rfl dL_rules_97 ?_
    refine vl_iload (pc := 99) h 3 rfl dL_rules_99 ?_
    refine vl_iconst (pc := 101) (v := nI 0) h (by decide) dL_rules_101 ?_
    obtain ⟨S2, hS2⟩ : ∃ T, T = nK_5 S1 (nI (n % nLi S)) (nI (n / 12 % nLi S)) (nI 0) := ⟨_, rfl⟩
    have n2 : nLi S2 = nLi S + 2 := by rw [hS2]; exact congrArg (fun z => z + 1) n1
    refine wSo (pc := 102) (As := [.ref (G.2.1 + 0), .int (nI 5), .int (nI (n % (nLi S))), .int (nI ((n / 12) % (nLi S))), .int (nI 0)]) (st := []) (r2 := nI (nLi S + 1)) (u2 := 9) h2 h hE hX lk_RL_248 (KL.eqs rfl hS2.symm (kc_5 hst G S1 (nI (n % (nLi S))) (nI ((n / 12) % (nLi S))) (nI 0) (oc_LL (S := S1) (by omega) (by omega) (by omega)))) (congrArg nI n1) rfl rfl (by decide) rfl (Nat.le_of_ble_eq_true rfl) (by decide) dL_rules_102 ?_
    refine vl_iload_n (pc := 105) h 5 rfl rfl dL_rules_105 ?_
    refine vl_iconst (pc := 106) (v := nI 1) h (by decide) dL_rules_106 ?_
    refine vl_iadd (pc := 107) (v := nI ((nLi S) + 1)) h (nI_add _ _) dL_rules_107 ?_
    refine vl_icmp_ne_f (pc := 108) (tgt := 197) h rfl (by decide) dL_rules_108 ?_
    refine vl_aload_n (pc := 111) h 7 rfl rfl dL_rules_111 ?_
    refine vl_iconst (pc := 112) (v := nI 5) h (by decide) dL_rules_112 ?_
    refine vl_iload (pc := 113) h 4 rfl dL_rules_113 ?_
    refine vl_iload (pc := 115) h 3 rfl dL_rules_115 ?_
    refine vl_iconst (pc := 117) (v := nI 0) h (by decide) dL_rules_117 ?_
    refine wSq (pc := 118) (As := [.ref (K.2.1 + 0), .int (nI 5), .int (nI (n % (nLi S))), .int (nI ((n / 12) % (nLi S))), .int (nI 0)]) (st := []) (r2 := nI (nLi S + 1)) (u2 := 10) h2 h hE2 hX lk_RL_248 (KL.eqs rfl hS2.symm (kc_5 hst K S1 (nI (n % (nLi S))) (nI ((n / 12) % (nLi S))) (nI 0) (oc_LL (S := S1) (by omega) (by omega) (by omega)))) (congrArg nI n1) rfl rfl (by decide) rfl (Nat.le_of_ble_eq_true rfl) (by decide) dL_rules_118 ?_
    refine vl_iload_n (pc := 121) h 5 rfl rfl dL_rules_121 ?_
    refine vl_iconst (pc := 122) (v := nI 1) h (by decide) dL_rules_122 ?_
    refine vl_iadd (pc := 123) (v := nI ((nLi S) + 1)) h (nI_add _ _) dL_rules_123 ?_
    refine vl_icmp_ne_f (pc := 124) (tgt := 197) h rfl (by decide) dL_rules_124 ?_
    refine vl_aload_n (pc := 127) h 6 rfl rfl dL_rules_127 ?_
    refine vl_bipush (pc := 128) (v := nI 6) h (by decide) dL_rules_128 ?_
    refine vl_iload (pc := 130) h 4 rfl dL_rules_130 ?_
    refine vl_iload (pc := 132) h 3 rfl dL_rules_132 ?_
    refine vl_iconst (pc := 134) (v := nI 0) h (by decide) dL_rules_134 ?_
    obtain ⟨S3, hS3⟩ : ∃ T, T = nK_6 S2 (nI (n % nLi S)) (nI (n / 12 % nLi S)) (nI 0) := ⟨_, rfl⟩
    have n3 : nLi S3 = nLi S + 3 := by rw [hS3]; exact congrArg (fun z => z + 1) n2
    refine wSo (pc := 135) (As := [.ref (G.2.1 + 0), .int (nI 6), .int (nI (n % (nLi S))), .int (nI ((n / 12) % (nLi S))), .int (nI 0)]) (st := []) (r2 := nI (nLi S + 2)) (u2 := 11) h2 h hE hX lk_RL_248 (KL.eqs rfl hS3.symm (kc_6 hst G S2 (nI (n % (nLi S))) (nI ((n / 12) % (nLi S))) (nI 0) (oc_LL (S := S2) (by omega) (by omega) (by omega)))) (congrArg nI n2) rfl rfl (by decide) rfl (Nat.le_of_ble_eq_true rfl) (by decide) dL_rules_135 ?_
    refine vl_iload_n (pc := 138) h 5 rfl rfl dL_rules_138 ?_
    refine vl_iconst (pc := 139) (v := nI 2) h (by decide) dL_rules_139 ?_
    refine vl_iadd (pc := 140) (v := nI ((nLi S) + 2)) h (nI_add _ _) dL_rules_140 ?_
    refine vl_icmp_ne_f (pc := 141) (tgt := 197) h rfl (by decide) dL_rules_141 ?_
    refine vl_aload_n (pc := 144) h 7 rfl rfl dL_rules_144 ?_
    refine vl_bipush (pc := 145) (v := nI 6) h (by decide) dL_rules_145 ?_
    refine vl_iload (pc := 147) h 4 rfl dL_rules_147 ?_
    refine vl_iload (pc := 149) h 3 rfl dL_rules_149 ?_
    refine vl_iconst (pc := 151) (v := nI 0) h (by decide) dL_rules_151 ?_
    refine wSq (pc := 152) (As := [.ref (K.2.1 + 0), .int (nI 6), .int (nI (n % (nLi S))), .int (nI ((n / 12) % (nLi S))), .int (nI 0)]) (st := []) (r2 := nI (nLi S + 2)) (u2 := 12) h2 h hE2 hX lk_RL_248 (KL.eqs rfl hS3.symm (kc_6 hst K S2 (nI (n % (nLi S))) (nI ((n / 12) % (nLi S))) (nI 0) (oc_LL (S := S2) (by omega) (by omega) (by omega)))) (congrArg nI n2) rfl rfl (by decide) rfl (Nat.le_of_ble_eq_true rfl) (by decide) dL_rules_152 ?_
    refine vl_iload_n (pc := 155) h 5 rfl rfl dL_rules_155 ?_
    refine vl_iconst (pc := 156) (v := nI 2) h (by decide) dL_rules_156 ?_
    refine vl_iadd (pc := 157) (v := nI ((nLi S) + 2)) h (nI_add _ _) dL_rules_157 ?_
    refine vl_icmp_ne_f (pc := 158) (tgt := 197) h rfl (by decide) dL_rules_158 ?_
    refine vl_aload_n (pc := 161) h 6 rfl rfl dL_rules_161 ?_
    refine vl_bipush (pc := 162) (v := nI 7) h (by decide) dL_rules_162 ?_
    refine vl_iload (pc := 164) h 4 rfl dL_rules_164 ?_
    refine vl_iconst (pc := 166) (v := nI 0) h (by decide) dL_rules_166 ?_
    refine vl_iconst (pc := 167) (v := nI 0) h (by decide) dL_rules_167 ?_
    obtain ⟨S4, hS4⟩ : ∃ T, T = nK_7 S3 (nI (n % nLi S)) (nI 0) (nI 0) := ⟨_, rfl⟩
    have n4 : nLi S4 = nLi S + 4 := by rw [hS4]; exact congrArg (fun z => z + 1) n3
    refine wSo (pc := 168) (As := [.ref (G.2.1 + 0), .int (nI 7), .int (nI (n % (nLi S))), .int (nI 0), .int (nI 0)]) (st := []) (r2 := nI (nLi S + 3)) (u2 := 13) h2 h hE hX lk_RL_248 (KL.eqs rfl hS4.symm (kc_7 hst G S3 (nI (n % (nLi S))) (nI 0) (nI 0) (oc_L (S := S3) (by omega) (by omega)))) (congrArg nI n3) rfl rfl (by decide) rfl (Nat.le_of_ble_eq_true rfl) (by decide) dL_rules_168 ?_
    refine vl_iload_n (pc := 171) h 5 rfl rfl dL_rules_171 ?_
    refine vl_iconst (pc := 172) (v := nI 3) h (by decide) dL_rules_172 ?_
    refine vl_iadd (pc := 173) (v := nI ((nLi S) + 3)) h (nI_add _ _) dL_rules_173 ?_
    refine vl_icmp_ne_f (pc := 174) (tgt := 197) h rfl (by decide) dL_rules_174 ?_
    refine vl_aload_n (pc := 177) h 7 rfl rfl dL_rules_177 ?_
    refine vl_bipush (pc := 178) (v := nI 7) h (by decide) dL_rules_178 ?_
    refine vl_iload (pc := 180) h 4 rfl dL_rules_180 ?_
    refine vl_iconst (pc := 182) (v := nI 0) h (by decide) dL_rules_182 ?_
    refine vl_iconst (pc := 183) (v := nI 0) h (by decide) dL_rules_183 ?_
    refine wSq (pc := 184) (As := [.ref (K.2.1 + 0), .int (nI 7), .int (nI (n % (nLi S))), .int (nI 0), .int (nI 0)]) (st := []) (r2 := nI (nLi S + 3)) (u2 := 14) h2 h hE2 hX lk_RL_248 (KL.eqs rfl hS4.symm (kc_7 hst K S3 (nI (n % (nLi S))) (nI 0) (nI 0) (oc_L (S := S3) (by omega) (by omega)))) (congrArg nI n3) rfl rfl (by decide) rfl (Nat.le_of_ble_eq_true rfl) (by decide) dL_rules_184 ?_
    refine vl_iload_n (pc := 187) h 5 rfl rfl dL_rules_187 ?_
    refine vl_iconst (pc := 188) (v := nI 3) h (by decide) dL_rules_188 ?_
    refine vl_iadd (pc := 189) (v := nI ((nLi S) + 3)) h (nI_add _ _) dL_rules_189 ?_
    refine vl_icmp_ne_f (pc := 190) (tgt := 197) h rfl (by decide) dL_rules_190 ?_
    refine vl_iconst (pc := 193) (v := nI 1) h (by decide) dL_rules_193 ?_
    refine vl_goto (pc := 194) (tgt := 198) h (by decide) dL_rules_194 ?_
    have ru : RU S S4 (n % nLi S) (n / 12 % nLi S) := by rw [hS4, hS3, hS2, hS1]; exact RU_of hiN hjN c8
    obtain ⟨ru1, ru2, ru3, ru4, ru5, ru6⟩ := ru
    have hoa := cS_oa (mS S (n % nLi S)) (mS S (n / 12 % nLi S)) 1000
    have how := cS_ow (mS S (n % nLi S)) (mS S (n / 12 % nLi S)) 1000
    have hci := cS_le (mS S (n % nLi S)) 1000
    have hcj := cS_le (mS S (n / 12 % nLi S)) 1000
    have hcor := cS_le (fun v => (mS S (n % nLi S)) v || (mS S (n / 12 % nLi S)) v) 1000
    refine vl_istore (pc := 198) (lo2 := [(9, .int (nI 1)), (8, .int (nI (cS (fun v => (mS S (n % nLi S)) v || (mS S (n / 12 % nLi S)) v) 1000))), (7, .int (nI (cS (mS S (n / 12 % nLi S)) 1000))), (6, .int (nI (cS (mS S (n % nLi S)) 1000))), (5, .int (nI ((n / 12) % (nLi S)))), (4, .int (nI (n % (nLi S)))), (3, .int (nI (nLi S))), (0, .ref (G.2.1 + 0)), (1, .ref (K.2.1 + 0)), (2, .int (nI n))]) h (by decide) rfl dL_rules_198 ?_
    refine vl_iload (pc := 200) h 0 rfl dL_rules_200 ?_
    refine vl_if_eq_f (pc := 202) (tgt := 311) h (by decide) (by decide) dL_rules_202 ?_
    refine vl_aload_n (pc := 205) h 7 rfl rfl dL_rules_205 ?_
    refine vl_bipush (pc := 206) (v := nI 20) h (by decide) dL_rules_206 ?_
    refine vl_iload_n (pc := 208) h 6 rfl rfl dL_rules_208 ?_
    refine vl_sipush (pc := 209) (v := nI 999) h (by decide) dL_rules_209 ?_
    refine vl_iconst (pc := 212) (v := nI 0) h (by decide) dL_rules_212 ?_
    refine wSo (pc := 213) (As := [.ref (G.2.1 + 0), .int (nI 20), .int (nI (nLi S)), .int (nI 999), .int (nI 0)]) (st := []) (r2 := nI (cS (fun v => (mS S (n % nLi S)) v || (mS S (n / 12 % nLi S)) v) 1000)) (u2 := 16) h2 h hE hX lk_RL_248 (kc_20 hst G S4 (nI (nLi S)) (nI 999) (nI 0) (sc0 (li_s (S := S4) (i := nLi S) (by omega) (by omega)) (in_t (by omega) (by omega) (by omega)))) (upT (S := S) (by omega) ru3) rfl rfl (by decide) rfl (Nat.le_of_ble_eq_true rfl) (by decide) dL_rules_213 ?_
    refine vl_iload (pc := 216) h 1 rfl dL_rules_216 ?_
    refine vl_icmp_ne_f (pc := 218) (tgt := 311) h rfl (by decide) dL_rules_218 ?_
    refine vl_aload_n (pc := 221) h 7 rfl rfl dL_rules_221 ?_
    refine vl_bipush (pc := 222) (v := nI 20) h (by decide) dL_rules_222 ?_
    refine vl_iload_n (pc := 224) h 6 rfl rfl dL_rules_224 ?_
    refine vl_iconst (pc := 225) (v := nI 1) h (by decide) dL_rules_225 ?_
    refine vl_iadd (pc := 226) (v := nI ((nLi S) + 1)) h (nI_add _ _) dL_rules_226 ?_
    refine vl_sipush (pc := 227) (v := nI 999) h (by decide) dL_rules_227 ?_
    refine vl_iconst (pc := 230) (v := nI 0) h (by decide) dL_rules_230 ?_
    refine wSo (pc := 231) (As := [.ref (G.2.1 + 0), .int (nI 20), .int (nI ((nLi S) + 1)), .int (nI 999), .int (nI 0)]) (st := []) (r2 := nI (cS (fun v => (mS S (n % nLi S)) v && (mS S (n / 12 % nLi S)) v) 1000)) (u2 := 18) h2 h hE hX lk_RL_248 (kc_20 hst G S4 (nI ((nLi S) + 1)) (nI 999) (nI 0) (sc0 (li_s (S := S4) (i := nLi S + 1) (by omega) (by omega)) (in_t (by omega) (by omega) (by omega)))) (upT (S := S) (by omega) ru4) rfl rfl (by decide) rfl (Nat.le_of_ble_eq_true rfl) (by decide) dL_rules_231 ?_
    refine vl_iload (pc := 234) h 3 rfl dL_rules_234 ?_
    refine vl_iload (pc := 236) h 2 rfl dL_rules_236 ?_
    refine vl_iadd (pc := 238) (v := nI ((cS (mS S (n % nLi S)) 1000) + (cS (mS S (n / 12 % nLi S)) 1000))) h (nI_add _ _) dL_rules_238 ?_
    refine vl_iload (pc := 239) h 1 rfl dL_rules_239 ?_
    refine vl_isub (pc := 241) (v := nI (((cS (mS S (n % nLi S)) 1000) + (cS (mS S (n / 12 % nLi S)) 1000)) - (cS (fun v => (mS S (n % nLi S)) v || (mS S (n / 12 % nLi S)) v) 1000))) h (pk_sub (by omega)) dL_rules_241 ?_
    refine vl_icmp_ne_f (pc := 242) (tgt := 311) h (congrArg nI (by omega)) (by decide) dL_rules_242 ?_
    refine vl_aload_n (pc := 245) h 7 rfl rfl dL_rules_245 ?_
    refine vl_bipush (pc := 246) (v := nI 20) h (by decide) dL_rules_246 ?_
    refine vl_iload_n (pc := 248) h 6 rfl rfl dL_rules_248 ?_
    refine vl_iconst (pc := 249) (v := nI 2) h (by decide) dL_rules_249 ?_
    refine vl_iadd (pc := 250) (v := nI ((nLi S) + 2)) h (nI_add _ _) dL_rules_250 ?_
    refine vl_sipush (pc := 251) (v := nI 999) h (by decide) dL_rules_251 ?_
    refine vl_iconst (pc := 254) (v := nI 0) h (by decide) dL_rules_254 ?_
    refine wSo (pc := 255) (As := [.ref (G.2.1 + 0), .int (nI 20), .int (nI ((nLi S) + 2)), .int (nI 999), .int (nI 0)]) (st := []) (r2 := nI (cS (fun v => (mS S (n % nLi S)) v && !(mS S (n / 12 % nLi S)) v) 1000)) (u2 := 20) h2 h hE hX lk_RL_248 (kc_20 hst G S4 (nI ((nLi S) + 2)) (nI 999) (nI 0) (sc0 (li_s (S := S4) (i := nLi S + 2) (by omega) (by omega)) (in_t (by omega) (by omega) (by omega)))) (upT (S := S) (by omega) ru5) rfl rfl (by decide) rfl (Nat.le_of_ble_eq_true rfl) (by decide) dL_rules_255 ?_
    refine vl_iload (pc := 258) h 1 rfl dL_rules_258 ?_
    refine vl_iload (pc := 260) h 2 rfl dL_rules_260 ?_
    refine vl_isub (pc := 262) (v := nI ((cS (fun v => (mS S (n % nLi S)) v || (mS S (n / 12 % nLi S)) v) 1000) - (cS (mS S (n / 12 % nLi S)) 1000))) h (pk_sub (by omega)) dL_rules_262 ?_
    refine vl_icmp_ne_f (pc := 263) (tgt := 311) h (congrArg nI (by omega)) (by decide) dL_rules_263 ?_
    refine vl_aload_n (pc := 266) h 7 rfl rfl dL_rules_266 ?_
    refine vl_bipush (pc := 267) (v := nI 17) h (by decide) dL_rules_267 ?_
    refine vl_iload_n (pc := 269) h 6 rfl rfl dL_rules_269 ?_
    refine vl_iconst (pc := 270) (v := nI 1) h (by decide) dL_rules_270 ?_
    refine vl_iadd (pc := 271) (v := nI ((nLi S) + 1)) h (nI_add _ _) dL_rules_271 ?_
    refine vl_iconst (pc := 272) (v := nI 0) h (by decide) dL_rules_272 ?_
    refine vl_iconst (pc := 273) (v := nI 0) h (by decide) dL_rules_273 ?_
    refine wSo (pc := 274) (As := [.ref (G.2.1 + 0), .int (nI 17), .int (nI ((nLi S) + 1)), .int (nI 0), .int (nI 0)]) (st := []) (r2 := oI (nxt (fun v => (mS S (n % nLi S)) v && (mS S (n / 12 % nLi S)) v) 0)) (u2 := 22) h2 h hE hX lk_RL_248 (kc_17 hst G S4 (nI ((nLi S) + 1)) (nI 0) (nI 0) (sc0 (li_s (S := S4) (i := nLi S + 1) (by omega) (by omega)) (pl_t (by omega)))) ((atT (by omega) (by omega) ru4).trans (congrArg oI (ath_0 _))) rfl rfl (by decide) rfl (Nat.le_of_ble_eq_true rfl) (by decide) dL_rules_274 ?_
    refine vl_aload_n (pc := 277) h 7 rfl rfl dL_rules_277 ?_
    refine vl_bipush (pc := 278) (v := nI 22) h (by decide) dL_rules_278 ?_
    refine vl_iload (pc := 280) h 5 rfl dL_rules_280 ?_
    refine vl_iload (pc := 282) h 4 rfl dL_rules_282 ?_
    refine vl_iconst (pc := 284) (v := nI 0) h (by decide) dL_rules_284 ?_
    refine wSo (pc := 285) (As := [.ref (G.2.1 + 0), .int (nI 22), .int (nI (n % (nLi S))), .int (nI ((n / 12) % (nLi S))), .int (nI 0)]) (st := [.int (oI (nxt (fun v => (mS S (n % nLi S)) v && (mS S (n / 12 % nLi S)) v) 0))]) (r2 := oI (nxt (fun v => (mS S (n % nLi S)) v && (mS S (n / 12 % nLi S)) v) 0)) (u2 := 24) h2 h hE hX lk_RL_248 (kc_22 hst G S4 (nI (n % (nLi S))) (nI ((n / 12) % (nLi S))) (nI 0) (sc0 (li_s (S := S4) (i := n % nLi S) (by omega) (by omega)) (li_s (S := S4) (i := n / 12 % nLi S) (by omega) (by omega)))) (coT (by omega) (by omega) (fun v _ => congrFun (ru2 _ hiN) v) (fun v _ => congrFun (ru2 _ hjN) v)) rfl rfl (by decide) rfl (Nat.le_of_ble_eq_true rfl) (by decide) dL_rules_285 ?_
    refine vl_icmp_ne_f (pc := 288) (tgt := 311) h rfl (by decide) dL_rules_288 ?_
    refine vl_aload_n (pc := 291) h 7 rfl rfl dL_rules_291 ?_
    refine vl_bipush (pc := 292) (v := nI 22) h (by decide) dL_rules_292 ?_
    refine vl_iload (pc := 294) h 4 rfl dL_rules_294 ?_
    refine vl_iload_n (pc := 296) h 6 rfl rfl dL_rules_296 ?_
    refine vl_iconst (pc := 297) (v := nI 2) h (by decide) dL_rules_297 ?_
    refine vl_iadd (pc := 298) (v := nI ((nLi S) + 2)) h (nI_add _ _) dL_rules_298 ?_
    refine vl_iconst (pc := 299) (v := nI 0) h (by decide) dL_rules_299 ?_
    refine wSo (pc := 300) (As := [.ref (G.2.1 + 0), .int (nI 22), .int (nI ((n / 12) % (nLi S))), .int (nI ((nLi S) + 2)), .int (nI 0)]) (st := []) (r2 := (-1)) (u2 := 26) h2 h hE hX lk_RL_248 (kc_22 hst G S4 (nI ((n / 12) % (nLi S))) (nI ((nLi S) + 2)) (nI 0) (sc0 (li_s (S := S4) (i := n / 12 % nLi S) (by omega) (by omega)) (li_s (S := S4) (i := nLi S + 2) (by omega) (by omega)))) ((coT (by omega) (by omega) (fun v _ => congrFun (ru2 _ hjN) v) ru5).trans (by rw [no_wo]; rfl)) rfl rfl (by decide) rfl (Nat.le_of_ble_eq_true rfl) (by decide) dL_rules_300 ?_
    refine vl_iconst (pc := 303) (v := (-1)) h (by decide) dL_rules_303 ?_
    refine vl_icmp_ne_f (pc := 304) (tgt := 311) h rfl (by decide) dL_rules_304 ?_
    refine vl_iconst (pc := 307) (v := nI 1) h (by decide) dL_rules_307 ?_
    refine vl_goto (pc := 308) (tgt := 312) h (by decide) dL_rules_308 ?_
    refine vl_istore (pc := 312) (lo2 := [(9, .int (nI 1)), (8, .int (nI (cS (fun v => (mS S (n % nLi S)) v || (mS S (n / 12 % nLi S)) v) 1000))), (7, .int (nI (cS (mS S (n / 12 % nLi S)) 1000))), (6, .int (nI (cS (mS S (n % nLi S)) 1000))), (5, .int (nI ((n / 12) % (nLi S)))), (4, .int (nI (n % (nLi S)))), (3, .int (nI (nLi S))), (0, .ref (G.2.1 + 0)), (1, .ref (K.2.1 + 0)), (2, .int (nI n))]) h (by decide) rfl dL_rules_312 ?_
    refine vl_iconst (pc := 314) (v := nI 0) h (by decide) dL_rules_314 ?_
    refine vl_istore (pc := 315) (lo2 := [(10, .int (nI 0)), (9, .int (nI 1)), (8, .int (nI (cS (fun v => (mS S (n % nLi S)) v || (mS S (n / 12 % nLi S)) v) 1000))), (7, .int (nI (cS (mS S (n / 12 % nLi S)) 1000))), (6, .int (nI (cS (mS S (n % nLi S)) 1000))), (5, .int (nI ((n / 12) % (nLi S)))), (4, .int (nI (n % (nLi S)))), (3, .int (nI (nLi S))), (0, .ref (G.2.1 + 0)), (1, .ref (K.2.1 + 0)), (2, .int (nI n))]) h (by decide) rfl dL_rules_315 ?_
    have lp317 : ∀ (fu : Nat) (k : Nat), k ≤ 12 → 12 - k < fu → VP x (bB G K) 17 (40 + 1020 * k) Q (W2 G K S4 S4) 317 [(10, .int (nI k)), (9, .int (nI 1)), (0, .ref (G.2.1 + 0)), (1, .ref (K.2.1 + 0)), (2, .int (nI n)), (3, .int (nI (nLi S))), (4, .int (nI (n % nLi S))), (5, .int (nI (n / 12 % nLi S)))] [] := by
      intro fu
      induction fu with
      | zero => intro k hk hfu; exact absurd hfu (Nat.not_lt_zero _)
      | succ fu ih317 =>
        intro k hk hfu
        refine vl_iload (pc := 317) h 0 rfl dL_rules_317 ?_
        refine vl_bipush (pc := 319) (v := nI 12) h (by decide) dL_rules_319 ?_
        refine vl_icmp_ge (pc := 321) (tgt := 547) h (by decide) dL_rules_321 (fun c321 => ?_) (fun c321 => ?_)
        · skip
          refine vl_iload (pc := 547) h 1 rfl dL_rules_547 ?_
          refine vl_if_eq_f (pc := 549) (tgt := 573) h (by decide) (by decide) dL_rules_549 ?_
          refine vl_aload_n (pc := 552) h 2 rfl rfl dL_rules_552 ?_
          refine vl_aload_n (pc := 553) h 3 rfl rfl dL_rules_553 ?_
          refine vl_iconst (pc := 554) (v := nI 4) h (by decide) dL_rules_554 ?_
          have u4 := un4 hm14 hS1 hS2 hS3 hS4
          refine vl_k2 (pc := 555) (As := [.ref (G.2.1 + 0), .ref (K.2.1 + 0), .int (nI 4)]) (st := []) (r2 := nI 1) (u2 := 40 + 1020 * k + 30) h hE hE2 hX lk_RL_302 (n_undoes x.2.1 hst G K h2 S4 4 u4.1 u4.2.1) rfl rfl rfl (by decide) rfl (Nat.le_of_ble_eq_true rfl) ⟨by show _ + 30 ≤ _; omega, by show _ ≤ 12400; omega⟩ dL_rules_555 ?_
          refine vl_if_eq_f (pc := 558) (tgt := 573) h (by decide) (by decide) dL_rules_558 ?_
          refine vl_aload_n (pc := 561) h 2 rfl rfl dL_rules_561 ?_
          refine wVo (pc := 562) (As := []) (st := []) (r2 := nI (nLi S)) (u2 := 40 + 1020 * k + 30) h2 h hE lk_RL_242 (kv_lists (S := (poN S4 4))) (congrArg (fun A : Ab => nI A.1) u4.2.2.1) rfl rfl (by decide) rfl (Nat.le_of_ble_eq_true rfl) ⟨Nat.le_refl _, by show _ ≤ 12400; omega⟩ dL_rules_562 ?_
          refine vl_iload_n (pc := 565) h 5 rfl rfl dL_rules_565 ?_
          refine vl_icmp_ne_f (pc := 566) (tgt := 573) h rfl (by decide) dL_rules_566 ?_
          refine vl_iconst (pc := 569) (v := nI 1) h (by decide) dL_rules_569 ?_
          refine vl_goto (pc := 570) (tgt := 574) h (by decide) dL_rules_570 ?_
          have e9 : rlT S n = poN S4 4 := by
            unfold rlT
            rw [if_pos c8, hS4, hS3, hS2, hS1]
          rw [e9] at hret
          exact vl_wd (by show _ ≤ 12400; omega) (hret 574 _ dL_rules_574)
        · skip
          rw [nI_leI (by omega) (by omega)] at c321
          have hq9 := Nat.div_le_self n (k + 1)
          refine vl_iload (pc := 324) h 1 rfl dL_rules_324 ?_
          refine vl_if_eq_f (pc := 326) (tgt := 547) h (by decide) (by decide) dL_rules_326 ?_
          refine vl_iload_n (pc := 329) h 4 rfl rfl dL_rules_329 ?_
          refine vl_iload (pc := 330) h 0 rfl dL_rules_330 ?_
          refine vl_iconst (pc := 332) (v := nI 1) h (by decide) dL_rules_332 ?_
          refine vl_iadd (pc := 333) (v := nI (k + 1)) h (nI_add _ _) dL_rules_333 ?_
          refine vl_idiv (pc := 334) (v := nI (n / (k + 1))) h (nI_ne0 (by omega) (by omega)) (pk_div (by omega) (by omega) (by omega)) dL_rules_334 ?_
          refine vl_bipush (pc := 335) (v := nI 83) h (by decide) dL_rules_335 ?_
          refine vl_iload (pc := 337) h 0 rfl dL_rules_337 ?_
          refine vl_imul (pc := 339) (v := nI (83 * k)) h (pk_mul _ _) dL_rules_339 ?_
          refine vl_iadd (pc := 340) (v := nI ((n / (k + 1)) + (83 * k))) h (nI_add _ _) dL_rules_340 ?_
          refine vl_sipush (pc := 341) (v := nI 1000) h (by decide) dL_rules_341 ?_
          obtain ⟨v, hv⟩ : ∃ v, v = (n / (k + 1) + 83 * k) % 1000 := ⟨_, rfl⟩
          have hv9 : v < 1000 := by omega
          refine vl_irem (pc := 344) (v := nI v) h (by decide) (by rw [hv]; exact pk_rem (by omega) (by omega) (by omega)) dL_rules_344 ?_
          refine vl_istore (pc := 345) (lo2 := [(11, .int (nI v)), (10, .int (nI k)), (9, .int (nI 1)), (0, .ref (G.2.1 + 0)), (1, .ref (K.2.1 + 0)), (2, .int (nI n)), (3, .int (nI (nLi S))), (4, .int (nI (n % nLi S))), (5, .int (nI (n / 12 % nLi S)))]) h (by decide) rfl dL_rules_345 ?_
          rcases ea : (mS S (n % nLi S)) v with _ | _
          · skip
            rcases eb : (mS S (n / 12 % nLi S)) v with _ | _
            · skip
              refine vl_aload_n (pc := 347) h 3 rfl rfl dL_rules_347 ?_
              refine vl_iload (pc := 348) h 7 rfl dL_rules_348 ?_
              refine vl_iload (pc := 350) h 0 rfl dL_rules_350 ?_
              refine wWo (pc := 352) (As := [.ref (G.2.1 + 0), .int (nI (n % nLi S)), .int (nI v)]) (st := []) (r2 := nI 0) (u2 := 40 + 1020 * k + 2) h2 h hE hX lkw_252 (kc_is hst G S4 (nI (n % nLi S)) (nI v) (sc0 (li_s (S := S4) (i := n % nLi S) (by omega) (by omega)) (in_t (by omega) (by omega) (by omega)))) ((isT (by omega) (by omega) ((congrFun (ru2 _ hiN) v).trans ea)).trans rfl) rfl rfl (by decide) rfl (Nat.le_of_ble_eq_true rfl) ⟨by show _ + 2 ≤ _; omega, by show _ ≤ 12400; omega⟩ dL_rules_352 ?_
              refine vl_istore (pc := 355) (lo2 := [(12, .int (nI 0)), (11, .int (nI v)), (10, .int (nI k)), (9, .int (nI 1)), (0, .ref (G.2.1 + 0)), (1, .ref (K.2.1 + 0)), (2, .int (nI n)), (3, .int (nI (nLi S))), (4, .int (nI (n % nLi S))), (5, .int (nI (n / 12 % nLi S)))]) h (by decide) rfl dL_rules_355 ?_
              refine vl_aload_n (pc := 357) h 4 rfl rfl dL_rules_357 ?_
              refine vl_iload (pc := 358) h 9 rfl dL_rules_358 ?_
              refine vl_iload (pc := 360) h 1 rfl dL_rules_360 ?_
              refine wWo (pc := 362) (As := [.ref (G.2.1 + 0), .int (nI (n / 12 % nLi S)), .int (nI v)]) (st := []) (r2 := nI 0) (u2 := 40 + 1020 * k + 2 + 2) h2 h hE hX lkw_252 (kc_is hst G S4 (nI (n / 12 % nLi S)) (nI v) (sc0 (li_s (S := S4) (i := n / 12 % nLi S) (by omega) (by omega)) (in_t (by omega) (by omega) (by omega)))) ((isT (by omega) (by omega) ((congrFun (ru2 _ hjN) v).trans eb)).trans rfl) rfl rfl (by decide) rfl (Nat.le_of_ble_eq_true rfl) ⟨by show _ + 2 ≤ _; omega, by show _ ≤ 12400; omega⟩ dL_rules_362 ?_
              refine vl_istore (pc := 365) (lo2 := [(13, .int (nI 0)), (12, .int (nI 0)), (11, .int (nI v)), (10, .int (nI k)), (9, .int (nI 1)), (0, .ref (G.2.1 + 0)), (1, .ref (K.2.1 + 0)), (2, .int (nI n)), (3, .int (nI (nLi S))), (4, .int (nI (n % nLi S))), (5, .int (nI (n / 12 % nLi S)))]) h (by decide) rfl dL_rules_365 ?_
              refine vl_aload_n (pc := 367) h 5 rfl rfl dL_rules_367 ?_
              refine vl_iload_n (pc := 368) h 8 rfl rfl dL_rules_368 ?_
              refine vl_iconst (pc := 369) (v := nI 3) h (by decide) dL_rules_369 ?_
              refine vl_iadd (pc := 370) (v := nI ((nLi S) + 3)) h (nI_add _ _) dL_rules_370 ?_
              refine vl_iload (pc := 371) h 2 rfl dL_rules_371 ?_
              refine wWo (pc := 373) (As := [.ref (G.2.1 + 0), .int (nI ((nLi S) + 3)), .int (nI v)]) (st := []) (r2 := nI 0) (u2 := 40 + 1020 * k + 2 + 2 + 2) h2 h hE hX lkw_252 (kc_is hst G S4 (nI ((nLi S) + 3)) (nI v) (sc0 (li_s (S := S4) (i := nLi S + 3) (by omega) (by omega)) (in_t (by omega) (by omega) (by omega)))) ((isT (b := false) (by omega) (by omega) ((ru6 v hv9).trans (by rw [ea] <;> rfl))).trans rfl) rfl rfl (by decide) rfl (Nat.le_of_ble_eq_true rfl) ⟨by show _ + 2 ≤ _; omega, by show _ ≤ 12400; omega⟩ dL_rules_373 ?_
              refine vl_istore (pc := 376) (lo2 := [(14, .int (nI 0)), (13, .int (nI 0)), (12, .int (nI 0)), (11, .int (nI v)), (10, .int (nI k)), (9, .int (nI 1)), (0, .ref (G.2.1 + 0)), (1, .ref (K.2.1 + 0)), (2, .int (nI n)), (3, .int (nI (nLi S))), (4, .int (nI (n % nLi S))), (5, .int (nI (n / 12 % nLi S)))]) h (by decide) rfl dL_rules_376 ?_
              refine vl_aload_n (pc := 378) h 6 rfl rfl dL_rules_378 ?_
              refine vl_iload_n (pc := 379) h 9 rfl rfl dL_rules_379 ?_
              refine vl_iload (pc := 380) h 3 rfl dL_rules_380 ?_
              refine wWo (pc := 382) (As := [.ref (G.2.1 + 0), .int (nI (nLi S)), .int (nI v)]) (st := []) (r2 := nI 0) (u2 := 40 + 1020 * k + 2 + 2 + 2 + 2) h2 h hE hX lkw_252 (kc_is hst G S4 (nI (nLi S)) (nI v) (sc0 (li_s (S := S4) (i := nLi S) (by omega) (by omega)) (in_t (by omega) (by omega) (by omega)))) ((isT (b := false) (by omega) (by omega) ((ru3 v hv9).trans (by rw [ea, eb] <;> rfl))).trans rfl) rfl rfl (by decide) rfl (Nat.le_of_ble_eq_true rfl) ⟨by show _ + 2 ≤ _; omega, by show _ ≤ 12400; omega⟩ dL_rules_382 ?_
              refine vl_iload (pc := 385) h 2 rfl dL_rules_385 ?_
              refine vl_iload (pc := 387) h 1 rfl dL_rules_387 ?_
              refine vl_icmp_le_t (pc := 389) (tgt := 397) h (Int32.le_refl _) (by decide) dL_rules_389 ?_
              refine vl_iload (pc := 397) h 1 rfl dL_rules_397 ?_
              refine vl_icmp_ne_f (pc := 399) (tgt := 449) h rfl (by decide) dL_rules_399 ?_
              refine vl_aload_n (pc := 402) h 6 rfl rfl dL_rules_402 ?_
              refine vl_iload_n (pc := 403) h 9 rfl rfl dL_rules_403 ?_
              refine vl_iconst (pc := 404) (v := nI 1) h (by decide) dL_rules_404 ?_
              refine vl_iadd (pc := 405) (v := nI ((nLi S) + 1)) h (nI_add _ _) dL_rules_405 ?_
              refine vl_iload (pc := 406) h 3 rfl dL_rules_406 ?_
              refine wWo (pc := 408) (As := [.ref (G.2.1 + 0), .int (nI ((nLi S) + 1)), .int (nI v)]) (st := []) (r2 := nI 0) (u2 := 40 + 1020 * k + 2 + 2 + 2 + 2 + 2) h2 h hE hX lkw_252 (kc_is hst G S4 (nI ((nLi S) + 1)) (nI v) (sc0 (li_s (S := S4) (i := nLi S + 1) (by omega) (by omega)) (in_t (by omega) (by omega) (by omega)))) ((isT (b := false) (by omega) (by omega) ((ru4 v hv9).trans (by rw [ea, eb] <;> rfl))).trans rfl) rfl rfl (by decide) rfl (Nat.le_of_ble_eq_true rfl) ⟨by show _ + 2 ≤ _; omega, by show _ ≤ 12400; omega⟩ dL_rules_408 ?_
              refine vl_iload (pc := 411) h 2 rfl dL_rules_411 ?_
              refine vl_iload (pc := 413) h 1 rfl dL_rules_413 ?_
              refine vl_imul (pc := 415) (v := nI 0) h (by decide) dL_rules_415 ?_
              refine vl_icmp_ne_f (pc := 416) (tgt := 449) h rfl (by decide) dL_rules_416 ?_
              refine vl_aload_n (pc := 419) h 6 rfl rfl dL_rules_419 ?_
              refine vl_iload_n (pc := 420) h 9 rfl rfl dL_rules_420 ?_
              refine vl_iconst (pc := 421) (v := nI 2) h (by decide) dL_rules_421 ?_
              refine vl_iadd (pc := 422) (v := nI ((nLi S) + 2)) h (nI_add _ _) dL_rules_422 ?_
              refine vl_iload (pc := 423) h 3 rfl dL_rules_423 ?_
              refine wWo (pc := 425) (As := [.ref (G.2.1 + 0), .int (nI ((nLi S) + 2)), .int (nI v)]) (st := []) (r2 := nI 0) (u2 := 40 + 1020 * k + 2 + 2 + 2 + 2 + 2 + 2) h2 h hE hX lkw_252 (kc_is hst G S4 (nI ((nLi S) + 2)) (nI v) (sc0 (li_s (S := S4) (i := nLi S + 2) (by omega) (by omega)) (in_t (by omega) (by omega) (by omega)))) ((isT (b := false) (by omega) (by omega) ((ru5 v hv9).trans (by rw [ea, eb] <;> rfl))).trans rfl) rfl rfl (by decide) rfl (Nat.le_of_ble_eq_true rfl) ⟨by show _ + 2 ≤ _; omega, by show _ ≤ 12400; omega⟩ dL_rules_425 ?_
              refine vl_iload (pc := 428) h 2 rfl dL_rules_428 ?_
              refine vl_iconst (pc := 430) (v := nI 1) h (by decide) dL_rules_430 ?_
              refine vl_iload (pc := 431) h 1 rfl dL_rules_431 ?_
              refine vl_isub (pc := 433) (v := nI 1) h (by decide) dL_rules_433 ?_
              refine vl_imul (pc := 434) (v := nI 0) h (by decide) dL_rules_434 ?_
              refine vl_icmp_ne_f (pc := 435) (tgt := 449) h rfl (by decide) dL_rules_435 ?_
              refine vl_iload (pc := 438) h 0 rfl dL_rules_438 ?_
              refine vl_iload (pc := 440) h 2 rfl dL_rules_440 ?_
              refine vl_icmp_gt_f (pc := 442) (tgt := 449) h (by decide) (by decide) dL_rules_442 ?_
              refine vl_iconst (pc := 445) (v := nI 1) h (by decide) dL_rules_445 ?_
              refine vl_goto (pc := 446) (tgt := 450) h (by decide) dL_rules_446 ?_
              refine vl_istore (pc := 450) (lo2 := [(9, .int (nI 1)), (14, .int (nI 0)), (13, .int (nI 0)), (12, .int (nI 0)), (11, .int (nI v)), (10, .int (nI k)), (0, .ref (G.2.1 + 0)), (1, .ref (K.2.1 + 0)), (2, .int (nI n)), (3, .int (nI (nLi S))), (4, .int (nI (n % nLi S))), (5, .int (nI (n / 12 % nLi S)))]) h (by decide) rfl dL_rules_450 ?_
              refine vl_iconst (pc := 452) (v := nI 0) h (by decide) dL_rules_452 ?_
              refine vl_istore (pc := 453) (lo2 := [(15, .int (nI 0)), (9, .int (nI 1)), (14, .int (nI 0)), (13, .int (nI 0)), (12, .int (nI 0)), (11, .int (nI v)), (10, .int (nI k)), (0, .ref (G.2.1 + 0)), (1, .ref (K.2.1 + 0)), (2, .int (nI n)), (3, .int (nI (nLi S))), (4, .int (nI (n % nLi S))), (5, .int (nI (n / 12 % nLi S)))]) h (by decide) rfl dL_rules_453 ?_
              refine vl_iconst (pc := 455) (v := nI 2) h (by decide) dL_rules_455 ?_
              refine vl_istore (pc := 456) (lo2 := [(16, .int (nI 2)), (15, .int (nI 0)), (9, .int (nI 1)), (14, .int (nI 0)), (13, .int (nI 0)), (12, .int (nI 0)), (11, .int (nI v)), (10, .int (nI k)), (0, .ref (G.2.1 + 0)), (1, .ref (K.2.1 + 0)), (2, .int (nI n)), (3, .int (nI (nLi S))), (4, .int (nI (n % nLi S))), (5, .int (nI (n / 12 % nLi S)))]) h (by decide) rfl dL_rules_456 ?_
              refine vl_iload (pc := 458) h 0 rfl dL_rules_458 ?_
              refine vl_iconst (pc := 460) (v := nI 2) h (by decide) dL_rules_460 ?_
              refine vl_imul (pc := 461) (v := nI (2 * 2)) h (pk_mul _ _) dL_rules_461 ?_
              refine vl_iload (pc := 462) h 6 rfl dL_rules_462 ?_
              refine vl_icmp_gt (pc := 464) (tgt := 517) h (by decide) dL_rules_464 (fun c464 => ?_) (fun c464 => ?_)
              · skip
                refine vl_iload (pc := 517) h 2 rfl dL_rules_517 ?_
                refine vl_if_eq_f (pc := 519) (tgt := 538) h (by decide) (by decide) dL_rules_519 ?_
                refine vl_iload (pc := 522) h 3 rfl dL_rules_522 ?_
                refine vl_iload (pc := 524) h 5 rfl dL_rules_524 ?_
                refine vl_iconst (pc := 526) (v := nI 1) h (by decide) dL_rules_526 ?_
                refine vl_iload (pc := 527) h 1 rfl dL_rules_527 ?_
                refine vl_isub (pc := 529) (v := nI (1 - 0)) h (pk_sub (by omega)) dL_rules_529 ?_
                refine vl_imul (pc := 530) (v := nI (0 * (1 - 0))) h (pk_mul _ _) dL_rules_530 ?_
                refine vl_icmp_ne_f (pc := 531) (tgt := 538) h (by decide) (by decide) dL_rules_531 ?_
                refine vl_iconst (pc := 534) (v := nI 1) h (by decide) dL_rules_534 ?_
                refine vl_goto (pc := 535) (tgt := 539) h (by decide) dL_rules_535 ?_
                refine vl_istore (pc := 539) (lo2 := [(9, .int (nI 1)), (16, .int (nI 2)), (15, .int (nI 0)), (14, .int (nI 0)), (13, .int (nI 0)), (12, .int (nI 0)), (11, .int (nI v)), (10, .int (nI k)), (0, .ref (G.2.1 + 0)), (1, .ref (K.2.1 + 0)), (2, .int (nI n)), (3, .int (nI (nLi S))), (4, .int (nI (n % nLi S))), (5, .int (nI (n / 12 % nLi S)))]) h (by decide) rfl dL_rules_539 ?_
                refine vl_iinc (pc := 541) (v := nI (k + 1)) (lo2 := [(10, .int (nI (k + 1))), (9, .int (nI 1)), (16, .int (nI 2)), (15, .int (nI 0)), (14, .int (nI 0)), (13, .int (nI 0)), (12, .int (nI 0)), (11, .int (nI v)), (0, .ref (G.2.1 + 0)), (1, .ref (K.2.1 + 0)), (2, .int (nI n)), (3, .int (nI (nLi S))), (4, .int (nI (n % nLi S))), (5, .int (nI (n / 12 % nLi S)))]) h 7 rfl (iinc1 _) (by decide) rfl dL_rules_541 ?_
                refine vl_goto (pc := 544) (tgt := 317) h (by decide) dL_rules_544 ?_
                refine vl_sub [0, 1, 8, 9, 10, 11, 12, 13] rfl ?_
                exact vl_wd (by omega) (ih317 (k + 1) (by omega) (by omega))
              · skip
                refine vl_iload (pc := 467) h 1 rfl dL_rules_467 ?_
                refine vl_if_ne_f (pc := 469) (tgt := 517) h rfl (by decide) dL_rules_469 ?_
                refine vl_iload (pc := 472) h 5 rfl dL_rules_472 ?_
                refine vl_iconst (pc := 474) (v := nI 1) h (by decide) dL_rules_474 ?_
                refine vl_icmp_ne_t (pc := 475) (tgt := 517) h (by decide) (by decide) dL_rules_475 ?_
                refine vl_iload (pc := 517) h 2 rfl dL_rules_517 ?_
                refine vl_if_eq_f (pc := 519) (tgt := 538) h (by decide) (by decide) dL_rules_519 ?_
                refine vl_iload (pc := 522) h 3 rfl dL_rules_522 ?_
                refine vl_iload (pc := 524) h 5 rfl dL_rules_524 ?_
                refine vl_iconst (pc := 526) (v := nI 1) h (by decide) dL_rules_526 ?_
                refine vl_iload (pc := 527) h 1 rfl dL_rules_527 ?_
                refine vl_isub (pc := 529) (v := nI (1 - 0)) h (pk_sub (by omega)) dL_rules_529 ?_
                refine vl_imul (pc := 530) (v := nI (0 * (1 - 0))) h (pk_mul _ _) dL_rules_530 ?_
                refine vl_icmp_ne_f (pc := 531) (tgt := 538) h (by decide) (by decide) dL_rules_531 ?_
                refine vl_iconst (pc := 534) (v := nI 1) h (by decide) dL_rules_534 ?_
                refine vl_goto (pc := 535) (tgt := 539) h (by decide) dL_rules_535 ?_
                refine vl_istore (pc := 539) (lo2 := [(9, .int (nI 1)), (16, .int (nI 2)), (15, .int (nI 0)), (14, .int (nI 0)), (13, .int (nI 0)), (12, .int (nI 0)), (11, .int (nI v)), (10, .int (nI k)), (0, .ref (G.2.1 + 0)), (1, .ref (K.2.1 + 0)), (2, .int (nI n)), (3, .int (nI (nLi S))), (4, .int (nI (n % nLi S))), (5, .int (nI (n / 12 % nLi S)))]) h (by decide) rfl dL_rules_539 ?_
                refine vl_iinc (pc := 541) (v := nI (k + 1)) (lo2 := [(10, .int (nI (k + 1))), (9, .int (nI 1)), (16, .int (nI 2)), (15, .int (nI 0)), (14, .int (nI 0)), (13, .int (nI 0)), (12, .int (nI 0)), (11, .int (nI v)), (0, .ref (G.2.1 + 0)), (1, .ref (K.2.1 + 0)), (2, .int (nI n)), (3, .int (nI (nLi S))), (4, .int (nI (n % nLi S))), (5, .int (nI (n / 12 % nLi S)))]) h 7 rfl (iinc1 _) (by decide) rfl dL_rules_541 ?_
                refine vl_goto (pc := 544) (tgt := 317) h (by decide) dL_rules_544 ?_
                refine vl_sub [0, 1, 8, 9, 10, 11, 12, 13] rfl ?_
                exact vl_wd (by omega) (ih317 (k + 1) (by omega) (by omega))
            · skip
              refine vl_aload_n (pc := 347) h 3 rfl rfl dL_rules_347 ?_
              refine vl_iload (pc := 348) h 7 rfl dL_rules_348 ?_
              refine vl_iload (pc := 350) h 0 rfl dL_rules_350 ?_
              refine wWo (pc := 352) (As := [.ref (G.2.1 + 0), .int (nI (n % nLi S)), .int (nI v)]) (st := []) (r2 := nI 0) (u2 := 40 + 1020 * k + 2) h2 h hE hX lkw_252 (kc_is hst G S4 (nI (n % nLi S)) (nI v) (sc0 (li_s (S := S4) (i := n % nLi S) (by omega) (by omega)) (in_t (by omega) (by omega) (by omega)))) ((isT (by omega) (by omega) ((congrFun (ru2 _ hiN) v).trans ea)).trans rfl) rfl rfl (by decide) rfl (Nat.le_of_ble_eq_true rfl) ⟨by show _ + 2 ≤ _; omega, by show _ ≤ 12400; omega⟩ dL_rules_352 ?_
              refine vl_istore (pc := 355) (lo2 := [(12, .int (nI 0)), (11, .int (nI v)), (10, .int (nI k)), (9, .int (nI 1)), (0, .ref (G.2.1 + 0)), (1, .ref (K.2.1 + 0)), (2, .int (nI n)), (3, .int (nI (nLi S))), (4, .int (nI (n % nLi S))), (5, .int (nI (n / 12 % nLi S)))]) h (by decide) rfl dL_rules_355 ?_
              refine vl_aload_n (pc := 357) h 4 rfl rfl dL_rules_357 ?_
              refine vl_iload (pc := 358) h 9 rfl dL_rules_358 ?_
              refine vl_iload (pc := 360) h 1 rfl dL_rules_360 ?_
              refine wWo (pc := 362) (As := [.ref (G.2.1 + 0), .int (nI (n / 12 % nLi S)), .int (nI v)]) (st := []) (r2 := nI 1) (u2 := 40 + 1020 * k + 2 + 2) h2 h hE hX lkw_252 (kc_is hst G S4 (nI (n / 12 % nLi S)) (nI v) (sc0 (li_s (S := S4) (i := n / 12 % nLi S) (by omega) (by omega)) (in_t (by omega) (by omega) (by omega)))) ((isT (by omega) (by omega) ((congrFun (ru2 _ hjN) v).trans eb)).trans rfl) rfl rfl (by decide) rfl (Nat.le_of_ble_eq_true rfl) ⟨by show _ + 2 ≤ _; omega, by show _ ≤ 12400; omega⟩ dL_rules_362 ?_
              refine vl_istore (pc := 365) (lo2 := [(13, .int (nI 1)), (12, .int (nI 0)), (11, .int (nI v)), (10, .int (nI k)), (9, .int (nI 1)), (0, .ref (G.2.1 + 0)), (1, .ref (K.2.1 + 0)), (2, .int (nI n)), (3, .int (nI (nLi S))), (4, .int (nI (n % nLi S))), (5, .int (nI (n / 12 % nLi S)))]) h (by decide) rfl dL_rules_365 ?_
              refine vl_aload_n (pc := 367) h 5 rfl rfl dL_rules_367 ?_
              refine vl_iload_n (pc := 368) h 8 rfl rfl dL_rules_368 ?_
              refine vl_iconst (pc := 369) (v := nI 3) h (by decide) dL_rules_369 ?_
              refine vl_iadd (pc := 370) (v := nI ((nLi S) + 3)) h (nI_add _ _) dL_rules_370 ?_
              refine vl_iload (pc := 371) h 2 rfl dL_rules_371 ?_
              refine wWo (pc := 373) (As := [.ref (G.2.1 + 0), .int (nI ((nLi S) + 3)), .int (nI v)]) (st := []) (r2 := nI 0) (u2 := 40 + 1020 * k + 2 + 2 + 2) h2 h hE hX lkw_252 (kc_is hst G S4 (nI ((nLi S) + 3)) (nI v) (sc0 (li_s (S := S4) (i := nLi S + 3) (by omega) (by omega)) (in_t (by omega) (by omega) (by omega)))) ((isT (b := false) (by omega) (by omega) ((ru6 v hv9).trans (by rw [ea] <;> rfl))).trans rfl) rfl rfl (by decide) rfl (Nat.le_of_ble_eq_true rfl) ⟨by show _ + 2 ≤ _; omega, by show _ ≤ 12400; omega⟩ dL_rules_373 ?_
              refine vl_istore (pc := 376) (lo2 := [(14, .int (nI 0)), (13, .int (nI 1)), (12, .int (nI 0)), (11, .int (nI v)), (10, .int (nI k)), (9, .int (nI 1)), (0, .ref (G.2.1 + 0)), (1, .ref (K.2.1 + 0)), (2, .int (nI n)), (3, .int (nI (nLi S))), (4, .int (nI (n % nLi S))), (5, .int (nI (n / 12 % nLi S)))]) h (by decide) rfl dL_rules_376 ?_
              refine vl_aload_n (pc := 378) h 6 rfl rfl dL_rules_378 ?_
              refine vl_iload_n (pc := 379) h 9 rfl rfl dL_rules_379 ?_
              refine vl_iload (pc := 380) h 3 rfl dL_rules_380 ?_
              refine wWo (pc := 382) (As := [.ref (G.2.1 + 0), .int (nI (nLi S)), .int (nI v)]) (st := []) (r2 := nI 1) (u2 := 40 + 1020 * k + 2 + 2 + 2 + 2) h2 h hE hX lkw_252 (kc_is hst G S4 (nI (nLi S)) (nI v) (sc0 (li_s (S := S4) (i := nLi S) (by omega) (by omega)) (in_t (by omega) (by omega) (by omega)))) ((isT (b := true) (by omega) (by omega) ((ru3 v hv9).trans (by rw [ea, eb] <;> rfl))).trans rfl) rfl rfl (by decide) rfl (Nat.le_of_ble_eq_true rfl) ⟨by show _ + 2 ≤ _; omega, by show _ ≤ 12400; omega⟩ dL_rules_382 ?_
              refine vl_iload (pc := 385) h 2 rfl dL_rules_385 ?_
              refine vl_iload (pc := 387) h 1 rfl dL_rules_387 ?_
              refine vl_icmp_le_t (pc := 389) (tgt := 397) h (by decide) (by decide) dL_rules_389 ?_
              refine vl_iload (pc := 397) h 1 rfl dL_rules_397 ?_
              refine vl_icmp_ne_f (pc := 399) (tgt := 449) h rfl (by decide) dL_rules_399 ?_
              refine vl_aload_n (pc := 402) h 6 rfl rfl dL_rules_402 ?_
              refine vl_iload_n (pc := 403) h 9 rfl rfl dL_rules_403 ?_
              refine vl_iconst (pc := 404) (v := nI 1) h (by decide) dL_rules_404 ?_
              refine vl_iadd (pc := 405) (v := nI ((nLi S) + 1)) h (nI_add _ _) dL_rules_405 ?_
              refine vl_iload (pc := 406) h 3 rfl dL_rules_406 ?_
              refine wWo (pc := 408) (As := [.ref (G.2.1 + 0), .int (nI ((nLi S) + 1)), .int (nI v)]) (st := []) (r2 := nI 0) (u2 := 40 + 1020 * k + 2 + 2 + 2 + 2 + 2) h2 h hE hX lkw_252 (kc_is hst G S4 (nI ((nLi S) + 1)) (nI v) (sc0 (li_s (S := S4) (i := nLi S + 1) (by omega) (by omega)) (in_t (by omega) (by omega) (by omega)))) ((isT (b := false) (by omega) (by omega) ((ru4 v hv9).trans (by rw [ea, eb] <;> rfl))).trans rfl) rfl rfl (by decide) rfl (Nat.le_of_ble_eq_true rfl) ⟨by show _ + 2 ≤ _; omega, by show _ ≤ 12400; omega⟩ dL_rules_408 ?_
              refine vl_iload (pc := 411) h 2 rfl dL_rules_411 ?_
              refine vl_iload (pc := 413) h 1 rfl dL_rules_413 ?_
              refine vl_imul (pc := 415) (v := nI 0) h (by decide) dL_rules_415 ?_
              refine vl_icmp_ne_f (pc := 416) (tgt := 449) h rfl (by decide) dL_rules_416 ?_
              refine vl_aload_n (pc := 419) h 6 rfl rfl dL_rules_419 ?_
              refine vl_iload_n (pc := 420) h 9 rfl rfl dL_rules_420 ?_
              refine vl_iconst (pc := 421) (v := nI 2) h (by decide) dL_rules_421 ?_
              refine vl_iadd (pc := 422) (v := nI ((nLi S) + 2)) h (nI_add _ _) dL_rules_422 ?_
              refine vl_iload (pc := 423) h 3 rfl dL_rules_423 ?_
              refine wWo (pc := 425) (As := [.ref (G.2.1 + 0), .int (nI ((nLi S) + 2)), .int (nI v)]) (st := []) (r2 := nI 0) (u2 := 40 + 1020 * k + 2 + 2 + 2 + 2 + 2 + 2) h2 h hE hX lkw_252 (kc_is hst G S4 (nI ((nLi S) + 2)) (nI v) (sc0 (li_s (S := S4) (i := nLi S + 2) (by omega) (by omega)) (in_t (by omega) (by omega) (by omega)))) ((isT (b := false) (by omega) (by omega) ((ru5 v hv9).trans (by rw [ea, eb] <;> rfl))).trans rfl) rfl rfl (by decide) rfl (Nat.le_of_ble_eq_true rfl) ⟨by show _ + 2 ≤ _; omega, by show _ ≤ 12400; omega⟩ dL_rules_425 ?_
              refine vl_iload (pc := 428) h 2 rfl dL_rules_428 ?_
              refine vl_iconst (pc := 430) (v := nI 1) h (by decide) dL_rules_430 ?_
              refine vl_iload (pc := 431) h 1 rfl dL_rules_431 ?_
              refine vl_isub (pc := 433) (v := nI 0) h (by decide) dL_rules_433 ?_
              refine vl_imul (pc := 434) (v := nI 0) h (by decide) dL_rules_434 ?_
              refine vl_icmp_ne_f (pc := 435) (tgt := 449) h rfl (by decide) dL_rules_435 ?_
              refine vl_iload (pc := 438) h 0 rfl dL_rules_438 ?_
              refine vl_iload (pc := 440) h 2 rfl dL_rules_440 ?_
              refine vl_icmp_gt_f (pc := 442) (tgt := 449) h (by decide) (by decide) dL_rules_442 ?_
              refine vl_iconst (pc := 445) (v := nI 1) h (by decide) dL_rules_445 ?_
              refine vl_goto (pc := 446) (tgt := 450) h (by decide) dL_rules_446 ?_
              refine vl_istore (pc := 450) (lo2 := [(9, .int (nI 1)), (14, .int (nI 0)), (13, .int (nI 1)), (12, .int (nI 0)), (11, .int (nI v)), (10, .int (nI k)), (0, .ref (G.2.1 + 0)), (1, .ref (K.2.1 + 0)), (2, .int (nI n)), (3, .int (nI (nLi S))), (4, .int (nI (n % nLi S))), (5, .int (nI (n / 12 % nLi S)))]) h (by decide) rfl dL_rules_450 ?_
              refine vl_iconst (pc := 452) (v := nI 0) h (by decide) dL_rules_452 ?_
              refine vl_istore (pc := 453) (lo2 := [(15, .int (nI 0)), (9, .int (nI 1)), (14, .int (nI 0)), (13, .int (nI 1)), (12, .int (nI 0)), (11, .int (nI v)), (10, .int (nI k)), (0, .ref (G.2.1 + 0)), (1, .ref (K.2.1 + 0)), (2, .int (nI n)), (3, .int (nI (nLi S))), (4, .int (nI (n % nLi S))), (5, .int (nI (n / 12 % nLi S)))]) h (by decide) rfl dL_rules_453 ?_
              refine vl_iconst (pc := 455) (v := nI 2) h (by decide) dL_rules_455 ?_
              refine vl_istore (pc := 456) (lo2 := [(16, .int (nI 2)), (15, .int (nI 0)), (9, .int (nI 1)), (14, .int (nI 0)), (13, .int (nI 1)), (12, .int (nI 0)), (11, .int (nI v)), (10, .int (nI k)), (0, .ref (G.2.1 + 0)), (1, .ref (K.2.1 + 0)), (2, .int (nI n)), (3, .int (nI (nLi S))), (4, .int (nI (n % nLi S))), (5, .int (nI (n / 12 % nLi S)))]) h (by decide) rfl dL_rules_456 ?_
              refine vl_iload (pc := 458) h 0 rfl dL_rules_458 ?_
              refine vl_iconst (pc := 460) (v := nI 2) h (by decide) dL_rules_460 ?_
              refine vl_imul (pc := 461) (v := nI (2 * 2)) h (pk_mul _ _) dL_rules_461 ?_
              refine vl_iload (pc := 462) h 6 rfl dL_rules_462 ?_
              refine vl_icmp_gt (pc := 464) (tgt := 517) h (by decide) dL_rules_464 (fun c464 => ?_) (fun c464 => ?_)
              · skip
                refine vl_iload (pc := 517) h 2 rfl dL_rules_517 ?_
                refine vl_if_eq_f (pc := 519) (tgt := 538) h (by decide) (by decide) dL_rules_519 ?_
                refine vl_iload (pc := 522) h 3 rfl dL_rules_522 ?_
                refine vl_iload (pc := 524) h 5 rfl dL_rules_524 ?_
                refine vl_iconst (pc := 526) (v := nI 1) h (by decide) dL_rules_526 ?_
                refine vl_iload (pc := 527) h 1 rfl dL_rules_527 ?_
                refine vl_isub (pc := 529) (v := nI (1 - 0)) h (pk_sub (by omega)) dL_rules_529 ?_
                refine vl_imul (pc := 530) (v := nI (0 * (1 - 0))) h (pk_mul _ _) dL_rules_530 ?_
                refine vl_icmp_ne_f (pc := 531) (tgt := 538) h (by decide) (by decide) dL_rules_531 ?_
                refine vl_iconst (pc := 534) (v := nI 1) h (by decide) dL_rules_534 ?_
                refine vl_goto (pc := 535) (tgt := 539) h (by decide) dL_rules_535 ?_
                refine vl_istore (pc := 539) (lo2 := [(9, .int (nI 1)), (16, .int (nI 2)), (15, .int (nI 0)), (14, .int (nI 0)), (13, .int (nI 1)), (12, .int (nI 0)), (11, .int (nI v)), (10, .int (nI k)), (0, .ref (G.2.1 + 0)), (1, .ref (K.2.1 + 0)), (2, .int (nI n)), (3, .int (nI (nLi S))), (4, .int (nI (n % nLi S))), (5, .int (nI (n / 12 % nLi S)))]) h (by decide) rfl dL_rules_539 ?_
                refine vl_iinc (pc := 541) (v := nI (k + 1)) (lo2 := [(10, .int (nI (k + 1))), (9, .int (nI 1)), (16, .int (nI 2)), (15, .int (nI 0)), (14, .int (nI 0)), (13, .int (nI 1)), (12, .int (nI 0)), (11, .int (nI v)), (0, .ref (G.2.1 + 0)), (1, .ref (K.2.1 + 0)), (2, .int (nI n)), (3, .int (nI (nLi S))), (4, .int (nI (n % nLi S))), (5, .int (nI (n / 12 % nLi S)))]) h 7 rfl (iinc1 _) (by decide) rfl dL_rules_541 ?_
                refine vl_goto (pc := 544) (tgt := 317) h (by decide) dL_rules_544 ?_
                refine vl_sub [0, 1, 8, 9, 10, 11, 12, 13] rfl ?_
                exact vl_wd (by omega) (ih317 (k + 1) (by omega) (by omega))
              · skip
                refine vl_iload (pc := 467) h 1 rfl dL_rules_467 ?_
                refine vl_if_ne_f (pc := 469) (tgt := 517) h rfl (by decide) dL_rules_469 ?_
                refine vl_iload (pc := 472) h 5 rfl dL_rules_472 ?_
                refine vl_iconst (pc := 474) (v := nI 1) h (by decide) dL_rules_474 ?_
                refine vl_icmp_ne_t (pc := 475) (tgt := 517) h (by decide) (by decide) dL_rules_475 ?_
                refine vl_iload (pc := 517) h 2 rfl dL_rules_517 ?_
                refine vl_if_eq_f (pc := 519) (tgt := 538) h (by decide) (by decide) dL_rules_519 ?_
                refine vl_iload (pc := 522) h 3 rfl dL_rules_522 ?_
                refine vl_iload (pc := 524) h 5 rfl dL_rules_524 ?_
                refine vl_iconst (pc := 526) (v := nI 1) h (by decide) dL_rules_526 ?_
                refine vl_iload (pc := 527) h 1 rfl dL_rules_527 ?_
                refine vl_isub (pc := 529) (v := nI (1 - 0)) h (pk_sub (by omega)) dL_rules_529 ?_
                refine vl_imul (pc := 530) (v := nI (0 * (1 - 0))) h (pk_mul _ _) dL_rules_530 ?_
                refine vl_icmp_ne_f (pc := 531) (tgt := 538) h (by decide) (by decide) dL_rules_531 ?_
                refine vl_iconst (pc := 534) (v := nI 1) h (by decide) dL_rules_534 ?_
                refine vl_goto (pc := 535) (tgt := 539) h (by decide) dL_rules_535 ?_
                refine vl_istore (pc := 539) (lo2 := [(9, .int (nI 1)), (16, .int (nI 2)), (15, .int (nI 0)), (14, .int (nI 0)), (13, .int (nI 1)), (12, .int (nI 0)), (11, .int (nI v)), (10, .int (nI k)), (0, .ref (G.2.1 + 0)), (1, .ref (K.2.1 + 0)), (2, .int (nI n)), (3, .int (nI (nLi S))), (4, .int (nI (n % nLi S))), (5, .int (nI (n / 12 % nLi S)))]) h (by decide) rfl dL_rules_539 ?_
                refine vl_iinc (pc := 541) (v := nI (k + 1)) (lo2 := [(10, .int (nI (k + 1))), (9, .int (nI 1)), (16, .int (nI 2)), (15, .int (nI 0)), (14, .int (nI 0)), (13, .int (nI 1)), (12, .int (nI 0)), (11, .int (nI v)), (0, .ref (G.2.1 + 0)), (1, .ref (K.2.1 + 0)), (2, .int (nI n)), (3, .int (nI (nLi S))), (4, .int (nI (n % nLi S))), (5, .int (nI (n / 12 % nLi S)))]) h 7 rfl (iinc1 _) (by decide) rfl dL_rules_541 ?_
                refine vl_goto (pc := 544) (tgt := 317) h (by decide) dL_rules_544 ?_
                refine vl_sub [0, 1, 8, 9, 10, 11, 12, 13] rfl ?_
                exact vl_wd (by omega) (ih317 (k + 1) (by omega) (by omega))
          · skip
            rcases eb : (mS S (n / 12 % nLi S)) v with _ | _
            · skip
              refine vl_aload_n (pc := 347) h 3 rfl rfl dL_rules_347 ?_
              refine vl_iload (pc := 348) h 7 rfl dL_rules_348 ?_
              refine vl_iload (pc := 350) h 0 rfl dL_rules_350 ?_
              refine wWo (pc := 352) (As := [.ref (G.2.1 + 0), .int (nI (n % nLi S)), .int (nI v)]) (st := []) (r2 := nI 1) (u2 := 40 + 1020 * k + 2) h2 h hE hX lkw_252 (kc_is hst G S4 (nI (n % nLi S)) (nI v) (sc0 (li_s (S := S4) (i := n % nLi S) (by omega) (by omega)) (in_t (by omega) (by omega) (by omega)))) ((isT (by omega) (by omega) ((congrFun (ru2 _ hiN) v).trans ea)).trans rfl) rfl rfl (by decide) rfl (Nat.le_of_ble_eq_true rfl) ⟨by show _ + 2 ≤ _; omega, by show _ ≤ 12400; omega⟩ dL_rules_352 ?_
              refine vl_istore (pc := 355) (lo2 := [(12, .int (nI 1)), (11, .int (nI v)), (10, .int (nI k)), (9, .int (nI 1)), (0, .ref (G.2.1 + 0)), (1, .ref (K.2.1 + 0)), (2, .int (nI n)), (3, .int (nI (nLi S))), (4, .int (nI (n % nLi S))), (5, .int (nI (n / 12 % nLi S)))]) h (by decide) rfl dL_rules_355 ?_
              refine vl_aload_n (pc := 357) h 4 rfl rfl dL_rules_357 ?_
              refine vl_iload (pc := 358) h 9 rfl dL_rules_358 ?_
              refine vl_iload (pc := 360) h 1 rfl dL_rules_360 ?_
              refine wWo (pc := 362) (As := [.ref (G.2.1 + 0), .int (nI (n / 12 % nLi S)), .int (nI v)]) (st := []) (r2 := nI 0) (u2 := 40 + 1020 * k + 2 + 2) h2 h hE hX lkw_252 (kc_is hst G S4 (nI (n / 12 % nLi S)) (nI v) (sc0 (li_s (S := S4) (i := n / 12 % nLi S) (by omega) (by omega)) (in_t (by omega) (by omega) (by omega)))) ((isT (by omega) (by omega) ((congrFun (ru2 _ hjN) v).trans eb)).trans rfl) rfl rfl (by decide) rfl (Nat.le_of_ble_eq_true rfl) ⟨by show _ + 2 ≤ _; omega, by show _ ≤ 12400; omega⟩ dL_rules_362 ?_
              refine vl_istore (pc := 365) (lo2 := [(13, .int (nI 0)), (12, .int (nI 1)), (11, .int (nI v)), (10, .int (nI k)), (9, .int (nI 1)), (0, .ref (G.2.1 + 0)), (1, .ref (K.2.1 + 0)), (2, .int (nI n)), (3, .int (nI (nLi S))), (4, .int (nI (n % nLi S))), (5, .int (nI (n / 12 % nLi S)))]) h (by decide) rfl dL_rules_365 ?_
              refine vl_aload_n (pc := 367) h 5 rfl rfl dL_rules_367 ?_
              refine vl_iload_n (pc := 368) h 8 rfl rfl dL_rules_368 ?_
              refine vl_iconst (pc := 369) (v := nI 3) h (by decide) dL_rules_369 ?_
              refine vl_iadd (pc := 370) (v := nI ((nLi S) + 3)) h (nI_add _ _) dL_rules_370 ?_
              refine vl_iload (pc := 371) h 2 rfl dL_rules_371 ?_
              refine wWo (pc := 373) (As := [.ref (G.2.1 + 0), .int (nI ((nLi S) + 3)), .int (nI v)]) (st := []) (r2 := zB (!svU (mS S (n % nLi S)) v v)) (u2 := 40 + 1020 * k + 2 + 2 + 2) h2 h hE hX lkw_252 (kc_is hst G S4 (nI ((nLi S) + 3)) (nI v) (sc0 (li_s (S := S4) (i := nLi S + 3) (by omega) (by omega)) (in_t (by omega) (by omega) (by omega)))) (isT (b := !svU (mS S (n % nLi S)) v v) (by omega) (by omega) ((ru6 v hv9).trans (by rw [ea] <;> rfl))) rfl rfl (by decide) rfl (Nat.le_of_ble_eq_true rfl) ⟨by show _ + 2 ≤ _; omega, by show _ ≤ 12400; omega⟩ dL_rules_373 ?_
              refine vl_istore (pc := 376) (lo2 := [(14, .int (zB (!svU (mS S (n % nLi S)) v v))), (13, .int (nI 0)), (12, .int (nI 1)), (11, .int (nI v)), (10, .int (nI k)), (9, .int (nI 1)), (0, .ref (G.2.1 + 0)), (1, .ref (K.2.1 + 0)), (2, .int (nI n)), (3, .int (nI (nLi S))), (4, .int (nI (n % nLi S))), (5, .int (nI (n / 12 % nLi S)))]) h (by decide) rfl dL_rules_376 ?_
              refine vl_aload_n (pc := 378) h 6 rfl rfl dL_rules_378 ?_
              refine vl_iload_n (pc := 379) h 9 rfl rfl dL_rules_379 ?_
              refine vl_iload (pc := 380) h 3 rfl dL_rules_380 ?_
              refine wWo (pc := 382) (As := [.ref (G.2.1 + 0), .int (nI (nLi S)), .int (nI v)]) (st := []) (r2 := nI 1) (u2 := 40 + 1020 * k + 2 + 2 + 2 + 2) h2 h hE hX lkw_252 (kc_is hst G S4 (nI (nLi S)) (nI v) (sc0 (li_s (S := S4) (i := nLi S) (by omega) (by omega)) (in_t (by omega) (by omega) (by omega)))) ((isT (b := true) (by omega) (by omega) ((ru3 v hv9).trans (by rw [ea, eb] <;> rfl))).trans rfl) rfl rfl (by decide) rfl (Nat.le_of_ble_eq_true rfl) ⟨by show _ + 2 ≤ _; omega, by show _ ≤ 12400; omega⟩ dL_rules_382 ?_
              refine vl_iload (pc := 385) h 2 rfl dL_rules_385 ?_
              refine vl_iload (pc := 387) h 1 rfl dL_rules_387 ?_
              refine vl_icmp_le_f (pc := 389) (tgt := 397) h (by decide) (by decide) dL_rules_389 ?_
              refine vl_iload (pc := 392) h 2 rfl dL_rules_392 ?_
              refine vl_goto (pc := 394) (tgt := 399) h (by decide) dL_rules_394 ?_
              refine vl_icmp_ne_f (pc := 399) (tgt := 449) h rfl (by decide) dL_rules_399 ?_
              refine vl_aload_n (pc := 402) h 6 rfl rfl dL_rules_402 ?_
              refine vl_iload_n (pc := 403) h 9 rfl rfl dL_rules_403 ?_
              refine vl_iconst (pc := 404) (v := nI 1) h (by decide) dL_rules_404 ?_
              refine vl_iadd (pc := 405) (v := nI ((nLi S) + 1)) h (nI_add _ _) dL_rules_405 ?_
              refine vl_iload (pc := 406) h 3 rfl dL_rules_406 ?_
              refine wWo (pc := 408) (As := [.ref (G.2.1 + 0), .int (nI ((nLi S) + 1)), .int (nI v)]) (st := []) (r2 := nI 0) (u2 := 40 + 1020 * k + 2 + 2 + 2 + 2 + 2) h2 h hE hX lkw_252 (kc_is hst G S4 (nI ((nLi S) + 1)) (nI v) (sc0 (li_s (S := S4) (i := nLi S + 1) (by omega) (by omega)) (in_t (by omega) (by omega) (by omega)))) ((isT (b := false) (by omega) (by omega) ((ru4 v hv9).trans (by rw [ea, eb] <;> rfl))).trans rfl) rfl rfl (by decide) rfl (Nat.le_of_ble_eq_true rfl) ⟨by show _ + 2 ≤ _; omega, by show _ ≤ 12400; omega⟩ dL_rules_408 ?_
              refine vl_iload (pc := 411) h 2 rfl dL_rules_411 ?_
              refine vl_iload (pc := 413) h 1 rfl dL_rules_413 ?_
              refine vl_imul (pc := 415) (v := nI 0) h (by decide) dL_rules_415 ?_
              refine vl_icmp_ne_f (pc := 416) (tgt := 449) h rfl (by decide) dL_rules_416 ?_
              refine vl_aload_n (pc := 419) h 6 rfl rfl dL_rules_419 ?_
              refine vl_iload_n (pc := 420) h 9 rfl rfl dL_rules_420 ?_
              refine vl_iconst (pc := 421) (v := nI 2) h (by decide) dL_rules_421 ?_
              refine vl_iadd (pc := 422) (v := nI ((nLi S) + 2)) h (nI_add _ _) dL_rules_422 ?_
              refine vl_iload (pc := 423) h 3 rfl dL_rules_423 ?_
              refine wWo (pc := 425) (As := [.ref (G.2.1 + 0), .int (nI ((nLi S) + 2)), .int (nI v)]) (st := []) (r2 := nI 1) (u2 := 40 + 1020 * k + 2 + 2 + 2 + 2 + 2 + 2) h2 h hE hX lkw_252 (kc_is hst G S4 (nI ((nLi S) + 2)) (nI v) (sc0 (li_s (S := S4) (i := nLi S + 2) (by omega) (by omega)) (in_t (by omega) (by omega) (by omega)))) ((isT (b := true) (by omega) (by omega) ((ru5 v hv9).trans (by rw [ea, eb] <;> rfl))).trans rfl) rfl rfl (by decide) rfl (Nat.le_of_ble_eq_true rfl) ⟨by show _ + 2 ≤ _; omega, by show _ ≤ 12400; omega⟩ dL_rules_425 ?_
              refine vl_iload (pc := 428) h 2 rfl dL_rules_428 ?_
              refine vl_iconst (pc := 430) (v := nI 1) h (by decide) dL_rules_430 ?_
              refine vl_iload (pc := 431) h 1 rfl dL_rules_431 ?_
              refine vl_isub (pc := 433) (v := nI 1) h (by decide) dL_rules_433 ?_
              refine vl_imul (pc := 434) (v := nI 1) h (by decide) dL_rules_434 ?_
              refine vl_icmp_ne_f (pc := 435) (tgt := 449) h rfl (by decide) dL_rules_435 ?_
              refine vl_iload (pc := 438) h 0 rfl dL_rules_438 ?_
              refine vl_iload (pc := 440) h 2 rfl dL_rules_440 ?_
              refine vl_icmp_gt_f (pc := 442) (tgt := 449) h (zB_le _) (by decide) dL_rules_442 ?_
              refine vl_iconst (pc := 445) (v := nI 1) h (by decide) dL_rules_445 ?_
              refine vl_goto (pc := 446) (tgt := 450) h (by decide) dL_rules_446 ?_
              refine vl_istore (pc := 450) (lo2 := [(9, .int (nI 1)), (14, .int (zB (!svU (mS S (n % nLi S)) v v))), (13, .int (nI 0)), (12, .int (nI 1)), (11, .int (nI v)), (10, .int (nI k)), (0, .ref (G.2.1 + 0)), (1, .ref (K.2.1 + 0)), (2, .int (nI n)), (3, .int (nI (nLi S))), (4, .int (nI (n % nLi S))), (5, .int (nI (n / 12 % nLi S)))]) h (by decide) rfl dL_rules_450 ?_
              refine vl_iconst (pc := 452) (v := nI 0) h (by decide) dL_rules_452 ?_
              refine vl_istore (pc := 453) (lo2 := [(15, .int (nI 0)), (9, .int (nI 1)), (14, .int (zB (!svU (mS S (n % nLi S)) v v))), (13, .int (nI 0)), (12, .int (nI 1)), (11, .int (nI v)), (10, .int (nI k)), (0, .ref (G.2.1 + 0)), (1, .ref (K.2.1 + 0)), (2, .int (nI n)), (3, .int (nI (nLi S))), (4, .int (nI (n % nLi S))), (5, .int (nI (n / 12 % nLi S)))]) h (by decide) rfl dL_rules_453 ?_
              refine vl_iconst (pc := 455) (v := nI 2) h (by decide) dL_rules_455 ?_
              refine vl_istore (pc := 456) (lo2 := [(16, .int (nI 2)), (15, .int (nI 0)), (9, .int (nI 1)), (14, .int (zB (!svU (mS S (n % nLi S)) v v))), (13, .int (nI 0)), (12, .int (nI 1)), (11, .int (nI v)), (10, .int (nI k)), (0, .ref (G.2.1 + 0)), (1, .ref (K.2.1 + 0)), (2, .int (nI n)), (3, .int (nI (nLi S))), (4, .int (nI (n % nLi S))), (5, .int (nI (n / 12 % nLi S)))]) h (by decide) rfl dL_rules_456 ?_
              have lp458 : ∀ (fu d : Nat), 2 ≤ d → d * 2 ≤ v + 2 ∨ d = 2 → (∀ e, 2 ≤ e → e < d → v % e = 0 → ((mS S (n % nLi S)) e && !svU (mS S (n % nLi S)) e e) = false) → 1000 - d < fu → VP x (bB G K) 17 (40 + 1020 * k + 12 + 2 * (d - 2)) Q (W2 G K S4 S4) 458 [(16, .int (nI d)), (15, .int (nI 0)), (9, .int (nI 1)), (14, .int (zB (!svU (mS S (n % nLi S)) v v))), (13, .int (nI 0)), (12, .int (nI 1)), (11, .int (nI v)), (10, .int (nI k)), (0, .ref (G.2.1 + 0)), (1, .ref (K.2.1 + 0)), (2, .int (nI n)), (3, .int (nI (nLi S))), (4, .int (nI (n % nLi S))), (5, .int (nI (n / 12 % nLi S)))] [] := by
                intro fu
                induction fu with
                | zero => intro d hd hd2 hno hfu; exact absurd hfu (Nat.not_lt_zero _)
                | succ fu ih458 =>
                  intro d hd hd2 hno hfu
                  refine vl_iload (pc := 458) h 0 rfl dL_rules_458 ?_
                  refine vl_iconst (pc := 460) (v := nI 2) h (by decide) dL_rules_460 ?_
                  refine vl_imul (pc := 461) (v := nI (d * 2)) h (pk_mul _ _) dL_rules_461 ?_
                  refine vl_iload (pc := 462) h 6 rfl dL_rules_462 ?_
                  refine vl_icmp_gt (pc := 464) (tgt := 517) h (by decide) dL_rules_464 (fun c464 => ?_) (fun c464 => ?_)
                  · skip
                    rw [nI_ltI (by omega) (by omega)] at c464
                    have hs : svU (mS S (n % nLi S)) v v = false := sv_no (by omega) hno
                    refine vl_iload (pc := 517) h 2 rfl dL_rules_517 ?_
                    refine vl_if_eq_f (pc := 519) (tgt := 538) h (by decide) (by decide) dL_rules_519 ?_
                    refine vl_iload (pc := 522) h 3 rfl dL_rules_522 ?_
                    refine vl_iload (pc := 524) h 5 rfl dL_rules_524 ?_
                    refine vl_iconst (pc := 526) (v := nI 1) h (by decide) dL_rules_526 ?_
                    refine vl_iload (pc := 527) h 1 rfl dL_rules_527 ?_
                    refine vl_isub (pc := 529) (v := nI (1 - 0)) h (pk_sub (by omega)) dL_rules_529 ?_
                    refine vl_imul (pc := 530) (v := nI (1 * (1 - 0))) h (pk_mul _ _) dL_rules_530 ?_
                    refine vl_icmp_ne_f (pc := 531) (tgt := 538) h (by rw [hs]; rfl) (by decide) dL_rules_531 ?_
                    refine vl_iconst (pc := 534) (v := nI 1) h (by decide) dL_rules_534 ?_
                    refine vl_goto (pc := 535) (tgt := 539) h (by decide) dL_rules_535 ?_
                    refine vl_istore (pc := 539) (lo2 := [(9, .int (nI 1)), (16, .int (nI d)), (15, .int (nI 0)), (14, .int (zB (!svU (mS S (n % nLi S)) v v))), (13, .int (nI 0)), (12, .int (nI 1)), (11, .int (nI v)), (10, .int (nI k)), (0, .ref (G.2.1 + 0)), (1, .ref (K.2.1 + 0)), (2, .int (nI n)), (3, .int (nI (nLi S))), (4, .int (nI (n % nLi S))), (5, .int (nI (n / 12 % nLi S)))]) h (by decide) rfl dL_rules_539 ?_
                    refine vl_iinc (pc := 541) (v := nI (k + 1)) (lo2 := [(10, .int (nI (k + 1))), (9, .int (nI 1)), (16, .int (nI d)), (15, .int (nI 0)), (14, .int (zB (!svU (mS S (n % nLi S)) v v))), (13, .int (nI 0)), (12, .int (nI 1)), (11, .int (nI v)), (0, .ref (G.2.1 + 0)), (1, .ref (K.2.1 + 0)), (2, .int (nI n)), (3, .int (nI (nLi S))), (4, .int (nI (n % nLi S))), (5, .int (nI (n / 12 % nLi S)))]) h 7 rfl (iinc1 _) (by decide) rfl dL_rules_541 ?_
                    refine vl_goto (pc := 544) (tgt := 317) h (by decide) dL_rules_544 ?_
                    refine vl_sub [0, 1, 8, 9, 10, 11, 12, 13] rfl ?_
                    exact vl_wd (by omega) (ih317 (k + 1) (by omega) (by omega))
                  · skip
                    rw [nI_ltI (by omega) (by omega)] at c464
                    refine vl_iload (pc := 467) h 1 rfl dL_rules_467 ?_
                    refine vl_if_ne_f (pc := 469) (tgt := 517) h rfl (by decide) dL_rules_469 ?_
                    refine vl_iload (pc := 472) h 5 rfl dL_rules_472 ?_
                    refine vl_iconst (pc := 474) (v := nI 1) h (by decide) dL_rules_474 ?_
                    refine vl_icmp_ne_f (pc := 475) (tgt := 517) h rfl (by decide) dL_rules_475 ?_
                    refine vl_iload (pc := 478) h 2 rfl dL_rules_478 ?_
                    refine vl_if_eq_f (pc := 480) (tgt := 517) h (by decide) (by decide) dL_rules_480 ?_
                    refine vl_iload (pc := 483) h 6 rfl dL_rules_483 ?_
                    refine vl_iload (pc := 485) h 0 rfl dL_rules_485 ?_
                    have hmd := Nat.mod_lt v (show 0 < d by omega)
                    refine vl_irem (pc := 487) (v := nI (v % d)) h (nI_ne0 (by omega) (by omega)) (pk_rem (by omega) (by omega) (by omega)) dL_rules_487 ?_
                    refine vl_if_ne (pc := 488) (tgt := 508) h (by decide) dL_rules_488 (fun c488 => ?_) (fun c488 => ?_)
                    · skip
                      rw [zI0, nI_eq (by omega) (by omega)] at c488
                      have hnd : v % d = 0 → ((mS S (n % nLi S)) d && !svU (mS S (n % nLi S)) d d) = false := fun z => absurd z c488
                      refine vl_iconst (pc := 508) (v := nI 0) h (by decide) dL_rules_508 ?_
                      refine vl_istore (pc := 509) (lo2 := [(15, .int (nI 0)), (16, .int (nI d)), (9, .int (nI 1)), (14, .int (zB (!svU (mS S (n % nLi S)) v v))), (13, .int (nI 0)), (12, .int (nI 1)), (11, .int (nI v)), (10, .int (nI k)), (0, .ref (G.2.1 + 0)), (1, .ref (K.2.1 + 0)), (2, .int (nI n)), (3, .int (nI (nLi S))), (4, .int (nI (n % nLi S))), (5, .int (nI (n / 12 % nLi S)))]) h (by decide) rfl dL_rules_509 ?_
                      refine vl_iinc (pc := 511) (v := nI (d + 1)) (lo2 := [(16, .int (nI (d + 1))), (15, .int (nI 0)), (9, .int (nI 1)), (14, .int (zB (!svU (mS S (n % nLi S)) v v))), (13, .int (nI 0)), (12, .int (nI 1)), (11, .int (nI v)), (10, .int (nI k)), (0, .ref (G.2.1 + 0)), (1, .ref (K.2.1 + 0)), (2, .int (nI n)), (3, .int (nI (nLi S))), (4, .int (nI (n % nLi S))), (5, .int (nI (n / 12 % nLi S)))]) h 1 rfl (iinc1 _) (by decide) rfl dL_rules_511 ?_
                      refine vl_goto (pc := 514) (tgt := 458) h (by decide) dL_rules_514 ?_
                      have hno2 : ∀ e, 2 ≤ e → e < d + 1 → v % e = 0 → ((mS S (n % nLi S)) e && !svU (mS S (n % nLi S)) e e) = false := fun e g1 g2 g3 => by
                        by_cases z : e = d
                        · rw [z]; rw [z] at g3; exact hnd g3
                        · exact hno e g1 (by omega) g3
                      exact vl_wd (by omega) (ih458 (d + 1) (by omega) (Or.inl (by omega)) hno2 (by omega))
                    · skip
                      rw [zI0, nI_eq (by omega) (by omega)] at c488
                      rcases ek : ((mS S (n % nLi S)) d && !svU (mS S (n % nLi S)) d d) with _ | _
                      · skip
                        have hnd : v % d = 0 → ((mS S (n % nLi S)) d && !svU (mS S (n % nLi S)) d d) = false := fun _ => ek
                        refine vl_aload_n (pc := 491) h 8 rfl rfl dL_rules_491 ?_
                        refine vl_iload_n (pc := 492) h 11 rfl rfl dL_rules_492 ?_
                        refine vl_iconst (pc := 493) (v := nI 3) h (by decide) dL_rules_493 ?_
                        refine vl_iadd (pc := 494) (v := nI ((nLi S) + 3)) h (nI_add _ _) dL_rules_494 ?_
                        refine vl_iload (pc := 495) h 0 rfl dL_rules_495 ?_
                        refine wWo (pc := 497) (As := [.ref (G.2.1 + 0), .int (nI ((nLi S) + 3)), .int (nI d)]) (st := []) (r2 := nI 0) (u2 := 40 + 1020 * k + 12 + 2 * (d - 2) + 2) h2 h hE hX lkw_252 (kc_is hst G S4 (nI ((nLi S) + 3)) (nI d) (sc0 (li_s (S := S4) (i := nLi S + 3) (by omega) (by omega)) (in_t (by omega) (by omega) (by omega)))) ((isT (by omega) (by omega) ((ru6 d (by omega)).trans ek)).trans rfl) rfl rfl (by decide) rfl (Nat.le_of_ble_eq_true rfl) ⟨by show _ + 2 ≤ _; omega, by show _ ≤ 12400; omega⟩ dL_rules_497 ?_
                        refine vl_iconst (pc := 500) (v := nI 1) h (by decide) dL_rules_500 ?_
                        refine vl_icmp_ne_t (pc := 501) (tgt := 508) h (by decide) (by decide) dL_rules_501 ?_
                        refine vl_iconst (pc := 508) (v := nI 0) h (by decide) dL_rules_508 ?_
                        refine vl_istore (pc := 509) (lo2 := [(15, .int (nI 0)), (16, .int (nI d)), (9, .int (nI 1)), (14, .int (zB (!svU (mS S (n % nLi S)) v v))), (13, .int (nI 0)), (12, .int (nI 1)), (11, .int (nI v)), (10, .int (nI k)), (0, .ref (G.2.1 + 0)), (1, .ref (K.2.1 + 0)), (2, .int (nI n)), (3, .int (nI (nLi S))), (4, .int (nI (n % nLi S))), (5, .int (nI (n / 12 % nLi S)))]) h (by decide) rfl dL_rules_509 ?_
                        refine vl_iinc (pc := 511) (v := nI (d + 1)) (lo2 := [(16, .int (nI (d + 1))), (15, .int (nI 0)), (9, .int (nI 1)), (14, .int (zB (!svU (mS S (n % nLi S)) v v))), (13, .int (nI 0)), (12, .int (nI 1)), (11, .int (nI v)), (10, .int (nI k)), (0, .ref (G.2.1 + 0)), (1, .ref (K.2.1 + 0)), (2, .int (nI n)), (3, .int (nI (nLi S))), (4, .int (nI (n % nLi S))), (5, .int (nI (n / 12 % nLi S)))]) h 1 rfl (iinc1 _) (by decide) rfl dL_rules_511 ?_
                        refine vl_goto (pc := 514) (tgt := 458) h (by decide) dL_rules_514 ?_
                        have hno2 : ∀ e, 2 ≤ e → e < d + 1 → v % e = 0 → ((mS S (n % nLi S)) e && !svU (mS S (n % nLi S)) e e) = false := fun e g1 g2 g3 => by
                          by_cases z : e = d
                          · rw [z]; rw [z] at g3; exact hnd g3
                          · exact hno e g1 (by omega) g3
                        exact vl_wd (by omega) (ih458 (d + 1) (by omega) (Or.inl (by omega)) hno2 (by omega))
                      · skip
                        have hs : svU (mS S (n % nLi S)) v v = true := sv_yes (by omega) (by omega) ek c488
                        refine vl_aload_n (pc := 491) h 8 rfl rfl dL_rules_491 ?_
                        refine vl_iload_n (pc := 492) h 11 rfl rfl dL_rules_492 ?_
                        refine vl_iconst (pc := 493) (v := nI 3) h (by decide) dL_rules_493 ?_
                        refine vl_iadd (pc := 494) (v := nI ((nLi S) + 3)) h (nI_add _ _) dL_rules_494 ?_
                        refine vl_iload (pc := 495) h 0 rfl dL_rules_495 ?_
                        refine wWo (pc := 497) (As := [.ref (G.2.1 + 0), .int (nI ((nLi S) + 3)), .int (nI d)]) (st := []) (r2 := nI 1) (u2 := 40 + 1020 * k + 12 + 2 * (d - 2) + 2) h2 h hE hX lkw_252 (kc_is hst G S4 (nI ((nLi S) + 3)) (nI d) (sc0 (li_s (S := S4) (i := nLi S + 3) (by omega) (by omega)) (in_t (by omega) (by omega) (by omega)))) ((isT (by omega) (by omega) ((ru6 d (by omega)).trans ek)).trans rfl) rfl rfl (by decide) rfl (Nat.le_of_ble_eq_true rfl) ⟨by show _ + 2 ≤ _; omega, by show _ ≤ 12400; omega⟩ dL_rules_497 ?_
                        refine vl_iconst (pc := 500) (v := nI 1) h (by decide) dL_rules_500 ?_
                        refine vl_icmp_ne_f (pc := 501) (tgt := 508) h rfl (by decide) dL_rules_501 ?_
                        refine vl_iconst (pc := 504) (v := nI 1) h (by decide) dL_rules_504 ?_
                        refine vl_goto (pc := 505) (tgt := 509) h (by decide) dL_rules_505 ?_
                        refine vl_istore (pc := 509) (lo2 := [(15, .int (nI 1)), (16, .int (nI d)), (9, .int (nI 1)), (14, .int (zB (!svU (mS S (n % nLi S)) v v))), (13, .int (nI 0)), (12, .int (nI 1)), (11, .int (nI v)), (10, .int (nI k)), (0, .ref (G.2.1 + 0)), (1, .ref (K.2.1 + 0)), (2, .int (nI n)), (3, .int (nI (nLi S))), (4, .int (nI (n % nLi S))), (5, .int (nI (n / 12 % nLi S)))]) h (by decide) rfl dL_rules_509 ?_
                        refine vl_iinc (pc := 511) (v := nI (d + 1)) (lo2 := [(16, .int (nI (d + 1))), (15, .int (nI 1)), (9, .int (nI 1)), (14, .int (zB (!svU (mS S (n % nLi S)) v v))), (13, .int (nI 0)), (12, .int (nI 1)), (11, .int (nI v)), (10, .int (nI k)), (0, .ref (G.2.1 + 0)), (1, .ref (K.2.1 + 0)), (2, .int (nI n)), (3, .int (nI (nLi S))), (4, .int (nI (n % nLi S))), (5, .int (nI (n / 12 % nLi S)))]) h 1 rfl (iinc1 _) (by decide) rfl dL_rules_511 ?_
                        refine vl_goto (pc := 514) (tgt := 458) h (by decide) dL_rules_514 ?_
                        refine vl_iload (pc := 458) h 0 rfl dL_rules_458 ?_
                        refine vl_iconst (pc := 460) (v := nI 2) h (by decide) dL_rules_460 ?_
                        refine vl_imul (pc := 461) (v := nI ((d + 1) * 2)) h (pk_mul _ _) dL_rules_461 ?_
                        refine vl_iload (pc := 462) h 6 rfl dL_rules_462 ?_
                        refine vl_icmp_gt (pc := 464) (tgt := 517) h (by decide) dL_rules_464 (fun c464 => ?_) (fun c464 => ?_)
                        · skip
                          rw [nI_ltI (by omega) (by omega)] at c464
                          refine vl_iload (pc := 517) h 2 rfl dL_rules_517 ?_
                          refine vl_if_eq_f (pc := 519) (tgt := 538) h (by decide) (by decide) dL_rules_519 ?_
                          refine vl_iload (pc := 522) h 3 rfl dL_rules_522 ?_
                          refine vl_iload (pc := 524) h 5 rfl dL_rules_524 ?_
                          refine vl_iconst (pc := 526) (v := nI 1) h (by decide) dL_rules_526 ?_
                          refine vl_iload (pc := 527) h 1 rfl dL_rules_527 ?_
                          refine vl_isub (pc := 529) (v := nI (1 - 1)) h (pk_sub (by omega)) dL_rules_529 ?_
                          refine vl_imul (pc := 530) (v := nI (1 * (1 - 1))) h (pk_mul _ _) dL_rules_530 ?_
                          refine vl_icmp_ne_f (pc := 531) (tgt := 538) h (by rw [hs]; rfl) (by decide) dL_rules_531 ?_
                          refine vl_iconst (pc := 534) (v := nI 1) h (by decide) dL_rules_534 ?_
                          refine vl_goto (pc := 535) (tgt := 539) h (by decide) dL_rules_535 ?_
                          refine vl_istore (pc := 539) (lo2 := [(9, .int (nI 1)), (16, .int (nI (d + 1))), (15, .int (nI 1)), (14, .int (zB (!svU (mS S (n % nLi S)) v v))), (13, .int (nI 0)), (12, .int (nI 1)), (11, .int (nI v)), (10, .int (nI k)), (0, .ref (G.2.1 + 0)), (1, .ref (K.2.1 + 0)), (2, .int (nI n)), (3, .int (nI (nLi S))), (4, .int (nI (n % nLi S))), (5, .int (nI (n / 12 % nLi S)))]) h (by decide) rfl dL_rules_539 ?_
                          refine vl_iinc (pc := 541) (v := nI (k + 1)) (lo2 := [(10, .int (nI (k + 1))), (9, .int (nI 1)), (16, .int (nI (d + 1))), (15, .int (nI 1)), (14, .int (zB (!svU (mS S (n % nLi S)) v v))), (13, .int (nI 0)), (12, .int (nI 1)), (11, .int (nI v)), (0, .ref (G.2.1 + 0)), (1, .ref (K.2.1 + 0)), (2, .int (nI n)), (3, .int (nI (nLi S))), (4, .int (nI (n % nLi S))), (5, .int (nI (n / 12 % nLi S)))]) h 7 rfl (iinc1 _) (by decide) rfl dL_rules_541 ?_
                          refine vl_goto (pc := 544) (tgt := 317) h (by decide) dL_rules_544 ?_
                          refine vl_sub [0, 1, 8, 9, 10, 11, 12, 13] rfl ?_
                          exact vl_wd (by omega) (ih317 (k + 1) (by omega) (by omega))
                        · skip
                          rw [nI_ltI (by omega) (by omega)] at c464
                          refine vl_iload (pc := 467) h 1 rfl dL_rules_467 ?_
                          refine vl_if_ne_t (pc := 469) (tgt := 517) h (by decide) (by decide) dL_rules_469 ?_
                          refine vl_iload (pc := 517) h 2 rfl dL_rules_517 ?_
                          refine vl_if_eq_f (pc := 519) (tgt := 538) h (by decide) (by decide) dL_rules_519 ?_
                          refine vl_iload (pc := 522) h 3 rfl dL_rules_522 ?_
                          refine vl_iload (pc := 524) h 5 rfl dL_rules_524 ?_
                          refine vl_iconst (pc := 526) (v := nI 1) h (by decide) dL_rules_526 ?_
                          refine vl_iload (pc := 527) h 1 rfl dL_rules_527 ?_
                          refine vl_isub (pc := 529) (v := nI (1 - 1)) h (pk_sub (by omega)) dL_rules_529 ?_
                          refine vl_imul (pc := 530) (v := nI (1 * (1 - 1))) h (pk_mul _ _) dL_rules_530 ?_
                          refine vl_icmp_ne_f (pc := 531) (tgt := 538) h (by rw [hs]; rfl) (by decide) dL_rules_531 ?_
                          refine vl_iconst (pc := 534) (v := nI 1) h (by decide) dL_rules_534 ?_
                          refine vl_goto (pc := 535) (tgt := 539) h (by decide) dL_rules_535 ?_
                          refine vl_istore (pc := 539) (lo2 := [(9, .int (nI 1)), (16, .int (nI (d + 1))), (15, .int (nI 1)), (14, .int (zB (!svU (mS S (n % nLi S)) v v))), (13, .int (nI 0)), (12, .int (nI 1)), (11, .int (nI v)), (10, .int (nI k)), (0, .ref (G.2.1 + 0)), (1, .ref (K.2.1 + 0)), (2, .int (nI n)), (3, .int (nI (nLi S))), (4, .int (nI (n % nLi S))), (5, .int (nI (n / 12 % nLi S)))]) h (by decide) rfl dL_rules_539 ?_
                          refine vl_iinc (pc := 541) (v := nI (k + 1)) (lo2 := [(10, .int (nI (k + 1))), (9, .int (nI 1)), (16, .int (nI (d + 1))), (15, .int (nI 1)), (14, .int (zB (!svU (mS S (n % nLi S)) v v))), (13, .int (nI 0)), (12, .int (nI 1)), (11, .int (nI v)), (0, .ref (G.2.1 + 0)), (1, .ref (K.2.1 + 0)), (2, .int (nI n)), (3, .int (nI (nLi S))), (4, .int (nI (n % nLi S))), (5, .int (nI (n / 12 % nLi S)))]) h 7 rfl (iinc1 _) (by decide) rfl dL_rules_541 ?_
                          refine vl_goto (pc := 544) (tgt := 317) h (by decide) dL_rules_544 ?_
                          refine vl_sub [0, 1, 8, 9, 10, 11, 12, 13] rfl ?_
                          exact vl_wd (by omega) (ih317 (k + 1) (by omega) (by omega))
              exact vl_wd (by omega) (lp458 _ 2 (by omega) (Or.inr rfl) (fun e g1 g2 => absurd g2 (by omega)) (Nat.lt_succ_self _))
            · skip
              refine vl_aload_n (pc := 347) h 3 rfl rfl dL_rules_347 ?_
              refine vl_iload (pc := 348) h 7 rfl dL_rules_348 ?_
              refine vl_iload (pc := 350) h 0 rfl dL_rules_350 ?_
              refine wWo (pc := 352) (As := [.ref (G.2.1 + 0), .int (nI (n % nLi S)), .int (nI v)]) (st := []) (r2 := nI 1) (u2 := 40 + 1020 * k + 2) h2 h hE hX lkw_252 (kc_is hst G S4 (nI (n % nLi S)) (nI v) (sc0 (li_s (S := S4) (i := n % nLi S) (by omega) (by omega)) (in_t (by omega) (by omega) (by omega)))) ((isT (by omega) (by omega) ((congrFun (ru2 _ hiN) v).trans ea)).trans rfl) rfl rfl (by decide) rfl (Nat.le_of_ble_eq_true rfl) ⟨by show _ + 2 ≤ _; omega, by show _ ≤ 12400; omega⟩ dL_rules_352 ?_
              refine vl_istore (pc := 355) (lo2 := [(12, .int (nI 1)), (11, .int (nI v)), (10, .int (nI k)), (9, .int (nI 1)), (0, .ref (G.2.1 + 0)), (1, .ref (K.2.1 + 0)), (2, .int (nI n)), (3, .int (nI (nLi S))), (4, .int (nI (n % nLi S))), (5, .int (nI (n / 12 % nLi S)))]) h (by decide) rfl dL_rules_355 ?_
              refine vl_aload_n (pc := 357) h 4 rfl rfl dL_rules_357 ?_
              refine vl_iload (pc := 358) h 9 rfl dL_rules_358 ?_
              refine vl_iload (pc := 360) h 1 rfl dL_rules_360 ?_
              refine wWo (pc := 362) (As := [.ref (G.2.1 + 0), .int (nI (n / 12 % nLi S)), .int (nI v)]) (st := []) (r2 := nI 1) (u2 := 40 + 1020 * k + 2 + 2) h2 h hE hX lkw_252 (kc_is hst G S4 (nI (n / 12 % nLi S)) (nI v) (sc0 (li_s (S := S4) (i := n / 12 % nLi S) (by omega) (by omega)) (in_t (by omega) (by omega) (by omega)))) ((isT (by omega) (by omega) ((congrFun (ru2 _ hjN) v).trans eb)).trans rfl) rfl rfl (by decide) rfl (Nat.le_of_ble_eq_true rfl) ⟨by show _ + 2 ≤ _; omega, by show _ ≤ 12400; omega⟩ dL_rules_362 ?_
              refine vl_istore (pc := 365) (lo2 := [(13, .int (nI 1)), (12, .int (nI 1)), (11, .int (nI v)), (10, .int (nI k)), (9, .int (nI 1)), (0, .ref (G.2.1 + 0)), (1, .ref (K.2.1 + 0)), (2, .int (nI n)), (3, .int (nI (nLi S))), (4, .int (nI (n % nLi S))), (5, .int (nI (n / 12 % nLi S)))]) h (by decide) rfl dL_rules_365 ?_
              refine vl_aload_n (pc := 367) h 5 rfl rfl dL_rules_367 ?_
              refine vl_iload_n (pc := 368) h 8 rfl rfl dL_rules_368 ?_
              refine vl_iconst (pc := 369) (v := nI 3) h (by decide) dL_rules_369 ?_
              refine vl_iadd (pc := 370) (v := nI ((nLi S) + 3)) h (nI_add _ _) dL_rules_370 ?_
              refine vl_iload (pc := 371) h 2 rfl dL_rules_371 ?_
              refine wWo (pc := 373) (As := [.ref (G.2.1 + 0), .int (nI ((nLi S) + 3)), .int (nI v)]) (st := []) (r2 := zB (!svU (mS S (n % nLi S)) v v)) (u2 := 40 + 1020 * k + 2 + 2 + 2) h2 h hE hX lkw_252 (kc_is hst G S4 (nI ((nLi S) + 3)) (nI v) (sc0 (li_s (S := S4) (i := nLi S + 3) (by omega) (by omega)) (in_t (by omega) (by omega) (by omega)))) (isT (b := !svU (mS S (n % nLi S)) v v) (by omega) (by omega) ((ru6 v hv9).trans (by rw [ea] <;> rfl))) rfl rfl (by decide) rfl (Nat.le_of_ble_eq_true rfl) ⟨by show _ + 2 ≤ _; omega, by show _ ≤ 12400; omega⟩ dL_rules_373 ?_
              refine vl_istore (pc := 376) (lo2 := [(14, .int (zB (!svU (mS S (n % nLi S)) v v))), (13, .int (nI 1)), (12, .int (nI 1)), (11, .int (nI v)), (10, .int (nI k)), (9, .int (nI 1)), (0, .ref (G.2.1 + 0)), (1, .ref (K.2.1 + 0)), (2, .int (nI n)), (3, .int (nI (nLi S))), (4, .int (nI (n % nLi S))), (5, .int (nI (n / 12 % nLi S)))]) h (by decide) rfl dL_rules_376 ?_
              refine vl_aload_n (pc := 378) h 6 rfl rfl dL_rules_378 ?_
              refine vl_iload_n (pc := 379) h 9 rfl rfl dL_rules_379 ?_
              refine vl_iload (pc := 380) h 3 rfl dL_rules_380 ?_
              refine wWo (pc := 382) (As := [.ref (G.2.1 + 0), .int (nI (nLi S)), .int (nI v)]) (st := []) (r2 := nI 1) (u2 := 40 + 1020 * k + 2 + 2 + 2 + 2) h2 h hE hX lkw_252 (kc_is hst G S4 (nI (nLi S)) (nI v) (sc0 (li_s (S := S4) (i := nLi S) (by omega) (by omega)) (in_t (by omega) (by omega) (by omega)))) ((isT (b := true) (by omega) (by omega) ((ru3 v hv9).trans (by rw [ea, eb] <;> rfl))).trans rfl) rfl rfl (by decide) rfl (Nat.le_of_ble_eq_true rfl) ⟨by show _ + 2 ≤ _; omega, by show _ ≤ 12400; omega⟩ dL_rules_382 ?_
              refine vl_iload (pc := 385) h 2 rfl dL_rules_385 ?_
              refine vl_iload (pc := 387) h 1 rfl dL_rules_387 ?_
              refine vl_icmp_le_t (pc := 389) (tgt := 397) h (Int32.le_refl _) (by decide) dL_rules_389 ?_
              refine vl_iload (pc := 397) h 1 rfl dL_rules_397 ?_
              refine vl_icmp_ne_f (pc := 399) (tgt := 449) h rfl (by decide) dL_rules_399 ?_
              refine vl_aload_n (pc := 402) h 6 rfl rfl dL_rules_402 ?_
              refine vl_iload_n (pc := 403) h 9 rfl rfl dL_rules_403 ?_
              refine vl_iconst (pc := 404) (v := nI 1) h (by decide) dL_rules_404 ?_
              refine vl_iadd (pc := 405) (v := nI ((nLi S) + 1)) h (nI_add _ _) dL_rules_405 ?_
              refine vl_iload (pc := 406) h 3 rfl dL_rules_406 ?_
              refine wWo (pc := 408) (As := [.ref (G.2.1 + 0), .int (nI ((nLi S) + 1)), .int (nI v)]) (st := []) (r2 := nI 1) (u2 := 40 + 1020 * k + 2 + 2 + 2 + 2 + 2) h2 h hE hX lkw_252 (kc_is hst G S4 (nI ((nLi S) + 1)) (nI v) (sc0 (li_s (S := S4) (i := nLi S + 1) (by omega) (by omega)) (in_t (by omega) (by omega) (by omega)))) ((isT (b := true) (by omega) (by omega) ((ru4 v hv9).trans (by rw [ea, eb] <;> rfl))).trans rfl) rfl rfl (by decide) rfl (Nat.le_of_ble_eq_true rfl) ⟨by show _ + 2 ≤ _; omega, by show _ ≤ 12400; omega⟩ dL_rules_408 ?_
              refine vl_iload (pc := 411) h 2 rfl dL_rules_411 ?_
              refine vl_iload (pc := 413) h 1 rfl dL_rules_413 ?_
              refine vl_imul (pc := 415) (v := nI 1) h (by decide) dL_rules_415 ?_
              refine vl_icmp_ne_f (pc := 416) (tgt := 449) h rfl (by decide) dL_rules_416 ?_
              refine vl_aload_n (pc := 419) h 6 rfl rfl dL_rules_419 ?_
              refine vl_iload_n (pc := 420) h 9 rfl rfl dL_rules_420 ?_
              refine vl_iconst (pc := 421) (v := nI 2) h (by decide) dL_rules_421 ?_
              refine vl_iadd (pc := 422) (v := nI ((nLi S) + 2)) h (nI_add _ _) dL_rules_422 ?_
              refine vl_iload (pc := 423) h 3 rfl dL_rules_423 ?_
              refine wWo (pc := 425) (As := [.ref (G.2.1 + 0), .int (nI ((nLi S) + 2)), .int (nI v)]) (st := []) (r2 := nI 0) (u2 := 40 + 1020 * k + 2 + 2 + 2 + 2 + 2 + 2) h2 h hE hX lkw_252 (kc_is hst G S4 (nI ((nLi S) + 2)) (nI v) (sc0 (li_s (S := S4) (i := nLi S + 2) (by omega) (by omega)) (in_t (by omega) (by omega) (by omega)))) ((isT (b := false) (by omega) (by omega) ((ru5 v hv9).trans (by rw [ea, eb] <;> rfl))).trans rfl) rfl rfl (by decide) rfl (Nat.le_of_ble_eq_true rfl) ⟨by show _ + 2 ≤ _; omega, by show _ ≤ 12400; omega⟩ dL_rules_425 ?_
              refine vl_iload (pc := 428) h 2 rfl dL_rules_428 ?_
              refine vl_iconst (pc := 430) (v := nI 1) h (by decide) dL_rules_430 ?_
              refine vl_iload (pc := 431) h 1 rfl dL_rules_431 ?_
              refine vl_isub (pc := 433) (v := nI 0) h (by decide) dL_rules_433 ?_
              refine vl_imul (pc := 434) (v := nI 0) h (by decide) dL_rules_434 ?_
              refine vl_icmp_ne_f (pc := 435) (tgt := 449) h rfl (by decide) dL_rules_435 ?_
              refine vl_iload (pc := 438) h 0 rfl dL_rules_438 ?_
              refine vl_iload (pc := 440) h 2 rfl dL_rules_440 ?_
              refine vl_icmp_gt_f (pc := 442) (tgt := 449) h (zB_le _) (by decide) dL_rules_442 ?_
              refine vl_iconst (pc := 445) (v := nI 1) h (by decide) dL_rules_445 ?_
              refine vl_goto (pc := 446) (tgt := 450) h (by decide) dL_rules_446 ?_
              refine vl_istore (pc := 450) (lo2 := [(9, .int (nI 1)), (14, .int (zB (!svU (mS S (n % nLi S)) v v))), (13, .int (nI 1)), (12, .int (nI 1)), (11, .int (nI v)), (10, .int (nI k)), (0, .ref (G.2.1 + 0)), (1, .ref (K.2.1 + 0)), (2, .int (nI n)), (3, .int (nI (nLi S))), (4, .int (nI (n % nLi S))), (5, .int (nI (n / 12 % nLi S)))]) h (by decide) rfl dL_rules_450 ?_
              refine vl_iconst (pc := 452) (v := nI 0) h (by decide) dL_rules_452 ?_
              refine vl_istore (pc := 453) (lo2 := [(15, .int (nI 0)), (9, .int (nI 1)), (14, .int (zB (!svU (mS S (n % nLi S)) v v))), (13, .int (nI 1)), (12, .int (nI 1)), (11, .int (nI v)), (10, .int (nI k)), (0, .ref (G.2.1 + 0)), (1, .ref (K.2.1 + 0)), (2, .int (nI n)), (3, .int (nI (nLi S))), (4, .int (nI (n % nLi S))), (5, .int (nI (n / 12 % nLi S)))]) h (by decide) rfl dL_rules_453 ?_
              refine vl_iconst (pc := 455) (v := nI 2) h (by decide) dL_rules_455 ?_
              refine vl_istore (pc := 456) (lo2 := [(16, .int (nI 2)), (15, .int (nI 0)), (9, .int (nI 1)), (14, .int (zB (!svU (mS S (n % nLi S)) v v))), (13, .int (nI 1)), (12, .int (nI 1)), (11, .int (nI v)), (10, .int (nI k)), (0, .ref (G.2.1 + 0)), (1, .ref (K.2.1 + 0)), (2, .int (nI n)), (3, .int (nI (nLi S))), (4, .int (nI (n % nLi S))), (5, .int (nI (n / 12 % nLi S)))]) h (by decide) rfl dL_rules_456 ?_
              have lp458 : ∀ (fu d : Nat), 2 ≤ d → d * 2 ≤ v + 2 ∨ d = 2 → (∀ e, 2 ≤ e → e < d → v % e = 0 → ((mS S (n % nLi S)) e && !svU (mS S (n % nLi S)) e e) = false) → 1000 - d < fu → VP x (bB G K) 17 (40 + 1020 * k + 12 + 2 * (d - 2)) Q (W2 G K S4 S4) 458 [(16, .int (nI d)), (15, .int (nI 0)), (9, .int (nI 1)), (14, .int (zB (!svU (mS S (n % nLi S)) v v))), (13, .int (nI 1)), (12, .int (nI 1)), (11, .int (nI v)), (10, .int (nI k)), (0, .ref (G.2.1 + 0)), (1, .ref (K.2.1 + 0)), (2, .int (nI n)), (3, .int (nI (nLi S))), (4, .int (nI (n % nLi S))), (5, .int (nI (n / 12 % nLi S)))] [] := by
                intro fu
                induction fu with
                | zero => intro d hd hd2 hno hfu; exact absurd hfu (Nat.not_lt_zero _)
                | succ fu ih458 =>
                  intro d hd hd2 hno hfu
                  refine vl_iload (pc := 458) h 0 rfl dL_rules_458 ?_
                  refine vl_iconst (pc := 460) (v := nI 2) h (by decide) dL_rules_460 ?_
                  refine vl_imul (pc := 461) (v := nI (d * 2)) h (pk_mul _ _) dL_rules_461 ?_
                  refine vl_iload (pc := 462) h 6 rfl dL_rules_462 ?_
                  refine vl_icmp_gt (pc := 464) (tgt := 517) h (by decide) dL_rules_464 (fun c464 => ?_) (fun c464 => ?_)
                  · skip
                    rw [nI_ltI (by omega) (by omega)] at c464
                    have hs : svU (mS S (n % nLi S)) v v = false := sv_no (by omega) hno
                    refine vl_iload (pc := 517) h 2 rfl dL_rules_517 ?_
                    refine vl_if_eq_f (pc := 519) (tgt := 538) h (by decide) (by decide) dL_rules_519 ?_
                    refine vl_iload (pc := 522) h 3 rfl dL_rules_522 ?_
                    refine vl_iload (pc := 524) h 5 rfl dL_rules_524 ?_
                    refine vl_iconst (pc := 526) (v := nI 1) h (by decide) dL_rules_526 ?_
                    refine vl_iload (pc := 527) h 1 rfl dL_rules_527 ?_
                    refine vl_isub (pc := 529) (v := nI (1 - 0)) h (pk_sub (by omega)) dL_rules_529 ?_
                    refine vl_imul (pc := 530) (v := nI (1 * (1 - 0))) h (pk_mul _ _) dL_rules_530 ?_
                    refine vl_icmp_ne_f (pc := 531) (tgt := 538) h (by rw [hs]; rfl) (by decide) dL_rules_531 ?_
                    refine vl_iconst (pc := 534) (v := nI 1) h (by decide) dL_rules_534 ?_
                    refine vl_goto (pc := 535) (tgt := 539) h (by decide) dL_rules_535 ?_
                    refine vl_istore (pc := 539) (lo2 := [(9, .int (nI 1)), (16, .int (nI d)), (15, .int (nI 0)), (14, .int (zB (!svU (mS S (n % nLi S)) v v))), (13, .int (nI 1)), (12, .int (nI 1)), (11, .int (nI v)), (10, .int (nI k)), (0, .ref (G.2.1 + 0)), (1, .ref (K.2.1 + 0)), (2, .int (nI n)), (3, .int (nI (nLi S))), (4, .int (nI (n % nLi S))), (5, .int (nI (n / 12 % nLi S)))]) h (by decide) rfl dL_rules_539 ?_
                    refine vl_iinc (pc := 541) (v := nI (k + 1)) (lo2 := [(10, .int (nI (k + 1))), (9, .int (nI 1)), (16, .int (nI d)), (15, .int (nI 0)), (14, .int (zB (!svU (mS S (n % nLi S)) v v))), (13, .int (nI 1)), (12, .int (nI 1)), (11, .int (nI v)), (0, .ref (G.2.1 + 0)), (1, .ref (K.2.1 + 0)), (2, .int (nI n)), (3, .int (nI (nLi S))), (4, .int (nI (n % nLi S))), (5, .int (nI (n / 12 % nLi S)))]) h 7 rfl (iinc1 _) (by decide) rfl dL_rules_541 ?_
                    refine vl_goto (pc := 544) (tgt := 317) h (by decide) dL_rules_544 ?_
                    refine vl_sub [0, 1, 8, 9, 10, 11, 12, 13] rfl ?_
                    exact vl_wd (by omega) (ih317 (k + 1) (by omega) (by omega))
                  · skip
                    rw [nI_ltI (by omega) (by omega)] at c464
                    refine vl_iload (pc := 467) h 1 rfl dL_rules_467 ?_
                    refine vl_if_ne_f (pc := 469) (tgt := 517) h rfl (by decide) dL_rules_469 ?_
                    refine vl_iload (pc := 472) h 5 rfl dL_rules_472 ?_
                    refine vl_iconst (pc := 474) (v := nI 1) h (by decide) dL_rules_474 ?_
                    refine vl_icmp_ne_f (pc := 475) (tgt := 517) h rfl (by decide) dL_rules_475 ?_
                    refine vl_iload (pc := 478) h 2 rfl dL_rules_478 ?_
                    refine vl_if_eq_f (pc := 480) (tgt := 517) h (by decide) (by decide) dL_rules_480 ?_
                    refine vl_iload (pc := 483) h 6 rfl dL_rules_483 ?_
                    refine vl_iload (pc := 485) h 0 rfl dL_rules_485 ?_
                    have hmd := Nat.mod_lt v (show 0 < d by omega)
                    refine vl_irem (pc := 487) (v := nI (v % d)) h (nI_ne0 (by omega) (by omega)) (pk_rem (by omega) (by omega) (by omega)) dL_rules_487 ?_
                    refine vl_if_ne (pc := 488) (tgt := 508) h (by decide) dL_rules_488 (fun c488 => ?_) (fun c488 => ?_)
                    · skip
                      rw [zI0, nI_eq (by omega) (by omega)] at c488
                      have hnd : v % d = 0 → ((mS S (n % nLi S)) d && !svU (mS S (n % nLi S)) d d) = false := fun z => absurd z c488
                      refine vl_iconst (pc := 508) (v := nI 0) h (by decide) dL_rules_508 ?_
                      refine vl_istore (pc := 509) (lo2 := [(15, .int (nI 0)), (16, .int (nI d)), (9, .int (nI 1)), (14, .int (zB (!svU (mS S (n % nLi S)) v v))), (13, .int (nI 1)), (12, .int (nI 1)), (11, .int (nI v)), (10, .int (nI k)), (0, .ref (G.2.1 + 0)), (1, .ref (K.2.1 + 0)), (2, .int (nI n)), (3, .int (nI (nLi S))), (4, .int (nI (n % nLi S))), (5, .int (nI (n / 12 % nLi S)))]) h (by decide) rfl dL_rules_509 ?_
                      refine vl_iinc (pc := 511) (v := nI (d + 1)) (lo2 := [(16, .int (nI (d + 1))), (15, .int (nI 0)), (9, .int (nI 1)), (14, .int (zB (!svU (mS S (n % nLi S)) v v))), (13, .int (nI 1)), (12, .int (nI 1)), (11, .int (nI v)), (10, .int (nI k)), (0, .ref (G.2.1 + 0)), (1, .ref (K.2.1 + 0)), (2, .int (nI n)), (3, .int (nI (nLi S))), (4, .int (nI (n % nLi S))), (5, .int (nI (n / 12 % nLi S)))]) h 1 rfl (iinc1 _) (by decide) rfl dL_rules_511 ?_
                      refine vl_goto (pc := 514) (tgt := 458) h (by decide) dL_rules_514 ?_
                      have hno2 : ∀ e, 2 ≤ e → e < d + 1 → v % e = 0 → ((mS S (n % nLi S)) e && !svU (mS S (n % nLi S)) e e) = false := fun e g1 g2 g3 => by
                        by_cases z : e = d
                        · rw [z]; rw [z] at g3; exact hnd g3
                        · exact hno e g1 (by omega) g3
                      exact vl_wd (by omega) (ih458 (d + 1) (by omega) (Or.inl (by omega)) hno2 (by omega))
                    · skip
                      rw [zI0, nI_eq (by omega) (by omega)] at c488
                      rcases ek : ((mS S (n % nLi S)) d && !svU (mS S (n % nLi S)) d d) with _ | _
                      · skip
                        have hnd : v % d = 0 → ((mS S (n % nLi S)) d && !svU (mS S (n % nLi S)) d d) = false := fun _ => ek
                        refine vl_aload_n (pc := 491) h 8 rfl rfl dL_rules_491 ?_
                        refine vl_iload_n (pc := 492) h 11 rfl rfl dL_rules_492 ?_
                        refine vl_iconst (pc := 493) (v := nI 3) h (by decide) dL_rules_493 ?_
                        refine vl_iadd (pc := 494) (v := nI ((nLi S) + 3)) h (nI_add _ _) dL_rules_494 ?_
                        refine vl_iload (pc := 495) h 0 rfl dL_rules_495 ?_
                        refine wWo (pc := 497) (As := [.ref (G.2.1 + 0), .int (nI ((nLi S) + 3)), .int (nI d)]) (st := []) (r2 := nI 0) (u2 := 40 + 1020 * k + 12 + 2 * (d - 2) + 2) h2 h hE hX lkw_252 (kc_is hst G S4 (nI ((nLi S) + 3)) (nI d) (sc0 (li_s (S := S4) (i := nLi S + 3) (by omega) (by omega)) (in_t (by omega) (by omega) (by omega)))) ((isT (by omega) (by omega) ((ru6 d (by omega)).trans ek)).trans rfl) rfl rfl (by decide) rfl (Nat.le_of_ble_eq_true rfl) ⟨by show _ + 2 ≤ _; omega, by show _ ≤ 12400; omega⟩ dL_rules_497 ?_
                        refine vl_iconst (pc := 500) (v := nI 1) h (by decide) dL_rules_500 ?_
                        refine vl_icmp_ne_t (pc := 501) (tgt := 508) h (by decide) (by decide) dL_rules_501 ?_
                        refine vl_iconst (pc := 508) (v := nI 0) h (by decide) dL_rules_508 ?_
                        refine vl_istore (pc := 509) (lo2 := [(15, .int (nI 0)), (16, .int (nI d)), (9, .int (nI 1)), (14, .int (zB (!svU (mS S (n % nLi S)) v v))), (13, .int (nI 1)), (12, .int (nI 1)), (11, .int (nI v)), (10, .int (nI k)), (0, .ref (G.2.1 + 0)), (1, .ref (K.2.1 + 0)), (2, .int (nI n)), (3, .int (nI (nLi S))), (4, .int (nI (n % nLi S))), (5, .int (nI (n / 12 % nLi S)))]) h (by decide) rfl dL_rules_509 ?_
                        refine vl_iinc (pc := 511) (v := nI (d + 1)) (lo2 := [(16, .int (nI (d + 1))), (15, .int (nI 0)), (9, .int (nI 1)), (14, .int (zB (!svU (mS S (n % nLi S)) v v))), (13, .int (nI 1)), (12, .int (nI 1)), (11, .int (nI v)), (10, .int (nI k)), (0, .ref (G.2.1 + 0)), (1, .ref (K.2.1 + 0)), (2, .int (nI n)), (3, .int (nI (nLi S))), (4, .int (nI (n % nLi S))), (5, .int (nI (n / 12 % nLi S)))]) h 1 rfl (iinc1 _) (by decide) rfl dL_rules_511 ?_
                        refine vl_goto (pc := 514) (tgt := 458) h (by decide) dL_rules_514 ?_
                        have hno2 : ∀ e, 2 ≤ e → e < d + 1 → v % e = 0 → ((mS S (n % nLi S)) e && !svU (mS S (n % nLi S)) e e) = false := fun e g1 g2 g3 => by
                          by_cases z : e = d
                          · rw [z]; rw [z] at g3; exact hnd g3
                          · exact hno e g1 (by omega) g3
                        exact vl_wd (by omega) (ih458 (d + 1) (by omega) (Or.inl (by omega)) hno2 (by omega))
                      · skip
                        have hs : svU (mS S (n % nLi S)) v v = true := sv_yes (by omega) (by omega) ek c488
                        refine vl_aload_n (pc := 491) h 8 rfl rfl dL_rules_491 ?_
                        refine vl_iload_n (pc := 492) h 11 rfl rfl dL_rules_492 ?_
                        refine vl_iconst (pc := 493) (v := nI 3) h (by decide) dL_rules_493 ?_
                        refine vl_iadd (pc := 494) (v := nI ((nLi S) + 3)) h (nI_add _ _) dL_rules_494 ?_
                        refine vl_iload (pc := 495) h 0 rfl dL_rules_495 ?_
                        refine wWo (pc := 497) (As := [.ref (G.2.1 + 0), .int (nI ((nLi S) + 3)), .int (nI d)]) (st := []) (r2 := nI 1) (u2 := 40 + 1020 * k + 12 + 2 * (d - 2) + 2) h2 h hE hX lkw_252 (kc_is hst G S4 (nI ((nLi S) + 3)) (nI d) (sc0 (li_s (S := S4) (i := nLi S + 3) (by omega) (by omega)) (in_t (by omega) (by omega) (by omega)))) ((isT (by omega) (by omega) ((ru6 d (by omega)).trans ek)).trans rfl) rfl rfl (by decide) rfl (Nat.le_of_ble_eq_true rfl) ⟨by show _ + 2 ≤ _; omega, by show _ ≤ 12400; omega⟩ dL_rules_497 ?_
                        refine vl_iconst (pc := 500) (v := nI 1) h (by decide) dL_rules_500 ?_
                        refine vl_icmp_ne_f (pc := 501) (tgt := 508) h rfl (by decide) dL_rules_501 ?_
                        refine vl_iconst (pc := 504) (v := nI 1) h (by decide) dL_rules_504 ?_
                        refine vl_goto (pc := 505) (tgt := 509) h (by decide) dL_rules_505 ?_
                        refine vl_istore (pc := 509) (lo2 := [(15, .int (nI 1)), (16, .int (nI d)), (9, .int (nI 1)), (14, .int (zB (!svU (mS S (n % nLi S)) v v))), (13, .int (nI 1)), (12, .int (nI 1)), (11, .int (nI v)), (10, .int (nI k)), (0, .ref (G.2.1 + 0)), (1, .ref (K.2.1 + 0)), (2, .int (nI n)), (3, .int (nI (nLi S))), (4, .int (nI (n % nLi S))), (5, .int (nI (n / 12 % nLi S)))]) h (by decide) rfl dL_rules_509 ?_
                        refine vl_iinc (pc := 511) (v := nI (d + 1)) (lo2 := [(16, .int (nI (d + 1))), (15, .int (nI 1)), (9, .int (nI 1)), (14, .int (zB (!svU (mS S (n % nLi S)) v v))), (13, .int (nI 1)), (12, .int (nI 1)), (11, .int (nI v)), (10, .int (nI k)), (0, .ref (G.2.1 + 0)), (1, .ref (K.2.1 + 0)), (2, .int (nI n)), (3, .int (nI (nLi S))), (4, .int (nI (n % nLi S))), (5, .int (nI (n / 12 % nLi S)))]) h 1 rfl (iinc1 _) (by decide) rfl dL_rules_511 ?_
                        refine vl_goto (pc := 514) (tgt := 458) h (by decide) dL_rules_514 ?_
                        refine vl_iload (pc := 458) h 0 rfl dL_rules_458 ?_
                        refine vl_iconst (pc := 460) (v := nI 2) h (by decide) dL_rules_460 ?_
                        refine vl_imul (pc := 461) (v := nI ((d + 1) * 2)) h (pk_mul _ _) dL_rules_461 ?_
                        refine vl_iload (pc := 462) h 6 rfl dL_rules_462 ?_
                        refine vl_icmp_gt (pc := 464) (tgt := 517) h (by decide) dL_rules_464 (fun c464 => ?_) (fun c464 => ?_)
                        · skip
                          rw [nI_ltI (by omega) (by omega)] at c464
                          refine vl_iload (pc := 517) h 2 rfl dL_rules_517 ?_
                          refine vl_if_eq_f (pc := 519) (tgt := 538) h (by decide) (by decide) dL_rules_519 ?_
                          refine vl_iload (pc := 522) h 3 rfl dL_rules_522 ?_
                          refine vl_iload (pc := 524) h 5 rfl dL_rules_524 ?_
                          refine vl_iconst (pc := 526) (v := nI 1) h (by decide) dL_rules_526 ?_
                          refine vl_iload (pc := 527) h 1 rfl dL_rules_527 ?_
                          refine vl_isub (pc := 529) (v := nI (1 - 1)) h (pk_sub (by omega)) dL_rules_529 ?_
                          refine vl_imul (pc := 530) (v := nI (1 * (1 - 1))) h (pk_mul _ _) dL_rules_530 ?_
                          refine vl_icmp_ne_f (pc := 531) (tgt := 538) h (by rw [hs]; rfl) (by decide) dL_rules_531 ?_
                          refine vl_iconst (pc := 534) (v := nI 1) h (by decide) dL_rules_534 ?_
                          refine vl_goto (pc := 535) (tgt := 539) h (by decide) dL_rules_535 ?_
                          refine vl_istore (pc := 539) (lo2 := [(9, .int (nI 1)), (16, .int (nI (d + 1))), (15, .int (nI 1)), (14, .int (zB (!svU (mS S (n % nLi S)) v v))), (13, .int (nI 1)), (12, .int (nI 1)), (11, .int (nI v)), (10, .int (nI k)), (0, .ref (G.2.1 + 0)), (1, .ref (K.2.1 + 0)), (2, .int (nI n)), (3, .int (nI (nLi S))), (4, .int (nI (n % nLi S))), (5, .int (nI (n / 12 % nLi S)))]) h (by decide) rfl dL_rules_539 ?_
                          refine vl_iinc (pc := 541) (v := nI (k + 1)) (lo2 := [(10, .int (nI (k + 1))), (9, .int (nI 1)), (16, .int (nI (d + 1))), (15, .int (nI 1)), (14, .int (zB (!svU (mS S (n % nLi S)) v v))), (13, .int (nI 1)), (12, .int (nI 1)), (11, .int (nI v)), (0, .ref (G.2.1 + 0)), (1, .ref (K.2.1 + 0)), (2, .int (nI n)), (3, .int (nI (nLi S))), (4, .int (nI (n % nLi S))), (5, .int (nI (n / 12 % nLi S)))]) h 7 rfl (iinc1 _) (by decide) rfl dL_rules_541 ?_
                          refine vl_goto (pc := 544) (tgt := 317) h (by decide) dL_rules_544 ?_
                          refine vl_sub [0, 1, 8, 9, 10, 11, 12, 13] rfl ?_
                          exact vl_wd (by omega) (ih317 (k + 1) (by omega) (by omega))
                        · skip
                          rw [nI_ltI (by omega) (by omega)] at c464
                          refine vl_iload (pc := 467) h 1 rfl dL_rules_467 ?_
                          refine vl_if_ne_t (pc := 469) (tgt := 517) h (by decide) (by decide) dL_rules_469 ?_
                          refine vl_iload (pc := 517) h 2 rfl dL_rules_517 ?_
                          refine vl_if_eq_f (pc := 519) (tgt := 538) h (by decide) (by decide) dL_rules_519 ?_
                          refine vl_iload (pc := 522) h 3 rfl dL_rules_522 ?_
                          refine vl_iload (pc := 524) h 5 rfl dL_rules_524 ?_
                          refine vl_iconst (pc := 526) (v := nI 1) h (by decide) dL_rules_526 ?_
                          refine vl_iload (pc := 527) h 1 rfl dL_rules_527 ?_
                          refine vl_isub (pc := 529) (v := nI (1 - 1)) h (pk_sub (by omega)) dL_rules_529 ?_
                          refine vl_imul (pc := 530) (v := nI (1 * (1 - 1))) h (pk_mul _ _) dL_rules_530 ?_
                          refine vl_icmp_ne_f (pc := 531) (tgt := 538) h (by rw [hs]; rfl) (by decide) dL_rules_531 ?_
                          refine vl_iconst (pc := 534) (v := nI 1) h (by decide) dL_rules_534 ?_
                          refine vl_goto (pc := 535) (tgt := 539) h (by decide) dL_rules_535 ?_
                          refine vl_istore (pc := 539) (lo2 := [(9, .int (nI 1)), (16, .int (nI (d + 1))), (15, .int (nI 1)), (14, .int (zB (!svU (mS S (n % nLi S)) v v))), (13, .int (nI 1)), (12, .int (nI 1)), (11, .int (nI v)), (10, .int (nI k)), (0, .ref (G.2.1 + 0)), (1, .ref (K.2.1 + 0)), (2, .int (nI n)), (3, .int (nI (nLi S))), (4, .int (nI (n % nLi S))), (5, .int (nI (n / 12 % nLi S)))]) h (by decide) rfl dL_rules_539 ?_
                          refine vl_iinc (pc := 541) (v := nI (k + 1)) (lo2 := [(10, .int (nI (k + 1))), (9, .int (nI 1)), (16, .int (nI (d + 1))), (15, .int (nI 1)), (14, .int (zB (!svU (mS S (n % nLi S)) v v))), (13, .int (nI 1)), (12, .int (nI 1)), (11, .int (nI v)), (0, .ref (G.2.1 + 0)), (1, .ref (K.2.1 + 0)), (2, .int (nI n)), (3, .int (nI (nLi S))), (4, .int (nI (n % nLi S))), (5, .int (nI (n / 12 % nLi S)))]) h 7 rfl (iinc1 _) (by decide) rfl dL_rules_541 ?_
                          refine vl_goto (pc := 544) (tgt := 317) h (by decide) dL_rules_544 ?_
                          refine vl_sub [0, 1, 8, 9, 10, 11, 12, 13] rfl ?_
                          exact vl_wd (by omega) (ih317 (k + 1) (by omega) (by omega))
              exact vl_wd (by omega) (lp458 _ 2 (by omega) (Or.inr rfl) (fun e g1 g2 => absurd g2 (by omega)) (Nat.lt_succ_self _))
    refine vl_sub [0, 1, 8, 9, 10, 7, 6, 5] rfl ?_
    exact vl_wd (by omega) (lp317 _ 0 (by omega) (Nat.lt_succ_self _))
  · skip
    rw [nI_leI (by omega) (by omega)] at c8
    refine vl_iconst (pc := 11) (v := nI 1) h (by decide) dL_rules_11 ?_
    have e9 : rlT S n = S := by
      unfold rlT
      exact if_neg c8
    rw [e9] at hret
    exact vl_wd (by decide) (hret 12 _ dL_rules_12)

