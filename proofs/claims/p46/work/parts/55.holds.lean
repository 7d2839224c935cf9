/-! THE LAW: holds -/
theorem lst_z {M : Nat → Bool} (h : cS M 1000 = 0) : lstB M 1000 = none := by
  cases e : lstB M 1000 with
  | none => rfl
  | some w =>
    obtain ⟨h1, h2⟩ := lst_lt e
    have h5 := cS_mono M (show w + 1 ≤ 1000 by omega)
    rw [cS, if_pos h2] at h5
    omega
theorem lst_top {M : Nat → Bool} {w : Nat} : ∀ {n : Nat}, lstB M n = some w → cS M n = cS M (w + 1)
  | 0, h => by cases h
  | n + 1, h => by
    rw [lstB] at h
    by_cases e : M n = true
    · rw [if_pos e] at h; cases h; rfl
    · rw [if_neg e] at h
      rw [cS, if_neg e, lst_top h]; rfl
theorem lst_some {M : Nat → Bool} (h : 0 < cS M 1000) : ∃ w, lstB M 1000 = some w := by
  cases e : lstB M 1000 with
  | none =>
    have := cS_none (S := M) (n := 1000) (lst_no e)
    omega
  | some w => exact ⟨w, rfl⟩
theorem lst_at {M : Nat → Bool} {w : Nat} (h : lstB M 1000 = some w) : w < 1000 ∧ M w = true ∧ cS M w = cS M 1000 - 1 ∧ ath M (cS M 1000 - 1) = some w := by
  obtain ⟨h1, h2⟩ := lst_lt h
  have h3 := lst_top h
  have h4 : cS M w = cS M 1000 - 1 := by
    rw [h3, cS, if_pos h2]; omega
  exact ⟨h1, h2, h4, ath_some h1 h2 h4⟩
theorem ath_far {M : Nat → Bool} {p q : Nat} (h : ath M p = none) (hq : p ≤ q) : ath M q = none := ath_none (Nat.le_trans (ath_specN h) hq)
theorem ath_mono {M : Nat → Bool} {p q w z : Nat} (h : ath M p = some w) (h2 : ath M q = some z) (hq : p < q) : w < z := by
  obtain ⟨a1, a2, a3⟩ := ath_spec h
  obtain ⟨b1, b2, b3⟩ := ath_spec h2
  rcases Nat.lt_or_ge w z with g | g
  · exact g
  · have := cS_mono M g; omega
theorem ath_lt9 {M : Nat → Bool} {p w : Nat} (h : ath M p = some w) : p < cS M 1000 := by
  obtain ⟨a1, a2, a3⟩ := ath_spec h
  have := cS_mono M (show w + 1 ≤ 1000 by omega)
  rw [cS, if_pos a2] at this
  omega
theorem gp_up (M : Nat → Bool) : ∀ (n k : Nat), (gp M n).2 ≤ (gp M (n + k)).2
  | n, 0 => Nat.le_refl _
  | n, k + 1 => by
    refine Nat.le_trans (gp_up M n k) ?_
    rw [← Nat.add_assoc, gp]
    by_cases e : M (n + k) = true
    · rw [if_pos e]
      cases g : (gp M (n + k)).1 with
      | none => exact Nat.le_refl _
      | some l => dsimp only; omega
    · rw [if_neg e]; exact Nat.le_refl _
/-- one member and the next -/
theorem ath_nx {M : Nat → Bool} {p w z : Nat} (h : ath M p = some w) (h2 : ath M (p + 1) = some z) : w < z ∧ z < 1000 ∧ (∀ u, w < u → u < z → M u = false) ∧ z - w ≤ (gp M 1000).2 := by
  obtain ⟨a1, a2, a3⟩ := ath_spec h
  have e1 : cS M (w + 1) = p + 1 := by rw [cS, if_pos a2, a3]
  have e2 : nxt M (w + 1) = some z := (nxt_ath e1 (by omega)).trans h2
  obtain ⟨b1, b2, b3, b4⟩ := nxt_spec e2
  obtain ⟨c1, -, -⟩ := gp_step a2 e2
  refine ⟨by omega, b2, fun u g1 g2 => b4 u (by omega) g2, ?_⟩
  obtain ⟨k, hk⟩ := Nat.le.dest (show z + 1 ≤ 1000 by omega)
  have := gp_up M (z + 1) k
  rw [hk, c1] at this
  omega
theorem plY {S : Cs} {i v p : Nat} {c : Int32} (hi : i < 2 ^ 31) (hv : v < 2 ^ 31) (h : mS S i v = true) (hp : cS (mS S i) v = p) : vK_19 S (nI i) (nI v) c = nI p := by
  show (if mem (aU (sA S)) (toN (nI i)) (toN (nI v)) then nI (cS (mem (aU (sA S)) (toN (nI i))) (toN (nI v) + 1) - 1) else -1) = _
  rw [toN_nI hi, toN_nI hv, if_pos h, cS, if_pos h, hp]
  rfl
theorem plN {S : Cs} {i v : Nat} {c : Int32} (hi : i < 2 ^ 31) (hv : v < 2 ^ 31) (h : mS S i v = false) : vK_19 S (nI i) (nI v) c = -1 := by
  show (if mem (aU (sA S)) (toN (nI i)) (toN (nI v)) then nI (cS (mem (aU (sA S)) (toN (nI i))) (toN (nI v) + 1) - 1) else -1) = _
  rw [toN_nI hi, toN_nI hv, if_neg (by rw [show mem (aU (sA S)) i v = false from h]; decide)]
theorem upV2 {S : Cs} {i v p : Nat} {c : Int32} (hi : i < 2 ^ 31) (hv : v < 2 ^ 31) (h : mS S i v = true) (hp : cS (mS S i) v = p) : vK_20 S (nI i) (nI v) c = nI (p + 1) := by
  show nI (cS (mem (aU (sA S)) (toN (nI i))) (toN (nI v) + 1)) = _
  rw [toN_nI hi, toN_nI hv, cS, if_pos h, hp]
theorem gapS {S : Cs} {i : Nat} {b c : Int32} (hi : i < 2 ^ 31) : vK_23 S (nI i) b c = nI (gp (mS S i) 1000).2 := by
  show nI (gp (mem (aU (sA S)) (toN (nI i))) 1000).2 = _
  rw [toN_nI hi]
theorem cS_an (M N : Nat → Bool) : ∀ n, cS (fun v => M v && N v) n ≤ cS M n ∧ cS (fun v => M v && N v) n ≤ cS N n
  | 0 => ⟨Nat.le_refl _, Nat.le_refl _⟩
  | n + 1 => by
    have := cS_an M N n
    simp only [cS]
    by_cases a : M n = true <;> by_cases b : N n = true <;> simp [a, b] <;> omega
theorem an_comm (M N : Nat → Bool) : nxt (fun v => N v && M v) 0 = nxt (fun v => M v && N v) 0 := nxt_cong (fun v _ => Bool.and_comm _ _)
theorem nxt_pos {M : Nat → Bool} {w : Nat} (h : nxt M 0 = some w) : 0 < cS M 1000 := by
  obtain ⟨-, h1, h2, -⟩ := nxt_spec h
  have := cS_mono M (show w + 1 ≤ 1000 by omega)
  rw [cS, if_pos h2] at this
  omega
theorem nxt_zero {M : Nat → Bool} (h : nxt M 0 = none) : cS M 1000 = 0 := cS_none (fun k hk => nxt_specN h k (Nat.zero_le _) hk)
theorem lstN_2 (A : Ab) : ∀ n, ((lstN A n).1 = none ∧ (lstN A n).2 = 1000) ∨ ∃ q, (lstN A n).1 = some q ∧ q < n ∧ nextO A q = some (lstN A n).2
  | 0 => Or.inl ⟨rfl, rfl⟩
  | n + 1 => by
    cases e : nextO A n with
    | none =>
      rw [lstN_none e]
      rcases lstN_2 A n with h | ⟨q, h1, h2, h3⟩
      · exact Or.inl h
      · exact Or.inr ⟨q, h1, by omega, h3⟩
    | some v =>
      rcases Nat.lt_or_ge v (lstN A n).2 with g | g
      · rw [lstN_lt e g]; exact Or.inr ⟨n, rfl, by omega, e⟩
      · rw [lstN_ge e g]
        rcases lstN_2 A n with h | ⟨q, h1, h2, h3⟩
        · exact Or.inl h
        · exact Or.inr ⟨q, h1, by omega, h3⟩
theorem lstN_3 (A : Ab) {r z : Nat} (h : nextO A r = some z) : ∀ n, r < n → (lstN A n).2 ≤ z
  | 0, hr => absurd hr (Nat.not_lt_zero r)
  | n + 1, hr => by
    cases e : nextO A n with
    | none =>
      rw [lstN_none e]
      refine lstN_3 A h n ?_
      rcases Nat.lt_or_ge r n with g | g
      · exact g
      · rw [show r = n by omega] at h; rw [e] at h; cases h
    | some v =>
      rcases Nat.lt_or_ge v (lstN A n).2 with g | g
      · rw [lstN_lt e g]
        show v ≤ z
        rcases Nat.lt_or_ge r n with g2 | g2
        · have := lstN_3 A h n g2; omega
        · rw [show r = n by omega, e] at h; cases h; exact Nat.le_refl _
      · rw [lstN_ge e g]
        rcases Nat.lt_or_ge r n with g2 | g2
        · exact lstN_3 A h n g2
        · rw [show r = n by omega, e] at h; cases h; exact g
theorem lstN_4 (A : Ab) {r z n : Nat} (h : nextO A r = some z) (hr : r < n) : ∃ q y, (lstN A n).1 = some q ∧ q < n ∧ nextO A q = some y ∧ y ≤ z := by
  have h3 := lstN_3 A h n hr
  have hz := (ath_spec h).1
  rcases lstN_2 A n with ⟨-, g⟩ | ⟨q, g1, g2, g3⟩
  · omega
  · exact ⟨q, _, g1, g2, g3, h3⟩
theorem sk0 {S : Cs} {r z : Nat} {c : Int32} (hr : r < 2 ^ 31) (h : nextO (sA S) r = some z) : vK_31 S (nI r) (nI z) c = nI 0 := by
  obtain ⟨h1, h2, h3⟩ := ath_spec h
  show skU (sA S) (toN (nI r)) (toN (nI z)) = _
  rw [toN_nI hr, toN_nI (by omega)]
  unfold skU
  rw [h3, Nat.max_self, show ath (mem (aU (sA S)) (aL (sA S) r)) (aP (sA S) r) = some z from h, Nat.sub_self]
theorem nextV {S : Cs} {r : Nat} {b c : Int32} (hr : r < 2 ^ 31) : vK_26 S (nI r) b c = oI (nextO (sA S) r) := by
  show oI (nextO (sA S) (toN (nI r))) = _
  rw [toN_nI hr]
theorem lofV {S : Cs} {r : Nat} {b c : Int32} (hr : r < 2 ^ 31) : vK_24 S (nI r) b c = nI (aL (sA S) r) := by
  show nI (aL (sA S) (toN (nI r))) = _
  rw [toN_nI hr]
theorem sofV {S : Cs} {r : Nat} {b c : Int32} (hr : r < 2 ^ 31) : vK_25 S (nI r) b c = nI (aP (sA S) r) := by
  show nI (aP (sA S) (toN (nI r))) = _
  rw [toN_nI hr]
theorem wkV {S : Cs} {p : Nat} {b c : Int32} (hp : p < 2 ^ 31) : vK_27 S (nI p) b c = nI (fpN p) := by
  show nI (fpN (toN (nI p))) = _
  rw [toN_nI hp]
theorem ckV {S : Cs} {p : Nat} {b c : Int32} (hp : p < 2 ^ 31) : vK_28 S (nI p) b c = nI (fpN p) := by
  show nI (fpN (toN (nI p))) = _
  rw [toN_nI hp]
theorem prV {S : Cs} {a b : Nat} {c : Int32} (ha : a < 2 ^ 31) (hb : b < 2 ^ 31) : vK_29 S (nI a) (nI b) c = nI (triN (a + b) + a) := by
  show nI (triN (toN (nI a) + toN (nI b)) + toN (nI a)) = _
  rw [toN_nI ha, toN_nI hb]
theorem tri_ex {p : Nat} : ∀ c, p < triN c → ∃ d, d < c ∧ triN d ≤ p ∧ p < triN (d + 1)
  | 0, h => absurd h (Nat.not_lt_zero p)
  | c + 1, h => by
    rcases Nat.lt_or_ge p (triN c) with g | g
    · obtain ⟨d, h1, h2⟩ := tri_ex c g
      exact ⟨d, by omega, h2⟩
    · exact ⟨c, by omega, g, h⟩
theorem fp_lt {p : Nat} (hp : p < 100000) : fpN p < 2000 := by
  obtain ⟨d, h1, h2, h3⟩ := tri_ex (p := p) 448 (by rw [tri_447]; omega)
  rw [fp_eq hp h2 h3]
  rw [triN] at h3
  omega
theorem zBn {b : Bool} (h : b = true) : ¬ zB (!b) = nI 1 := by subst h; decide
theorem tri200 : triN 200 = 20100 := by decide +kernel
set_option maxRecDepth 100000 in
set_option maxHeartbeats 4000000 in
theorem n_holds (l : Launch) (hst : l.stackTraces = false) (G : Gl) (S : Cs) (n : Nat) (hn : n < 2 ^ 31) (h1 : 1 ≤ nLi S) : KL l yL_holds cL_holds 20 .boolean ({ frames := 10, cells := 400, slots := 2400, locals := 184 } : Room) G [.ref (G.2.1 + 0), .int (nI n)] S (nI 1) S := by
  refine KL_of rfl (by decide +kernel) (lo := [(0, .ref (G.2.1 + 0)), (1, .int (nI n))]) rfl (Nat.le_of_ble_eq_true rfl) rfl (rfl) ?_
  intro x Q hxl h hE hX hret
  subst hxl
  refine vl_fact (fun H hH => W1.ok hH) (fun ok => ?_)
  have hN := ok_N ok
  have hR := ok_R ok
  have hm14 := ok_m ok
  refine vl_aload_n (pc := 0) h 0 rfl rfl dL_holds_0 ?_
  refine wV1 (pc := 1) (As := []) (st := []) (r2 := nI (nLi S)) (u2 := 0) h hE lk_RL_242 (kv_lists (S := S)) rfl rfl rfl (by decide) rfl (Nat.le_of_ble_eq_true rfl) (by decide) dL_holds_1 ?_
  refine vl_istore_n (pc := 4) (lo2 := [(2, .int (nI (nLi S))), (0, .ref (G.2.1 + 0)), (1, .int (nI n))]) h rfl (by decide) rfl dL_holds_4 ?_
  refine vl_aload_n (pc := 5) h 1 rfl rfl dL_holds_5 ?_
  refine wV1 (pc := 6) (As := []) (st := []) (r2 := nI (nRd S)) (u2 := 0) h hE lk_RL_245 (kv_readers (S := S)) rfl rfl rfl (by decide) rfl (Nat.le_of_ble_eq_true rfl) (by decide) dL_holds_6 ?_
  refine vl_istore_n (pc := 9) (lo2 := [(3, .int (nI (nRd S))), (2, .int (nI (nLi S))), (0, .ref (G.2.1 + 0)), (1, .int (nI n))]) h rfl (by decide) rfl dL_holds_9 ?_
  have hiN := Nat.mod_lt n (show 0 < nLi S by omega)
  have hjN := Nat.mod_lt (n / 12) (show 0 < nLi S by omega)
  refine vl_iload_n (pc := 10) h 3 rfl rfl dL_holds_10 ?_
  refine vl_iload_n (pc := 11) h 1 rfl rfl dL_holds_11 ?_
  refine vl_irem (pc := 12) (v := nI (n % (nLi S))) h (nI_ne0 (by omega) (by omega)) (pk_rem (by omega) (by omega) (by omega)) dL_holds_12 ?_
  refine vl_istore (pc := 13) (lo2 := [(4, .int (nI (n % (nLi S)))), (3, .int (nI (nRd S))), (2, .int (nI (nLi S))), (0, .ref (G.2.1 + 0)), (1, .int (nI n))]) h (by decide) rfl dL_holds_13 ?_
  refine vl_iload_n (pc := 15) h 4 rfl rfl dL_holds_15 ?_
  refine vl_bipush (pc := 16) (v := nI 12) h (by decide) dL_holds_16 ?_
  refine vl_idiv (pc := 18) (v := nI (n / 12)) h (by decide) (pk_div (by omega) (by omega) (by omega)) dL_holds_18 ?_
  refine vl_iload_n (pc := 19) h 2 rfl rfl dL_holds_19 ?_
  refine vl_irem (pc := 20) (v := nI ((n / 12) % (nLi S))) h (nI_ne0 (by omega) (by omega)) (pk_rem (by omega) (by omega) (by omega)) dL_holds_20 ?_
  refine vl_istore (pc := 21) (lo2 := [(5, .int (nI ((n / 12) % (nLi S)))), (4, .int (nI (n % (nLi S)))), (3, .int (nI (nRd S))), (2, .int (nI (nLi S))), (0, .ref (G.2.1 + 0)), (1, .int (nI n))]) h (by decide) rfl dL_holds_21 ?_
  refine vl_aload_n (pc := 23) h 4 rfl rfl dL_holds_23 ?_
  refine vl_bipush (pc := 24) (v := nI 20) h (by decide) dL_holds_24 ?_
  refine vl_iload (pc := 26) h 1 rfl dL_holds_26 ?_
  refine vl_sipush (pc := 28) (v := nI 999) h (by decide) dL_holds_28 ?_
  refine vl_iconst (pc := 31) (v := nI 0) h (by decide) dL_holds_31 ?_
  refine wS1 (pc := 32) (As := [.ref (G.2.1 + 0), .int (nI 20), .int (nI (n % (nLi S))), .int (nI 999), .int (nI 0)]) (st := []) (r2 := nI (cS (mS S (n % nLi S)) 1000)) (u2 := 2) h hE hX lk_RL_248 (kc_20 hst G S (nI (n % (nLi S))) (nI 999) (nI 0) (sc0 (li_s (S := S) (i := n % nLi S) hiN hN) (in_t (by omega) (by omega) (by omega)))) (upT (S := S) (by omega) (fun _ _ => rfl)) rfl rfl (by decide) rfl (Nat.le_of_ble_eq_true rfl) (by decide) dL_holds_32 ?_
  refine vl_istore (pc := 35) (lo2 := [(6, .int (nI (cS (mS S (n % nLi S)) 1000))), (5, .int (nI ((n / 12) % (nLi S)))), (4, .int (nI (n % (nLi S)))), (3, .int (nI (nRd S))), (2, .int (nI (nLi S))), (0, .ref (G.2.1 + 0)), (1, .int (nI n))]) h (by decide) rfl dL_holds_35 ?_
  refine vl_aload_n (pc := 37) h 5 rfl rfl dL_holds_37 ?_
  refine vl_bipush (pc := 38) (v := nI 20) h (by decide) dL_holds_38 ?_
  refine vl_iload (pc := 40) h 1 rfl dL_holds_40 ?_
  refine vl_sipush (pc := 42) (v := nI 999) h (by decide) dL_holds_42 ?_
  refine vl_iconst (pc := 45) (v := nI 0) h (by decide) dL_holds_45 ?_
  refine wS1 (pc := 46) (As := [.ref (G.2.1 + 0), .int (nI 20), .int (nI ((n / 12) % (nLi S))), .int (nI 999), .int (nI 0)]) (st := []) (r2 := nI (cS (mS S (n / 12 % nLi S)) 1000)) (u2 := 4) h hE hX lk_RL_248 (kc_20 hst G S (nI ((n / 12) % (nLi S))) (nI 999) (nI 0) (sc0 (li_s (S := S) (i := n / 12 % nLi S) hjN hN) (in_t (by omega) (by omega) (by omega)))) (upT (S := S) (by omega) (fun _ _ => rfl)) rfl rfl (by decide) rfl (Nat.le_of_ble_eq_true rfl) (by decide) dL_holds_46 ?_
  refine vl_istore (pc := 49) (lo2 := [(7, .int (nI (cS (mS S (n / 12 % nLi S)) 1000))), (6, .int (nI (cS (mS S (n % nLi S)) 1000))), (5, .int (nI ((n / 12) % (nLi S)))), (4, .int (nI (n % (nLi S)))), (3, .int (nI (nRd S))), (2, .int (nI (nLi S))), (0, .ref (G.2.1 + 0)), (1, .int (nI n))]) h (by decide) rfl dL_holds_49 ?_
  refine vl_aload_n (pc := 51) h 6 rfl rfl dL_holds_51 ?_
  refine vl_bipush (pc := 52) (v := nI 21) h (by decide) dL_holds_52 ?_
  refine vl_iload (pc := 54) h 3 rfl dL_holds_54 ?_
  refine vl_iconst (pc := 56) (v := nI 0) h (by decide) dL_holds_56 ?_
  refine vl_iconst (pc := 57) (v := nI 0) h (by decide) dL_holds_57 ?_
  refine wS1 (pc := 58) (As := [.ref (G.2.1 + 0), .int (nI 21), .int (nI (n % (nLi S))), .int (nI 0), .int (nI 0)]) (st := []) (r2 := oI (lstB (mS S (n % nLi S)) 1000)) (u2 := 5) h hE hX lk_RL_248 (kc_21 hst G S (nI (n % (nLi S))) (nI 0) (nI 0) (cB_t (li_s (S := S) (i := n % nLi S) hiN hN))) (last21 rfl (by omega)) rfl rfl (by decide) rfl (Nat.le_of_ble_eq_true rfl) (by decide) dL_holds_58 ?_
  refine vl_istore (pc := 61) (lo2 := [(8, .int (oI (lstB (mS S (n % nLi S)) 1000))), (7, .int (nI (cS (mS S (n / 12 % nLi S)) 1000))), (6, .int (nI (cS (mS S (n % nLi S)) 1000))), (5, .int (nI ((n / 12) % (nLi S)))), (4, .int (nI (n % (nLi S)))), (3, .int (nI (nRd S))), (2, .int (nI (nLi S))), (0, .ref (G.2.1 + 0)), (1, .int (nI n))]) h (by decide) rfl dL_holds_61 ?_
  have hcn := cS_le (mS S (n % nLi S)) 1000
  have hcm := cS_le (mS S (n / 12 % nLi S)) 1000
  have hoa := cS_oa (mS S (n % nLi S)) (mS S (n / 12 % nLi S)) 1000
  have han := cS_an (mS S (n % nLi S)) (mS S (n / 12 % nLi S)) 1000
  have hcor := cS_le (fun v => (mS S (n % nLi S)) v || (mS S (n / 12 % nLi S)) v) 1000
  refine vl_iload_n (pc := 63) h 6 rfl rfl dL_holds_63 ?_
  refine vl_bipush (pc := 64) (v := nI 12) h (by decide) dL_holds_64 ?_
  refine vl_icmp_gt_f (pc := 66) (tgt := 158) h (by rw [nI_ltI (by omega) (by omega)]; omega) (by decide) dL_holds_66 ?_
  refine vl_iload_n (pc := 69) h 5 rfl rfl dL_holds_69 ?_
  refine vl_iconst (pc := 70) (v := nI 4) h (by decide) dL_holds_70 ?_
  refine vl_icmp_gt_f (pc := 71) (tgt := 158) h (by rw [nI_ltI (by omega) (by omega)]; omega) (by decide) dL_holds_71 ?_
  refine vl_iload (pc := 74) h 2 rfl dL_holds_74 ?_
  have k159 : VP x (bA G) 20 15 Q (W1 G S) 159 [(7, .int (nI (cS (mS S (n / 12 % nLi S)) 1000))), (6, .int (nI (cS (mS S (n % nLi S)) 1000))), (5, .int (nI ((n / 12) % (nLi S)))), (4, .int (nI (n % (nLi S)))), (3, .int (nI (nRd S))), (2, .int (nI (nLi S))), (0, .ref (G.2.1 + 0)), (1, .int (nI n))] [.int (nI 1)] := by
    refine vl_istore (pc := 159) (lo2 := [(9, .int (nI 1)), (7, .int (nI (cS (mS S (n / 12 % nLi S)) 1000))), (6, .int (nI (cS (mS S (n % nLi S)) 1000))), (5, .int (nI ((n / 12) % (nLi S)))), (4, .int (nI (n % (nLi S)))), (3, .int (nI (nRd S))), (2, .int (nI (nLi S))), (0, .ref (G.2.1 + 0)), (1, .int (nI n))]) h (by decide) rfl dL_holds_159 ?_
    refine vl_iconst (pc := 161) (v := (-1)) h (by decide) dL_holds_161 ?_
    refine vl_istore (pc := 162) (lo2 := [(10, .int (-1)), (9, .int (nI 1)), (7, .int (nI (cS (mS S (n / 12 % nLi S)) 1000))), (6, .int (nI (cS (mS S (n % nLi S)) 1000))), (5, .int (nI ((n / 12) % (nLi S)))), (4, .int (nI (n % (nLi S)))), (3, .int (nI (nRd S))), (2, .int (nI (nLi S))), (0, .ref (G.2.1 + 0)), (1, .int (nI n))]) h (by decide) rfl dL_holds_162 ?_
    refine vl_aload_n (pc := 164) h 8 rfl rfl dL_holds_164 ?_
    refine vl_bipush (pc := 165) (v := nI 23) h (by decide) dL_holds_165 ?_
    refine vl_iload (pc := 167) h 5 rfl dL_holds_167 ?_
    refine vl_iconst (pc := 169) (v := nI 0) h (by decide) dL_holds_169 ?_
    refine vl_iconst (pc := 170) (v := nI 0) h (by decide) dL_holds_170 ?_
    refine wS1 (pc := 171) (As := [.ref (G.2.1 + 0), .int (nI 23), .int (nI (n % (nLi S))), .int (nI 0), .int (nI 0)]) (st := []) (r2 := nI (gp (mS S (n % nLi S)) 1000).2) (u2 := 16) h hE hX lk_RL_248 (kc_23 hst G S (nI (n % (nLi S))) (nI 0) (nI 0) (cB_t (li_s (S := S) (i := n % nLi S) hiN hN))) (gapS (by omega)) rfl rfl (by decide) rfl (Nat.le_of_ble_eq_true rfl) (by decide) dL_holds_171 ?_
    refine vl_istore (pc := 174) (lo2 := [(11, .int (nI (gp (mS S (n % nLi S)) 1000).2)), (10, .int (-1)), (9, .int (nI 1)), (7, .int (nI (cS (mS S (n / 12 % nLi S)) 1000))), (6, .int (nI (cS (mS S (n % nLi S)) 1000))), (5, .int (nI ((n / 12) % (nLi S)))), (4, .int (nI (n % (nLi S)))), (3, .int (nI (nRd S))), (2, .int (nI (nLi S))), (0, .ref (G.2.1 + 0)), (1, .int (nI n))]) h (by decide) rfl dL_holds_174 ?_
    refine vl_iconst (pc := 176) (v := nI 0) h (by decide) dL_holds_176 ?_
    refine vl_istore (pc := 177) (lo2 := [(12, .int (nI 0)), (11, .int (nI (gp (mS S (n % nLi S)) 1000).2)), (10, .int (-1)), (9, .int (nI 1)), (7, .int (nI (cS (mS S (n / 12 % nLi S)) 1000))), (6, .int (nI (cS (mS S (n % nLi S)) 1000))), (5, .int (nI ((n / 12) % (nLi S)))), (4, .int (nI (n % (nLi S)))), (3, .int (nI (nRd S))), (2, .int (nI (nLi S))), (0, .ref (G.2.1 + 0)), (1, .int (nI n))]) h (by decide) rfl dL_holds_177 ?_
    have lp179 : ∀ (fu : Nat) (k : Nat) (b : Int32), k ≤ 8 → (∀ z, ath (mS S (n % nLi S)) (n / 7 % 5 + 3 * k) = some z → b < nI z) → 8 - k < fu → VP x (bA G) 20 (20 + 24 * k) Q (W1 G S) 179 [(12, .int (nI k)), (9, .int (nI 1)), (10, .int b), (0, .ref (G.2.1 + 0)), (1, .int (nI n)), (2, .int (nI (nLi S))), (3, .int (nI (nRd S))), (4, .int (nI (n % nLi S))), (5, .int (nI (n / 12 % nLi S))), (6, .int (nI (cS (mS S (n % nLi S)) 1000))), (7, .int (nI (cS (mS S (n / 12 % nLi S)) 1000))), (11, .int (nI (gp (mS S (n % nLi S)) 1000).2))] [] := by
      intro fu
      induction fu with
      | zero => intro k b hk hb hfu; exact absurd hfu (Nat.not_lt_zero _)
      | succ fu ih179 =>
        intro k b hk hb hfu
        refine vl_iload (pc := 179) h 0 rfl dL_holds_179 ?_
        refine vl_bipush (pc := 181) (v := nI 8) h (by decide) dL_holds_181 ?_
        refine vl_icmp_ge (pc := 183) (tgt := 431) h (by decide) dL_holds_183 (fun c183 => ?_) (fun c183 => ?_)
        · skip
          refine vl_aload_n (pc := 431) h 3 rfl rfl dL_holds_431 ?_
          refine vl_bipush (pc := 432) (v := nI 30) h (by decide) dL_holds_432 ?_
          refine vl_iload (pc := 434) h 7 rfl dL_holds_434 ?_
          refine vl_iload (pc := 436) h 8 rfl dL_holds_436 ?_
          refine vl_iconst (pc := 438) (v := nI 0) h (by decide) dL_holds_438 ?_
          refine wS1 (pc := 439) (As := [.ref (G.2.1 + 0), .int (nI 30), .int (nI (n % nLi S)), .int (nI (n / 12 % nLi S)), .int (nI 0)]) (st := []) (r2 := nI (cS (fun v => (mS S (n % nLi S)) v || (mS S (n / 12 % nLi S)) v) 1000)) (u2 := 20 + 24 * k + 2) h hE hX lk_RL_248 (kc_30 hst G S (nI (n % nLi S)) (nI (n / 12 % nLi S)) (nI 0) (sc0 (li_s (S := S) (i := n % nLi S) hiN hN) (li_s (S := S) (i := n / 12 % nLi S) hjN hN))) (jnT (by omega) (by omega) (fun _ _ => rfl) (fun _ _ => rfl)) rfl rfl (by decide) rfl (Nat.le_of_ble_eq_true rfl) ⟨by show _ + 2 ≤ _; omega, by show _ ≤ 400; omega⟩ dL_holds_439 ?_
          refine vl_istore (pc := 442) (lo2 := [(12, .int (nI (cS (fun v => (mS S (n % nLi S)) v || (mS S (n / 12 % nLi S)) v) 1000))), (9, .int (nI 1)), (10, .int b), (0, .ref (G.2.1 + 0)), (1, .int (nI n)), (2, .int (nI (nLi S))), (3, .int (nI (nRd S))), (4, .int (nI (n % nLi S))), (5, .int (nI (n / 12 % nLi S))), (6, .int (nI (cS (mS S (n % nLi S)) 1000))), (7, .int (nI (cS (mS S (n / 12 % nLi S)) 1000))), (11, .int (nI (gp (mS S (n % nLi S)) 1000).2))]) h (by decide) rfl dL_holds_442 ?_
          refine vl_aload_n (pc := 444) h 3 rfl rfl dL_holds_444 ?_
          refine vl_bipush (pc := 445) (v := nI 22) h (by decide) dL_holds_445 ?_
          refine vl_iload (pc := 447) h 7 rfl dL_holds_447 ?_
          refine vl_iload (pc := 449) h 8 rfl dL_holds_449 ?_
          refine vl_iconst (pc := 451) (v := nI 0) h (by decide) dL_holds_451 ?_
          refine wS1 (pc := 452) (As := [.ref (G.2.1 + 0), .int (nI 22), .int (nI (n % nLi S)), .int (nI (n / 12 % nLi S)), .int (nI 0)]) (st := []) (r2 := oI (nxt (fun v => (mS S (n % nLi S)) v && (mS S (n / 12 % nLi S)) v) 0)) (u2 := 20 + 24 * k + 2 + 2) h hE hX lk_RL_248 (kc_22 hst G S (nI (n % nLi S)) (nI (n / 12 % nLi S)) (nI 0) (sc0 (li_s (S := S) (i := n % nLi S) hiN hN) (li_s (S := S) (i := n / 12 % nLi S) hjN hN))) (coT (by omega) (by omega) (fun _ _ => rfl) (fun _ _ => rfl)) rfl rfl (by decide) rfl (Nat.le_of_ble_eq_true rfl) ⟨by show _ + 2 ≤ _; omega, by show _ ≤ 400; omega⟩ dL_holds_452 ?_
          refine vl_istore (pc := 455) (lo2 := [(13, .int (oI (nxt (fun v => (mS S (n % nLi S)) v && (mS S (n / 12 % nLi S)) v) 0))), (12, .int (nI (cS (fun v => (mS S (n % nLi S)) v || (mS S (n / 12 % nLi S)) v) 1000))), (9, .int (nI 1)), (10, .int b), (0, .ref (G.2.1 + 0)), (1, .int (nI n)), (2, .int (nI (nLi S))), (3, .int (nI (nRd S))), (4, .int (nI (n % nLi S))), (5, .int (nI (n / 12 % nLi S))), (6, .int (nI (cS (mS S (n % nLi S)) 1000))), (7, .int (nI (cS (mS S (n / 12 % nLi S)) 1000))), (11, .int (nI (gp (mS S (n % nLi S)) 1000).2))]) h (by decide) rfl dL_holds_455 ?_
          refine vl_iload (pc := 457) h 2 rfl dL_holds_457 ?_
          refine vl_if_eq_f (pc := 459) (tgt := 570) h (by decide) (by decide) dL_holds_459 ?_
          refine vl_iload (pc := 462) h 1 rfl dL_holds_462 ?_
          refine vl_iload (pc := 464) h 10 rfl dL_holds_464 ?_
          refine vl_iload (pc := 466) h 11 rfl dL_holds_466 ?_
          refine vl_iadd (pc := 468) (v := nI ((cS (mS S (n % nLi S)) 1000) + (cS (mS S (n / 12 % nLi S)) 1000))) h (nI_add _ _) dL_holds_468 ?_
          refine vl_icmp_gt_f (pc := 469) (tgt := 570) h (by rw [nI_ltI (by omega) (by omega)]; omega) (by decide) dL_holds_469 ?_
          refine vl_iload (pc := 472) h 1 rfl dL_holds_472 ?_
          refine vl_iload (pc := 474) h 10 rfl dL_holds_474 ?_
          refine vl_iload (pc := 476) h 11 rfl dL_holds_476 ?_
          have k491 : VP x (bA G) 20 (20 + 24 * k + 2 + 2) Q (W1 G S) 491 [(13, .int (oI (nxt (fun v => (mS S (n % nLi S)) v && (mS S (n / 12 % nLi S)) v) 0))), (12, .int (nI (cS (fun v => (mS S (n % nLi S)) v || (mS S (n / 12 % nLi S)) v) 1000))), (9, .int (nI 1)), (10, .int b), (0, .ref (G.2.1 + 0)), (1, .int (nI n)), (2, .int (nI (nLi S))), (3, .int (nI (nRd S))), (4, .int (nI (n % nLi S))), (5, .int (nI (n / 12 % nLi S))), (6, .int (nI (cS (mS S (n % nLi S)) 1000))), (7, .int (nI (cS (mS S (n / 12 % nLi S)) 1000))), (11, .int (nI (gp (mS S (n % nLi S)) 1000).2))] [] := by
            refine vl_iload (pc := 491) h 1 rfl dL_holds_491 ?_
            refine vl_iload (pc := 493) h 10 rfl dL_holds_493 ?_
            refine vl_iload (pc := 495) h 11 rfl dL_holds_495 ?_
            refine vl_iadd (pc := 497) (v := nI ((cS (mS S (n % nLi S)) 1000) + (cS (mS S (n / 12 % nLi S)) 1000))) h (nI_add _ _) dL_holds_497 ?_
            have k571 : VP x (bA G) 20 (20 + 24 * k + 2 + 2 + 8) Q (W1 G S) 571 [(0, .ref (G.2.1 + 0)), (1, .int (nI n)), (2, .int (nI (nLi S))), (3, .int (nI (nRd S)))] [.int (nI 1)] := by
              refine vl_istore (pc := 571) (lo2 := [(9, .int (nI 1)), (0, .ref (G.2.1 + 0)), (1, .int (nI n)), (2, .int (nI (nLi S))), (3, .int (nI (nRd S)))]) h (by decide) rfl dL_holds_571 ?_
              refine vl_aload_n (pc := 573) h 1 rfl rfl dL_holds_573 ?_
              refine wV1 (pc := 574) (As := []) (st := []) (r2 := oI (lstN (sA S) (nRd S)).1) (u2 := 20 + 24 * k + 2 + 2 + 8) h hE lk_RL_263 (kv_leastNext (S := S)) rfl rfl rfl (by decide) rfl (Nat.le_of_ble_eq_true rfl) ⟨Nat.le_refl _, by show _ ≤ 400; omega⟩ dL_holds_574 ?_
              refine vl_istore (pc := 577) (lo2 := [(14, .int (oI (lstN (sA S) (nRd S)).1)), (9, .int (nI 1)), (0, .ref (G.2.1 + 0)), (1, .int (nI n)), (2, .int (nI (nLi S))), (3, .int (nI (nRd S)))]) h (by decide) rfl dL_holds_577 ?_
              refine vl_iconst (pc := 579) (v := nI 1) h (by decide) dL_holds_579 ?_
              refine vl_istore (pc := 580) (lo2 := [(15, .int (nI 1)), (14, .int (oI (lstN (sA S) (nRd S)).1)), (9, .int (nI 1)), (0, .ref (G.2.1 + 0)), (1, .int (nI n)), (2, .int (nI (nLi S))), (3, .int (nI (nRd S)))]) h (by decide) rfl dL_holds_580 ?_
              refine vl_iconst (pc := 582) (v := nI 0) h (by decide) dL_holds_582 ?_
              refine vl_istore (pc := 583) (lo2 := [(16, .int (nI 0)), (15, .int (nI 1)), (14, .int (oI (lstN (sA S) (nRd S)).1)), (9, .int (nI 1)), (0, .ref (G.2.1 + 0)), (1, .int (nI n)), (2, .int (nI (nLi S))), (3, .int (nI (nRd S)))]) h (by decide) rfl dL_holds_583 ?_
              have lp585 : ∀ (fu : Nat) (r : Nat), r ≤ nRd S → nRd S - r < fu → VP x (bA G) 20 (20 + 24 * k + 20 + 12 * r) Q (W1 G S) 585 [(16, .int (nI r)), (15, .int (zB (!anyN (aL (sA S)) (nLi S - 1) r))), (9, .int (nI 1)), (14, .int (oI (lstN (sA S) (nRd S)).1)), (0, .ref (G.2.1 + 0)), (1, .int (nI n)), (2, .int (nI (nLi S))), (3, .int (nI (nRd S)))] [] := by
                intro fu
                induction fu with
                | zero => intro r hr hfu; exact absurd hfu (Nat.not_lt_zero _)
                | succ fu ih585 =>
                  intro r hr hfu
                  refine vl_iload (pc := 585) h 0 rfl dL_holds_585 ?_
                  refine vl_iload_n (pc := 587) h 7 rfl rfl dL_holds_587 ?_
                  refine vl_icmp_ge (pc := 588) (tgt := 755) h (by decide) dL_holds_588 (fun c588 => ?_) (fun c588 => ?_)
                  · skip
                    rw [nI_leI (by omega) (by omega)] at c588
                    have er : r = nRd S := by omega
                    refine vl_iload_n (pc := 755) h 5 rfl rfl dL_holds_755 ?_
                    refine vl_ldc (pc := 756) (v := nI 100000) h mw_1_3 dL_holds_756 ?_
                    refine vl_irem (pc := 758) (v := nI (n % 100000)) h (by decide) (pk_rem (by omega) (by omega) (by omega)) dL_holds_758 ?_
                    refine vl_istore (pc := 759) (lo2 := [(16, .int (nI (n % 100000))), (15, .int (zB (!anyN (aL (sA S)) (nLi S - 1) r))), (9, .int (nI 1)), (14, .int (oI (lstN (sA S) (nRd S)).1)), (0, .ref (G.2.1 + 0)), (1, .int (nI n)), (2, .int (nI (nLi S))), (3, .int (nI (nRd S)))]) h (by decide) rfl dL_holds_759 ?_
                    have hfp := fp_lt (p := n % 100000) (by omega)
                    refine vl_aload_n (pc := 761) h 4 rfl rfl dL_holds_761 ?_
                    refine vl_bipush (pc := 762) (v := nI 27) h (by decide) dL_holds_762 ?_
                    refine vl_iload (pc := 764) h 0 rfl dL_holds_764 ?_
                    refine vl_iconst (pc := 766) (v := nI 0) h (by decide) dL_holds_766 ?_
                    refine vl_iconst (pc := 767) (v := nI 0) h (by decide) dL_holds_767 ?_
                    refine wS1 (pc := 768) (As := [.ref (G.2.1 + 0), .int (nI 27), .int (nI (n % 100000)), .int (nI 0), .int (nI 0)]) (st := []) (r2 := nI (fpN (n % 100000))) (u2 := 20 + 24 * k + 20 + 12 * r + 1) h hE hX lk_RL_248 (kc_27 hst G S (nI (n % 100000)) (nI 0) (nI 0) (cB_t (in_t (by omega) (by omega) (by omega)))) (wkV (by omega)) rfl rfl (by decide) rfl (Nat.le_of_ble_eq_true rfl) ⟨by show _ + 1 ≤ _; omega, by show _ ≤ 400; omega⟩ dL_holds_768 ?_
                    refine vl_istore (pc := 771) (lo2 := [(17, .int (nI (fpN (n % 100000)))), (16, .int (nI (n % 100000))), (15, .int (zB (!anyN (aL (sA S)) (nLi S - 1) r))), (9, .int (nI 1)), (14, .int (oI (lstN (sA S) (nRd S)).1)), (0, .ref (G.2.1 + 0)), (1, .int (nI n)), (2, .int (nI (nLi S))), (3, .int (nI (nRd S)))]) h (by decide) rfl dL_holds_771 ?_
                    refine vl_iload (pc := 773) h 3 rfl dL_holds_773 ?_
                    refine vl_if_eq_f (pc := 775) (tgt := 861) h (by decide) (by decide) dL_holds_775 ?_
                    refine vl_aload_n (pc := 778) h 5 rfl rfl dL_holds_778 ?_
                    refine wV1 (pc := 779) (As := []) (st := []) (r2 := nI (whyN (sA S))) (u2 := 20 + 24 * k + 20 + 12 * r + 1) h hE lk_RL_260 (kv_whyNoDrop (S := S)) rfl rfl rfl (by decide) rfl (Nat.le_of_ble_eq_true rfl) ⟨Nat.le_refl _, by show _ ≤ 400; omega⟩ dL_holds_779 ?_
                    rcases ed : anyN (aL (sA S)) (nLi S - 1) r with _ | _
                    · skip
                      have ed2 : anyN (aL (sA S)) ((sA S).1 - 1) (sA S).2.1 = false := by
                        have z : (sA S).2.1 = r := er.symm
                        rw [z]; exact ed
                      have hwy : whyN (sA S) = 0 := by
                        unfold whyN
                        rw [if_neg (show ¬ (sA S).1 = 0 from fun z => by have z2 : nLi S = 0 := z; omega)]
                        exact if_neg (by rw [ed2]; decide)
                      refine vl_if_ne_f (pc := 782) (tgt := 789) h (by rw [hwy]; rfl) (by decide) dL_holds_782 ?_
                      refine vl_iconst (pc := 785) (v := nI 1) h (by decide) dL_holds_785 ?_
                      refine vl_goto (pc := 786) (tgt := 790) h (by decide) dL_holds_786 ?_
                      refine vl_iload (pc := 790) h 2 rfl dL_holds_790 ?_
                      refine vl_if_eq_f (pc := 792) (tgt := 803) h (by decide) (by decide) dL_holds_792 ?_
                      refine vl_iload_n (pc := 795) h 7 rfl rfl dL_holds_795 ?_
                      refine vl_if_le_f (pc := 796) (tgt := 803) h (nI_nle (by omega) (by omega)) (by decide) dL_holds_796 ?_
                      refine vl_iconst (pc := 799) (v := nI 1) h (by decide) dL_holds_799 ?_
                      refine vl_goto (pc := 800) (tgt := 804) h (by decide) dL_holds_800 ?_
                      refine vl_icmp_ne_f (pc := 804) (tgt := 861) h rfl (by decide) dL_holds_804 ?_
                      refine vl_iload (pc := 807) h 0 rfl dL_holds_807 ?_
                      refine vl_if_lt_f (pc := 809) (tgt := 861) h (nI_pos (by omega)) (by decide) dL_holds_809 ?_
                      refine vl_aload_n (pc := 812) h 5 rfl rfl dL_holds_812 ?_
                      refine vl_bipush (pc := 813) (v := nI 28) h (by decide) dL_holds_813 ?_
                      refine vl_iload (pc := 815) h 1 rfl dL_holds_815 ?_
                      refine vl_iconst (pc := 817) (v := nI 0) h (by decide) dL_holds_817 ?_
                      refine vl_iconst (pc := 818) (v := nI 0) h (by decide) dL_holds_818 ?_
                      refine wS1 (pc := 819) (As := [.ref (G.2.1 + 0), .int (nI 28), .int (nI (n % 100000)), .int (nI 0), .int (nI 0)]) (st := []) (r2 := nI (fpN (n % 100000))) (u2 := 20 + 24 * k + 20 + 12 * r + 1 + 1) h hE hX lk_RL_248 (kc_28 hst G S (nI (n % 100000)) (nI 0) (nI 0) (cB_t (in_t (by omega) (by omega) (by omega)))) (ckV (by omega)) rfl rfl (by decide) rfl (Nat.le_of_ble_eq_true rfl) ⟨by show _ + 1 ≤ _; omega, by show _ ≤ 400; omega⟩ dL_holds_819 ?_
                      refine vl_iload (pc := 822) h 0 rfl dL_holds_822 ?_
                      refine vl_icmp_ne_f (pc := 824) (tgt := 861) h rfl (by decide) dL_holds_824 ?_
                      refine vl_iload (pc := 827) h 1 rfl dL_holds_827 ?_
                      refine vl_sipush (pc := 829) (v := nI 20000) h (by decide) dL_holds_829 ?_
                      refine vl_icmp_gt (pc := 832) (tgt := 857) h (by decide) dL_holds_832 (fun c832 => ?_) (fun c832 => ?_)
                      · skip
                        refine vl_iconst (pc := 857) (v := nI 1) h (by decide) dL_holds_857 ?_
                        refine vl_goto (pc := 858) (tgt := 862) h (by decide) dL_holds_858 ?_
                        exact vl_wd (by show _ ≤ 400; omega) (hret 862 _ dL_holds_862)
                      · skip
                        rw [nI_ltI (by omega) (by omega)] at c832
                        obtain ⟨c, g1, g2, g3⟩ := tri_ex (p := n % 100000) 200 (by rw [tri200]; omega)
                        have g4 := fp_eq (show n % 100000 < 100000 by omega) g2 g3
                        have g5 : triN (c + 1) = triN c + (c + 1) := rfl
                        refine vl_aload_n (pc := 835) h 5 rfl rfl dL_holds_835 ?_
                        refine vl_bipush (pc := 836) (v := nI 29) h (by decide) dL_holds_836 ?_
                        refine vl_iload (pc := 838) h 0 rfl dL_holds_838 ?_
                        refine vl_iload (pc := 840) h 1 rfl dL_holds_840 ?_
                        refine vl_k0 (pc := 842) (As := [.int (nI (n % 100000))]) (st := [.int (nI (fpN (n % 100000))), .int (nI 29), .ref (G.2.1 + 0)]) (r2 := nI c) (u2 := 20 + 24 * k + 20 + 12 * r + 1 + 1) h W1.all lk_RL_266 (c_corner x.2.1 (n % 100000) c (by omega) g1 g2 g3) rfl rfl rfl (by decide) rfl (Nat.le_of_ble_eq_true rfl) ⟨by show _ + 0 ≤ _; omega, by show _ ≤ 400; omega⟩ dL_holds_842 ?_
                        refine vl_iload (pc := 845) h 0 rfl dL_holds_845 ?_
                        refine vl_isub (pc := 847) (v := nI (c - (fpN (n % 100000)))) h (pk_sub (by omega)) dL_holds_847 ?_
                        refine vl_iconst (pc := 848) (v := nI 0) h (by decide) dL_holds_848 ?_
                        refine wS1 (pc := 849) (As := [.ref (G.2.1 + 0), .int (nI 29), .int (nI (fpN (n % 100000))), .int (nI (c - (fpN (n % 100000)))), .int (nI 0)]) (st := []) (r2 := nI (n % 100000)) (u2 := 20 + 24 * k + 20 + 12 * r + 1 + 1 + 2) h hE hX lk_RL_248 (kc_29 hst G S (nI (fpN (n % 100000))) (nI (c - (fpN (n % 100000)))) (nI 0) (sc0 (in_t (by omega) (by omega) (by omega)) (in_t (by omega) (by omega) (by omega)))) ((prV (by omega) (by omega)).trans (by rw [show fpN (n % 100000) + (c - fpN (n % 100000)) = c by omega]; exact congrArg nI (by omega))) rfl rfl (by decide) rfl (Nat.le_of_ble_eq_true rfl) ⟨by show _ + 2 ≤ _; omega, by show _ ≤ 400; omega⟩ dL_holds_849 ?_
                        refine vl_iload (pc := 852) h 1 rfl dL_holds_852 ?_
                        refine vl_icmp_ne_f (pc := 854) (tgt := 861) h rfl (by decide) dL_holds_854 ?_
                        refine vl_iconst (pc := 857) (v := nI 1) h (by decide) dL_holds_857 ?_
                        refine vl_goto (pc := 858) (tgt := 862) h (by decide) dL_holds_858 ?_
                        exact vl_wd (by show _ ≤ 400; omega) (hret 862 _ dL_holds_862)
                    · skip
                      have ed2 : anyN (aL (sA S)) ((sA S).1 - 1) (sA S).2.1 = true := by
                        have z : (sA S).2.1 = r := er.symm
                        rw [z]; exact ed
                      have hwy : whyN (sA S) = 2 := by
                        unfold whyN
                        rw [if_neg (show ¬ (sA S).1 = 0 from fun z => by have z2 : nLi S = 0 := z; omega)]
                        exact if_pos ed2
                      refine vl_if_ne_t (pc := 782) (tgt := 789) h (by rw [hwy]; decide) (by decide) dL_holds_782 ?_
                      refine vl_iconst (pc := 789) (v := nI 0) h (by decide) dL_holds_789 ?_
                      refine vl_iload (pc := 790) h 2 rfl dL_holds_790 ?_
                      refine vl_if_eq_t (pc := 792) (tgt := 803) h (by decide) (by decide) dL_holds_792 ?_
                      refine vl_iconst (pc := 803) (v := nI 0) h (by decide) dL_holds_803 ?_
                      refine vl_icmp_ne_f (pc := 804) (tgt := 861) h rfl (by decide) dL_holds_804 ?_
                      refine vl_iload (pc := 807) h 0 rfl dL_holds_807 ?_
                      refine vl_if_lt_f (pc := 809) (tgt := 861) h (nI_pos (by omega)) (by decide) dL_holds_809 ?_
                      refine vl_aload_n (pc := 812) h 5 rfl rfl dL_holds_812 ?_
                      refine vl_bipush (pc := 813) (v := nI 28) h (by decide) dL_holds_813 ?_
                      refine vl_iload (pc := 815) h 1 rfl dL_holds_815 ?_
                      refine vl_iconst (pc := 817) (v := nI 0) h (by decide) dL_holds_817 ?_
                      refine vl_iconst (pc := 818) (v := nI 0) h (by decide) dL_holds_818 ?_
                      refine wS1 (pc := 819) (As := [.ref (G.2.1 + 0), .int (nI 28), .int (nI (n % 100000)), .int (nI 0), .int (nI 0)]) (st := []) (r2 := nI (fpN (n % 100000))) (u2 := 20 + 24 * k + 20 + 12 * r + 1 + 1) h hE hX lk_RL_248 (kc_28 hst G S (nI (n % 100000)) (nI 0) (nI 0) (cB_t (in_t (by omega) (by omega) (by omega)))) (ckV (by omega)) rfl rfl (by decide) rfl (Nat.le_of_ble_eq_true rfl) ⟨by show _ + 1 ≤ _; omega, by show _ ≤ 400; omega⟩ dL_holds_819 ?_
                      refine vl_iload (pc := 822) h 0 rfl dL_holds_822 ?_
                      refine vl_icmp_ne_f (pc := 824) (tgt := 861) h rfl (by decide) dL_holds_824 ?_
                      refine vl_iload (pc := 827) h 1 rfl dL_holds_827 ?_
                      refine vl_sipush (pc := 829) (v := nI 20000) h (by decide) dL_holds_829 ?_
                      refine vl_icmp_gt (pc := 832) (tgt := 857) h (by decide) dL_holds_832 (fun c832 => ?_) (fun c832 => ?_)
                      · skip
                        refine vl_iconst (pc := 857) (v := nI 1) h (by decide) dL_holds_857 ?_
                        refine vl_goto (pc := 858) (tgt := 862) h (by decide) dL_holds_858 ?_
                        exact vl_wd (by show _ ≤ 400; omega) (hret 862 _ dL_holds_862)
                      · skip
                        rw [nI_ltI (by omega) (by omega)] at c832
                        obtain ⟨c, g1, g2, g3⟩ := tri_ex (p := n % 100000) 200 (by rw [tri200]; omega)
                        have g4 := fp_eq (show n % 100000 < 100000 by omega) g2 g3
                        have g5 : triN (c + 1) = triN c + (c + 1) := rfl
                        refine vl_aload_n (pc := 835) h 5 rfl rfl dL_holds_835 ?_
                        refine vl_bipush (pc := 836) (v := nI 29) h (by decide) dL_holds_836 ?_
                        refine vl_iload (pc := 838) h 0 rfl dL_holds_838 ?_
                        refine vl_iload (pc := 840) h 1 rfl dL_holds_840 ?_
                        refine vl_k0 (pc := 842) (As := [.int (nI (n % 100000))]) (st := [.int (nI (fpN (n % 100000))), .int (nI 29), .ref (G.2.1 + 0)]) (r2 := nI c) (u2 := 20 + 24 * k + 20 + 12 * r + 1 + 1) h W1.all lk_RL_266 (c_corner x.2.1 (n % 100000) c (by omega) g1 g2 g3) rfl rfl rfl (by decide) rfl (Nat.le_of_ble_eq_true rfl) ⟨by show _ + 0 ≤ _; omega, by show _ ≤ 400; omega⟩ dL_holds_842 ?_
                        refine vl_iload (pc := 845) h 0 rfl dL_holds_845 ?_
                        refine vl_isub (pc := 847) (v := nI (c - (fpN (n % 100000)))) h (pk_sub (by omega)) dL_holds_847 ?_
                        refine vl_iconst (pc := 848) (v := nI 0) h (by decide) dL_holds_848 ?_
                        refine wS1 (pc := 849) (As := [.ref (G.2.1 + 0), .int (nI 29), .int (nI (fpN (n % 100000))), .int (nI (c - (fpN (n % 100000)))), .int (nI 0)]) (st := []) (r2 := nI (n % 100000)) (u2 := 20 + 24 * k + 20 + 12 * r + 1 + 1 + 2) h hE hX lk_RL_248 (kc_29 hst G S (nI (fpN (n % 100000))) (nI (c - (fpN (n % 100000)))) (nI 0) (sc0 (in_t (by omega) (by omega) (by omega)) (in_t (by omega) (by omega) (by omega)))) ((prV (by omega) (by omega)).trans (by rw [show fpN (n % 100000) + (c - fpN (n % 100000)) = c by omega]; exact congrArg nI (by omega))) rfl rfl (by decide) rfl (Nat.le_of_ble_eq_true rfl) ⟨by show _ + 2 ≤ _; omega, by show _ ≤ 400; omega⟩ dL_holds_849 ?_
                        refine vl_iload (pc := 852) h 1 rfl dL_holds_852 ?_
                        refine vl_icmp_ne_f (pc := 854) (tgt := 861) h rfl (by decide) dL_holds_854 ?_
                        refine vl_iconst (pc := 857) (v := nI 1) h (by decide) dL_holds_857 ?_
                        refine vl_goto (pc := 858) (tgt := 862) h (by decide) dL_holds_858 ?_
                        exact vl_wd (by show _ ≤ 400; omega) (hret 862 _ dL_holds_862)
                  · skip
                    rw [nI_leI (by omega) (by omega)] at c588
                    have hr9 : r < nRd S := by omega
                    obtain ⟨hl9, hp9⟩ := ok_r ok hr9
                    have hc9 := cS_le (mS S (aL (sA S) r)) 1000
                    refine vl_iload (pc := 591) h 2 rfl dL_holds_591 ?_
                    refine vl_if_eq_f (pc := 593) (tgt := 755) h (by decide) (by decide) dL_holds_593 ?_
                    refine vl_aload_n (pc := 596) h 4 rfl rfl dL_holds_596 ?_
                    refine vl_bipush (pc := 597) (v := nI 24) h (by decide) dL_holds_597 ?_
                    refine vl_iload (pc := 599) h 0 rfl dL_holds_599 ?_
                    refine vl_iconst (pc := 601) (v := nI 0) h (by decide) dL_holds_601 ?_
                    refine vl_iconst (pc := 602) (v := nI 0) h (by decide) dL_holds_602 ?_
                    refine wS1 (pc := 603) (As := [.ref (G.2.1 + 0), .int (nI 24), .int (nI r), .int (nI 0), .int (nI 0)]) (st := []) (r2 := nI (aL (sA S) r)) (u2 := 20 + 24 * k + 20 + 12 * r + 1) h hE hX lk_RL_248 (kc_24 hst G S (nI r) (nI 0) (nI 0) (cB_t (rd_s (S := S) (i := r) hr9 hR))) (lofV (by omega)) rfl rfl (by decide) rfl (Nat.le_of_ble_eq_true rfl) ⟨by show _ + 1 ≤ _; omega, by show _ ≤ 400; omega⟩ dL_holds_603 ?_
                    refine vl_istore (pc := 606) (lo2 := [(17, .int (nI (aL (sA S) r))), (16, .int (nI r)), (15, .int (zB (!anyN (aL (sA S)) (nLi S - 1) r))), (9, .int (nI 1)), (14, .int (oI (lstN (sA S) (nRd S)).1)), (0, .ref (G.2.1 + 0)), (1, .int (nI n)), (2, .int (nI (nLi S))), (3, .int (nI (nRd S)))]) h (by decide) rfl dL_holds_606 ?_
                    refine vl_aload_n (pc := 608) h 5 rfl rfl dL_holds_608 ?_
                    refine vl_bipush (pc := 609) (v := nI 25) h (by decide) dL_holds_609 ?_
                    refine vl_iload (pc := 611) h 1 rfl dL_holds_611 ?_
                    refine vl_iconst (pc := 613) (v := nI 0) h (by decide) dL_holds_613 ?_
                    refine vl_iconst (pc := 614) (v := nI 0) h (by decide) dL_holds_614 ?_
                    refine wS1 (pc := 615) (As := [.ref (G.2.1 + 0), .int (nI 25), .int (nI r), .int (nI 0), .int (nI 0)]) (st := []) (r2 := nI (aP (sA S) r)) (u2 := 20 + 24 * k + 20 + 12 * r + 1 + 1) h hE hX lk_RL_248 (kc_25 hst G S (nI r) (nI 0) (nI 0) (cB_t (rd_s (S := S) (i := r) hr9 hR))) (sofV (by omega)) rfl rfl (by decide) rfl (Nat.le_of_ble_eq_true rfl) ⟨by show _ + 1 ≤ _; omega, by show _ ≤ 400; omega⟩ dL_holds_615 ?_
                    refine vl_istore (pc := 618) (lo2 := [(18, .int (nI (aP (sA S) r))), (17, .int (nI (aL (sA S) r))), (16, .int (nI r)), (15, .int (zB (!anyN (aL (sA S)) (nLi S - 1) r))), (9, .int (nI 1)), (14, .int (oI (lstN (sA S) (nRd S)).1)), (0, .ref (G.2.1 + 0)), (1, .int (nI n)), (2, .int (nI (nLi S))), (3, .int (nI (nRd S)))]) h (by decide) rfl dL_holds_618 ?_
                    refine vl_aload_n (pc := 620) h 6 rfl rfl dL_holds_620 ?_
                    refine vl_bipush (pc := 621) (v := nI 26) h (by decide) dL_holds_621 ?_
                    refine vl_iload (pc := 623) h 2 rfl dL_holds_623 ?_
                    refine vl_iconst (pc := 625) (v := nI 0) h (by decide) dL_holds_625 ?_
                    refine vl_iconst (pc := 626) (v := nI 0) h (by decide) dL_holds_626 ?_
                    refine wS1 (pc := 627) (As := [.ref (G.2.1 + 0), .int (nI 26), .int (nI r), .int (nI 0), .int (nI 0)]) (st := []) (r2 := oI (nextO (sA S) r)) (u2 := 20 + 24 * k + 20 + 12 * r + 1 + 1 + 1) h hE hX lk_RL_248 (kc_26 hst G S (nI r) (nI 0) (nI 0) (cB_t (rd_s (S := S) (i := r) hr9 hR))) (nextV (by omega)) rfl rfl (by decide) rfl (Nat.le_of_ble_eq_true rfl) ⟨by show _ + 1 ≤ _; omega, by show _ ≤ 400; omega⟩ dL_holds_627 ?_
                    refine vl_istore (pc := 630) (lo2 := [(19, .int (oI (nextO (sA S) r))), (18, .int (nI (aP (sA S) r))), (17, .int (nI (aL (sA S) r))), (16, .int (nI r)), (15, .int (zB (!anyN (aL (sA S)) (nLi S - 1) r))), (9, .int (nI 1)), (14, .int (oI (lstN (sA S) (nRd S)).1)), (0, .ref (G.2.1 + 0)), (1, .int (nI n)), (2, .int (nI (nLi S))), (3, .int (nI (nRd S)))]) h (by decide) rfl dL_holds_630 ?_
                    refine vl_iload (pc := 632) h 4 rfl dL_holds_632 ?_
                    have k650 : VP x (bA G) 20 (20 + 24 * k + 20 + 12 * r + 1 + 1 + 1) Q (W1 G S) 650 [(19, .int (oI (nextO (sA S) r))), (18, .int (nI (aP (sA S) r))), (17, .int (nI (aL (sA S) r))), (16, .int (nI r)), (15, .int (zB (!anyN (aL (sA S)) (nLi S - 1) r))), (9, .int (nI 1)), (14, .int (oI (lstN (sA S) (nRd S)).1)), (0, .ref (G.2.1 + 0)), (1, .int (nI n)), (2, .int (nI (nLi S))), (3, .int (nI (nRd S)))] [.int (zB (!anyN (aL (sA S)) (nLi S - 1) (r + 1)))] := by
                      refine vl_istore (pc := 650) (lo2 := [(15, .int (zB (!anyN (aL (sA S)) (nLi S - 1) (r + 1)))), (19, .int (oI (nextO (sA S) r))), (18, .int (nI (aP (sA S) r))), (17, .int (nI (aL (sA S) r))), (16, .int (nI r)), (9, .int (nI 1)), (14, .int (oI (lstN (sA S) (nRd S)).1)), (0, .ref (G.2.1 + 0)), (1, .int (nI n)), (2, .int (nI (nLi S))), (3, .int (nI (nRd S)))]) h (by decide) rfl dL_holds_650 ?_
                      refine vl_iload (pc := 652) h 3 rfl dL_holds_652 ?_
                      refine vl_if_lt_f (pc := 654) (tgt := 746) h (nI_pos (by omega)) (by decide) dL_holds_654 ?_
                      refine vl_iload (pc := 657) h 3 rfl dL_holds_657 ?_
                      refine vl_iload_n (pc := 659) h 9 rfl rfl dL_holds_659 ?_
                      refine vl_icmp_ge_f (pc := 660) (tgt := 746) h (by rw [nI_leI (by omega) (by omega)]; omega) (by decide) dL_holds_660 ?_
                      refine vl_iload (pc := 663) h 2 rfl dL_holds_663 ?_
                      refine vl_if_lt_f (pc := 665) (tgt := 746) h (nI_pos (by omega)) (by decide) dL_holds_665 ?_
                      refine vl_iload (pc := 668) h 2 rfl dL_holds_668 ?_
                      refine vl_aload_n (pc := 670) h 7 rfl rfl dL_holds_670 ?_
                      refine vl_bipush (pc := 671) (v := nI 20) h (by decide) dL_holds_671 ?_
                      refine vl_iload (pc := 673) h 3 rfl dL_holds_673 ?_
                      refine vl_sipush (pc := 675) (v := nI 999) h (by decide) dL_holds_675 ?_
                      refine vl_iconst (pc := 678) (v := nI 0) h (by decide) dL_holds_678 ?_
                      refine wS1 (pc := 679) (As := [.ref (G.2.1 + 0), .int (nI 20), .int (nI (aL (sA S) r)), .int (nI 999), .int (nI 0)]) (st := [.int (nI (aP (sA S) r))]) (r2 := nI (cS (mS S (aL (sA S) r)) 1000)) (u2 := 20 + 24 * k + 20 + 12 * r + 1 + 1 + 1 + 2) h hE hX lk_RL_248 (kc_20 hst G S (nI (aL (sA S) r)) (nI 999) (nI 0) (sc0 (li_s (S := S) (i := aL (sA S) r) hl9 hN) (in_t (by omega) (by omega) (by omega)))) (upT (S := S) (by omega) (fun _ _ => rfl)) rfl rfl (by decide) rfl (Nat.le_of_ble_eq_true rfl) ⟨by show _ + 2 ≤ _; omega, by show _ ≤ 400; omega⟩ dL_holds_679 ?_
                      refine vl_icmp_gt_f (pc := 682) (tgt := 746) h (by rw [nI_ltI (by omega) (by omega)]; omega) (by decide) dL_holds_682 ?_
                      refine vl_iload (pc := 685) h 1 rfl dL_holds_685 ?_
                      refine vl_aload_n (pc := 687) h 7 rfl rfl dL_holds_687 ?_
                      refine vl_bipush (pc := 688) (v := nI 17) h (by decide) dL_holds_688 ?_
                      refine vl_iload (pc := 690) h 3 rfl dL_holds_690 ?_
                      refine vl_iload (pc := 692) h 2 rfl dL_holds_692 ?_
                      refine vl_iconst (pc := 694) (v := nI 0) h (by decide) dL_holds_694 ?_
                      refine wS1 (pc := 695) (As := [.ref (G.2.1 + 0), .int (nI 17), .int (nI (aL (sA S) r)), .int (nI (aP (sA S) r)), .int (nI 0)]) (st := [.int (oI (nextO (sA S) r))]) (r2 := oI (nextO (sA S) r)) (u2 := 20 + 24 * k + 20 + 12 * r + 1 + 1 + 1 + 2 + 2) h hE hX lk_RL_248 (kc_17 hst G S (nI (aL (sA S) r)) (nI (aP (sA S) r)) (nI 0) (sc0 (li_s (S := S) (i := aL (sA S) r) hl9 hN) (pl_t (by omega)))) ((at17 rfl (by omega) (by omega)).trans rfl) rfl rfl (by decide) rfl (Nat.le_of_ble_eq_true rfl) ⟨by show _ + 2 ≤ _; omega, by show _ ≤ 400; omega⟩ dL_holds_695 ?_
                      refine vl_icmp_ne_f (pc := 698) (tgt := 746) h rfl (by decide) dL_holds_698 ?_
                      refine vl_iload (pc := 701) h 1 rfl dL_holds_701 ?_
                      refine vl_iconst (pc := 703) (v := (-1)) h (by decide) dL_holds_703 ?_
                      rcases e19 : nextO (sA S) r with _ | z
                      · skip
                        refine vl_icmp_eq_t (pc := 704) (tgt := 742) h rfl (by decide) dL_holds_704 ?_
                        refine vl_iconst (pc := 742) (v := nI 1) h (by decide) dL_holds_742 ?_
                        refine vl_goto (pc := 743) (tgt := 747) h (by decide) dL_holds_743 ?_
                        refine vl_istore (pc := 747) (lo2 := [(9, .int (nI 1)), (15, .int (zB (!anyN (aL (sA S)) (nLi S - 1) (r + 1)))), (19, .int (-1)), (18, .int (nI (aP (sA S) r))), (17, .int (nI (aL (sA S) r))), (16, .int (nI r)), (14, .int (oI (lstN (sA S) (nRd S)).1)), (0, .ref (G.2.1 + 0)), (1, .int (nI n)), (2, .int (nI (nLi S))), (3, .int (nI (nRd S)))]) h (by decide) rfl dL_holds_747 ?_
                        refine vl_iinc (pc := 749) (v := nI (r + 1)) (lo2 := [(16, .int (nI (r + 1))), (9, .int (nI 1)), (15, .int (zB (!anyN (aL (sA S)) (nLi S - 1) (r + 1)))), (19, .int (-1)), (18, .int (nI (aP (sA S) r))), (17, .int (nI (aL (sA S) r))), (14, .int (oI (lstN (sA S) (nRd S)).1)), (0, .ref (G.2.1 + 0)), (1, .int (nI n)), (2, .int (nI (nLi S))), (3, .int (nI (nRd S)))]) h 5 rfl (iinc1 _) (by decide) rfl dL_holds_749 ?_
                        refine vl_goto (pc := 752) (tgt := 585) h (by decide) dL_holds_752 ?_
                        refine vl_sub [0, 2, 1, 6, 7, 8, 9, 10] rfl ?_
                        exact vl_wd (by omega) (ih585 (r + 1) (by omega) (by omega))
                      · skip
                        obtain ⟨q, y, q1, q2, q3, q4⟩ := lstN_4 (sA S) e19 hr9
                        have z9 := (ath_spec e19).1
                        have y9 := (ath_spec q3).1
                        refine vl_icmp_eq_f (pc := 704) (tgt := 742) h (nI_neg (by omega) (by decide)) (by decide) dL_holds_704 ?_
                        refine vl_iload (pc := 707) h 6 rfl dL_holds_707 ?_
                        refine vl_iconst (pc := 709) (v := (-1)) h (by decide) dL_holds_709 ?_
                        refine vl_icmp_eq_f (pc := 710) (tgt := 746) h (by rw [q1]; exact nI_neg (by omega) (by decide)) (by decide) dL_holds_710 ?_
                        refine vl_aload_n (pc := 713) h 7 rfl rfl dL_holds_713 ?_
                        refine vl_bipush (pc := 714) (v := nI 26) h (by decide) dL_holds_714 ?_
                        refine vl_iload (pc := 716) h 6 rfl dL_holds_716 ?_
                        refine vl_iconst (pc := 718) (v := nI 0) h (by decide) dL_holds_718 ?_
                        refine vl_iconst (pc := 719) (v := nI 0) h (by decide) dL_holds_719 ?_
                        refine wS1 (pc := 720) (As := [.ref (G.2.1 + 0), .int (nI 26), .int (oI (lstN (sA S) (nRd S)).1), .int (nI 0), .int (nI 0)]) (st := []) (r2 := nI y) (u2 := 20 + 24 * k + 20 + 12 * r + 1 + 1 + 1 + 2 + 2 + 1) h hE hX lk_RL_248 (kc_26 hst G S (oI (lstN (sA S) (nRd S)).1) (nI 0) (nI 0) (cB_t (by rw [q1]; exact rd_s (S := S) (i := q) q2 hR))) (by rw [q1]; exact (nextV (r := q) (by omega)).trans (by rw [q3]; rfl)) rfl rfl (by decide) rfl (Nat.le_of_ble_eq_true rfl) ⟨by show _ + 1 ≤ _; omega, by show _ ≤ 400; omega⟩ dL_holds_720 ?_
                        refine vl_iload (pc := 723) h 1 rfl dL_holds_723 ?_
                        refine vl_icmp_gt_f (pc := 725) (tgt := 746) h (show ¬ nI z < nI y by rw [nI_ltI (by omega) (by omega)]; omega) (by decide) dL_holds_725 ?_
                        refine vl_aload_n (pc := 728) h 7 rfl rfl dL_holds_728 ?_
                        refine vl_bipush (pc := 729) (v := nI 31) h (by decide) dL_holds_729 ?_
                        refine vl_iload (pc := 731) h 4 rfl dL_holds_731 ?_
                        refine vl_iload (pc := 733) h 1 rfl dL_holds_733 ?_
                        refine vl_iconst (pc := 735) (v := nI 0) h (by decide) dL_holds_735 ?_
                        refine wS1 (pc := 736) (As := [.ref (G.2.1 + 0), .int (nI 31), .int (nI r), .int (nI z), .int (nI 0)]) (st := []) (r2 := nI 0) (u2 := 20 + 24 * k + 20 + 12 * r + 1 + 1 + 1 + 2 + 2 + 1 + 2) h hE hX lk_RL_248 (kc_31 hst G S (nI r) (nI z) (nI 0) (sc0 (rd_s (S := S) (i := r) hr9 hR) (in_t (by omega) (by omega) (by omega)))) (sk0 (by omega) e19) rfl rfl (by decide) rfl (Nat.le_of_ble_eq_true rfl) ⟨by show _ + 2 ≤ _; omega, by show _ ≤ 400; omega⟩ dL_holds_736 ?_
                        refine vl_if_ne_f (pc := 739) (tgt := 746) h rfl (by decide) dL_holds_739 ?_
                        refine vl_iconst (pc := 742) (v := nI 1) h (by decide) dL_holds_742 ?_
                        refine vl_goto (pc := 743) (tgt := 747) h (by decide) dL_holds_743 ?_
                        refine vl_istore (pc := 747) (lo2 := [(9, .int (nI 1)), (15, .int (zB (!anyN (aL (sA S)) (nLi S - 1) (r + 1)))), (19, .int (nI z)), (18, .int (nI (aP (sA S) r))), (17, .int (nI (aL (sA S) r))), (16, .int (nI r)), (14, .int (oI (lstN (sA S) (nRd S)).1)), (0, .ref (G.2.1 + 0)), (1, .int (nI n)), (2, .int (nI (nLi S))), (3, .int (nI (nRd S)))]) h (by decide) rfl dL_holds_747 ?_
                        refine vl_iinc (pc := 749) (v := nI (r + 1)) (lo2 := [(16, .int (nI (r + 1))), (9, .int (nI 1)), (15, .int (zB (!anyN (aL (sA S)) (nLi S - 1) (r + 1)))), (19, .int (nI z)), (18, .int (nI (aP (sA S) r))), (17, .int (nI (aL (sA S) r))), (14, .int (oI (lstN (sA S) (nRd S)).1)), (0, .ref (G.2.1 + 0)), (1, .int (nI n)), (2, .int (nI (nLi S))), (3, .int (nI (nRd S)))]) h 5 rfl (iinc1 _) (by decide) rfl dL_holds_749 ?_
                        refine vl_goto (pc := 752) (tgt := 585) h (by decide) dL_holds_752 ?_
                        refine vl_sub [0, 2, 1, 6, 7, 8, 9, 10] rfl ?_
                        exact vl_wd (by omega) (ih585 (r + 1) (by omega) (by omega))
                    rcases ed : anyN (aL (sA S)) (nLi S - 1) r with _ | _
                    · skip
                      rw [ed] at k650
                      refine vl_if_eq_f (pc := 634) (tgt := 649) h (by decide) (by decide) dL_holds_634 ?_
                      refine vl_iload (pc := 637) h 2 rfl dL_holds_637 ?_
                      refine vl_iload_n (pc := 639) h 9 rfl rfl dL_holds_639 ?_
                      refine vl_iconst (pc := 640) (v := nI 1) h (by decide) dL_holds_640 ?_
                      refine vl_isub (pc := 641) (v := nI ((nLi S) - 1)) h (pk_sub (by omega)) dL_holds_641 ?_
                      refine vl_icmp_eq (pc := 642) (tgt := 649) h (by decide) dL_holds_642 (fun c642 => ?_) (fun c642 => ?_)
                      · skip
                        rw [nI_eq (by omega) (by omega)] at c642
                        refine vl_iconst (pc := 649) (v := nI 0) h (by decide) dL_holds_649 ?_
                        refine vl_topi (b := zB (!anyN (aL (sA S)) (nLi S - 1) (r + 1))) (by rw [anyN, ed, decide_eq_true c642]; rfl) ?_
                        exact k650
                      · skip
                        rw [nI_eq (by omega) (by omega)] at c642
                        refine vl_iconst (pc := 645) (v := nI 1) h (by decide) dL_holds_645 ?_
                        refine vl_goto (pc := 646) (tgt := 650) h (by decide) dL_holds_646 ?_
                        refine vl_topi (b := zB (!anyN (aL (sA S)) (nLi S - 1) (r + 1))) (by rw [anyN, ed, decide_eq_false c642]; rfl) ?_
                        exact k650
                    · skip
                      rw [ed] at k650
                      refine vl_if_eq_t (pc := 634) (tgt := 649) h (by decide) (by decide) dL_holds_634 ?_
                      refine vl_iconst (pc := 649) (v := nI 0) h (by decide) dL_holds_649 ?_
                      refine vl_topi (b := zB (!anyN (aL (sA S)) (nLi S - 1) (r + 1))) (by rw [anyN, ed]; rfl) ?_
                      exact k650
              refine vl_sub [0, 1, 3, 2, 4, 5, 6, 7] rfl ?_
              exact vl_wd (by omega) (lp585 _ 0 (by omega) (Nat.lt_succ_self _))
            rcases e13 : nxt (fun v => (mS S (n % nLi S)) v && (mS S (n / 12 % nLi S)) v) 0 with _ | w
            · skip
              have g13 := nxt_zero e13
              refine vl_icmp_ge_t (pc := 498) (tgt := 505) h (by rw [nI_leI (by omega) (by omega)]; omega) (by decide) dL_holds_498 ?_
              refine vl_iconst (pc := 505) (v := nI 0) h (by decide) dL_holds_505 ?_
              refine vl_iload (pc := 506) h 0 rfl dL_holds_506 ?_
              refine vl_iconst (pc := 508) (v := (-1)) h (by decide) dL_holds_508 ?_
              refine vl_icmp_eq_t (pc := 509) (tgt := 516) h rfl (by decide) dL_holds_509 ?_
              refine vl_iconst (pc := 516) (v := nI 0) h (by decide) dL_holds_516 ?_
              refine vl_icmp_ne_f (pc := 517) (tgt := 570) h rfl (by decide) dL_holds_517 ?_
              refine vl_iload (pc := 520) h 0 rfl dL_holds_520 ?_
              refine vl_iconst (pc := 522) (v := (-1)) h (by decide) dL_holds_522 ?_
              refine vl_icmp_eq_t (pc := 523) (tgt := 550) h rfl (by decide) dL_holds_523 ?_
              refine vl_iload (pc := 550) h 0 rfl dL_holds_550 ?_
              refine vl_aload_n (pc := 552) h 4 rfl rfl dL_holds_552 ?_
              refine vl_bipush (pc := 553) (v := nI 22) h (by decide) dL_holds_553 ?_
              refine vl_iload (pc := 555) h 9 rfl dL_holds_555 ?_
              refine vl_iload (pc := 557) h 8 rfl dL_holds_557 ?_
              refine vl_iconst (pc := 559) (v := nI 0) h (by decide) dL_holds_559 ?_
              refine wS1 (pc := 560) (As := [.ref (G.2.1 + 0), .int (nI 22), .int (nI (n / 12 % nLi S)), .int (nI (n % nLi S)), .int (nI 0)]) (st := [.int (-1)]) (r2 := (-1)) (u2 := 20 + 24 * k + 2 + 2 + 2) h hE hX lk_RL_248 (kc_22 hst G S (nI (n / 12 % nLi S)) (nI (n % nLi S)) (nI 0) (sc0 (li_s (S := S) (i := n / 12 % nLi S) hjN hN) (li_s (S := S) (i := n % nLi S) hiN hN))) ((coT (by omega) (by omega) (fun _ _ => rfl) (fun _ _ => rfl)).trans (by rw [an_comm, e13]; rfl)) rfl rfl (by decide) rfl (Nat.le_of_ble_eq_true rfl) ⟨by show _ + 2 ≤ _; omega, by show _ ≤ 400; omega⟩ dL_holds_560 ?_
              refine vl_icmp_ne_f (pc := 563) (tgt := 570) h rfl (by decide) dL_holds_563 ?_
              refine vl_iconst (pc := 566) (v := nI 1) h (by decide) dL_holds_566 ?_
              refine vl_goto (pc := 567) (tgt := 571) h (by decide) dL_holds_567 ?_
              refine vl_sub [4, 5, 6, 7] rfl ?_
              exact vl_wd (by omega) k571
            · skip
              have g13 := nxt_pos e13
              obtain ⟨-, f1, f2, -⟩ := nxt_spec e13
              rw [Bool.and_eq_true] at f2
              refine vl_icmp_ge_f (pc := 498) (tgt := 505) h (by rw [nI_leI (by omega) (by omega)]; omega) (by decide) dL_holds_498 ?_
              refine vl_iconst (pc := 501) (v := nI 1) h (by decide) dL_holds_501 ?_
              refine vl_goto (pc := 502) (tgt := 506) h (by decide) dL_holds_502 ?_
              refine vl_iload (pc := 506) h 0 rfl dL_holds_506 ?_
              refine vl_iconst (pc := 508) (v := (-1)) h (by decide) dL_holds_508 ?_
              refine vl_icmp_eq_f (pc := 509) (tgt := 516) h (nI_neg (by omega) (by decide)) (by decide) dL_holds_509 ?_
              refine vl_iconst (pc := 512) (v := nI 1) h (by decide) dL_holds_512 ?_
              refine vl_goto (pc := 513) (tgt := 517) h (by decide) dL_holds_513 ?_
              refine vl_icmp_ne_f (pc := 517) (tgt := 570) h rfl (by decide) dL_holds_517 ?_
              refine vl_iload (pc := 520) h 0 rfl dL_holds_520 ?_
              refine vl_iconst (pc := 522) (v := (-1)) h (by decide) dL_holds_522 ?_
              refine vl_icmp_eq_f (pc := 523) (tgt := 550) h (nI_neg (by omega) (by decide)) (by decide) dL_holds_523 ?_
              refine vl_aload_n (pc := 526) h 4 rfl rfl dL_holds_526 ?_
              refine vl_iload (pc := 527) h 8 rfl dL_holds_527 ?_
              refine vl_iload (pc := 529) h 0 rfl dL_holds_529 ?_
              refine wW1 (pc := 531) (As := [.ref (G.2.1 + 0), .int (nI (n % nLi S)), .int (nI w)]) (st := []) (r2 := nI 1) (u2 := 20 + 24 * k + 2 + 2 + 2) h hE hX lkw_252 (kc_is hst G S (nI (n % nLi S)) (nI w) (sc0 (li_s (S := S) (i := n % nLi S) hiN hN) (in_t (by omega) (by omega) (by omega)))) ((isT (b := true) (by omega) (by omega) f2.1).trans rfl) rfl rfl (by decide) rfl (Nat.le_of_ble_eq_true rfl) ⟨by show _ + 2 ≤ _; omega, by show _ ≤ 400; omega⟩ dL_holds_531 ?_
              refine vl_iconst (pc := 534) (v := nI 1) h (by decide) dL_holds_534 ?_
              refine vl_icmp_ne_f (pc := 535) (tgt := 570) h rfl (by decide) dL_holds_535 ?_
              refine vl_aload_n (pc := 538) h 4 rfl rfl dL_holds_538 ?_
              refine vl_iload (pc := 539) h 9 rfl dL_holds_539 ?_
              refine vl_iload (pc := 541) h 0 rfl dL_holds_541 ?_
              refine wW1 (pc := 543) (As := [.ref (G.2.1 + 0), .int (nI (n / 12 % nLi S)), .int (nI w)]) (st := []) (r2 := nI 1) (u2 := 20 + 24 * k + 2 + 2 + 2 + 2) h hE hX lkw_252 (kc_is hst G S (nI (n / 12 % nLi S)) (nI w) (sc0 (li_s (S := S) (i := n / 12 % nLi S) hjN hN) (in_t (by omega) (by omega) (by omega)))) ((isT (b := true) (by omega) (by omega) f2.2).trans rfl) rfl rfl (by decide) rfl (Nat.le_of_ble_eq_true rfl) ⟨by show _ + 2 ≤ _; omega, by show _ ≤ 400; omega⟩ dL_holds_543 ?_
              refine vl_iconst (pc := 546) (v := nI 1) h (by decide) dL_holds_546 ?_
              refine vl_icmp_ne_f (pc := 547) (tgt := 570) h rfl (by decide) dL_holds_547 ?_
              refine vl_iload (pc := 550) h 0 rfl dL_holds_550 ?_
              refine vl_aload_n (pc := 552) h 4 rfl rfl dL_holds_552 ?_
              refine vl_bipush (pc := 553) (v := nI 22) h (by decide) dL_holds_553 ?_
              refine vl_iload (pc := 555) h 9 rfl dL_holds_555 ?_
              refine vl_iload (pc := 557) h 8 rfl dL_holds_557 ?_
              refine vl_iconst (pc := 559) (v := nI 0) h (by decide) dL_holds_559 ?_
              refine wS1 (pc := 560) (As := [.ref (G.2.1 + 0), .int (nI 22), .int (nI (n / 12 % nLi S)), .int (nI (n % nLi S)), .int (nI 0)]) (st := [.int (nI w)]) (r2 := nI w) (u2 := 20 + 24 * k + 2 + 2 + 2 + 2 + 2) h hE hX lk_RL_248 (kc_22 hst G S (nI (n / 12 % nLi S)) (nI (n % nLi S)) (nI 0) (sc0 (li_s (S := S) (i := n / 12 % nLi S) hjN hN) (li_s (S := S) (i := n % nLi S) hiN hN))) ((coT (by omega) (by omega) (fun _ _ => rfl) (fun _ _ => rfl)).trans (by rw [an_comm, e13]; rfl)) rfl rfl (by decide) rfl (Nat.le_of_ble_eq_true rfl) ⟨by show _ + 2 ≤ _; omega, by show _ ≤ 400; omega⟩ dL_holds_560 ?_
              refine vl_icmp_ne_f (pc := 563) (tgt := 570) h rfl (by decide) dL_holds_563 ?_
              refine vl_iconst (pc := 566) (v := nI 1) h (by decide) dL_holds_566 ?_
              refine vl_goto (pc := 567) (tgt := 571) h (by decide) dL_holds_567 ?_
              refine vl_sub [4, 5, 6, 7] rfl ?_
              exact vl_wd (by omega) k571
          refine vl_icmp_le (pc := 478) (tgt := 486) h (by decide) dL_holds_478 (fun c478 => ?_) (fun c478 => ?_)
          · skip
            refine vl_iload (pc := 486) h 11 rfl dL_holds_486 ?_
            refine vl_icmp_lt_f (pc := 488) (tgt := 570) h (by rw [nI_ltI (by omega) (by omega)]; omega) (by decide) dL_holds_488 ?_
            exact k491
          · skip
            refine vl_iload (pc := 481) h 10 rfl dL_holds_481 ?_
            refine vl_goto (pc := 483) (tgt := 488) h (by decide) dL_holds_483 ?_
            refine vl_icmp_lt_f (pc := 488) (tgt := 570) h (by rw [nI_ltI (by omega) (by omega)]; omega) (by decide) dL_holds_488 ?_
            exact k491
        · skip
          rw [nI_leI (by omega) (by omega)] at c183
          refine vl_iload (pc := 186) h 1 rfl dL_holds_186 ?_
          refine vl_if_eq_f (pc := 188) (tgt := 431) h (by decide) (by decide) dL_holds_188 ?_
          refine vl_iload_n (pc := 191) h 4 rfl rfl dL_holds_191 ?_
          refine vl_bipush (pc := 192) (v := nI 7) h (by decide) dL_holds_192 ?_
          refine vl_idiv (pc := 194) (v := nI (n / 7)) h (by decide) (pk_div (by omega) (by omega) (by omega)) dL_holds_194 ?_
          refine vl_iconst (pc := 195) (v := nI 5) h (by decide) dL_holds_195 ?_
          refine vl_irem (pc := 196) (v := nI ((n / 7) % 5)) h (by decide) (pk_rem (by omega) (by omega) (by omega)) dL_holds_196 ?_
          refine vl_iconst (pc := 197) (v := nI 3) h (by decide) dL_holds_197 ?_
          refine vl_iload (pc := 198) h 0 rfl dL_holds_198 ?_
          refine vl_imul (pc := 200) (v := nI (3 * k)) h (pk_mul _ _) dL_holds_200 ?_
          refine vl_iadd (pc := 201) (v := nI (n / 7 % 5 + 3 * k)) h (nI_add _ _) dL_holds_201 ?_
          refine vl_istore (pc := 202) (lo2 := [(13, .int (nI (n / 7 % 5 + 3 * k))), (12, .int (nI k)), (9, .int (nI 1)), (10, .int b), (0, .ref (G.2.1 + 0)), (1, .int (nI n)), (2, .int (nI (nLi S))), (3, .int (nI (nRd S))), (4, .int (nI (n % nLi S))), (5, .int (nI (n / 12 % nLi S))), (6, .int (nI (cS (mS S (n % nLi S)) 1000))), (7, .int (nI (cS (mS S (n / 12 % nLi S)) 1000))), (11, .int (nI (gp (mS S (n % nLi S)) 1000).2))]) h (by decide) rfl dL_holds_202 ?_
          refine vl_aload_n (pc := 204) h 4 rfl rfl dL_holds_204 ?_
          refine vl_bipush (pc := 205) (v := nI 17) h (by decide) dL_holds_205 ?_
          refine vl_iload (pc := 207) h 8 rfl dL_holds_207 ?_
          refine vl_iload (pc := 209) h 0 rfl dL_holds_209 ?_
          refine vl_iconst (pc := 211) (v := nI 0) h (by decide) dL_holds_211 ?_
          refine wS1 (pc := 212) (As := [.ref (G.2.1 + 0), .int (nI 17), .int (nI (n % nLi S)), .int (nI (n / 7 % 5 + 3 * k)), .int (nI 0)]) (st := []) (r2 := oI (ath (mS S (n % nLi S)) (n / 7 % 5 + 3 * k))) (u2 := 20 + 24 * k + 2) h hE hX lk_RL_248 (kc_17 hst G S (nI (n % nLi S)) (nI (n / 7 % 5 + 3 * k)) (nI 0) (sc0 (li_s (S := S) (i := n % nLi S) hiN hN) (pl_t (by omega)))) (at17 rfl (by omega) (by omega)) rfl rfl (by decide) rfl (Nat.le_of_ble_eq_true rfl) ⟨by show _ + 2 ≤ _; omega, by show _ ≤ 400; omega⟩ dL_holds_212 ?_
          refine vl_istore (pc := 215) (lo2 := [(14, .int (oI (ath (mS S (n % nLi S)) (n / 7 % 5 + 3 * k)))), (13, .int (nI (n / 7 % 5 + 3 * k))), (12, .int (nI k)), (9, .int (nI 1)), (10, .int b), (0, .ref (G.2.1 + 0)), (1, .int (nI n)), (2, .int (nI (nLi S))), (3, .int (nI (nRd S))), (4, .int (nI (n % nLi S))), (5, .int (nI (n / 12 % nLi S))), (6, .int (nI (cS (mS S (n % nLi S)) 1000))), (7, .int (nI (cS (mS S (n / 12 % nLi S)) 1000))), (11, .int (nI (gp (mS S (n % nLi S)) 1000).2))]) h (by decide) rfl dL_holds_215 ?_
          refine vl_iload (pc := 217) h 0 rfl dL_holds_217 ?_
          refine vl_aload_n (pc := 219) h 5 rfl rfl dL_holds_219 ?_
          refine vl_bipush (pc := 220) (v := nI 18) h (by decide) dL_holds_220 ?_
          refine vl_iload (pc := 222) h 9 rfl dL_holds_222 ?_
          refine vl_iload (pc := 224) h 1 rfl dL_holds_224 ?_
          refine vl_iconst (pc := 226) (v := nI 0) h (by decide) dL_holds_226 ?_
          refine wS1 (pc := 227) (As := [.ref (G.2.1 + 0), .int (nI 18), .int (nI (n % nLi S)), .int (nI (n / 7 % 5 + 3 * k)), .int (nI 0)]) (st := [.int (oI (ath (mS S (n % nLi S)) (n / 7 % 5 + 3 * k)))]) (r2 := oI (ath (mS S (n % nLi S)) (n / 7 % 5 + 3 * k))) (u2 := 20 + 24 * k + 2 + 2) h hE hX lk_RL_248 (kc_18 hst G S (nI (n % nLi S)) (nI (n / 7 % 5 + 3 * k)) (nI 0) (sc0 (li_s (S := S) (i := n % nLi S) hiN hN) (pl_t (by omega)))) (at17 (c := nI 0) rfl (by omega) (by omega)) rfl rfl (by decide) rfl (Nat.le_of_ble_eq_true rfl) ⟨by show _ + 2 ≤ _; omega, by show _ ≤ 400; omega⟩ dL_holds_227 ?_
          refine vl_icmp_ne_f (pc := 230) (tgt := 263) h rfl (by decide) dL_holds_230 ?_
          refine vl_iload (pc := 233) h 0 rfl dL_holds_233 ?_
          refine vl_iconst (pc := 235) (v := (-1)) h (by decide) dL_holds_235 ?_
          rcases e14 : ath (mS S (n % nLi S)) (n / 7 % 5 + 3 * k) with _ | w
          · skip
            have g14 := ath_specN e14
            refine vl_icmp_ne_f (pc := 236) (tgt := 243) h rfl (by decide) dL_holds_236 ?_
            refine vl_iconst (pc := 239) (v := nI 1) h (by decide) dL_holds_239 ?_
            refine vl_goto (pc := 240) (tgt := 244) h (by decide) dL_holds_240 ?_
            refine vl_iload (pc := 244) h 1 rfl dL_holds_244 ?_
            refine vl_iload (pc := 246) h 11 rfl dL_holds_246 ?_
            refine vl_icmp_lt_f (pc := 248) (tgt := 255) h (by rw [nI_ltI (by omega) (by omega)]; omega) (by decide) dL_holds_248 ?_
            refine vl_iconst (pc := 251) (v := nI 1) h (by decide) dL_holds_251 ?_
            refine vl_goto (pc := 252) (tgt := 256) h (by decide) dL_holds_252 ?_
            refine vl_icmp_ne_f (pc := 256) (tgt := 263) h rfl (by decide) dL_holds_256 ?_
            refine vl_iconst (pc := 259) (v := nI 1) h (by decide) dL_holds_259 ?_
            refine vl_goto (pc := 260) (tgt := 264) h (by decide) dL_holds_260 ?_
            refine vl_istore (pc := 264) (lo2 := [(9, .int (nI 1)), (14, .int (-1)), (13, .int (nI (n / 7 % 5 + 3 * k))), (12, .int (nI k)), (10, .int b), (0, .ref (G.2.1 + 0)), (1, .int (nI n)), (2, .int (nI (nLi S))), (3, .int (nI (nRd S))), (4, .int (nI (n % nLi S))), (5, .int (nI (n / 12 % nLi S))), (6, .int (nI (cS (mS S (n % nLi S)) 1000))), (7, .int (nI (cS (mS S (n / 12 % nLi S)) 1000))), (11, .int (nI (gp (mS S (n % nLi S)) 1000).2))]) h (by decide) rfl dL_holds_264 ?_
            refine vl_iload (pc := 266) h 1 rfl dL_holds_266 ?_
            refine vl_iconst (pc := 268) (v := (-1)) h (by decide) dL_holds_268 ?_
            refine vl_icmp_eq_t (pc := 269) (tgt := 425) h rfl (by decide) dL_holds_269 ?_
            refine vl_iinc (pc := 425) (v := nI (k + 1)) (lo2 := [(12, .int (nI (k + 1))), (9, .int (nI 1)), (14, .int (-1)), (13, .int (nI (n / 7 % 5 + 3 * k))), (10, .int b), (0, .ref (G.2.1 + 0)), (1, .int (nI n)), (2, .int (nI (nLi S))), (3, .int (nI (nRd S))), (4, .int (nI (n % nLi S))), (5, .int (nI (n / 12 % nLi S))), (6, .int (nI (cS (mS S (n % nLi S)) 1000))), (7, .int (nI (cS (mS S (n / 12 % nLi S)) 1000))), (11, .int (nI (gp (mS S (n % nLi S)) 1000).2))]) h 3 rfl (iinc1 _) (by decide) rfl dL_holds_425 ?_
            refine vl_goto (pc := 428) (tgt := 179) h (by decide) dL_holds_428 ?_
            refine vl_sub [0, 1, 4, 5, 6, 7, 8, 9, 10, 11, 12, 13] rfl ?_
            exact vl_wd (by omega) (ih179 (k + 1) b (by omega) (fun z hz => by have g := ath_far e14 (show n / 7 % 5 + 3 * k ≤ n / 7 % 5 + 3 * (k + 1) by omega); rw [g] at hz; cases hz) (by omega))
          · skip
            obtain ⟨f1, f2, f3⟩ := ath_spec e14
            have f4 := ath_lt9 e14
            have f5 := hb w e14
            refine vl_icmp_ne_t (pc := 236) (tgt := 243) h (nI_neg (by omega) (by decide)) (by decide) dL_holds_236 ?_
            refine vl_iconst (pc := 243) (v := nI 0) h (by decide) dL_holds_243 ?_
            refine vl_iload (pc := 244) h 1 rfl dL_holds_244 ?_
            refine vl_iload (pc := 246) h 11 rfl dL_holds_246 ?_
            refine vl_icmp_lt_t (pc := 248) (tgt := 255) h (by rw [nI_ltI (by omega) (by omega)]; omega) (by decide) dL_holds_248 ?_
            refine vl_iconst (pc := 255) (v := nI 0) h (by decide) dL_holds_255 ?_
            refine vl_icmp_ne_f (pc := 256) (tgt := 263) h rfl (by decide) dL_holds_256 ?_
            refine vl_iconst (pc := 259) (v := nI 1) h (by decide) dL_holds_259 ?_
            refine vl_goto (pc := 260) (tgt := 264) h (by decide) dL_holds_260 ?_
            refine vl_istore (pc := 264) (lo2 := [(9, .int (nI 1)), (14, .int (nI w)), (13, .int (nI (n / 7 % 5 + 3 * k))), (12, .int (nI k)), (10, .int b), (0, .ref (G.2.1 + 0)), (1, .int (nI n)), (2, .int (nI (nLi S))), (3, .int (nI (nRd S))), (4, .int (nI (n % nLi S))), (5, .int (nI (n / 12 % nLi S))), (6, .int (nI (cS (mS S (n % nLi S)) 1000))), (7, .int (nI (cS (mS S (n / 12 % nLi S)) 1000))), (11, .int (nI (gp (mS S (n % nLi S)) 1000).2))]) h (by decide) rfl dL_holds_264 ?_
            refine vl_iload (pc := 266) h 1 rfl dL_holds_266 ?_
            refine vl_iconst (pc := 268) (v := (-1)) h (by decide) dL_holds_268 ?_
            refine vl_icmp_eq_f (pc := 269) (tgt := 425) h (nI_neg (by omega) (by decide)) (by decide) dL_holds_269 ?_
            refine vl_iload (pc := 272) h 0 rfl dL_holds_272 ?_
            refine vl_if_eq_f (pc := 274) (tgt := 425) h (by decide) (by decide) dL_holds_274 ?_
            refine vl_aload_n (pc := 277) h 5 rfl rfl dL_holds_277 ?_
            refine vl_bipush (pc := 278) (v := nI 17) h (by decide) dL_holds_278 ?_
            refine vl_iload (pc := 280) h 9 rfl dL_holds_280 ?_
            refine vl_iload (pc := 282) h 2 rfl dL_holds_282 ?_
            refine vl_iconst (pc := 284) (v := nI 1) h (by decide) dL_holds_284 ?_
            refine vl_iadd (pc := 285) (v := nI ((n / 7 % 5 + 3 * k) + 1)) h (nI_add _ _) dL_holds_285 ?_
            refine vl_iconst (pc := 286) (v := nI 0) h (by decide) dL_holds_286 ?_
            refine wS1 (pc := 287) (As := [.ref (G.2.1 + 0), .int (nI 17), .int (nI (n % nLi S)), .int (nI ((n / 7 % 5 + 3 * k) + 1)), .int (nI 0)]) (st := []) (r2 := oI (ath (mS S (n % nLi S)) ((n / 7 % 5 + 3 * k) + 1))) (u2 := 20 + 24 * k + 2 + 2 + 2) h hE hX lk_RL_248 (kc_17 hst G S (nI (n % nLi S)) (nI ((n / 7 % 5 + 3 * k) + 1)) (nI 0) (sc0 (li_s (S := S) (i := n % nLi S) hiN hN) (pl_t (by omega)))) (at17 rfl (by omega) (by omega)) rfl rfl (by decide) rfl (Nat.le_of_ble_eq_true rfl) ⟨by show _ + 2 ≤ _; omega, by show _ ≤ 400; omega⟩ dL_holds_287 ?_
            refine vl_istore (pc := 290) (lo2 := [(15, .int (oI (ath (mS S (n % nLi S)) ((n / 7 % 5 + 3 * k) + 1)))), (9, .int (nI 1)), (14, .int (nI w)), (13, .int (nI (n / 7 % 5 + 3 * k))), (12, .int (nI k)), (10, .int b), (0, .ref (G.2.1 + 0)), (1, .int (nI n)), (2, .int (nI (nLi S))), (3, .int (nI (nRd S))), (4, .int (nI (n % nLi S))), (5, .int (nI (n / 12 % nLi S))), (6, .int (nI (cS (mS S (n % nLi S)) 1000))), (7, .int (nI (cS (mS S (n / 12 % nLi S)) 1000))), (11, .int (nI (gp (mS S (n % nLi S)) 1000).2))]) h (by decide) rfl dL_holds_290 ?_
            refine vl_iload (pc := 292) h 2 rfl dL_holds_292 ?_
            refine vl_iload (pc := 294) h 5 rfl dL_holds_294 ?_
            refine vl_icmp_le_f (pc := 296) (tgt := 418) h (Int32.not_le.mpr f5) (by decide) dL_holds_296 ?_
            refine vl_iload (pc := 299) h 2 rfl dL_holds_299 ?_
            refine vl_sipush (pc := 301) (v := nI 999) h (by decide) dL_holds_301 ?_
            refine vl_icmp_gt_f (pc := 304) (tgt := 418) h (by rw [nI_ltI (by omega) (by omega)]; omega) (by decide) dL_holds_304 ?_
            refine vl_aload_n (pc := 307) h 6 rfl rfl dL_holds_307 ?_
            refine vl_iload (pc := 308) h 10 rfl dL_holds_308 ?_
            refine vl_iload (pc := 310) h 2 rfl dL_holds_310 ?_
            refine wW1 (pc := 312) (As := [.ref (G.2.1 + 0), .int (nI (n % nLi S)), .int (nI w)]) (st := []) (r2 := nI 1) (u2 := 20 + 24 * k + 2 + 2 + 2 + 2) h hE hX lkw_252 (kc_is hst G S (nI (n % nLi S)) (nI w) (sc0 (li_s (S := S) (i := n % nLi S) hiN hN) (in_t (by omega) (by omega) (by omega)))) ((isT (b := true) (by omega) (by omega) f2).trans rfl) rfl rfl (by decide) rfl (Nat.le_of_ble_eq_true rfl) ⟨by show _ + 2 ≤ _; omega, by show _ ≤ 400; omega⟩ dL_holds_312 ?_
            refine vl_iconst (pc := 315) (v := nI 1) h (by decide) dL_holds_315 ?_
            refine vl_icmp_ne_f (pc := 316) (tgt := 418) h rfl (by decide) dL_holds_316 ?_
            refine vl_aload_n (pc := 319) h 6 rfl rfl dL_holds_319 ?_
            refine vl_bipush (pc := 320) (v := nI 19) h (by decide) dL_holds_320 ?_
            refine vl_iload (pc := 322) h 10 rfl dL_holds_322 ?_
            refine vl_iload (pc := 324) h 2 rfl dL_holds_324 ?_
            refine vl_iconst (pc := 326) (v := nI 0) h (by decide) dL_holds_326 ?_
            refine wS1 (pc := 327) (As := [.ref (G.2.1 + 0), .int (nI 19), .int (nI (n % nLi S)), .int (nI w), .int (nI 0)]) (st := []) (r2 := nI (n / 7 % 5 + 3 * k)) (u2 := 20 + 24 * k + 2 + 2 + 2 + 2 + 2) h hE hX lk_RL_248 (kc_19 hst G S (nI (n % nLi S)) (nI w) (nI 0) (sc0 (li_s (S := S) (i := n % nLi S) hiN hN) (in_t (by omega) (by omega) (by omega)))) (plY (by omega) (by omega) f2 f3) rfl rfl (by decide) rfl (Nat.le_of_ble_eq_true rfl) ⟨by show _ + 2 ≤ _; omega, by show _ ≤ 400; omega⟩ dL_holds_327 ?_
            refine vl_iload (pc := 330) h 3 rfl dL_holds_330 ?_
            refine vl_icmp_ne_f (pc := 332) (tgt := 418) h rfl (by decide) dL_holds_332 ?_
            refine vl_aload_n (pc := 335) h 6 rfl rfl dL_holds_335 ?_
            refine vl_bipush (pc := 336) (v := nI 20) h (by decide) dL_holds_336 ?_
            refine vl_iload (pc := 338) h 10 rfl dL_holds_338 ?_
            refine vl_iload (pc := 340) h 2 rfl dL_holds_340 ?_
            refine vl_iconst (pc := 342) (v := nI 0) h (by decide) dL_holds_342 ?_
            refine wS1 (pc := 343) (As := [.ref (G.2.1 + 0), .int (nI 20), .int (nI (n % nLi S)), .int (nI w), .int (nI 0)]) (st := []) (r2 := nI ((n / 7 % 5 + 3 * k) + 1)) (u2 := 20 + 24 * k + 2 + 2 + 2 + 2 + 2 + 2) h hE hX lk_RL_248 (kc_20 hst G S (nI (n % nLi S)) (nI w) (nI 0) (sc0 (li_s (S := S) (i := n % nLi S) hiN hN) (in_t (by omega) (by omega) (by omega)))) (upV2 (by omega) (by omega) f2 f3) rfl rfl (by decide) rfl (Nat.le_of_ble_eq_true rfl) ⟨by show _ + 2 ≤ _; omega, by show _ ≤ 400; omega⟩ dL_holds_343 ?_
            refine vl_iload (pc := 346) h 3 rfl dL_holds_346 ?_
            refine vl_iconst (pc := 348) (v := nI 1) h (by decide) dL_holds_348 ?_
            refine vl_iadd (pc := 349) (v := nI ((n / 7 % 5 + 3 * k) + 1)) h (nI_add _ _) dL_holds_349 ?_
            refine vl_icmp_ne_f (pc := 350) (tgt := 418) h rfl (by decide) dL_holds_350 ?_
            refine vl_iload (pc := 353) h 0 rfl dL_holds_353 ?_
            refine vl_iconst (pc := 355) (v := (-1)) h (by decide) dL_holds_355 ?_
            rcases e15 : ath (mS S (n % nLi S)) ((n / 7 % 5 + 3 * k) + 1) with _ | z
            · skip
              refine vl_icmp_eq_t (pc := 356) (tgt := 369) h rfl (by decide) dL_holds_356 ?_
              refine vl_iload (pc := 369) h 0 rfl dL_holds_369 ?_
              refine vl_iconst (pc := 371) (v := (-1)) h (by decide) dL_holds_371 ?_
              refine vl_icmp_eq_t (pc := 372) (tgt := 414) h rfl (by decide) dL_holds_372 ?_
              refine vl_iconst (pc := 414) (v := nI 1) h (by decide) dL_holds_414 ?_
              refine vl_goto (pc := 415) (tgt := 419) h (by decide) dL_holds_415 ?_
              refine vl_istore (pc := 419) (lo2 := [(9, .int (nI 1)), (15, .int (-1)), (14, .int (nI w)), (13, .int (nI (n / 7 % 5 + 3 * k))), (12, .int (nI k)), (10, .int b), (0, .ref (G.2.1 + 0)), (1, .int (nI n)), (2, .int (nI (nLi S))), (3, .int (nI (nRd S))), (4, .int (nI (n % nLi S))), (5, .int (nI (n / 12 % nLi S))), (6, .int (nI (cS (mS S (n % nLi S)) 1000))), (7, .int (nI (cS (mS S (n / 12 % nLi S)) 1000))), (11, .int (nI (gp (mS S (n % nLi S)) 1000).2))]) h (by decide) rfl dL_holds_419 ?_
              refine vl_iload (pc := 421) h 2 rfl dL_holds_421 ?_
              refine vl_istore (pc := 423) (lo2 := [(10, .int (nI w)), (9, .int (nI 1)), (15, .int (-1)), (14, .int (nI w)), (13, .int (nI (n / 7 % 5 + 3 * k))), (12, .int (nI k)), (0, .ref (G.2.1 + 0)), (1, .int (nI n)), (2, .int (nI (nLi S))), (3, .int (nI (nRd S))), (4, .int (nI (n % nLi S))), (5, .int (nI (n / 12 % nLi S))), (6, .int (nI (cS (mS S (n % nLi S)) 1000))), (7, .int (nI (cS (mS S (n / 12 % nLi S)) 1000))), (11, .int (nI (gp (mS S (n % nLi S)) 1000).2))]) h (by decide) rfl dL_holds_423 ?_
              refine vl_iinc (pc := 425) (v := nI (k + 1)) (lo2 := [(12, .int (nI (k + 1))), (10, .int (nI w)), (9, .int (nI 1)), (15, .int (-1)), (14, .int (nI w)), (13, .int (nI (n / 7 % 5 + 3 * k))), (0, .ref (G.2.1 + 0)), (1, .int (nI n)), (2, .int (nI (nLi S))), (3, .int (nI (nRd S))), (4, .int (nI (n % nLi S))), (5, .int (nI (n / 12 % nLi S))), (6, .int (nI (cS (mS S (n % nLi S)) 1000))), (7, .int (nI (cS (mS S (n / 12 % nLi S)) 1000))), (11, .int (nI (gp (mS S (n % nLi S)) 1000).2))]) h 5 rfl (iinc1 _) (by decide) rfl dL_holds_425 ?_
              refine vl_goto (pc := 428) (tgt := 179) h (by decide) dL_holds_428 ?_
              refine vl_sub [0, 2, 1, 6, 7, 8, 9, 10, 11, 12, 13, 14] rfl ?_
              exact vl_wd (by omega) (ih179 (k + 1) (nI w) (by omega) (fun z hz => (nI_ltI (by omega) (by have := (ath_spec hz).1; omega)).mpr (ath_mono e14 hz (by omega))) (by omega))
            · skip
              obtain ⟨j1, j2, j3, j4⟩ := ath_nx e14 e15
              have j5 := (gp_le (mS S (n % nLi S)) 1000).1
              refine vl_icmp_eq_f (pc := 356) (tgt := 369) h (nI_neg (by omega) (by decide)) (by decide) dL_holds_356 ?_
              refine vl_iload (pc := 359) h 0 rfl dL_holds_359 ?_
              refine vl_iload (pc := 361) h 2 rfl dL_holds_361 ?_
              refine vl_isub (pc := 363) (v := nI (z - w)) h (pk_sub (by omega)) dL_holds_363 ?_
              refine vl_iload (pc := 364) h 14 rfl dL_holds_364 ?_
              refine vl_icmp_gt_f (pc := 366) (tgt := 418) h (by rw [nI_ltI (by omega) (by omega)]; omega) (by decide) dL_holds_366 ?_
              refine vl_iload (pc := 369) h 0 rfl dL_holds_369 ?_
              refine vl_iconst (pc := 371) (v := (-1)) h (by decide) dL_holds_371 ?_
              refine vl_icmp_eq_f (pc := 372) (tgt := 414) h (nI_neg (by omega) (by decide)) (by decide) dL_holds_372 ?_
              refine vl_iload (pc := 375) h 0 rfl dL_holds_375 ?_
              refine vl_iload (pc := 377) h 2 rfl dL_holds_377 ?_
              refine vl_iconst (pc := 379) (v := nI 1) h (by decide) dL_holds_379 ?_
              refine vl_iadd (pc := 380) (v := nI (w + 1)) h (nI_add _ _) dL_holds_380 ?_
              refine vl_icmp_eq (pc := 381) (tgt := 414) h (by decide) dL_holds_381 (fun c381 => ?_) (fun c381 => ?_)
              · skip
                refine vl_iconst (pc := 414) (v := nI 1) h (by decide) dL_holds_414 ?_
                refine vl_goto (pc := 415) (tgt := 419) h (by decide) dL_holds_415 ?_
                refine vl_istore (pc := 419) (lo2 := [(9, .int (nI 1)), (15, .int (nI z)), (14, .int (nI w)), (13, .int (nI (n / 7 % 5 + 3 * k))), (12, .int (nI k)), (10, .int b), (0, .ref (G.2.1 + 0)), (1, .int (nI n)), (2, .int (nI (nLi S))), (3, .int (nI (nRd S))), (4, .int (nI (n % nLi S))), (5, .int (nI (n / 12 % nLi S))), (6, .int (nI (cS (mS S (n % nLi S)) 1000))), (7, .int (nI (cS (mS S (n / 12 % nLi S)) 1000))), (11, .int (nI (gp (mS S (n % nLi S)) 1000).2))]) h (by decide) rfl dL_holds_419 ?_
                refine vl_iload (pc := 421) h 2 rfl dL_holds_421 ?_
                refine vl_istore (pc := 423) (lo2 := [(10, .int (nI w)), (9, .int (nI 1)), (15, .int (nI z)), (14, .int (nI w)), (13, .int (nI (n / 7 % 5 + 3 * k))), (12, .int (nI k)), (0, .ref (G.2.1 + 0)), (1, .int (nI n)), (2, .int (nI (nLi S))), (3, .int (nI (nRd S))), (4, .int (nI (n % nLi S))), (5, .int (nI (n / 12 % nLi S))), (6, .int (nI (cS (mS S (n % nLi S)) 1000))), (7, .int (nI (cS (mS S (n / 12 % nLi S)) 1000))), (11, .int (nI (gp (mS S (n % nLi S)) 1000).2))]) h (by decide) rfl dL_holds_423 ?_
                refine vl_iinc (pc := 425) (v := nI (k + 1)) (lo2 := [(12, .int (nI (k + 1))), (10, .int (nI w)), (9, .int (nI 1)), (15, .int (nI z)), (14, .int (nI w)), (13, .int (nI (n / 7 % 5 + 3 * k))), (0, .ref (G.2.1 + 0)), (1, .int (nI n)), (2, .int (nI (nLi S))), (3, .int (nI (nRd S))), (4, .int (nI (n % nLi S))), (5, .int (nI (n / 12 % nLi S))), (6, .int (nI (cS (mS S (n % nLi S)) 1000))), (7, .int (nI (cS (mS S (n / 12 % nLi S)) 1000))), (11, .int (nI (gp (mS S (n % nLi S)) 1000).2))]) h 5 rfl (iinc1 _) (by decide) rfl dL_holds_425 ?_
                refine vl_goto (pc := 428) (tgt := 179) h (by decide) dL_holds_428 ?_
                refine vl_sub [0, 2, 1, 6, 7, 8, 9, 10, 11, 12, 13, 14] rfl ?_
                exact vl_wd (by omega) (ih179 (k + 1) (nI w) (by omega) (fun z hz => (nI_ltI (by omega) (by have := (ath_spec hz).1; omega)).mpr (ath_mono e14 hz (by omega))) (by omega))
              · skip
                have c381 : ¬ nI z = nI (w + 1) := c381
                rw [nI_eq (by omega) (by omega)] at c381
                have j6 := j3 (w + 1) (by omega) (by omega)
                refine vl_aload_n (pc := 384) h 6 rfl rfl dL_holds_384 ?_
                refine vl_iload (pc := 385) h 10 rfl dL_holds_385 ?_
                refine vl_iload (pc := 387) h 2 rfl dL_holds_387 ?_
                refine vl_iconst (pc := 389) (v := nI 1) h (by decide) dL_holds_389 ?_
                refine vl_iadd (pc := 390) (v := nI (w + 1)) h (nI_add _ _) dL_holds_390 ?_
                refine wW1 (pc := 391) (As := [.ref (G.2.1 + 0), .int (nI (n % nLi S)), .int (nI (w + 1))]) (st := []) (r2 := nI 0) (u2 := 20 + 24 * k + 2 + 2 + 2 + 2 + 2 + 2 + 2) h hE hX lkw_252 (kc_is hst G S (nI (n % nLi S)) (nI (w + 1)) (sc0 (li_s (S := S) (i := n % nLi S) hiN hN) (in_t (by omega) (by omega) (by omega)))) ((isT (b := false) (by omega) (by omega) j6).trans rfl) rfl rfl (by decide) rfl (Nat.le_of_ble_eq_true rfl) ⟨by show _ + 2 ≤ _; omega, by show _ ≤ 400; omega⟩ dL_holds_391 ?_
                refine vl_if_ne_f (pc := 394) (tgt := 418) h rfl (by decide) dL_holds_394 ?_
                refine vl_aload_n (pc := 397) h 6 rfl rfl dL_holds_397 ?_
                refine vl_bipush (pc := 398) (v := nI 19) h (by decide) dL_holds_398 ?_
                refine vl_iload (pc := 400) h 10 rfl dL_holds_400 ?_
                refine vl_iload (pc := 402) h 2 rfl dL_holds_402 ?_
                refine vl_iconst (pc := 404) (v := nI 1) h (by decide) dL_holds_404 ?_
                refine vl_iadd (pc := 405) (v := nI (w + 1)) h (nI_add _ _) dL_holds_405 ?_
                refine vl_iconst (pc := 406) (v := nI 0) h (by decide) dL_holds_406 ?_
                refine wS1 (pc := 407) (As := [.ref (G.2.1 + 0), .int (nI 19), .int (nI (n % nLi S)), .int (nI (w + 1)), .int (nI 0)]) (st := []) (r2 := (-1)) (u2 := 20 + 24 * k + 2 + 2 + 2 + 2 + 2 + 2 + 2 + 2) h hE hX lk_RL_248 (kc_19 hst G S (nI (n % nLi S)) (nI (w + 1)) (nI 0) (sc0 (li_s (S := S) (i := n % nLi S) hiN hN) (in_t (by omega) (by omega) (by omega)))) (plN (by omega) (by omega) j6) rfl rfl (by decide) rfl (Nat.le_of_ble_eq_true rfl) ⟨by show _ + 2 ≤ _; omega, by show _ ≤ 400; omega⟩ dL_holds_407 ?_
                refine vl_iconst (pc := 410) (v := (-1)) h (by decide) dL_holds_410 ?_
                refine vl_icmp_ne_f (pc := 411) (tgt := 418) h rfl (by decide) dL_holds_411 ?_
                refine vl_iconst (pc := 414) (v := nI 1) h (by decide) dL_holds_414 ?_
                refine vl_goto (pc := 415) (tgt := 419) h (by decide) dL_holds_415 ?_
                refine vl_istore (pc := 419) (lo2 := [(9, .int (nI 1)), (15, .int (nI z)), (14, .int (nI w)), (13, .int (nI (n / 7 % 5 + 3 * k))), (12, .int (nI k)), (10, .int b), (0, .ref (G.2.1 + 0)), (1, .int (nI n)), (2, .int (nI (nLi S))), (3, .int (nI (nRd S))), (4, .int (nI (n % nLi S))), (5, .int (nI (n / 12 % nLi S))), (6, .int (nI (cS (mS S (n % nLi S)) 1000))), (7, .int (nI (cS (mS S (n / 12 % nLi S)) 1000))), (11, .int (nI (gp (mS S (n % nLi S)) 1000).2))]) h (by decide) rfl dL_holds_419 ?_
                refine vl_iload (pc := 421) h 2 rfl dL_holds_421 ?_
                refine vl_istore (pc := 423) (lo2 := [(10, .int (nI w)), (9, .int (nI 1)), (15, .int (nI z)), (14, .int (nI w)), (13, .int (nI (n / 7 % 5 + 3 * k))), (12, .int (nI k)), (0, .ref (G.2.1 + 0)), (1, .int (nI n)), (2, .int (nI (nLi S))), (3, .int (nI (nRd S))), (4, .int (nI (n % nLi S))), (5, .int (nI (n / 12 % nLi S))), (6, .int (nI (cS (mS S (n % nLi S)) 1000))), (7, .int (nI (cS (mS S (n / 12 % nLi S)) 1000))), (11, .int (nI (gp (mS S (n % nLi S)) 1000).2))]) h (by decide) rfl dL_holds_423 ?_
                refine vl_iinc (pc := 425) (v := nI (k + 1)) (lo2 := [(12, .int (nI (k + 1))), (10, .int (nI w)), (9, .int (nI 1)), (15, .int (nI z)), (14, .int (nI w)), (13, .int (nI (n / 7 % 5 + 3 * k))), (0, .ref (G.2.1 + 0)), (1, .int (nI n)), (2, .int (nI (nLi S))), (3, .int (nI (nRd S))), (4, .int (nI (n % nLi S))), (5, .int (nI (n / 12 % nLi S))), (6, .int (nI (cS (mS S (n % nLi S)) 1000))), (7, .int (nI (cS (mS S (n / 12 % nLi S)) 1000))), (11, .int (nI (gp (mS S (n % nLi S)) 1000).2))]) h 5 rfl (iinc1 _) (by decide) rfl dL_holds_425 ?_
                refine vl_goto (pc := 428) (tgt := 179) h (by decide) dL_holds_428 ?_
                refine vl_sub [0, 2, 1, 6, 7, 8, 9, 10, 11, 12, 13, 14] rfl ?_
                exact vl_wd (by omega) (ih179 (k + 1) (nI w) (by omega) (fun z hz => (nI_ltI (by omega) (by have := (ath_spec hz).1; omega)).mpr (ath_mono e14 hz (by omega))) (by omega))
    refine vl_sub [0, 3, 2, 10, 11, 9, 8, 7, 6, 5, 4, 1] rfl ?_
    exact vl_wd (by omega) (lp179 _ 0 (-1) (by omega) (fun z _ => Int32.lt_of_lt_of_le (by decide) (nI_pos' (by have := (ath_spec (by assumption)).1; omega))) (Nat.lt_succ_self _))
  refine vl_if_ne (pc := 76) (tgt := 83) h (by decide) dL_holds_76 (fun c76 => ?_) (fun c76 => ?_)
  · skip
    rw [zI0, nI_eq (by omega) (by omega)] at c76
    obtain ⟨w, hw⟩ := lst_some (M := (mS S (n % nLi S))) (by omega)
    obtain ⟨hw1, hw2, hw3, hw4⟩ := lst_at hw
    rw [hw]
    refine vl_iconst (pc := 83) (v := nI 0) h (by decide) dL_holds_83 ?_
    refine vl_iload (pc := 84) h 0 rfl dL_holds_84 ?_
    refine vl_iconst (pc := 86) (v := (-1)) h (by decide) dL_holds_86 ?_
    refine vl_icmp_ne_t (pc := 87) (tgt := 94) h (nI_neg (by omega) (by decide)) (by decide) dL_holds_87 ?_
    refine vl_iconst (pc := 94) (v := nI 0) h (by decide) dL_holds_94 ?_
    refine vl_icmp_ne_f (pc := 95) (tgt := 158) h rfl (by decide) dL_holds_95 ?_
    refine vl_aload_n (pc := 98) h 7 rfl rfl dL_holds_98 ?_
    refine vl_bipush (pc := 99) (v := nI 17) h (by decide) dL_holds_99 ?_
    refine vl_iload (pc := 101) h 4 rfl dL_holds_101 ?_
    refine vl_iload (pc := 103) h 2 rfl dL_holds_103 ?_
    refine vl_iconst (pc := 105) (v := nI 0) h (by decide) dL_holds_105 ?_
    refine wS1 (pc := 106) (As := [.ref (G.2.1 + 0), .int (nI 17), .int (nI (n % (nLi S))), .int (nI (cS (mS S (n % nLi S)) 1000)), .int (nI 0)]) (st := []) (r2 := (-1)) (u2 := 7) h hE hX lk_RL_248 (kc_17 hst G S (nI (n % (nLi S))) (nI (cS (mS S (n % nLi S)) 1000)) (nI 0) (sc0 (li_s (S := S) (i := n % nLi S) hiN hN) (pl_t (by omega)))) ((at17 rfl (by omega) (by omega)).trans (by rw [ath_none (Nat.le_refl _)]; rfl)) rfl rfl (by decide) rfl (Nat.le_of_ble_eq_true rfl) (by decide) dL_holds_106 ?_
    refine vl_iconst (pc := 109) (v := (-1)) h (by decide) dL_holds_109 ?_
    refine vl_icmp_ne_f (pc := 110) (tgt := 158) h rfl (by decide) dL_holds_110 ?_
    refine vl_iload (pc := 113) h 2 rfl dL_holds_113 ?_
    refine vl_if_eq_f (pc := 115) (tgt := 154) h (nI_ne0 (by omega) (by omega)) (by decide) dL_holds_115 ?_
    refine vl_aload_n (pc := 118) h 7 rfl rfl dL_holds_118 ?_
    refine vl_bipush (pc := 119) (v := nI 17) h (by decide) dL_holds_119 ?_
    refine vl_iload (pc := 121) h 4 rfl dL_holds_121 ?_
    refine vl_iload (pc := 123) h 2 rfl dL_holds_123 ?_
    refine vl_iconst (pc := 125) (v := nI 1) h (by decide) dL_holds_125 ?_
    refine vl_isub (pc := 126) (v := nI ((cS (mS S (n % nLi S)) 1000) - 1)) h (pk_sub (by omega)) dL_holds_126 ?_
    refine vl_iconst (pc := 127) (v := nI 0) h (by decide) dL_holds_127 ?_
    refine wS1 (pc := 128) (As := [.ref (G.2.1 + 0), .int (nI 17), .int (nI (n % (nLi S))), .int (nI ((cS (mS S (n % nLi S)) 1000) - 1)), .int (nI 0)]) (st := []) (r2 := nI w) (u2 := 9) h hE hX lk_RL_248 (kc_17 hst G S (nI (n % (nLi S))) (nI ((cS (mS S (n % nLi S)) 1000) - 1)) (nI 0) (sc0 (li_s (S := S) (i := n % nLi S) hiN hN) (pl_t (by omega)))) ((at17 rfl (by omega) (by omega)).trans (by rw [hw4]; rfl)) rfl rfl (by decide) rfl (Nat.le_of_ble_eq_true rfl) (by decide) dL_holds_128 ?_
    refine vl_iload (pc := 131) h 0 rfl dL_holds_131 ?_
    refine vl_icmp_ne_f (pc := 133) (tgt := 158) h rfl (by decide) dL_holds_133 ?_
    refine vl_aload_n (pc := 136) h 7 rfl rfl dL_holds_136 ?_
    refine vl_bipush (pc := 137) (v := nI 19) h (by decide) dL_holds_137 ?_
    refine vl_iload (pc := 139) h 4 rfl dL_holds_139 ?_
    refine vl_iload (pc := 141) h 0 rfl dL_holds_141 ?_
    refine vl_iconst (pc := 143) (v := nI 0) h (by decide) dL_holds_143 ?_
    refine wS1 (pc := 144) (As := [.ref (G.2.1 + 0), .int (nI 19), .int (nI (n % (nLi S))), .int (nI w), .int (nI 0)]) (st := []) (r2 := nI ((cS (mS S (n % nLi S)) 1000) - 1)) (u2 := 11) h hE hX lk_RL_248 (kc_19 hst G S (nI (n % (nLi S))) (nI w) (nI 0) (sc0 (li_s (S := S) (i := n % nLi S) hiN hN) (in_t (by omega) (by omega) (by omega)))) (plY (by omega) (by omega) hw2 hw3) rfl rfl (by decide) rfl (Nat.le_of_ble_eq_true rfl) (by decide) dL_holds_144 ?_
    refine vl_iload (pc := 147) h 2 rfl dL_holds_147 ?_
    refine vl_iconst (pc := 149) (v := nI 1) h (by decide) dL_holds_149 ?_
    refine vl_isub (pc := 150) (v := nI ((cS (mS S (n % nLi S)) 1000) - 1)) h (pk_sub (by omega)) dL_holds_150 ?_
    refine vl_icmp_ne_f (pc := 151) (tgt := 158) h rfl (by decide) dL_holds_151 ?_
    refine vl_iconst (pc := 154) (v := nI 1) h (by decide) dL_holds_154 ?_
    refine vl_goto (pc := 155) (tgt := 159) h (by decide) dL_holds_155 ?_
    refine vl_sub [1, 2, 3, 4, 5, 6, 7, 8] rfl ?_
    exact vl_wd (by decide) k159
  · skip
    rw [zI0, nI_eq (by omega) (by omega)] at c76
    rw [lst_z c76]
    refine vl_iconst (pc := 79) (v := nI 1) h (by decide) dL_holds_79 ?_
    refine vl_goto (pc := 80) (tgt := 84) h (by decide) dL_holds_80 ?_
    refine vl_iload (pc := 84) h 0 rfl dL_holds_84 ?_
    refine vl_iconst (pc := 86) (v := (-1)) h (by decide) dL_holds_86 ?_
    refine vl_icmp_ne_f (pc := 87) (tgt := 94) h rfl (by decide) dL_holds_87 ?_
    refine vl_iconst (pc := 90) (v := nI 1) h (by decide) dL_holds_90 ?_
    refine vl_goto (pc := 91) (tgt := 95) h (by decide) dL_holds_91 ?_
    refine vl_icmp_ne_f (pc := 95) (tgt := 158) h rfl (by decide) dL_holds_95 ?_
    refine vl_aload_n (pc := 98) h 7 rfl rfl dL_holds_98 ?_
    refine vl_bipush (pc := 99) (v := nI 17) h (by decide) dL_holds_99 ?_
    refine vl_iload (pc := 101) h 4 rfl dL_holds_101 ?_
    refine vl_iload (pc := 103) h 2 rfl dL_holds_103 ?_
    refine vl_iconst (pc := 105) (v := nI 0) h (by decide) dL_holds_105 ?_
    refine wS1 (pc := 106) (As := [.ref (G.2.1 + 0), .int (nI 17), .int (nI (n % (nLi S))), .int (nI (cS (mS S (n % nLi S)) 1000)), .int (nI 0)]) (st := []) (r2 := (-1)) (u2 := 7) h hE hX lk_RL_248 (kc_17 hst G S (nI (n % (nLi S))) (nI (cS (mS S (n % nLi S)) 1000)) (nI 0) (sc0 (li_s (S := S) (i := n % nLi S) hiN hN) (pl_t (by omega)))) ((at17 rfl (by omega) (by omega)).trans (by rw [ath_none (Nat.le_refl _)]; rfl)) rfl rfl (by decide) rfl (Nat.le_of_ble_eq_true rfl) (by decide) dL_holds_106 ?_
    refine vl_iconst (pc := 109) (v := (-1)) h (by decide) dL_holds_109 ?_
    refine vl_icmp_ne_f (pc := 110) (tgt := 158) h rfl (by decide) dL_holds_110 ?_
    refine vl_iload (pc := 113) h 2 rfl dL_holds_113 ?_
    refine vl_if_eq_t (pc := 115) (tgt := 154) h (congrArg nI c76) (by decide) dL_holds_115 ?_
    refine vl_iconst (pc := 154) (v := nI 1) h (by decide) dL_holds_154 ?_
    refine vl_goto (pc := 155) (tgt := 159) h (by decide) dL_holds_155 ?_
    refine vl_sub [1, 2, 3, 4, 5, 6, 7, 8] rfl ?_
    exact vl_wd (by decide) k159

