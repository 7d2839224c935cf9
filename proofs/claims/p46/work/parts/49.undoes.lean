/-! THE LAW: thrown, corner, undoes -/
theorem nI_neg {n : Nat} (h : n < 2 ^ 31) {v : Int32} (hv : v < 0) : ¬ nI n = v := fun e => by
  rw [← e] at hv
  exact nI_pos h hv
/-- undone n times -/
def poN (S : Cs) : Nat → Cs
  | 0 => S
  | n + 1 => po (poN S n)
theorem poN_m (S : Cs) : ∀ n, sM (poN S n) = sM S - n
  | 0 => rfl
  | n + 1 => by
    show sM (poN S n) - 1 = _
    rw [poN_m S n]
    omega
set_option maxRecDepth 100000 in
set_option maxHeartbeats 4000000 in
theorem c_thrown (l : Launch) (n : Nat) (hn : n < 2 ^ 31) : K0 l yL_thrown cL_thrown 1 .boolean ({ frames := 0, cells := 0, slots := 0, locals := 0 } : Room) [.int (nI n)] (nI 0) := by
  refine K0_of rfl (by decide +kernel) (lo := [(0, .int (nI n))]) rfl (Nat.le_of_ble_eq_true rfl) rfl (rfl) ?_
  intro x Q hxl h hret
  subst hxl
  refine vl_iload_n (pc := 0) h 0 rfl rfl dL_thrown_0 ?_
  refine vl_ldc (pc := 1) (v := (-9999001)) h mw_15_3 dL_thrown_1 ?_
  refine vl_icmp_eq_f (pc := 3) (tgt := 18) h (nI_neg hn (by decide)) (by decide) dL_thrown_3 ?_
  refine vl_iload_n (pc := 6) h 0 rfl rfl dL_thrown_6 ?_
  refine vl_ldc (pc := 7) (v := (-9999002)) h mw_4_3 dL_thrown_7 ?_
  refine vl_icmp_eq_f (pc := 9) (tgt := 18) h (nI_neg hn (by decide)) (by decide) dL_thrown_9 ?_
  refine vl_iload_n (pc := 12) h 0 rfl rfl dL_thrown_12 ?_
  refine vl_ldc (pc := 13) (v := (-9999003)) h mw_4_4 dL_thrown_13 ?_
  refine vl_icmp_ne_t (pc := 15) (tgt := 22) h (nI_neg hn (by decide)) (by decide) dL_thrown_15 ?_
  refine vl_iconst (pc := 22) (v := nI 0) h (by decide) dL_thrown_22 ?_
  exact vl_wd (by decide) (hret 23 _ dL_thrown_23)

set_option maxRecDepth 100000 in
set_option maxHeartbeats 4000000 in
theorem c_corner (l : Launch) (p c : Nat) (hp : p ≤ 20000) (hc9 : c < 200) (h1 : triN c ≤ p) (h2 : p < triN (c + 1)) : K0 l yL_corner cL_corner 2 .int ({ frames := 0, cells := 0, slots := 0, locals := 0 } : Room) [.int (nI p)] (nI c) := by
  refine K0_of rfl (by decide +kernel) (lo := [(0, .int (nI p))]) rfl (Nat.le_of_ble_eq_true rfl) rfl (rfl) ?_
  intro x Q hxl h hret
  subst hxl
  refine vl_iconst (pc := 0) (v := nI 0) h (by decide) dL_corner_0 ?_
  refine vl_istore_n (pc := 1) (lo2 := [(1, .int (nI 0)), (0, .int (nI p))]) h rfl (by decide) rfl dL_corner_1 ?_
  have lp2 : ∀ (fu : Nat) (j : Nat), j ≤ c → c - j < fu → VP x (fun _ => False) 2 0 Q (fun _ => True) 2 [(1, .int (nI j)), (0, .int (nI p))] [] := by
    intro fu
    induction fu with
    | zero => intro j hj hfu; exact absurd hfu (Nat.not_lt_zero _)
    | succ fu ih2 =>
      intro j hj hfu
      refine vl_iload_n (pc := 2) h 0 rfl rfl dL_corner_2 ?_
      have hb : triN (j + 1) < 2 ^ 31 := by
        have h8 := tri_le (show j + 1 ≤ 512 by omega)
        omega
      refine vl_iconst (pc := 3) (v := nI 1) h (by decide) dL_corner_3 ?_
      refine vl_iadd (pc := 4) (v := nI (j + 1)) h (nI_add _ _) dL_corner_4 ?_
      refine vl_iload_n (pc := 5) h 0 rfl rfl dL_corner_5 ?_
      refine vl_iconst (pc := 6) (v := nI 2) h (by decide) dL_corner_6 ?_
      refine vl_iadd (pc := 7) (v := nI (j + 2)) h (nI_add _ _) dL_corner_7 ?_
      refine vl_imul (pc := 8) (v := nI ((j + 1) * (j + 1 + 1))) h (pk_mul _ _) dL_corner_8 ?_
      refine vl_iconst (pc := 9) (v := nI 2) h (by decide) dL_corner_9 ?_
      refine vl_idiv (pc := 10) (v := nI (triN (j + 1))) h (by decide) (by rw [← tri_eq (j + 1)]; exact pk_div (by have h9 : (j + 1) * (j + 1 + 1) ≤ 201 * 202 := Nat.mul_le_mul (by omega) (by omega); omega) (by omega) (by omega)) dL_corner_10 ?_
      refine vl_iload_n (pc := 11) h 1 rfl rfl dL_corner_11 ?_
      refine vl_icmp_gt (pc := 12) (tgt := 21) h (by decide) dL_corner_12 (fun c12 => ?_) (fun c12 => ?_)
      · skip
        have e9 : j = c := by
          rcases Nat.lt_or_ge j c with q | q
          · have h8 := tri_mono (show j + 1 ≤ c by omega)
            rw [nI_ltI (by omega) hb] at c12
            omega
          · omega
        subst e9
        refine vl_iload_n (pc := 21) h 0 rfl rfl dL_corner_21 ?_
        exact vl_wd (by show _ ≤ 0; omega) (hret 22 _ dL_corner_22)
      · skip
        have e9 : j + 1 ≤ c := by
          rcases Nat.lt_or_ge j c with q | q
          · omega
          · have e8 : j = c := by omega
            subst e8
            rw [nI_ltI (by omega) hb] at c12
            omega
        refine vl_iinc (pc := 15) (v := nI (j + 1)) (lo2 := [(1, .int (nI (j + 1))), (0, .int (nI p))]) h 0 rfl (iinc1 _) (by decide) rfl dL_corner_15 ?_
        refine vl_goto (pc := 18) (tgt := 2) h (by decide) dL_corner_18 ?_
        exact vl_wd (by omega) (ih2 (j + 1) (by omega) (by omega))
  exact vl_wd (by omega) (lp2 _ 0 (by omega) (Nat.lt_succ_self _))

set_option maxRecDepth 100000 in
set_option maxHeartbeats 4000000 in
theorem n_undoes (l : Launch) (hst : l.stackTraces = false) (G K : Gl) (h2 : Two G K) (S : Cs) (n : Nat) (hn : n ≤ sM S) (hm : sM S ≤ 14) : K2 l yL_undoes cL_undoes 5 .boolean ({ frames := 9, cells := 30, slots := 180, locals := 188 } : Room) G K [.ref (G.2.1 + 0), .ref (K.2.1 + 0), .int (nI n)] S (nI 1) (poN S n) := by
  refine K2_of rfl (by decide +kernel) (lo := [(0, .ref (G.2.1 + 0)), (1, .ref (K.2.1 + 0)), (2, .int (nI n))]) rfl (Nat.le_of_ble_eq_true rfl) rfl (rfl) ?_
  intro x Q hxl h hE hE2 hX hret
  subst hxl
  refine vl_iconst (pc := 0) (v := nI 1) h (by decide) dL_undoes_0 ?_
  refine vl_istore_n (pc := 1) (lo2 := [(3, .int (nI 1)), (0, .ref (G.2.1 + 0)), (1, .ref (K.2.1 + 0)), (2, .int (nI n))]) h rfl (by decide) rfl dL_undoes_1 ?_
  refine vl_iconst (pc := 2) (v := nI 0) h (by decide) dL_undoes_2 ?_
  refine vl_istore (pc := 3) (lo2 := [(4, .int (nI 0)), (3, .int (nI 1)), (0, .ref (G.2.1 + 0)), (1, .ref (K.2.1 + 0)), (2, .int (nI n))]) h (by decide) rfl dL_undoes_3 ?_
  have lp5 : ∀ (fu : Nat) (k : Nat), k ≤ n → n - k < fu → VP x (bB G K) 5 (2 * k) Q (W2 G K (poN S k) (poN S k)) 5 [(4, .int (nI k)), (3, .int (nI 1)), (0, .ref (G.2.1 + 0)), (1, .ref (K.2.1 + 0)), (2, .int (nI n))] [] := by
    intro fu
    induction fu with
    | zero => intro k hk hfu; exact absurd hfu (Nat.not_lt_zero _)
    | succ fu ih5 =>
      intro k hk hfu
      refine vl_iload (pc := 5) h 0 rfl dL_undoes_5 ?_
      refine vl_iload_n (pc := 7) h 4 rfl rfl dL_undoes_7 ?_
      refine vl_icmp_ge (pc := 8) (tgt := 57) h (by decide) dL_undoes_8 (fun c8 => ?_) (fun c8 => ?_)
      · skip
        rw [nI_leI (by omega) (by omega)] at c8
        have e9 : k = n := by omega
        subst e9
        refine vl_iload_n (pc := 57) h 1 rfl rfl dL_undoes_57 ?_
        exact vl_wd (by show _ ≤ 30; omega) (hret 58 _ dL_undoes_58)
      · skip
        rw [nI_leI (by omega) (by omega)] at c8
        have hC : ∀ u1 u2 u3 : Int32, cK_16 (poN S k) u1 u2 u3 = 0 := fun _ _ _ => cB_t (decide_eq_true (by rw [poN_m]; omega))
        have hm9 := poN_m S k
        refine vl_iload_n (pc := 11) h 1 rfl rfl dL_undoes_11 ?_
        refine vl_if_eq_f (pc := 12) (tgt := 57) h (by decide) (by decide) dL_undoes_12 ?_
        refine vl_aload_n (pc := 15) h 2 rfl rfl dL_undoes_15 ?_
        refine vl_bipush (pc := 16) (v := nI 16) h (by decide) dL_undoes_16 ?_
        refine vl_iconst (pc := 18) (v := nI 0) h (by decide) dL_undoes_18 ?_
        refine vl_iconst (pc := 19) (v := nI 0) h (by decide) dL_undoes_19 ?_
        refine vl_iconst (pc := 20) (v := nI 0) h (by decide) dL_undoes_20 ?_
        refine wSo (pc := 21) (As := [.ref (G.2.1 + 0), .int (nI 16), .int (nI 0), .int (nI 0), .int (nI 0)]) (st := []) (r2 := nI (sM (poN S k) - 1)) (u2 := 2 * k + 1) h2 h hE hX lk_RL_248 (KL.eqs rfl rfl (kc_16 hst G (poN S k) (nI 0) (nI 0) (nI 0) (hC _ _ _))) rfl rfl rfl (by decide) rfl (Nat.le_of_ble_eq_true rfl) ⟨by show _ + 1 ≤ _; omega, by show _ ≤ 30; omega⟩ dL_undoes_21 ?_
        refine vl_k0 (pc := 24) (As := [.int (nI (sM (poN S k) - 1))]) (st := []) (r2 := nI 0) (u2 := 2 * k + 1) h W2.all lk_RL_298 (c_thrown x.2.1 _ (by omega)) rfl rfl rfl (by decide) rfl (Nat.le_of_ble_eq_true rfl) ⟨by show _ + 0 ≤ _; omega, by show _ ≤ 30; omega⟩ dL_undoes_24 ?_
        refine vl_if_ne_f (pc := 27) (tgt := 49) h rfl (by decide) dL_undoes_27 ?_
        refine vl_aload_n (pc := 30) h 3 rfl rfl dL_undoes_30 ?_
        refine vl_bipush (pc := 31) (v := nI 16) h (by decide) dL_undoes_31 ?_
        refine vl_iconst (pc := 33) (v := nI 0) h (by decide) dL_undoes_33 ?_
        refine vl_iconst (pc := 34) (v := nI 0) h (by decide) dL_undoes_34 ?_
        refine vl_iconst (pc := 35) (v := nI 0) h (by decide) dL_undoes_35 ?_
        refine wSq (pc := 36) (As := [.ref (K.2.1 + 0), .int (nI 16), .int (nI 0), .int (nI 0), .int (nI 0)]) (st := []) (r2 := nI (sM (poN S k) - 1)) (u2 := 2 * k + 1 + 1) h2 h hE2 hX lk_RL_248 (KL.eqs rfl rfl (kc_16 hst K (poN S k) (nI 0) (nI 0) (nI 0) (hC _ _ _))) rfl rfl rfl (by decide) rfl (Nat.le_of_ble_eq_true rfl) ⟨by show _ + 1 ≤ _; omega, by show _ ≤ 30; omega⟩ dL_undoes_36 ?_
        refine vl_k0 (pc := 39) (As := [.int (nI (sM (poN S k) - 1))]) (st := []) (r2 := nI 0) (u2 := 2 * k + 1 + 1) h W2.all lk_RL_298 (c_thrown x.2.1 _ (by omega)) rfl rfl rfl (by decide) rfl (Nat.le_of_ble_eq_true rfl) ⟨by show _ + 0 ≤ _; omega, by show _ ≤ 30; omega⟩ dL_undoes_39 ?_
        refine vl_if_ne_f (pc := 42) (tgt := 49) h rfl (by decide) dL_undoes_42 ?_
        refine vl_iconst (pc := 45) (v := nI 1) h (by decide) dL_undoes_45 ?_
        refine vl_goto (pc := 46) (tgt := 50) h (by decide) dL_undoes_46 ?_
        refine vl_istore_n (pc := 50) (lo2 := [(3, .int (nI 1)), (4, .int (nI k)), (0, .ref (G.2.1 + 0)), (1, .ref (K.2.1 + 0)), (2, .int (nI n))]) h rfl (by decide) rfl dL_undoes_50 ?_
        refine vl_iinc (pc := 51) (v := nI (k + 1)) (lo2 := [(4, .int (nI (k + 1))), (3, .int (nI 1)), (0, .ref (G.2.1 + 0)), (1, .ref (K.2.1 + 0)), (2, .int (nI n))]) h 1 rfl (iinc1 _) (by decide) rfl dL_undoes_51 ?_
        refine vl_goto (pc := 54) (tgt := 5) h (by decide) dL_undoes_54 ?_
        exact vl_wd (by omega) (ih5 (k + 1) (by omega) (by omega))
  exact vl_wd (by omega) (lp5 _ 0 (by omega) (Nat.lt_succ_self _))

