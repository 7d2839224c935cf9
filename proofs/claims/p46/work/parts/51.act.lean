/-! THE LAW: act -/
def dA (y : Nat) : Nat := if y % 3 = 0 then 1000 else 60
def dB (y : Nat) : Nat := if y % 2 = 0 then 99 else 12
def dC (y : Nat) : Nat := if y % 2 = 0 then 99 else 9
theorem dA_b (y : Nat) : 0 < dA y ∧ dA y ≤ 1000 := by unfold dA; split <;> omega
theorem dB_b (y : Nat) : 0 < dB y ∧ dB y ≤ 99 := by unfold dB; split <;> omega
theorem dC_b (y : Nat) : 0 < dC y ∧ dC y ≤ 99 := by unfold dC; split <;> omega
/-- the reader that is chosen -/
def rI (S : Cs) (y : Nat) : Nat := if nRd S = 0 then 0 else y % nRd S
theorem rI_b (S : Cs) (y : Nat) : rI S y ≤ nRd S := by
  unfold rI
  split
  · omega
  · have := Nat.mod_lt y (show 0 < nRd S by omega); omega
noncomputable def actF (S : Cs) (n : Nat) : Int32 × Cs := match n % 16 with
  | 0 => (rK_2 S (nI ((n / 16) % (dA (n / 16)))) (nI (1 + (((n / 16) / 1000) % (dB (n / 16))))) (nI 0), sK_2 S (nI ((n / 16) % (dA (n / 16)))) (nI (1 + (((n / 16) / 1000) % (dB (n / 16))))) (nI 0))
  | 1 => (rK_2 S (nI ((n / 16) % (dA (n / 16)))) (nI (1 + (((n / 16) / 1000) % (dB (n / 16))))) (nI 0), sK_2 S (nI ((n / 16) % (dA (n / 16)))) (nI (1 + (((n / 16) / 1000) % (dB (n / 16))))) (nI 0))
  | 2 => (rK_3 S (nI ((n / 16) % (nLi S))) (nI (1 + (((n / 16) / 12) % 9))) (nI (((n / 16) / 108) % 100)), sK_3 S (nI ((n / 16) % (nLi S))) (nI (1 + (((n / 16) / 12) % 9))) (nI (((n / 16) / 108) % 100)))
  | 3 => (rK_4 S (nI ((n / 16) % (nLi S))) (nI (((n / 16) / 12) % (nLi S))) (nI 0), sK_4 S (nI ((n / 16) % (nLi S))) (nI (((n / 16) / 12) % (nLi S))) (nI 0))
  | 4 => if n / 16 % 2 = 0 then (rK_5 S (nI ((n / 16) % (nLi S))) (nI (((n / 16) / 12) % (nLi S))) (nI 0), sK_5 S (nI ((n / 16) % (nLi S))) (nI (((n / 16) / 12) % (nLi S))) (nI 0)) else (rK_6 S (nI ((n / 16) % (nLi S))) (nI (((n / 16) / 12) % (nLi S))) (nI 0), sK_6 S (nI ((n / 16) % (nLi S))) (nI (((n / 16) / 12) % (nLi S))) (nI 0))
  | 5 => (rK_7 S (nI ((n / 16) % (nLi S))) (nI 0) (nI 0), sK_7 S (nI ((n / 16) % (nLi S))) (nI 0) (nI 0))
  | 6 => (rK_8 S (nI ((n / 16) % (nLi S))) (nI (1 + (((n / 16) / 12) % 9))) (nI 0), sK_8 S (nI ((n / 16) % (nLi S))) (nI (1 + (((n / 16) / 12) % 9))) (nI 0))
  | 7 => (rK_9 S (nI ((n / 16) % (nLi S))) (nI 0) (nI 0), sK_9 S (nI ((n / 16) % (nLi S))) (nI 0) (nI 0))
  | 8 => (rK_11 S (nI ((n / 16) % (nLi S))) (nI 0) (nI 0), sK_11 S (nI ((n / 16) % (nLi S))) (nI 0) (nI 0))
  | 9 => (rK_11 S (nI ((n / 16) % (nLi S))) (nI 0) (nI 0), sK_11 S (nI ((n / 16) % (nLi S))) (nI 0) (nI 0))
  | 10 => if nLi S < 3 then ((-1), S) else (rK_10 S (nI 0) (nI 0) (nI 0), sK_10 S (nI 0) (nI 0) (nI 0))
  | 11 => if nRd S = 0 then ((-1), S) else if n / 16 % 3 = 0 then (rK_15 S (nI (rI S (n / 16))) (nI 0) (nI 0), sK_15 S (nI (rI S (n / 16))) (nI 0) (nI 0)) else (rK_14 S (nI (rI S (n / 16))) (nI 0) (nI 0), sK_14 S (nI (rI S (n / 16))) (nI 0) (nI 0))
  | 12 => if nRd S = 0 then ((-1), S) else (rK_13 S (nI (rI S (n / 16))) (nI (1 + (((n / 16) / 4) % (dC (n / 16))))) (nI 0), sK_13 S (nI (rI S (n / 16))) (nI (1 + (((n / 16) / 4) % (dC (n / 16))))) (nI 0))
  | 13 => if nLi S < 3 then ((-1), S) else (rK_16 S (nI 0) (nI 0) (nI 0), sK_16 S (nI 0) (nI 0) (nI 0))
  | 14 => if n / 16 % 2 = 0 then (rK_32 S (nI (((n / 16) / 2) % 2)) (nI 0) (nI 0), sK_32 S (nI (((n / 16) / 2) % 2)) (nI 0) (nI 0)) else (rK_33 S (nI (((n / 16) / 2) % 2)) (nI 0) (nI 0), sK_33 S (nI (((n / 16) / 2) % 2)) (nI 0) (nI 0))
  | _ => if nRd S = 0 then ((-1), S) else (rK_12 S (nI (rI S (n / 16))) (nI 0) (nI 0), sK_12 S (nI (rI S (n / 16))) (nI 0) (nI 0))
set_option maxRecDepth 100000 in
set_option maxHeartbeats 4000000 in
theorem n_act (l : Launch) (hst : l.stackTraces = false) (G : Gl) (S : Cs) (n : Nat) (hn : n < 2 ^ 31) (h1 : 1 ≤ nLi S) : KL l yL_act cL_act 8 .int ({ frames := 11, cells := 4, slots := 24, locals := 218 } : Room) G [.ref (G.2.1 + 0), .int (nI n)] S ((actF S n).1) ((actF S n).2) := by
  refine KL_of rfl (by decide +kernel) (lo := [(0, .ref (G.2.1 + 0)), (1, .int (nI n))]) rfl (Nat.le_of_ble_eq_true rfl) rfl (rfl) ?_
  intro x Q hxl h hE hX hret
  subst hxl
  refine vl_fact (fun H hH => W1.ok hH) (fun ok => ?_)
  have hN := ok_N ok
  have hR := ok_R ok
  have hm14 := ok_m ok
  have hdA := dA_b (n / 16)
  have hdB := dB_b (n / 16)
  have hdC := dC_b (n / 16)
  have hrI := rI_b S (n / 16)
  refine vl_iload_n (pc := 0) h 1 rfl rfl dL_act_0 ?_
  refine vl_bipush (pc := 1) (v := nI 16) h (by decide) dL_act_1 ?_
  refine vl_idiv (pc := 3) (v := nI (n / 16)) h (by decide) (pk_div (by omega) (by omega) (by omega)) dL_act_3 ?_
  refine vl_istore_n (pc := 4) (lo2 := [(2, .int (nI (n / 16))), (0, .ref (G.2.1 + 0)), (1, .int (nI n))]) h rfl (by decide) rfl dL_act_4 ?_
  refine vl_aload_n (pc := 5) h 1 rfl rfl dL_act_5 ?_
  refine wV1 (pc := 6) (As := []) (st := []) (r2 := nI (nLi S)) (u2 := 0) h hE lk_RL_242 (kv_lists (S := S)) rfl rfl rfl (by decide) rfl (Nat.le_of_ble_eq_true rfl) (by decide) dL_act_6 ?_
  refine vl_istore_n (pc := 9) (lo2 := [(3, .int (nI (nLi S))), (2, .int (nI (n / 16))), (0, .ref (G.2.1 + 0)), (1, .int (nI n))]) h rfl (by decide) rfl dL_act_9 ?_
  refine vl_iload_n (pc := 10) h 1 rfl rfl dL_act_10 ?_
  refine vl_iload_n (pc := 11) h 0 rfl rfl dL_act_11 ?_
  refine vl_irem (pc := 12) (v := nI ((n / 16) % (nLi S))) h (nI_ne0 (by omega) (by omega)) (pk_rem (by omega) (by omega) (by omega)) dL_act_12 ?_
  refine vl_istore (pc := 13) (lo2 := [(4, .int (nI ((n / 16) % (nLi S)))), (3, .int (nI (nLi S))), (2, .int (nI (n / 16))), (0, .ref (G.2.1 + 0)), (1, .int (nI n))]) h (by decide) rfl dL_act_13 ?_
  refine vl_iload_n (pc := 15) h 2 rfl rfl dL_act_15 ?_
  refine vl_bipush (pc := 16) (v := nI 12) h (by decide) dL_act_16 ?_
  refine vl_idiv (pc := 18) (v := nI ((n / 16) / 12)) h (by decide) (pk_div (by omega) (by omega) (by omega)) dL_act_18 ?_
  refine vl_iload_n (pc := 19) h 1 rfl rfl dL_act_19 ?_
  refine vl_irem (pc := 20) (v := nI (((n / 16) / 12) % (nLi S))) h (nI_ne0 (by omega) (by omega)) (pk_rem (by omega) (by omega) (by omega)) dL_act_20 ?_
  refine vl_istore (pc := 21) (lo2 := [(5, .int (nI (((n / 16) / 12) % (nLi S)))), (4, .int (nI ((n / 16) % (nLi S)))), (3, .int (nI (nLi S))), (2, .int (nI (n / 16))), (0, .ref (G.2.1 + 0)), (1, .int (nI n))]) h (by decide) rfl dL_act_21 ?_
  refine vl_aload_n (pc := 23) h 4 rfl rfl dL_act_23 ?_
  refine wV1 (pc := 24) (As := []) (st := []) (r2 := nI (nRd S)) (u2 := 0) h hE lk_RL_245 (kv_readers (S := S)) rfl rfl rfl (by decide) rfl (Nat.le_of_ble_eq_true rfl) (by decide) dL_act_24 ?_
  refine vl_istore (pc := 27) (lo2 := [(6, .int (nI (nRd S))), (5, .int (nI (((n / 16) / 12) % (nLi S)))), (4, .int (nI ((n / 16) % (nLi S)))), (3, .int (nI (nLi S))), (2, .int (nI (n / 16))), (0, .ref (G.2.1 + 0)), (1, .int (nI n))]) h (by decide) rfl dL_act_27 ?_
  refine vl_iload (pc := 29) h 0 rfl dL_act_29 ?_
  have kj31 : ∀ v31 : Int32, v31 = nI (rI S (n / 16)) → VP x (bA G) 8 0 Q (W1 G S) 42 [(6, .int (nI (nRd S))), (5, .int (nI (((n / 16) / 12) % (nLi S)))), (4, .int (nI ((n / 16) % (nLi S)))), (3, .int (nI (nLi S))), (2, .int (nI (n / 16))), (0, .ref (G.2.1 + 0)), (1, .int (nI n))] [.int v31] := by
    intro v31 h31
    subst h31
    refine vl_istore (pc := 42) (lo2 := [(7, .int (nI (rI S (n / 16)))), (6, .int (nI (nRd S))), (5, .int (nI (((n / 16) / 12) % (nLi S)))), (4, .int (nI ((n / 16) % (nLi S)))), (3, .int (nI (nLi S))), (2, .int (nI (n / 16))), (0, .ref (G.2.1 + 0)), (1, .int (nI n))]) h (by decide) rfl dL_act_42 ?_
    refine vl_iload_n (pc := 44) h 7 rfl rfl dL_act_44 ?_
    refine vl_bipush (pc := 45) (v := nI 16) h (by decide) dL_act_45 ?_
    refine vl_irem (pc := 47) (v := nI (n % 16)) h (by decide) (pk_rem (by omega) (by omega) (by omega)) dL_act_47 ?_
    rcases (show n % 16 = 0 ∨ n % 16 = 1 ∨ n % 16 = 2 ∨ n % 16 = 3 ∨ n % 16 = 4 ∨ n % 16 = 5 ∨ n % 16 = 6 ∨ n % 16 = 7 ∨ n % 16 = 8 ∨ n % 16 = 9 ∨ n % 16 = 10 ∨ n % 16 = 11 ∨ n % 16 = 12 ∨ n % 16 = 13 ∨ n % 16 = 14 ∨ n % 16 = 15 by omega) with hv | hv | hv | hv | hv | hv | hv | hv | hv | hv | hv | hv | hv | hv | hv | hv
    · skip
      rw [hv]
      refine vl_tabIn (pc := 48) (off := 76) (tgt := 124) h (by decide) (by decide) (by decide) (by decide) dL_act_48 ?_
      refine vl_aload_n (pc := 124) h 6 rfl rfl dL_act_124 ?_
      refine vl_iconst (pc := 125) (v := nI 2) h (by decide) dL_act_125 ?_
      refine vl_iload_n (pc := 126) h 5 rfl rfl dL_act_126 ?_
      refine vl_iload_n (pc := 127) h 5 rfl rfl dL_act_127 ?_
      refine vl_iconst (pc := 128) (v := nI 3) h (by decide) dL_act_128 ?_
      refine vl_irem (pc := 129) (v := nI ((n / 16) % 3)) h (by decide) (pk_rem (by omega) (by omega) (by omega)) dL_act_129 ?_
      have kj130 : ∀ v130 : Int32, v130 = nI (dA (n / 16)) → VP x (bA G) 8 0 Q (W1 G S) 141 [(7, .int (nI (rI S (n / 16)))), (6, .int (nI (nRd S))), (5, .int (nI (((n / 16) / 12) % (nLi S)))), (4, .int (nI ((n / 16) % (nLi S)))), (3, .int (nI (nLi S))), (2, .int (nI (n / 16))), (0, .ref (G.2.1 + 0)), (1, .int (nI n))] [.int v130, .int (nI (n / 16)), .int (nI 2), .ref (G.2.1 + 0)] := by
        intro v130 h130
        subst h130
        refine vl_irem (pc := 141) (v := nI ((n / 16) % (dA (n / 16)))) h (nI_ne0 (by omega) (by omega)) (pk_rem (by omega) (by omega) (by omega)) dL_act_141 ?_
        refine vl_iconst (pc := 142) (v := nI 1) h (by decide) dL_act_142 ?_
        refine vl_iload_n (pc := 143) h 5 rfl rfl dL_act_143 ?_
        refine vl_sipush (pc := 144) (v := nI 1000) h (by decide) dL_act_144 ?_
        refine vl_idiv (pc := 147) (v := nI ((n / 16) / 1000)) h (by decide) (pk_div (by omega) (by omega) (by omega)) dL_act_147 ?_
        refine vl_iload_n (pc := 148) h 5 rfl rfl dL_act_148 ?_
        refine vl_iconst (pc := 149) (v := nI 2) h (by decide) dL_act_149 ?_
        refine vl_irem (pc := 150) (v := nI ((n / 16) % 2)) h (by decide) (pk_rem (by omega) (by omega) (by omega)) dL_act_150 ?_
        have kj151 : ∀ v151 : Int32, v151 = nI (dB (n / 16)) → VP x (bA G) 8 0 Q (W1 G S) 161 [(7, .int (nI (rI S (n / 16)))), (6, .int (nI (nRd S))), (5, .int (nI (((n / 16) / 12) % (nLi S)))), (4, .int (nI ((n / 16) % (nLi S)))), (3, .int (nI (nLi S))), (2, .int (nI (n / 16))), (0, .ref (G.2.1 + 0)), (1, .int (nI n))] [.int v151, .int (nI ((n / 16) / 1000)), .int (nI 1), .int (nI ((n / 16) % (dA (n / 16)))), .int (nI 2), .ref (G.2.1 + 0)] := by
          intro v151 h151
          subst h151
          refine vl_irem (pc := 161) (v := nI (((n / 16) / 1000) % (dB (n / 16)))) h (nI_ne0 (by omega) (by omega)) (pk_rem (by omega) (by omega) (by omega)) dL_act_161 ?_
          refine vl_iadd (pc := 162) (v := nI (1 + (((n / 16) / 1000) % (dB (n / 16))))) h (nI_add _ _) dL_act_162 ?_
          refine vl_iconst (pc := 163) (v := nI 0) h (by decide) dL_act_163 ?_
          refine wS1 (pc := 164) (As := [.ref (G.2.1 + 0), .int (nI 2), .int (nI ((n / 16) % (dA (n / 16)))), .int (nI (1 + (((n / 16) / 1000) % (dB (n / 16))))), .int (nI 0)]) (st := []) (r2 := rK_2 S (nI ((n / 16) % (dA (n / 16)))) (nI (1 + (((n / 16) / 1000) % (dB (n / 16))))) (nI 0)) (u2 := 1) h hE hX lk_RL_248 (ka_2 hst G S (nI ((n / 16) % (dA (n / 16)))) (nI (1 + (((n / 16) / 1000) % (dB (n / 16))))) (nI 0)) rfl rfl rfl (by decide) rfl (Nat.le_of_ble_eq_true rfl) (by decide) dL_act_164 ?_
          have e9 : actF S n = (rK_2 S (nI ((n / 16) % (dA (n / 16)))) (nI (1 + (((n / 16) / 1000) % (dB (n / 16))))) (nI 0), sK_2 S (nI ((n / 16) % (dA (n / 16)))) (nI (1 + (((n / 16) / 1000) % (dB (n / 16))))) (nI 0)) := by
            unfold actF
            rw [hv]
            exact rfl
          rw [e9] at hret
          exact vl_wd (by decide) (hret 167 _ dL_act_167)
        refine vl_if_ne (pc := 151) (tgt := 159) h (by decide) dL_act_151 (fun c151 => ?_) (fun c151 => ?_)
        · skip
          rw [zI0, nI_eq (by omega) (by omega)] at c151
          refine vl_bipush (pc := 159) (v := nI 12) h (by decide) dL_act_159 ?_
          exact kj151 _ (by unfold dB; rw [if_neg c151])
        · skip
          rw [zI0, nI_eq (by omega) (by omega)] at c151
          refine vl_bipush (pc := 154) (v := nI 99) h (by decide) dL_act_154 ?_
          refine vl_goto (pc := 156) (tgt := 161) h (by decide) dL_act_156 ?_
          exact kj151 _ (by unfold dB; rw [if_pos c151])
      refine vl_if_ne (pc := 130) (tgt := 139) h (by decide) dL_act_130 (fun c130 => ?_) (fun c130 => ?_)
      · skip
        rw [zI0, nI_eq (by omega) (by omega)] at c130
        refine vl_bipush (pc := 139) (v := nI 60) h (by decide) dL_act_139 ?_
        exact kj130 _ (by unfold dA; rw [if_neg c130])
      · skip
        rw [zI0, nI_eq (by omega) (by omega)] at c130
        refine vl_sipush (pc := 133) (v := nI 1000) h (by decide) dL_act_133 ?_
        refine vl_goto (pc := 136) (tgt := 141) h (by decide) dL_act_136 ?_
        exact kj130 _ (by unfold dA; rw [if_pos c130])
    · skip
      rw [hv]
      refine vl_tabIn (pc := 48) (off := 76) (tgt := 124) h (by decide) (by decide) (by decide) (by decide) dL_act_48 ?_
      refine vl_aload_n (pc := 124) h 6 rfl rfl dL_act_124 ?_
      refine vl_iconst (pc := 125) (v := nI 2) h (by decide) dL_act_125 ?_
      refine vl_iload_n (pc := 126) h 5 rfl rfl dL_act_126 ?_
      refine vl_iload_n (pc := 127) h 5 rfl rfl dL_act_127 ?_
      refine vl_iconst (pc := 128) (v := nI 3) h (by decide) dL_act_128 ?_
      refine vl_irem (pc := 129) (v := nI ((n / 16) % 3)) h (by decide) (pk_rem (by omega) (by omega) (by omega)) dL_act_129 ?_
      have kj130 : ∀ v130 : Int32, v130 = nI (dA (n / 16)) → VP x (bA G) 8 0 Q (W1 G S) 141 [(7, .int (nI (rI S (n / 16)))), (6, .int (nI (nRd S))), (5, .int (nI (((n / 16) / 12) % (nLi S)))), (4, .int (nI ((n / 16) % (nLi S)))), (3, .int (nI (nLi S))), (2, .int (nI (n / 16))), (0, .ref (G.2.1 + 0)), (1, .int (nI n))] [.int v130, .int (nI (n / 16)), .int (nI 2), .ref (G.2.1 + 0)] := by
        intro v130 h130
        subst h130
        refine vl_irem (pc := 141) (v := nI ((n / 16) % (dA (n / 16)))) h (nI_ne0 (by omega) (by omega)) (pk_rem (by omega) (by omega) (by omega)) dL_act_141 ?_
        refine vl_iconst (pc := 142) (v := nI 1) h (by decide) dL_act_142 ?_
        refine vl_iload_n (pc := 143) h 5 rfl rfl dL_act_143 ?_
        refine vl_sipush (pc := 144) (v := nI 1000) h (by decide) dL_act_144 ?_
        refine vl_idiv (pc := 147) (v := nI ((n / 16) / 1000)) h (by decide) (pk_div (by omega) (by omega) (by omega)) dL_act_147 ?_
        refine vl_iload_n (pc := 148) h 5 rfl rfl dL_act_148 ?_
        refine vl_iconst (pc := 149) (v := nI 2) h (by decide) dL_act_149 ?_
        refine vl_irem (pc := 150) (v := nI ((n / 16) % 2)) h (by decide) (pk_rem (by omega) (by omega) (by omega)) dL_act_150 ?_
        have kj151 : ∀ v151 : Int32, v151 = nI (dB (n / 16)) → VP x (bA G) 8 0 Q (W1 G S) 161 [(7, .int (nI (rI S (n / 16)))), (6, .int (nI (nRd S))), (5, .int (nI (((n / 16) / 12) % (nLi S)))), (4, .int (nI ((n / 16) % (nLi S)))), (3, .int (nI (nLi S))), (2, .int (nI (n / 16))), (0, .ref (G.2.1 + 0)), (1, .int (nI n))] [.int v151, .int (nI ((n / 16) / 1000)), .int (nI 1), .int (nI ((n / 16) % (dA (n / 16)))), .int (nI 2), .ref (G.2.1 + 0)] := by
          intro v151 h151
          subst h151
          refine vl_irem (pc := 161) (v := nI (((n / 16) / 1000) % (dB (n / 16)))) h (nI_ne0 (by omega) (by omega)) (pk_rem (by omega) (by omega) (by omega)) dL_act_161 ?_
          refine vl_iadd (pc := 162) (v := nI (1 + (((n / 16) / 1000) % (dB (n / 16))))) h (nI_add _ _) dL_act_162 ?_
          refine vl_iconst (pc := 163) (v := nI 0) h (by decide) dL_act_163 ?_
          refine wS1 (pc := 164) (As := [.ref (G.2.1 + 0), .int (nI 2), .int (nI ((n / 16) % (dA (n / 16)))), .int (nI (1 + (((n / 16) / 1000) % (dB (n / 16))))), .int (nI 0)]) (st := []) (r2 := rK_2 S (nI ((n / 16) % (dA (n / 16)))) (nI (1 + (((n / 16) / 1000) % (dB (n / 16))))) (nI 0)) (u2 := 1) h hE hX lk_RL_248 (ka_2 hst G S (nI ((n / 16) % (dA (n / 16)))) (nI (1 + (((n / 16) / 1000) % (dB (n / 16))))) (nI 0)) rfl rfl rfl (by decide) rfl (Nat.le_of_ble_eq_true rfl) (by decide) dL_act_164 ?_
          have e9 : actF S n = (rK_2 S (nI ((n / 16) % (dA (n / 16)))) (nI (1 + (((n / 16) / 1000) % (dB (n / 16))))) (nI 0), sK_2 S (nI ((n / 16) % (dA (n / 16)))) (nI (1 + (((n / 16) / 1000) % (dB (n / 16))))) (nI 0)) := by
            unfold actF
            rw [hv]
            exact rfl
          rw [e9] at hret
          exact vl_wd (by decide) (hret 167 _ dL_act_167)
        refine vl_if_ne (pc := 151) (tgt := 159) h (by decide) dL_act_151 (fun c151 => ?_) (fun c151 => ?_)
        · skip
          rw [zI0, nI_eq (by omega) (by omega)] at c151
          refine vl_bipush (pc := 159) (v := nI 12) h (by decide) dL_act_159 ?_
          exact kj151 _ (by unfold dB; rw [if_neg c151])
        · skip
          rw [zI0, nI_eq (by omega) (by omega)] at c151
          refine vl_bipush (pc := 154) (v := nI 99) h (by decide) dL_act_154 ?_
          refine vl_goto (pc := 156) (tgt := 161) h (by decide) dL_act_156 ?_
          exact kj151 _ (by unfold dB; rw [if_pos c151])
      refine vl_if_ne (pc := 130) (tgt := 139) h (by decide) dL_act_130 (fun c130 => ?_) (fun c130 => ?_)
      · skip
        rw [zI0, nI_eq (by omega) (by omega)] at c130
        refine vl_bipush (pc := 139) (v := nI 60) h (by decide) dL_act_139 ?_
        exact kj130 _ (by unfold dA; rw [if_neg c130])
      · skip
        rw [zI0, nI_eq (by omega) (by omega)] at c130
        refine vl_sipush (pc := 133) (v := nI 1000) h (by decide) dL_act_133 ?_
        refine vl_goto (pc := 136) (tgt := 141) h (by decide) dL_act_136 ?_
        exact kj130 _ (by unfold dA; rw [if_pos c130])
    · skip
      rw [hv]
      refine vl_tabIn (pc := 48) (off := 120) (tgt := 168) h (by decide) (by decide) (by decide) (by decide) dL_act_48 ?_
      refine vl_aload_n (pc := 168) h 6 rfl rfl dL_act_168 ?_
      refine vl_iconst (pc := 169) (v := nI 3) h (by decide) dL_act_169 ?_
      refine vl_iload (pc := 170) h 3 rfl dL_act_170 ?_
      refine vl_iconst (pc := 172) (v := nI 1) h (by decide) dL_act_172 ?_
      refine vl_iload_n (pc := 173) h 5 rfl rfl dL_act_173 ?_
      refine vl_bipush (pc := 174) (v := nI 12) h (by decide) dL_act_174 ?_
      refine vl_idiv (pc := 176) (v := nI ((n / 16) / 12)) h (by decide) (pk_div (by omega) (by omega) (by omega)) dL_act_176 ?_
      refine vl_bipush (pc := 177) (v := nI 9) h (by decide) dL_act_177 ?_
      refine vl_irem (pc := 179) (v := nI (((n / 16) / 12) % 9)) h (by decide) (pk_rem (by omega) (by omega) (by omega)) dL_act_179 ?_
      refine vl_iadd (pc := 180) (v := nI (1 + (((n / 16) / 12) % 9))) h (nI_add _ _) dL_act_180 ?_
      refine vl_iload_n (pc := 181) h 5 rfl rfl dL_act_181 ?_
      refine vl_bipush (pc := 182) (v := nI 108) h (by decide) dL_act_182 ?_
      refine vl_idiv (pc := 184) (v := nI ((n / 16) / 108)) h (by decide) (pk_div (by omega) (by omega) (by omega)) dL_act_184 ?_
      refine vl_bipush (pc := 185) (v := nI 100) h (by decide) dL_act_185 ?_
      refine vl_irem (pc := 187) (v := nI (((n / 16) / 108) % 100)) h (by decide) (pk_rem (by omega) (by omega) (by omega)) dL_act_187 ?_
      refine wS1 (pc := 188) (As := [.ref (G.2.1 + 0), .int (nI 3), .int (nI ((n / 16) % (nLi S))), .int (nI (1 + (((n / 16) / 12) % 9))), .int (nI (((n / 16) / 108) % 100))]) (st := []) (r2 := rK_3 S (nI ((n / 16) % (nLi S))) (nI (1 + (((n / 16) / 12) % 9))) (nI (((n / 16) / 108) % 100))) (u2 := 1) h hE hX lk_RL_248 (ka_3 hst G S (nI ((n / 16) % (nLi S))) (nI (1 + (((n / 16) / 12) % 9))) (nI (((n / 16) / 108) % 100))) rfl rfl rfl (by decide) rfl (Nat.le_of_ble_eq_true rfl) (by decide) dL_act_188 ?_
      have e9 : actF S n = (rK_3 S (nI ((n / 16) % (nLi S))) (nI (1 + (((n / 16) / 12) % 9))) (nI (((n / 16) / 108) % 100)), sK_3 S (nI ((n / 16) % (nLi S))) (nI (1 + (((n / 16) / 12) % 9))) (nI (((n / 16) / 108) % 100))) := by
        unfold actF
        rw [hv]
        exact rfl
      rw [e9] at hret
      exact vl_wd (by decide) (hret 191 _ dL_act_191)
    · skip
      rw [hv]
      refine vl_tabIn (pc := 48) (off := 144) (tgt := 192) h (by decide) (by decide) (by decide) (by decide) dL_act_48 ?_
      refine vl_aload_n (pc := 192) h 6 rfl rfl dL_act_192 ?_
      refine vl_iconst (pc := 193) (v := nI 4) h (by decide) dL_act_193 ?_
      refine vl_iload (pc := 194) h 3 rfl dL_act_194 ?_
      refine vl_iload (pc := 196) h 2 rfl dL_act_196 ?_
      refine vl_iconst (pc := 198) (v := nI 0) h (by decide) dL_act_198 ?_
      refine wS1 (pc := 199) (As := [.ref (G.2.1 + 0), .int (nI 4), .int (nI ((n / 16) % (nLi S))), .int (nI (((n / 16) / 12) % (nLi S))), .int (nI 0)]) (st := []) (r2 := rK_4 S (nI ((n / 16) % (nLi S))) (nI (((n / 16) / 12) % (nLi S))) (nI 0)) (u2 := 1) h hE hX lk_RL_248 (ka_4 hst G S (nI ((n / 16) % (nLi S))) (nI (((n / 16) / 12) % (nLi S))) (nI 0)) rfl rfl rfl (by decide) rfl (Nat.le_of_ble_eq_true rfl) (by decide) dL_act_199 ?_
      have e9 : actF S n = (rK_4 S (nI ((n / 16) % (nLi S))) (nI (((n / 16) / 12) % (nLi S))) (nI 0), sK_4 S (nI ((n / 16) % (nLi S))) (nI (((n / 16) / 12) % (nLi S))) (nI 0)) := by
        unfold actF
        rw [hv]
        exact rfl
      rw [e9] at hret
      exact vl_wd (by decide) (hret 202 _ dL_act_202)
    · skip
      rw [hv]
      refine vl_tabIn (pc := 48) (off := 155) (tgt := 203) h (by decide) (by decide) (by decide) (by decide) dL_act_48 ?_
      refine vl_iload_n (pc := 203) h 5 rfl rfl dL_act_203 ?_
      refine vl_iconst (pc := 204) (v := nI 2) h (by decide) dL_act_204 ?_
      refine vl_irem (pc := 205) (v := nI ((n / 16) % 2)) h (by decide) (pk_rem (by omega) (by omega) (by omega)) dL_act_205 ?_
      refine vl_if_ne (pc := 206) (tgt := 222) h (by decide) dL_act_206 (fun c206 => ?_) (fun c206 => ?_)
      · skip
        rw [zI0, nI_eq (by omega) (by omega)] at c206
        refine vl_aload_n (pc := 222) h 6 rfl rfl dL_act_222 ?_
        refine vl_bipush (pc := 223) (v := nI 6) h (by decide) dL_act_223 ?_
        refine vl_iload (pc := 225) h 3 rfl dL_act_225 ?_
        refine vl_iload (pc := 227) h 2 rfl dL_act_227 ?_
        refine vl_iconst (pc := 229) (v := nI 0) h (by decide) dL_act_229 ?_
        refine wS1 (pc := 230) (As := [.ref (G.2.1 + 0), .int (nI 6), .int (nI ((n / 16) % (nLi S))), .int (nI (((n / 16) / 12) % (nLi S))), .int (nI 0)]) (st := []) (r2 := rK_6 S (nI ((n / 16) % (nLi S))) (nI (((n / 16) / 12) % (nLi S))) (nI 0)) (u2 := 1) h hE hX lk_RL_248 (ka_6 hst G S (nI ((n / 16) % (nLi S))) (nI (((n / 16) / 12) % (nLi S))) (nI 0)) rfl rfl rfl (by decide) rfl (Nat.le_of_ble_eq_true rfl) (by decide) dL_act_230 ?_
        have e9 : actF S n = (rK_6 S (nI ((n / 16) % (nLi S))) (nI (((n / 16) / 12) % (nLi S))) (nI 0), sK_6 S (nI ((n / 16) % (nLi S))) (nI (((n / 16) / 12) % (nLi S))) (nI 0)) := by
          unfold actF
          rw [hv]
          exact if_neg c206
        rw [e9] at hret
        exact vl_wd (by decide) (hret 233 _ dL_act_233)
      · skip
        rw [zI0, nI_eq (by omega) (by omega)] at c206
        refine vl_aload_n (pc := 209) h 6 rfl rfl dL_act_209 ?_
        refine vl_iconst (pc := 210) (v := nI 5) h (by decide) dL_act_210 ?_
        refine vl_iload (pc := 211) h 3 rfl dL_act_211 ?_
        refine vl_iload (pc := 213) h 2 rfl dL_act_213 ?_
        refine vl_iconst (pc := 215) (v := nI 0) h (by decide) dL_act_215 ?_
        refine wS1 (pc := 216) (As := [.ref (G.2.1 + 0), .int (nI 5), .int (nI ((n / 16) % (nLi S))), .int (nI (((n / 16) / 12) % (nLi S))), .int (nI 0)]) (st := []) (r2 := rK_5 S (nI ((n / 16) % (nLi S))) (nI (((n / 16) / 12) % (nLi S))) (nI 0)) (u2 := 1) h hE hX lk_RL_248 (ka_5 hst G S (nI ((n / 16) % (nLi S))) (nI (((n / 16) / 12) % (nLi S))) (nI 0)) rfl rfl rfl (by decide) rfl (Nat.le_of_ble_eq_true rfl) (by decide) dL_act_216 ?_
        refine vl_goto (pc := 219) (tgt := 233) h (by decide) dL_act_219 ?_
        have e9 : actF S n = (rK_5 S (nI ((n / 16) % (nLi S))) (nI (((n / 16) / 12) % (nLi S))) (nI 0), sK_5 S (nI ((n / 16) % (nLi S))) (nI (((n / 16) / 12) % (nLi S))) (nI 0)) := by
          unfold actF
          rw [hv]
          exact if_pos c206
        rw [e9] at hret
        exact vl_wd (by decide) (hret 233 _ dL_act_233)
    · skip
      rw [hv]
      refine vl_tabIn (pc := 48) (off := 186) (tgt := 234) h (by decide) (by decide) (by decide) (by decide) dL_act_48 ?_
      refine vl_aload_n (pc := 234) h 6 rfl rfl dL_act_234 ?_
      refine vl_bipush (pc := 235) (v := nI 7) h (by decide) dL_act_235 ?_
      refine vl_iload (pc := 237) h 3 rfl dL_act_237 ?_
      refine vl_iconst (pc := 239) (v := nI 0) h (by decide) dL_act_239 ?_
      refine vl_iconst (pc := 240) (v := nI 0) h (by decide) dL_act_240 ?_
      refine wS1 (pc := 241) (As := [.ref (G.2.1 + 0), .int (nI 7), .int (nI ((n / 16) % (nLi S))), .int (nI 0), .int (nI 0)]) (st := []) (r2 := rK_7 S (nI ((n / 16) % (nLi S))) (nI 0) (nI 0)) (u2 := 1) h hE hX lk_RL_248 (ka_7 hst G S (nI ((n / 16) % (nLi S))) (nI 0) (nI 0)) rfl rfl rfl (by decide) rfl (Nat.le_of_ble_eq_true rfl) (by decide) dL_act_241 ?_
      have e9 : actF S n = (rK_7 S (nI ((n / 16) % (nLi S))) (nI 0) (nI 0), sK_7 S (nI ((n / 16) % (nLi S))) (nI 0) (nI 0)) := by
        unfold actF
        rw [hv]
        exact rfl
      rw [e9] at hret
      exact vl_wd (by decide) (hret 244 _ dL_act_244)
    · skip
      rw [hv]
      refine vl_tabIn (pc := 48) (off := 197) (tgt := 245) h (by decide) (by decide) (by decide) (by decide) dL_act_48 ?_
      refine vl_aload_n (pc := 245) h 6 rfl rfl dL_act_245 ?_
      refine vl_bipush (pc := 246) (v := nI 8) h (by decide) dL_act_246 ?_
      refine vl_iload (pc := 248) h 3 rfl dL_act_248 ?_
      refine vl_iconst (pc := 250) (v := nI 1) h (by decide) dL_act_250 ?_
      refine vl_iload_n (pc := 251) h 5 rfl rfl dL_act_251 ?_
      refine vl_bipush (pc := 252) (v := nI 12) h (by decide) dL_act_252 ?_
      refine vl_idiv (pc := 254) (v := nI ((n / 16) / 12)) h (by decide) (pk_div (by omega) (by omega) (by omega)) dL_act_254 ?_
      refine vl_bipush (pc := 255) (v := nI 9) h (by decide) dL_act_255 ?_
      refine vl_irem (pc := 257) (v := nI (((n / 16) / 12) % 9)) h (by decide) (pk_rem (by omega) (by omega) (by omega)) dL_act_257 ?_
      refine vl_iadd (pc := 258) (v := nI (1 + (((n / 16) / 12) % 9))) h (nI_add _ _) dL_act_258 ?_
      refine vl_iconst (pc := 259) (v := nI 0) h (by decide) dL_act_259 ?_
      refine wS1 (pc := 260) (As := [.ref (G.2.1 + 0), .int (nI 8), .int (nI ((n / 16) % (nLi S))), .int (nI (1 + (((n / 16) / 12) % 9))), .int (nI 0)]) (st := []) (r2 := rK_8 S (nI ((n / 16) % (nLi S))) (nI (1 + (((n / 16) / 12) % 9))) (nI 0)) (u2 := 1) h hE hX lk_RL_248 (ka_8 hst G S (nI ((n / 16) % (nLi S))) (nI (1 + (((n / 16) / 12) % 9))) (nI 0)) rfl rfl rfl (by decide) rfl (Nat.le_of_ble_eq_true rfl) (by decide) dL_act_260 ?_
      have e9 : actF S n = (rK_8 S (nI ((n / 16) % (nLi S))) (nI (1 + (((n / 16) / 12) % 9))) (nI 0), sK_8 S (nI ((n / 16) % (nLi S))) (nI (1 + (((n / 16) / 12) % 9))) (nI 0)) := by
        unfold actF
        rw [hv]
        exact rfl
      rw [e9] at hret
      exact vl_wd (by decide) (hret 263 _ dL_act_263)
    · skip
      rw [hv]
      refine vl_tabIn (pc := 48) (off := 216) (tgt := 264) h (by decide) (by decide) (by decide) (by decide) dL_act_48 ?_
      refine vl_aload_n (pc := 264) h 6 rfl rfl dL_act_264 ?_
      refine vl_bipush (pc := 265) (v := nI 9) h (by decide) dL_act_265 ?_
      refine vl_iload (pc := 267) h 3 rfl dL_act_267 ?_
      refine vl_iconst (pc := 269) (v := nI 0) h (by decide) dL_act_269 ?_
      refine vl_iconst (pc := 270) (v := nI 0) h (by decide) dL_act_270 ?_
      refine wS1 (pc := 271) (As := [.ref (G.2.1 + 0), .int (nI 9), .int (nI ((n / 16) % (nLi S))), .int (nI 0), .int (nI 0)]) (st := []) (r2 := rK_9 S (nI ((n / 16) % (nLi S))) (nI 0) (nI 0)) (u2 := 1) h hE hX lk_RL_248 (ka_9 hst G S (nI ((n / 16) % (nLi S))) (nI 0) (nI 0)) rfl rfl rfl (by decide) rfl (Nat.le_of_ble_eq_true rfl) (by decide) dL_act_271 ?_
      have e9 : actF S n = (rK_9 S (nI ((n / 16) % (nLi S))) (nI 0) (nI 0), sK_9 S (nI ((n / 16) % (nLi S))) (nI 0) (nI 0)) := by
        unfold actF
        rw [hv]
        exact rfl
      rw [e9] at hret
      exact vl_wd (by decide) (hret 274 _ dL_act_274)
    · skip
      rw [hv]
      refine vl_tabIn (pc := 48) (off := 227) (tgt := 275) h (by decide) (by decide) (by decide) (by decide) dL_act_48 ?_
      refine vl_aload_n (pc := 275) h 6 rfl rfl dL_act_275 ?_
      refine vl_bipush (pc := 276) (v := nI 11) h (by decide) dL_act_276 ?_
      refine vl_iload (pc := 278) h 3 rfl dL_act_278 ?_
      refine vl_iconst (pc := 280) (v := nI 0) h (by decide) dL_act_280 ?_
      refine vl_iconst (pc := 281) (v := nI 0) h (by decide) dL_act_281 ?_
      refine wS1 (pc := 282) (As := [.ref (G.2.1 + 0), .int (nI 11), .int (nI ((n / 16) % (nLi S))), .int (nI 0), .int (nI 0)]) (st := []) (r2 := rK_11 S (nI ((n / 16) % (nLi S))) (nI 0) (nI 0)) (u2 := 1) h hE hX lk_RL_248 (ka_11 hst G S (nI ((n / 16) % (nLi S))) (nI 0) (nI 0)) rfl rfl rfl (by decide) rfl (Nat.le_of_ble_eq_true rfl) (by decide) dL_act_282 ?_
      have e9 : actF S n = (rK_11 S (nI ((n / 16) % (nLi S))) (nI 0) (nI 0), sK_11 S (nI ((n / 16) % (nLi S))) (nI 0) (nI 0)) := by
        unfold actF
        rw [hv]
        exact rfl
      rw [e9] at hret
      exact vl_wd (by decide) (hret 285 _ dL_act_285)
    · skip
      rw [hv]
      refine vl_tabIn (pc := 48) (off := 227) (tgt := 275) h (by decide) (by decide) (by decide) (by decide) dL_act_48 ?_
      refine vl_aload_n (pc := 275) h 6 rfl rfl dL_act_275 ?_
      refine vl_bipush (pc := 276) (v := nI 11) h (by decide) dL_act_276 ?_
      refine vl_iload (pc := 278) h 3 rfl dL_act_278 ?_
      refine vl_iconst (pc := 280) (v := nI 0) h (by decide) dL_act_280 ?_
      refine vl_iconst (pc := 281) (v := nI 0) h (by decide) dL_act_281 ?_
      refine wS1 (pc := 282) (As := [.ref (G.2.1 + 0), .int (nI 11), .int (nI ((n / 16) % (nLi S))), .int (nI 0), .int (nI 0)]) (st := []) (r2 := rK_11 S (nI ((n / 16) % (nLi S))) (nI 0) (nI 0)) (u2 := 1) h hE hX lk_RL_248 (ka_11 hst G S (nI ((n / 16) % (nLi S))) (nI 0) (nI 0)) rfl rfl rfl (by decide) rfl (Nat.le_of_ble_eq_true rfl) (by decide) dL_act_282 ?_
      have e9 : actF S n = (rK_11 S (nI ((n / 16) % (nLi S))) (nI 0) (nI 0), sK_11 S (nI ((n / 16) % (nLi S))) (nI 0) (nI 0)) := by
        unfold actF
        rw [hv]
        exact rfl
      rw [e9] at hret
      exact vl_wd (by decide) (hret 285 _ dL_act_285)
    · skip
      rw [hv]
      refine vl_tabIn (pc := 48) (off := 238) (tgt := 286) h (by decide) (by decide) (by decide) (by decide) dL_act_48 ?_
      refine vl_iload_n (pc := 286) h 4 rfl rfl dL_act_286 ?_
      refine vl_iconst (pc := 287) (v := nI 3) h (by decide) dL_act_287 ?_
      refine vl_icmp_ge (pc := 288) (tgt := 295) h (by decide) dL_act_288 (fun c288 => ?_) (fun c288 => ?_)
      · skip
        rw [nI_leI (by omega) (by omega)] at c288
        have e288 : ¬ nLi S < 3 := by omega
        refine vl_aload_n (pc := 295) h 6 rfl rfl dL_act_295 ?_
        refine vl_bipush (pc := 296) (v := nI 10) h (by decide) dL_act_296 ?_
        refine vl_iconst (pc := 298) (v := nI 0) h (by decide) dL_act_298 ?_
        refine vl_iconst (pc := 299) (v := nI 0) h (by decide) dL_act_299 ?_
        refine vl_iconst (pc := 300) (v := nI 0) h (by decide) dL_act_300 ?_
        refine wS1 (pc := 301) (As := [.ref (G.2.1 + 0), .int (nI 10), .int (nI 0), .int (nI 0), .int (nI 0)]) (st := []) (r2 := rK_10 S (nI 0) (nI 0) (nI 0)) (u2 := 1) h hE hX lk_RL_248 (ka_10 hst G S (nI 0) (nI 0) (nI 0)) rfl rfl rfl (by decide) rfl (Nat.le_of_ble_eq_true rfl) (by decide) dL_act_301 ?_
        have e9 : actF S n = (rK_10 S (nI 0) (nI 0) (nI 0), sK_10 S (nI 0) (nI 0) (nI 0)) := by
          unfold actF
          rw [hv]
          exact if_neg e288
        rw [e9] at hret
        exact vl_wd (by decide) (hret 304 _ dL_act_304)
      · skip
        rw [nI_leI (by omega) (by omega)] at c288
        have e288 : nLi S < 3 := by omega
        refine vl_iconst (pc := 291) (v := (-1)) h (by decide) dL_act_291 ?_
        refine vl_goto (pc := 292) (tgt := 304) h (by decide) dL_act_292 ?_
        have e9 : actF S n = ((-1), S) := by
          unfold actF
          rw [hv]
          exact if_pos e288
        rw [e9] at hret
        exact vl_wd (by decide) (hret 304 _ dL_act_304)
    · skip
      rw [hv]
      refine vl_tabIn (pc := 48) (off := 257) (tgt := 305) h (by decide) (by decide) (by decide) (by decide) dL_act_48 ?_
      refine vl_iload (pc := 305) h 1 rfl dL_act_305 ?_
      refine vl_if_ne (pc := 307) (tgt := 314) h (by decide) dL_act_307 (fun c307 => ?_) (fun c307 => ?_)
      · skip
        rw [zI0, nI_eq (by omega) (by omega)] at c307
        refine vl_iload_n (pc := 314) h 5 rfl rfl dL_act_314 ?_
        refine vl_iconst (pc := 315) (v := nI 3) h (by decide) dL_act_315 ?_
        refine vl_irem (pc := 316) (v := nI ((n / 16) % 3)) h (by decide) (pk_rem (by omega) (by omega) (by omega)) dL_act_316 ?_
        refine vl_if_ne (pc := 317) (tgt := 333) h (by decide) dL_act_317 (fun c317 => ?_) (fun c317 => ?_)
        · skip
          rw [zI0, nI_eq (by omega) (by omega)] at c317
          refine vl_aload_n (pc := 333) h 6 rfl rfl dL_act_333 ?_
          refine vl_bipush (pc := 334) (v := nI 14) h (by decide) dL_act_334 ?_
          refine vl_iload (pc := 336) h 0 rfl dL_act_336 ?_
          refine vl_iconst (pc := 338) (v := nI 0) h (by decide) dL_act_338 ?_
          refine vl_iconst (pc := 339) (v := nI 0) h (by decide) dL_act_339 ?_
          refine wS1 (pc := 340) (As := [.ref (G.2.1 + 0), .int (nI 14), .int (nI (rI S (n / 16))), .int (nI 0), .int (nI 0)]) (st := []) (r2 := rK_14 S (nI (rI S (n / 16))) (nI 0) (nI 0)) (u2 := 1) h hE hX lk_RL_248 (ka_14 hst G S (nI (rI S (n / 16))) (nI 0) (nI 0)) rfl rfl rfl (by decide) rfl (Nat.le_of_ble_eq_true rfl) (by decide) dL_act_340 ?_
          have e9 : actF S n = (rK_14 S (nI (rI S (n / 16))) (nI 0) (nI 0), sK_14 S (nI (rI S (n / 16))) (nI 0) (nI 0)) := by
            unfold actF
            rw [hv]
            exact (if_neg c307).trans (if_neg c317)
          rw [e9] at hret
          exact vl_wd (by decide) (hret 343 _ dL_act_343)
        · skip
          rw [zI0, nI_eq (by omega) (by omega)] at c317
          refine vl_aload_n (pc := 320) h 6 rfl rfl dL_act_320 ?_
          refine vl_bipush (pc := 321) (v := nI 15) h (by decide) dL_act_321 ?_
          refine vl_iload (pc := 323) h 0 rfl dL_act_323 ?_
          refine vl_iconst (pc := 325) (v := nI 0) h (by decide) dL_act_325 ?_
          refine vl_iconst (pc := 326) (v := nI 0) h (by decide) dL_act_326 ?_
          refine wS1 (pc := 327) (As := [.ref (G.2.1 + 0), .int (nI 15), .int (nI (rI S (n / 16))), .int (nI 0), .int (nI 0)]) (st := []) (r2 := rK_15 S (nI (rI S (n / 16))) (nI 0) (nI 0)) (u2 := 1) h hE hX lk_RL_248 (ka_15 hst G S (nI (rI S (n / 16))) (nI 0) (nI 0)) rfl rfl rfl (by decide) rfl (Nat.le_of_ble_eq_true rfl) (by decide) dL_act_327 ?_
          refine vl_goto (pc := 330) (tgt := 343) h (by decide) dL_act_330 ?_
          have e9 : actF S n = (rK_15 S (nI (rI S (n / 16))) (nI 0) (nI 0), sK_15 S (nI (rI S (n / 16))) (nI 0) (nI 0)) := by
            unfold actF
            rw [hv]
            exact (if_neg c307).trans (if_pos c317)
          rw [e9] at hret
          exact vl_wd (by decide) (hret 343 _ dL_act_343)
      · skip
        rw [zI0, nI_eq (by omega) (by omega)] at c307
        refine vl_iconst (pc := 310) (v := (-1)) h (by decide) dL_act_310 ?_
        refine vl_goto (pc := 311) (tgt := 343) h (by decide) dL_act_311 ?_
        have e9 : actF S n = ((-1), S) := by
          unfold actF
          rw [hv]
          exact if_pos c307
        rw [e9] at hret
        exact vl_wd (by decide) (hret 343 _ dL_act_343)
    · skip
      rw [hv]
      refine vl_tabIn (pc := 48) (off := 296) (tgt := 344) h (by decide) (by decide) (by decide) (by decide) dL_act_48 ?_
      refine vl_iload (pc := 344) h 1 rfl dL_act_344 ?_
      refine vl_if_ne (pc := 346) (tgt := 353) h (by decide) dL_act_346 (fun c346 => ?_) (fun c346 => ?_)
      · skip
        rw [zI0, nI_eq (by omega) (by omega)] at c346
        refine vl_aload_n (pc := 353) h 6 rfl rfl dL_act_353 ?_
        refine vl_bipush (pc := 354) (v := nI 13) h (by decide) dL_act_354 ?_
        refine vl_iload (pc := 356) h 0 rfl dL_act_356 ?_
        refine vl_iconst (pc := 358) (v := nI 1) h (by decide) dL_act_358 ?_
        refine vl_iload_n (pc := 359) h 5 rfl rfl dL_act_359 ?_
        refine vl_iconst (pc := 360) (v := nI 4) h (by decide) dL_act_360 ?_
        refine vl_idiv (pc := 361) (v := nI ((n / 16) / 4)) h (by decide) (pk_div (by omega) (by omega) (by omega)) dL_act_361 ?_
        refine vl_iload_n (pc := 362) h 5 rfl rfl dL_act_362 ?_
        refine vl_iconst (pc := 363) (v := nI 2) h (by decide) dL_act_363 ?_
        refine vl_irem (pc := 364) (v := nI ((n / 16) % 2)) h (by decide) (pk_rem (by omega) (by omega) (by omega)) dL_act_364 ?_
        have kj365 : ∀ v365 : Int32, v365 = nI (dC (n / 16)) → VP x (bA G) 8 0 Q (W1 G S) 375 [(7, .int (nI (rI S (n / 16)))), (6, .int (nI (nRd S))), (5, .int (nI (((n / 16) / 12) % (nLi S)))), (4, .int (nI ((n / 16) % (nLi S)))), (3, .int (nI (nLi S))), (2, .int (nI (n / 16))), (0, .ref (G.2.1 + 0)), (1, .int (nI n))] [.int v365, .int (nI ((n / 16) / 4)), .int (nI 1), .int (nI (rI S (n / 16))), .int (nI 13), .ref (G.2.1 + 0)] := by
          intro v365 h365
          subst h365
          refine vl_irem (pc := 375) (v := nI (((n / 16) / 4) % (dC (n / 16)))) h (nI_ne0 (by omega) (by omega)) (pk_rem (by omega) (by omega) (by omega)) dL_act_375 ?_
          refine vl_iadd (pc := 376) (v := nI (1 + (((n / 16) / 4) % (dC (n / 16))))) h (nI_add _ _) dL_act_376 ?_
          refine vl_iconst (pc := 377) (v := nI 0) h (by decide) dL_act_377 ?_
          refine wS1 (pc := 378) (As := [.ref (G.2.1 + 0), .int (nI 13), .int (nI (rI S (n / 16))), .int (nI (1 + (((n / 16) / 4) % (dC (n / 16))))), .int (nI 0)]) (st := []) (r2 := rK_13 S (nI (rI S (n / 16))) (nI (1 + (((n / 16) / 4) % (dC (n / 16))))) (nI 0)) (u2 := 1) h hE hX lk_RL_248 (ka_13 hst G S (nI (rI S (n / 16))) (nI (1 + (((n / 16) / 4) % (dC (n / 16))))) (nI 0)) rfl rfl rfl (by decide) rfl (Nat.le_of_ble_eq_true rfl) (by decide) dL_act_378 ?_
          have e9 : actF S n = (rK_13 S (nI (rI S (n / 16))) (nI (1 + (((n / 16) / 4) % (dC (n / 16))))) (nI 0), sK_13 S (nI (rI S (n / 16))) (nI (1 + (((n / 16) / 4) % (dC (n / 16))))) (nI 0)) := by
            unfold actF
            rw [hv]
            exact if_neg c346
          rw [e9] at hret
          exact vl_wd (by decide) (hret 381 _ dL_act_381)
        refine vl_if_ne (pc := 365) (tgt := 373) h (by decide) dL_act_365 (fun c365 => ?_) (fun c365 => ?_)
        · skip
          rw [zI0, nI_eq (by omega) (by omega)] at c365
          refine vl_bipush (pc := 373) (v := nI 9) h (by decide) dL_act_373 ?_
          exact kj365 _ (by unfold dC; rw [if_neg c365])
        · skip
          rw [zI0, nI_eq (by omega) (by omega)] at c365
          refine vl_bipush (pc := 368) (v := nI 99) h (by decide) dL_act_368 ?_
          refine vl_goto (pc := 370) (tgt := 375) h (by decide) dL_act_370 ?_
          exact kj365 _ (by unfold dC; rw [if_pos c365])
      · skip
        rw [zI0, nI_eq (by omega) (by omega)] at c346
        refine vl_iconst (pc := 349) (v := (-1)) h (by decide) dL_act_349 ?_
        refine vl_goto (pc := 350) (tgt := 381) h (by decide) dL_act_350 ?_
        have e9 : actF S n = ((-1), S) := by
          unfold actF
          rw [hv]
          exact if_pos c346
        rw [e9] at hret
        exact vl_wd (by decide) (hret 381 _ dL_act_381)
    · skip
      rw [hv]
      refine vl_tabIn (pc := 48) (off := 334) (tgt := 382) h (by decide) (by decide) (by decide) (by decide) dL_act_48 ?_
      refine vl_iload_n (pc := 382) h 4 rfl rfl dL_act_382 ?_
      refine vl_iconst (pc := 383) (v := nI 3) h (by decide) dL_act_383 ?_
      refine vl_icmp_ge (pc := 384) (tgt := 391) h (by decide) dL_act_384 (fun c384 => ?_) (fun c384 => ?_)
      · skip
        rw [nI_leI (by omega) (by omega)] at c384
        have e384 : ¬ nLi S < 3 := by omega
        refine vl_aload_n (pc := 391) h 6 rfl rfl dL_act_391 ?_
        refine vl_bipush (pc := 392) (v := nI 16) h (by decide) dL_act_392 ?_
        refine vl_iconst (pc := 394) (v := nI 0) h (by decide) dL_act_394 ?_
        refine vl_iconst (pc := 395) (v := nI 0) h (by decide) dL_act_395 ?_
        refine vl_iconst (pc := 396) (v := nI 0) h (by decide) dL_act_396 ?_
        refine wS1 (pc := 397) (As := [.ref (G.2.1 + 0), .int (nI 16), .int (nI 0), .int (nI 0), .int (nI 0)]) (st := []) (r2 := rK_16 S (nI 0) (nI 0) (nI 0)) (u2 := 1) h hE hX lk_RL_248 (ka_16 hst G S (nI 0) (nI 0) (nI 0)) rfl rfl rfl (by decide) rfl (Nat.le_of_ble_eq_true rfl) (by decide) dL_act_397 ?_
        have e9 : actF S n = (rK_16 S (nI 0) (nI 0) (nI 0), sK_16 S (nI 0) (nI 0) (nI 0)) := by
          unfold actF
          rw [hv]
          exact if_neg e384
        rw [e9] at hret
        exact vl_wd (by decide) (hret 400 _ dL_act_400)
      · skip
        rw [nI_leI (by omega) (by omega)] at c384
        have e384 : nLi S < 3 := by omega
        refine vl_iconst (pc := 387) (v := (-1)) h (by decide) dL_act_387 ?_
        refine vl_goto (pc := 388) (tgt := 400) h (by decide) dL_act_388 ?_
        have e9 : actF S n = ((-1), S) := by
          unfold actF
          rw [hv]
          exact if_pos e384
        rw [e9] at hret
        exact vl_wd (by decide) (hret 400 _ dL_act_400)
    · skip
      rw [hv]
      refine vl_tabIn (pc := 48) (off := 353) (tgt := 401) h (by decide) (by decide) (by decide) (by decide) dL_act_48 ?_
      refine vl_iload_n (pc := 401) h 5 rfl rfl dL_act_401 ?_
      refine vl_iconst (pc := 402) (v := nI 2) h (by decide) dL_act_402 ?_
      refine vl_irem (pc := 403) (v := nI ((n / 16) % 2)) h (by decide) (pk_rem (by omega) (by omega) (by omega)) dL_act_403 ?_
      refine vl_if_ne (pc := 404) (tgt := 423) h (by decide) dL_act_404 (fun c404 => ?_) (fun c404 => ?_)
      · skip
        rw [zI0, nI_eq (by omega) (by omega)] at c404
        refine vl_aload_n (pc := 423) h 6 rfl rfl dL_act_423 ?_
        refine vl_bipush (pc := 424) (v := nI 33) h (by decide) dL_act_424 ?_
        refine vl_iload_n (pc := 426) h 5 rfl rfl dL_act_426 ?_
        refine vl_iconst (pc := 427) (v := nI 2) h (by decide) dL_act_427 ?_
        refine vl_idiv (pc := 428) (v := nI ((n / 16) / 2)) h (by decide) (pk_div (by omega) (by omega) (by omega)) dL_act_428 ?_
        refine vl_iconst (pc := 429) (v := nI 2) h (by decide) dL_act_429 ?_
        refine vl_irem (pc := 430) (v := nI (((n / 16) / 2) % 2)) h (by decide) (pk_rem (by omega) (by omega) (by omega)) dL_act_430 ?_
        refine vl_iconst (pc := 431) (v := nI 0) h (by decide) dL_act_431 ?_
        refine vl_iconst (pc := 432) (v := nI 0) h (by decide) dL_act_432 ?_
        refine wS1 (pc := 433) (As := [.ref (G.2.1 + 0), .int (nI 33), .int (nI (((n / 16) / 2) % 2)), .int (nI 0), .int (nI 0)]) (st := []) (r2 := rK_33 S (nI (((n / 16) / 2) % 2)) (nI 0) (nI 0)) (u2 := 2) h hE hX lk_RL_248 (ka_33 hst G S (nI (((n / 16) / 2) % 2)) (nI 0) (nI 0)) rfl rfl rfl (by decide) rfl (Nat.le_of_ble_eq_true rfl) (by decide) dL_act_433 ?_
        have e9 : actF S n = (rK_33 S (nI (((n / 16) / 2) % 2)) (nI 0) (nI 0), sK_33 S (nI (((n / 16) / 2) % 2)) (nI 0) (nI 0)) := by
          unfold actF
          rw [hv]
          exact if_neg c404
        rw [e9] at hret
        exact vl_wd (by decide) (hret 436 _ dL_act_436)
      · skip
        rw [zI0, nI_eq (by omega) (by omega)] at c404
        refine vl_aload_n (pc := 407) h 6 rfl rfl dL_act_407 ?_
        refine vl_bipush (pc := 408) (v := nI 32) h (by decide) dL_act_408 ?_
        refine vl_iload_n (pc := 410) h 5 rfl rfl dL_act_410 ?_
        refine vl_iconst (pc := 411) (v := nI 2) h (by decide) dL_act_411 ?_
        refine vl_idiv (pc := 412) (v := nI ((n / 16) / 2)) h (by decide) (pk_div (by omega) (by omega) (by omega)) dL_act_412 ?_
        refine vl_iconst (pc := 413) (v := nI 2) h (by decide) dL_act_413 ?_
        refine vl_irem (pc := 414) (v := nI (((n / 16) / 2) % 2)) h (by decide) (pk_rem (by omega) (by omega) (by omega)) dL_act_414 ?_
        refine vl_iconst (pc := 415) (v := nI 0) h (by decide) dL_act_415 ?_
        refine vl_iconst (pc := 416) (v := nI 0) h (by decide) dL_act_416 ?_
        refine wS1 (pc := 417) (As := [.ref (G.2.1 + 0), .int (nI 32), .int (nI (((n / 16) / 2) % 2)), .int (nI 0), .int (nI 0)]) (st := []) (r2 := rK_32 S (nI (((n / 16) / 2) % 2)) (nI 0) (nI 0)) (u2 := 1) h hE hX lk_RL_248 (ka_32 hst G S (nI (((n / 16) / 2) % 2)) (nI 0) (nI 0)) rfl rfl rfl (by decide) rfl (Nat.le_of_ble_eq_true rfl) (by decide) dL_act_417 ?_
        refine vl_goto (pc := 420) (tgt := 436) h (by decide) dL_act_420 ?_
        have e9 : actF S n = (rK_32 S (nI (((n / 16) / 2) % 2)) (nI 0) (nI 0), sK_32 S (nI (((n / 16) / 2) % 2)) (nI 0) (nI 0)) := by
          unfold actF
          rw [hv]
          exact if_pos c404
        rw [e9] at hret
        exact vl_wd (by decide) (hret 436 _ dL_act_436)
    · skip
      rw [hv]
      refine vl_tabOut (pc := 48) (tgt := 437) h (by decide) (by decide) dL_act_48 ?_
      refine vl_iload (pc := 437) h 1 rfl dL_act_437 ?_
      refine vl_if_ne (pc := 439) (tgt := 446) h (by decide) dL_act_439 (fun c439 => ?_) (fun c439 => ?_)
      · skip
        rw [zI0, nI_eq (by omega) (by omega)] at c439
        refine vl_aload_n (pc := 446) h 6 rfl rfl dL_act_446 ?_
        refine vl_bipush (pc := 447) (v := nI 12) h (by decide) dL_act_447 ?_
        refine vl_iload (pc := 449) h 0 rfl dL_act_449 ?_
        refine vl_iconst (pc := 451) (v := nI 0) h (by decide) dL_act_451 ?_
        refine vl_iconst (pc := 452) (v := nI 0) h (by decide) dL_act_452 ?_
        refine wS1 (pc := 453) (As := [.ref (G.2.1 + 0), .int (nI 12), .int (nI (rI S (n / 16))), .int (nI 0), .int (nI 0)]) (st := []) (r2 := rK_12 S (nI (rI S (n / 16))) (nI 0) (nI 0)) (u2 := 1) h hE hX lk_RL_248 (ka_12 hst G S (nI (rI S (n / 16))) (nI 0) (nI 0)) rfl rfl rfl (by decide) rfl (Nat.le_of_ble_eq_true rfl) (by decide) dL_act_453 ?_
        have e9 : actF S n = (rK_12 S (nI (rI S (n / 16))) (nI 0) (nI 0), sK_12 S (nI (rI S (n / 16))) (nI 0) (nI 0)) := by
          unfold actF
          rw [hv]
          exact if_neg c439
        rw [e9] at hret
        exact vl_wd (by decide) (hret 456 _ dL_act_456)
      · skip
        rw [zI0, nI_eq (by omega) (by omega)] at c439
        refine vl_iconst (pc := 442) (v := (-1)) h (by decide) dL_act_442 ?_
        refine vl_goto (pc := 443) (tgt := 456) h (by decide) dL_act_443 ?_
        have e9 : actF S n = ((-1), S) := by
          unfold actF
          rw [hv]
          exact if_pos c439
        rw [e9] at hret
        exact vl_wd (by decide) (hret 456 _ dL_act_456)
  refine vl_if_ne (pc := 31) (tgt := 38) h (by decide) dL_act_31 (fun c31 => ?_) (fun c31 => ?_)
  · skip
    rw [zI0, nI_eq (by omega) (by omega)] at c31
    refine vl_iload_n (pc := 38) h 4 rfl rfl dL_act_38 ?_
    refine vl_iload (pc := 39) h 0 rfl dL_act_39 ?_
    refine vl_irem (pc := 41) (v := nI ((n / 16) % (nRd S))) h (nI_ne0 (by omega) (by omega)) (pk_rem (by omega) (by omega) (by omega)) dL_act_41 ?_
    exact kj31 _ (by unfold rI; rw [if_neg c31])
  · skip
    rw [zI0, nI_eq (by omega) (by omega)] at c31
    refine vl_iconst (pc := 34) (v := nI 0) h (by decide) dL_act_34 ?_
    refine vl_goto (pc := 35) (tgt := 42) h (by decide) dL_act_35 ?_
    exact kj31 _ (by unfold rI; rw [if_pos c31])

