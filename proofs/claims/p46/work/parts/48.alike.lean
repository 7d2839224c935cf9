/-! THE LAW: alike -/
set_option maxRecDepth 100000 in
set_option maxHeartbeats 4000000 in
theorem n_alike (l : Launch) (hst : l.stackTraces = false) (G K : Gl) (h2 : Two G K) (S : Cs) (n : Nat) (hn : n < 2 ^ 31) (b : Bool) : K2 l yL_alike cL_alike 6 .boolean ({ frames := 10, cells := 300, slots := 1800, locals := 218 } : Room) G K [.ref (G.2.1 + 0), .ref (K.2.1 + 0), .int (nI n), .int (zB b)] S (nI 1) S := by
  refine K2_of rfl (by decide +kernel) (lo := [(0, .ref (G.2.1 + 0)), (1, .ref (K.2.1 + 0)), (2, .int (nI n)), (3, .int (zB b))]) rfl (Nat.le_of_ble_eq_true rfl) rfl (rfl) ?_
  intro x Q hxl h hE hE2 hX hret
  subst hxl
  refine vl_aload_n (pc := 0) h 0 rfl rfl dL_alike_0 ?_
  refine vl_iload_n (pc := 1) h 2 rfl rfl dL_alike_1 ?_
  refine vl_i2l (pc := 2) (v := (nI n).toInt64) h rfl dL_alike_2 ?_
  refine vl_iconst (pc := 3) (v := nI 1) h (by decide) dL_alike_3 ?_
  refine vl_iload_n (pc := 4) h 2 rfl rfl dL_alike_4 ?_
  refine vl_bipush (pc := 5) (v := nI 30) h (by decide) dL_alike_5 ?_
  refine vl_irem (pc := 7) (v := nI (n % 30)) h (by decide) (pk_rem (by omega) (by omega) (by omega)) dL_alike_7 ?_
  refine vl_iadd (pc := 8) (v := nI (1 + (n % 30))) h (nI_add _ _) dL_alike_8 ?_
  refine wWo (pc := 9) (As := [.ref (G.2.1 + 0), .long ((nI n).toInt64), .int (nI (1 + (n % 30)))]) (st := []) (r2 := rW_doSimulate S ((nI n).toInt64) (nI (1 + (n % 30)))) (u2 := 1) h2 h hE hX lkw_256 (ka_doSimulate hst G S ((nI n).toInt64) (nI (1 + (n % 30)))) rfl rfl rfl (by decide) rfl (Nat.le_of_ble_eq_true rfl) (by decide) dL_alike_9 ?_
  refine vl_aload_n (pc := 12) h 1 rfl rfl dL_alike_12 ?_
  refine vl_iload_n (pc := 13) h 2 rfl rfl dL_alike_13 ?_
  refine vl_i2l (pc := 14) (v := (nI n).toInt64) h rfl dL_alike_14 ?_
  refine vl_iconst (pc := 15) (v := nI 1) h (by decide) dL_alike_15 ?_
  refine vl_iload_n (pc := 16) h 2 rfl rfl dL_alike_16 ?_
  refine vl_bipush (pc := 17) (v := nI 30) h (by decide) dL_alike_17 ?_
  refine vl_irem (pc := 19) (v := nI (n % 30)) h (by decide) (pk_rem (by omega) (by omega) (by omega)) dL_alike_19 ?_
  refine vl_iadd (pc := 20) (v := nI (1 + (n % 30))) h (nI_add _ _) dL_alike_20 ?_
  refine wWq (pc := 21) (As := [.ref (K.2.1 + 0), .long ((nI n).toInt64), .int (nI (1 + (n % 30)))]) (st := [.int (rW_doSimulate S ((nI n).toInt64) (nI (1 + (n % 30))))]) (r2 := rW_doSimulate S ((nI n).toInt64) (nI (1 + (n % 30)))) (u2 := 2) h2 h hE2 hX lkw_256 (ka_doSimulate hst K S ((nI n).toInt64) (nI (1 + (n % 30)))) rfl rfl rfl (by decide) rfl (Nat.le_of_ble_eq_true rfl) (by decide) dL_alike_21 ?_
  refine vl_icmp_ne_f (pc := 24) (tgt := 86) h rfl (by decide) dL_alike_24 ?_
  refine vl_aload_n (pc := 27) h 0 rfl rfl dL_alike_27 ?_
  refine wVo (pc := 28) (As := []) (st := []) (r2 := nI (nLi S)) (u2 := 2) h2 h hE lk_RL_242 (kv_lists (S := S)) rfl rfl rfl (by decide) rfl (Nat.le_of_ble_eq_true rfl) (by decide) dL_alike_28 ?_
  refine vl_aload_n (pc := 31) h 1 rfl rfl dL_alike_31 ?_
  refine wVq (pc := 32) (As := []) (st := [.int (nI (nLi S))]) (r2 := nI (nLi S)) (u2 := 2) h2 h hE2 lk_RL_242 (kv_lists (S := S)) rfl rfl rfl (by decide) rfl (Nat.le_of_ble_eq_true rfl) (by decide) dL_alike_32 ?_
  refine vl_icmp_ne_f (pc := 35) (tgt := 86) h rfl (by decide) dL_alike_35 ?_
  refine vl_aload_n (pc := 38) h 0 rfl rfl dL_alike_38 ?_
  refine wVo (pc := 39) (As := []) (st := []) (r2 := nI (nRd S)) (u2 := 2) h2 h hE lk_RL_245 (kv_readers (S := S)) rfl rfl rfl (by decide) rfl (Nat.le_of_ble_eq_true rfl) (by decide) dL_alike_39 ?_
  refine vl_aload_n (pc := 42) h 1 rfl rfl dL_alike_42 ?_
  refine wVq (pc := 43) (As := []) (st := [.int (nI (nRd S))]) (r2 := nI (nRd S)) (u2 := 2) h2 h hE2 lk_RL_245 (kv_readers (S := S)) rfl rfl rfl (by decide) rfl (Nat.le_of_ble_eq_true rfl) (by decide) dL_alike_43 ?_
  refine vl_icmp_ne_f (pc := 46) (tgt := 86) h rfl (by decide) dL_alike_46 ?_
  refine vl_aload_n (pc := 49) h 0 rfl rfl dL_alike_49 ?_
  refine wVo (pc := 50) (As := []) (st := []) (r2 := (sA S).2.2.1) (u2 := 2) h2 h hE lk_RL_269 (kv_readings (S := S)) rfl rfl rfl (by decide) rfl (Nat.le_of_ble_eq_true rfl) (by decide) dL_alike_50 ?_
  refine vl_aload_n (pc := 53) h 1 rfl rfl dL_alike_53 ?_
  refine wVq (pc := 54) (As := []) (st := [.int ((sA S).2.2.1)]) (r2 := (sA S).2.2.1) (u2 := 2) h2 h hE2 lk_RL_269 (kv_readings (S := S)) rfl rfl rfl (by decide) rfl (Nat.le_of_ble_eq_true rfl) (by decide) dL_alike_54 ?_
  refine vl_icmp_ne_f (pc := 57) (tgt := 86) h rfl (by decide) dL_alike_57 ?_
  refine vl_aload_n (pc := 60) h 0 rfl rfl dL_alike_60 ?_
  refine wVo (pc := 61) (As := []) (st := []) (r2 := oI (lstN (sA S) (nRd S)).1) (u2 := 2) h2 h hE lk_RL_263 (kv_leastNext (S := S)) rfl rfl rfl (by decide) rfl (Nat.le_of_ble_eq_true rfl) (by decide) dL_alike_61 ?_
  refine vl_aload_n (pc := 64) h 1 rfl rfl dL_alike_64 ?_
  refine wVq (pc := 65) (As := []) (st := [.int (oI (lstN (sA S) (nRd S)).1)]) (r2 := oI (lstN (sA S) (nRd S)).1) (u2 := 2) h2 h hE2 lk_RL_263 (kv_leastNext (S := S)) rfl rfl rfl (by decide) rfl (Nat.le_of_ble_eq_true rfl) (by decide) dL_alike_65 ?_
  refine vl_icmp_ne_f (pc := 68) (tgt := 86) h rfl (by decide) dL_alike_68 ?_
  refine vl_aload_n (pc := 71) h 0 rfl rfl dL_alike_71 ?_
  refine wVo (pc := 72) (As := []) (st := []) (r2 := nI (whyN (sA S))) (u2 := 2) h2 h hE lk_RL_260 (kv_whyNoDrop (S := S)) rfl rfl rfl (by decide) rfl (Nat.le_of_ble_eq_true rfl) (by decide) dL_alike_72 ?_
  refine vl_aload_n (pc := 75) h 1 rfl rfl dL_alike_75 ?_
  refine wVq (pc := 76) (As := []) (st := [.int (nI (whyN (sA S)))]) (r2 := nI (whyN (sA S))) (u2 := 2) h2 h hE2 lk_RL_260 (kv_whyNoDrop (S := S)) rfl rfl rfl (by decide) rfl (Nat.le_of_ble_eq_true rfl) (by decide) dL_alike_76 ?_
  refine vl_icmp_ne_f (pc := 79) (tgt := 86) h rfl (by decide) dL_alike_79 ?_
  refine vl_iconst (pc := 82) (v := nI 1) h (by decide) dL_alike_82 ?_
  refine vl_goto (pc := 83) (tgt := 87) h (by decide) dL_alike_83 ?_
  refine vl_istore (pc := 87) (lo2 := [(4, .int (nI 1)), (0, .ref (G.2.1 + 0)), (1, .ref (K.2.1 + 0)), (2, .int (nI n)), (3, .int (zB b))]) h (by decide) rfl dL_alike_87 ?_
  refine vl_iconst (pc := 89) (v := nI 0) h (by decide) dL_alike_89 ?_
  refine vl_istore (pc := 90) (lo2 := [(5, .int (nI 0)), (4, .int (nI 1)), (0, .ref (G.2.1 + 0)), (1, .ref (K.2.1 + 0)), (2, .int (nI n)), (3, .int (zB b))]) h (by decide) rfl dL_alike_90 ?_
  have lp92 : ∀ (fu : Nat) (k : Nat), k ≤ 12 → 12 - k < fu → VP x (bB G K) 6 (2 + 22 * k) Q (W2 G K S S) 92 [(5, .int (nI k)), (4, .int (nI 1)), (0, .ref (G.2.1 + 0)), (1, .ref (K.2.1 + 0)), (2, .int (nI n)), (3, .int (zB b))] [] := by
    intro fu
    induction fu with
    | zero => intro k hk hfu; exact absurd hfu (Nat.not_lt_zero _)
    | succ fu ih92 =>
      intro k hk hfu
      refine vl_iload (pc := 92) h 0 rfl dL_alike_92 ?_
      refine vl_bipush (pc := 94) (v := nI 12) h (by decide) dL_alike_94 ?_
      refine vl_icmp_ge (pc := 96) (tgt := 305) h (by decide) dL_alike_96 (fun c96 => ?_) (fun c96 => ?_)
      · skip
        refine vl_iload (pc := 305) h 1 rfl dL_alike_305 ?_
        exact vl_wd (by show _ ≤ 300; omega) (hret 307 _ dL_alike_307)
      · skip
        rw [nI_leI (by omega) (by omega)] at c96
        refine vl_iload (pc := 99) h 1 rfl dL_alike_99 ?_
        refine vl_if_eq_f (pc := 101) (tgt := 305) h (by decide) (by decide) dL_alike_101 ?_
        refine vl_aload_n (pc := 104) h 2 rfl rfl dL_alike_104 ?_
        refine vl_bipush (pc := 105) (v := nI 20) h (by decide) dL_alike_105 ?_
        refine vl_iload (pc := 107) h 0 rfl dL_alike_107 ?_
        refine vl_iload_n (pc := 109) h 4 rfl rfl dL_alike_109 ?_
        refine vl_sipush (pc := 110) (v := nI 1000) h (by decide) dL_alike_110 ?_
        refine vl_irem (pc := 113) (v := nI (n % 1000)) h (by decide) (pk_rem (by omega) (by omega) (by omega)) dL_alike_113 ?_
        refine vl_iconst (pc := 114) (v := nI 0) h (by decide) dL_alike_114 ?_
        refine wSo (pc := 115) (As := [.ref (G.2.1 + 0), .int (nI 20), .int (nI k), .int (nI (n % 1000)), .int (nI 0)]) (st := []) (r2 := rK_20 S (nI k) (nI (n % 1000)) (nI 0)) (u2 := 2 + 22 * k + 2) h2 h hE hX lk_RL_248 (ka_20 hst G S (nI k) (nI (n % 1000)) (nI 0)) rfl rfl rfl (by decide) rfl (Nat.le_of_ble_eq_true rfl) ⟨by show _ + 2 ≤ _; omega, by show _ ≤ 300; omega⟩ dL_alike_115 ?_
        refine vl_aload_n (pc := 118) h 3 rfl rfl dL_alike_118 ?_
        refine vl_bipush (pc := 119) (v := nI 20) h (by decide) dL_alike_119 ?_
        refine vl_iload (pc := 121) h 0 rfl dL_alike_121 ?_
        refine vl_iload_n (pc := 123) h 4 rfl rfl dL_alike_123 ?_
        refine vl_sipush (pc := 124) (v := nI 1000) h (by decide) dL_alike_124 ?_
        refine vl_irem (pc := 127) (v := nI (n % 1000)) h (by decide) (pk_rem (by omega) (by omega) (by omega)) dL_alike_127 ?_
        refine vl_iconst (pc := 128) (v := nI 0) h (by decide) dL_alike_128 ?_
        refine wSq (pc := 129) (As := [.ref (K.2.1 + 0), .int (nI 20), .int (nI k), .int (nI (n % 1000)), .int (nI 0)]) (st := [.int (rK_20 S (nI k) (nI (n % 1000)) (nI 0))]) (r2 := rK_20 S (nI k) (nI (n % 1000)) (nI 0)) (u2 := 2 + 22 * k + 2 + 2) h2 h hE2 hX lk_RL_248 (ka_20 hst K S (nI k) (nI (n % 1000)) (nI 0)) rfl rfl rfl (by decide) rfl (Nat.le_of_ble_eq_true rfl) ⟨by show _ + 2 ≤ _; omega, by show _ ≤ 300; omega⟩ dL_alike_129 ?_
        refine vl_icmp_ne_f (pc := 132) (tgt := 296) h rfl (by decide) dL_alike_132 ?_
        refine vl_iload_n (pc := 135) h 5 rfl rfl dL_alike_135 ?_
        have k194 : VP x (bB G K) 6 (2 + 22 * k + 8) Q (W2 G K S S) 194 [(5, .int (nI k)), (4, .int (nI 1)), (0, .ref (G.2.1 + 0)), (1, .ref (K.2.1 + 0)), (2, .int (nI n)), (3, .int (zB b))] [] := by
          refine vl_aload_n (pc := 194) h 2 rfl rfl dL_alike_194 ?_
          refine vl_bipush (pc := 195) (v := nI 17) h (by decide) dL_alike_195 ?_
          refine vl_iload (pc := 197) h 0 rfl dL_alike_197 ?_
          refine vl_iload_n (pc := 199) h 4 rfl rfl dL_alike_199 ?_
          refine vl_bipush (pc := 200) (v := nI 40) h (by decide) dL_alike_200 ?_
          refine vl_irem (pc := 202) (v := nI (n % 40)) h (by decide) (pk_rem (by omega) (by omega) (by omega)) dL_alike_202 ?_
          refine vl_iconst (pc := 203) (v := nI 0) h (by decide) dL_alike_203 ?_
          refine wSo (pc := 204) (As := [.ref (G.2.1 + 0), .int (nI 17), .int (nI k), .int (nI (n % 40)), .int (nI 0)]) (st := []) (r2 := rK_17 S (nI k) (nI (n % 40)) (nI 0)) (u2 := 2 + 22 * k + 8 + 2) h2 h hE hX lk_RL_248 (ka_17 hst G S (nI k) (nI (n % 40)) (nI 0)) rfl rfl rfl (by decide) rfl (Nat.le_of_ble_eq_true rfl) ⟨by show _ + 2 ≤ _; omega, by show _ ≤ 300; omega⟩ dL_alike_204 ?_
          refine vl_aload_n (pc := 207) h 3 rfl rfl dL_alike_207 ?_
          refine vl_bipush (pc := 208) (v := nI 17) h (by decide) dL_alike_208 ?_
          refine vl_iload (pc := 210) h 0 rfl dL_alike_210 ?_
          refine vl_iload_n (pc := 212) h 4 rfl rfl dL_alike_212 ?_
          refine vl_bipush (pc := 213) (v := nI 40) h (by decide) dL_alike_213 ?_
          refine vl_irem (pc := 215) (v := nI (n % 40)) h (by decide) (pk_rem (by omega) (by omega) (by omega)) dL_alike_215 ?_
          refine vl_iconst (pc := 216) (v := nI 0) h (by decide) dL_alike_216 ?_
          refine wSq (pc := 217) (As := [.ref (K.2.1 + 0), .int (nI 17), .int (nI k), .int (nI (n % 40)), .int (nI 0)]) (st := [.int (rK_17 S (nI k) (nI (n % 40)) (nI 0))]) (r2 := rK_17 S (nI k) (nI (n % 40)) (nI 0)) (u2 := 2 + 22 * k + 8 + 2 + 2) h2 h hE2 hX lk_RL_248 (ka_17 hst K S (nI k) (nI (n % 40)) (nI 0)) rfl rfl rfl (by decide) rfl (Nat.le_of_ble_eq_true rfl) ⟨by show _ + 2 ≤ _; omega, by show _ ≤ 300; omega⟩ dL_alike_217 ?_
          refine vl_icmp_ne_f (pc := 220) (tgt := 296) h rfl (by decide) dL_alike_220 ?_
          refine vl_aload_n (pc := 223) h 2 rfl rfl dL_alike_223 ?_
          refine vl_bipush (pc := 224) (v := nI 24) h (by decide) dL_alike_224 ?_
          refine vl_iload (pc := 226) h 0 rfl dL_alike_226 ?_
          refine vl_iconst (pc := 228) (v := nI 0) h (by decide) dL_alike_228 ?_
          refine vl_iconst (pc := 229) (v := nI 0) h (by decide) dL_alike_229 ?_
          refine wSo (pc := 230) (As := [.ref (G.2.1 + 0), .int (nI 24), .int (nI k), .int (nI 0), .int (nI 0)]) (st := []) (r2 := rK_24 S (nI k) (nI 0) (nI 0)) (u2 := 2 + 22 * k + 8 + 2 + 2 + 1) h2 h hE hX lk_RL_248 (ka_24 hst G S (nI k) (nI 0) (nI 0)) rfl rfl rfl (by decide) rfl (Nat.le_of_ble_eq_true rfl) ⟨by show _ + 1 ≤ _; omega, by show _ ≤ 300; omega⟩ dL_alike_230 ?_
          refine vl_aload_n (pc := 233) h 3 rfl rfl dL_alike_233 ?_
          refine vl_bipush (pc := 234) (v := nI 24) h (by decide) dL_alike_234 ?_
          refine vl_iload (pc := 236) h 0 rfl dL_alike_236 ?_
          refine vl_iconst (pc := 238) (v := nI 0) h (by decide) dL_alike_238 ?_
          refine vl_iconst (pc := 239) (v := nI 0) h (by decide) dL_alike_239 ?_
          refine wSq (pc := 240) (As := [.ref (K.2.1 + 0), .int (nI 24), .int (nI k), .int (nI 0), .int (nI 0)]) (st := [.int (rK_24 S (nI k) (nI 0) (nI 0))]) (r2 := rK_24 S (nI k) (nI 0) (nI 0)) (u2 := 2 + 22 * k + 8 + 2 + 2 + 1 + 1) h2 h hE2 hX lk_RL_248 (ka_24 hst K S (nI k) (nI 0) (nI 0)) rfl rfl rfl (by decide) rfl (Nat.le_of_ble_eq_true rfl) ⟨by show _ + 1 ≤ _; omega, by show _ ≤ 300; omega⟩ dL_alike_240 ?_
          refine vl_icmp_ne_f (pc := 243) (tgt := 296) h rfl (by decide) dL_alike_243 ?_
          refine vl_aload_n (pc := 246) h 2 rfl rfl dL_alike_246 ?_
          refine vl_bipush (pc := 247) (v := nI 25) h (by decide) dL_alike_247 ?_
          refine vl_iload (pc := 249) h 0 rfl dL_alike_249 ?_
          refine vl_iconst (pc := 251) (v := nI 0) h (by decide) dL_alike_251 ?_
          refine vl_iconst (pc := 252) (v := nI 0) h (by decide) dL_alike_252 ?_
          refine wSo (pc := 253) (As := [.ref (G.2.1 + 0), .int (nI 25), .int (nI k), .int (nI 0), .int (nI 0)]) (st := []) (r2 := rK_25 S (nI k) (nI 0) (nI 0)) (u2 := 2 + 22 * k + 8 + 2 + 2 + 1 + 1 + 1) h2 h hE hX lk_RL_248 (ka_25 hst G S (nI k) (nI 0) (nI 0)) rfl rfl rfl (by decide) rfl (Nat.le_of_ble_eq_true rfl) ⟨by show _ + 1 ≤ _; omega, by show _ ≤ 300; omega⟩ dL_alike_253 ?_
          refine vl_aload_n (pc := 256) h 3 rfl rfl dL_alike_256 ?_
          refine vl_bipush (pc := 257) (v := nI 25) h (by decide) dL_alike_257 ?_
          refine vl_iload (pc := 259) h 0 rfl dL_alike_259 ?_
          refine vl_iconst (pc := 261) (v := nI 0) h (by decide) dL_alike_261 ?_
          refine vl_iconst (pc := 262) (v := nI 0) h (by decide) dL_alike_262 ?_
          refine wSq (pc := 263) (As := [.ref (K.2.1 + 0), .int (nI 25), .int (nI k), .int (nI 0), .int (nI 0)]) (st := [.int (rK_25 S (nI k) (nI 0) (nI 0))]) (r2 := rK_25 S (nI k) (nI 0) (nI 0)) (u2 := 2 + 22 * k + 8 + 2 + 2 + 1 + 1 + 1 + 1) h2 h hE2 hX lk_RL_248 (ka_25 hst K S (nI k) (nI 0) (nI 0)) rfl rfl rfl (by decide) rfl (Nat.le_of_ble_eq_true rfl) ⟨by show _ + 1 ≤ _; omega, by show _ ≤ 300; omega⟩ dL_alike_263 ?_
          refine vl_icmp_ne_f (pc := 266) (tgt := 296) h rfl (by decide) dL_alike_266 ?_
          refine vl_aload_n (pc := 269) h 2 rfl rfl dL_alike_269 ?_
          refine vl_bipush (pc := 270) (v := nI 26) h (by decide) dL_alike_270 ?_
          refine vl_iload (pc := 272) h 0 rfl dL_alike_272 ?_
          refine vl_iconst (pc := 274) (v := nI 0) h (by decide) dL_alike_274 ?_
          refine vl_iconst (pc := 275) (v := nI 0) h (by decide) dL_alike_275 ?_
          refine wSo (pc := 276) (As := [.ref (G.2.1 + 0), .int (nI 26), .int (nI k), .int (nI 0), .int (nI 0)]) (st := []) (r2 := rK_26 S (nI k) (nI 0) (nI 0)) (u2 := 2 + 22 * k + 8 + 2 + 2 + 1 + 1 + 1 + 1 + 1) h2 h hE hX lk_RL_248 (ka_26 hst G S (nI k) (nI 0) (nI 0)) rfl rfl rfl (by decide) rfl (Nat.le_of_ble_eq_true rfl) ⟨by show _ + 1 ≤ _; omega, by show _ ≤ 300; omega⟩ dL_alike_276 ?_
          refine vl_aload_n (pc := 279) h 3 rfl rfl dL_alike_279 ?_
          refine vl_bipush (pc := 280) (v := nI 26) h (by decide) dL_alike_280 ?_
          refine vl_iload (pc := 282) h 0 rfl dL_alike_282 ?_
          refine vl_iconst (pc := 284) (v := nI 0) h (by decide) dL_alike_284 ?_
          refine vl_iconst (pc := 285) (v := nI 0) h (by decide) dL_alike_285 ?_
          refine wSq (pc := 286) (As := [.ref (K.2.1 + 0), .int (nI 26), .int (nI k), .int (nI 0), .int (nI 0)]) (st := [.int (rK_26 S (nI k) (nI 0) (nI 0))]) (r2 := rK_26 S (nI k) (nI 0) (nI 0)) (u2 := 2 + 22 * k + 8 + 2 + 2 + 1 + 1 + 1 + 1 + 1 + 1) h2 h hE2 hX lk_RL_248 (ka_26 hst K S (nI k) (nI 0) (nI 0)) rfl rfl rfl (by decide) rfl (Nat.le_of_ble_eq_true rfl) ⟨by show _ + 1 ≤ _; omega, by show _ ≤ 300; omega⟩ dL_alike_286 ?_
          refine vl_icmp_ne_f (pc := 289) (tgt := 296) h rfl (by decide) dL_alike_289 ?_
          refine vl_iconst (pc := 292) (v := nI 1) h (by decide) dL_alike_292 ?_
          refine vl_goto (pc := 293) (tgt := 297) h (by decide) dL_alike_293 ?_
          refine vl_istore (pc := 297) (lo2 := [(4, .int (nI 1)), (5, .int (nI k)), (0, .ref (G.2.1 + 0)), (1, .ref (K.2.1 + 0)), (2, .int (nI n)), (3, .int (zB b))]) h (by decide) rfl dL_alike_297 ?_
          refine vl_iinc (pc := 299) (v := nI (k + 1)) (lo2 := [(5, .int (nI (k + 1))), (4, .int (nI 1)), (0, .ref (G.2.1 + 0)), (1, .ref (K.2.1 + 0)), (2, .int (nI n)), (3, .int (zB b))]) h 1 rfl (iinc1 _) (by decide) rfl dL_alike_299 ?_
          refine vl_goto (pc := 302) (tgt := 92) h (by decide) dL_alike_302 ?_
          exact vl_wd (by omega) (ih92 (k + 1) (by omega) (by omega))
        refine vl_if_ne (pc := 136) (tgt := 148) h (by decide) dL_alike_136 (fun c136 => ?_) (fun c136 => ?_)
        · skip
          refine vl_aload_n (pc := 148) h 2 rfl rfl dL_alike_148 ?_
          refine vl_bipush (pc := 149) (v := nI 21) h (by decide) dL_alike_149 ?_
          refine vl_iload (pc := 151) h 0 rfl dL_alike_151 ?_
          refine vl_iconst (pc := 153) (v := nI 0) h (by decide) dL_alike_153 ?_
          refine vl_iconst (pc := 154) (v := nI 0) h (by decide) dL_alike_154 ?_
          refine wSo (pc := 155) (As := [.ref (G.2.1 + 0), .int (nI 21), .int (nI k), .int (nI 0), .int (nI 0)]) (st := []) (r2 := rK_21 S (nI k) (nI 0) (nI 0)) (u2 := 2 + 22 * k + 2 + 2 + 1) h2 h hE hX lk_RL_248 (ka_21 hst G S (nI k) (nI 0) (nI 0)) rfl rfl rfl (by decide) rfl (Nat.le_of_ble_eq_true rfl) ⟨by show _ + 1 ≤ _; omega, by show _ ≤ 300; omega⟩ dL_alike_155 ?_
          refine vl_aload_n (pc := 158) h 3 rfl rfl dL_alike_158 ?_
          refine vl_bipush (pc := 159) (v := nI 21) h (by decide) dL_alike_159 ?_
          refine vl_iload (pc := 161) h 0 rfl dL_alike_161 ?_
          refine vl_iconst (pc := 163) (v := nI 0) h (by decide) dL_alike_163 ?_
          refine vl_iconst (pc := 164) (v := nI 0) h (by decide) dL_alike_164 ?_
          refine wSq (pc := 165) (As := [.ref (K.2.1 + 0), .int (nI 21), .int (nI k), .int (nI 0), .int (nI 0)]) (st := [.int (rK_21 S (nI k) (nI 0) (nI 0))]) (r2 := rK_21 S (nI k) (nI 0) (nI 0)) (u2 := 2 + 22 * k + 2 + 2 + 1 + 1) h2 h hE2 hX lk_RL_248 (ka_21 hst K S (nI k) (nI 0) (nI 0)) rfl rfl rfl (by decide) rfl (Nat.le_of_ble_eq_true rfl) ⟨by show _ + 1 ≤ _; omega, by show _ ≤ 300; omega⟩ dL_alike_165 ?_
          refine vl_icmp_ne_f (pc := 168) (tgt := 296) h rfl (by decide) dL_alike_168 ?_
          refine vl_aload_n (pc := 171) h 2 rfl rfl dL_alike_171 ?_
          refine vl_bipush (pc := 172) (v := nI 23) h (by decide) dL_alike_172 ?_
          refine vl_iload (pc := 174) h 0 rfl dL_alike_174 ?_
          refine vl_iconst (pc := 176) (v := nI 0) h (by decide) dL_alike_176 ?_
          refine vl_iconst (pc := 177) (v := nI 0) h (by decide) dL_alike_177 ?_
          refine wSo (pc := 178) (As := [.ref (G.2.1 + 0), .int (nI 23), .int (nI k), .int (nI 0), .int (nI 0)]) (st := []) (r2 := rK_23 S (nI k) (nI 0) (nI 0)) (u2 := 2 + 22 * k + 2 + 2 + 1 + 1 + 1) h2 h hE hX lk_RL_248 (ka_23 hst G S (nI k) (nI 0) (nI 0)) rfl rfl rfl (by decide) rfl (Nat.le_of_ble_eq_true rfl) ⟨by show _ + 1 ≤ _; omega, by show _ ≤ 300; omega⟩ dL_alike_178 ?_
          refine vl_aload_n (pc := 181) h 3 rfl rfl dL_alike_181 ?_
          refine vl_bipush (pc := 182) (v := nI 23) h (by decide) dL_alike_182 ?_
          refine vl_iload (pc := 184) h 0 rfl dL_alike_184 ?_
          refine vl_iconst (pc := 186) (v := nI 0) h (by decide) dL_alike_186 ?_
          refine vl_iconst (pc := 187) (v := nI 0) h (by decide) dL_alike_187 ?_
          refine wSq (pc := 188) (As := [.ref (K.2.1 + 0), .int (nI 23), .int (nI k), .int (nI 0), .int (nI 0)]) (st := [.int (rK_23 S (nI k) (nI 0) (nI 0))]) (r2 := rK_23 S (nI k) (nI 0) (nI 0)) (u2 := 2 + 22 * k + 2 + 2 + 1 + 1 + 1 + 1) h2 h hE2 hX lk_RL_248 (ka_23 hst K S (nI k) (nI 0) (nI 0)) rfl rfl rfl (by decide) rfl (Nat.le_of_ble_eq_true rfl) ⟨by show _ + 1 ≤ _; omega, by show _ ≤ 300; omega⟩ dL_alike_188 ?_
          refine vl_icmp_ne_f (pc := 191) (tgt := 296) h rfl (by decide) dL_alike_191 ?_
          exact vl_wd (by omega) k194
        · skip
          refine vl_iload (pc := 139) h 0 rfl dL_alike_139 ?_
          refine vl_iload_n (pc := 141) h 4 rfl rfl dL_alike_141 ?_
          refine vl_bipush (pc := 142) (v := nI 12) h (by decide) dL_alike_142 ?_
          refine vl_irem (pc := 144) (v := nI (n % 12)) h (by decide) (pk_rem (by omega) (by omega) (by omega)) dL_alike_144 ?_
          refine vl_icmp_ne (pc := 145) (tgt := 194) h (by decide) dL_alike_145 (fun c145 => ?_) (fun c145 => ?_)
          · skip
            exact vl_wd (by omega) k194
          · skip
            refine vl_aload_n (pc := 148) h 2 rfl rfl dL_alike_148 ?_
            refine vl_bipush (pc := 149) (v := nI 21) h (by decide) dL_alike_149 ?_
            refine vl_iload (pc := 151) h 0 rfl dL_alike_151 ?_
            refine vl_iconst (pc := 153) (v := nI 0) h (by decide) dL_alike_153 ?_
            refine vl_iconst (pc := 154) (v := nI 0) h (by decide) dL_alike_154 ?_
            refine wSo (pc := 155) (As := [.ref (G.2.1 + 0), .int (nI 21), .int (nI k), .int (nI 0), .int (nI 0)]) (st := []) (r2 := rK_21 S (nI k) (nI 0) (nI 0)) (u2 := 2 + 22 * k + 2 + 2 + 1) h2 h hE hX lk_RL_248 (ka_21 hst G S (nI k) (nI 0) (nI 0)) rfl rfl rfl (by decide) rfl (Nat.le_of_ble_eq_true rfl) ⟨by show _ + 1 ≤ _; omega, by show _ ≤ 300; omega⟩ dL_alike_155 ?_
            refine vl_aload_n (pc := 158) h 3 rfl rfl dL_alike_158 ?_
            refine vl_bipush (pc := 159) (v := nI 21) h (by decide) dL_alike_159 ?_
            refine vl_iload (pc := 161) h 0 rfl dL_alike_161 ?_
            refine vl_iconst (pc := 163) (v := nI 0) h (by decide) dL_alike_163 ?_
            refine vl_iconst (pc := 164) (v := nI 0) h (by decide) dL_alike_164 ?_
            refine wSq (pc := 165) (As := [.ref (K.2.1 + 0), .int (nI 21), .int (nI k), .int (nI 0), .int (nI 0)]) (st := [.int (rK_21 S (nI k) (nI 0) (nI 0))]) (r2 := rK_21 S (nI k) (nI 0) (nI 0)) (u2 := 2 + 22 * k + 2 + 2 + 1 + 1) h2 h hE2 hX lk_RL_248 (ka_21 hst K S (nI k) (nI 0) (nI 0)) rfl rfl rfl (by decide) rfl (Nat.le_of_ble_eq_true rfl) ⟨by show _ + 1 ≤ _; omega, by show _ ≤ 300; omega⟩ dL_alike_165 ?_
            refine vl_icmp_ne_f (pc := 168) (tgt := 296) h rfl (by decide) dL_alike_168 ?_
            refine vl_aload_n (pc := 171) h 2 rfl rfl dL_alike_171 ?_
            refine vl_bipush (pc := 172) (v := nI 23) h (by decide) dL_alike_172 ?_
            refine vl_iload (pc := 174) h 0 rfl dL_alike_174 ?_
            refine vl_iconst (pc := 176) (v := nI 0) h (by decide) dL_alike_176 ?_
            refine vl_iconst (pc := 177) (v := nI 0) h (by decide) dL_alike_177 ?_
            refine wSo (pc := 178) (As := [.ref (G.2.1 + 0), .int (nI 23), .int (nI k), .int (nI 0), .int (nI 0)]) (st := []) (r2 := rK_23 S (nI k) (nI 0) (nI 0)) (u2 := 2 + 22 * k + 2 + 2 + 1 + 1 + 1) h2 h hE hX lk_RL_248 (ka_23 hst G S (nI k) (nI 0) (nI 0)) rfl rfl rfl (by decide) rfl (Nat.le_of_ble_eq_true rfl) ⟨by show _ + 1 ≤ _; omega, by show _ ≤ 300; omega⟩ dL_alike_178 ?_
            refine vl_aload_n (pc := 181) h 3 rfl rfl dL_alike_181 ?_
            refine vl_bipush (pc := 182) (v := nI 23) h (by decide) dL_alike_182 ?_
            refine vl_iload (pc := 184) h 0 rfl dL_alike_184 ?_
            refine vl_iconst (pc := 186) (v := nI 0) h (by decide) dL_alike_186 ?_
            refine vl_iconst (pc := 187) (v := nI 0) h (by decide) dL_alike_187 ?_
            refine wSq (pc := 188) (As := [.ref (K.2.1 + 0), .int (nI 23), .int (nI k), .int (nI 0), .int (nI 0)]) (st := [.int (rK_23 S (nI k) (nI 0) (nI 0))]) (r2 := rK_23 S (nI k) (nI 0) (nI 0)) (u2 := 2 + 22 * k + 2 + 2 + 1 + 1 + 1 + 1) h2 h hE2 hX lk_RL_248 (ka_23 hst K S (nI k) (nI 0) (nI 0)) rfl rfl rfl (by decide) rfl (Nat.le_of_ble_eq_true rfl) ⟨by show _ + 1 ≤ _; omega, by show _ ≤ 300; omega⟩ dL_alike_188 ?_
            refine vl_icmp_ne_f (pc := 191) (tgt := 296) h rfl (by decide) dL_alike_191 ?_
            exact vl_wd (by omega) k194
  exact vl_wd (by omega) (lp92 _ 0 (by omega) (Nat.lt_succ_self _))

