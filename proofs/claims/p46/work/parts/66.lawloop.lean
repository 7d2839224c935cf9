/-! THE LAW: its loops -/
theorem oc_115 {S : Cs} {f s : Nat} {c : Int32} (hf : f ≤ 999) (h1 : 1 ≤ s) (h2 : s ≤ 99) (hN : nLi S < 12) : ob (sA S) 115 (nI f) (nI s) c = 0 := by
  show fst3 true (inB _ _ _ && inB _ _ _) (roomL _) = 0
  rw [in_t (Nat.zero_le _) hf (by omega), in_t h1 h2 (by omega), show roomL (sA S) = true from decide_eq_true hN]
  rfl
theorem LI_two {a b c d : Int32} {e f : Int32} : LI (nK_2 (nK_2 S00 a b e) c d f) := by
  refine ⟨Nat.le_refl _, (fun j _ h => by cases h), fun k hk => ?_⟩
  have hk : k < 2 := hk
  rcases (show k = 0 ∨ k = 1 by omega) with rfl | rfl
  · exact (by decide : (1 : Nat) ≤ 0 + 1)
  · exact (by decide : (2 : Nat) ≤ 1 + 1)
theorem K2.eqs {l : Launch} {y : MethodName} {cc : ByteArray} {nL : Nat} {ty : FieldType} {rm : Room} {G K : Gl} {av : List Value} {S T T2 : Cs} {v w : Int32} (e : v = w) (e2 : T = T2) (h : K2 l y cc nL ty rm G K av S v T) : K2 l y cc nL ty rm G K av S w T2 := by subst e; subst e2; exact h
set_option maxRecDepth 100000 in
set_option maxHeartbeats 8000000 in
theorem law_walk {x : Cx} {G K : Gl} {Q : State → Prop} {b L : Nat} {xs : Nat → Int32} (h2 : Two G K) (h : CL x cL_law 9 room_1) (hE : EX (bB G K) G x.2.2.2.2.1) (hE2 : EX (bB G K) K x.2.2.2.2.1) (hX : XE x.2.2.2.2.1) (hst : x.2.1.stackTraces = false) (hS0 : va_X b L xs x.2.2.2.2.1 x.2.2.2.2.1.heap) (hbl : b < x.2.2.2.2.1.heap.size) (hbA : ¬ bB G K b) (hL : L < 2 ^ 31) (hend : ∀ (P : Heap → Prop) (lo : List (Nat × Value)) (u : Nat), u ≤ 600130 → VP x (bB G K) 9 u Q P 292 lo [.int (nI 1)]) : VP x (bB G K) 9 1400 Q (W2 G K S00 S00) 15 [(1, .ref (G.2.1 + 0)), (0, .ref b)] [.ref (K.2.1 + 0)] := by
  refine vl_astore_n (pc := 15) (lo2 := [(2, .ref (K.2.1 + 0)), (1, .ref (G.2.1 + 0)), (0, .ref b)]) h rfl (by decide) rfl dL_law_15 ?_
  refine vl_bipush (pc := 16) (v := nI 12) h (by decide) dL_law_16 ?_
  refine vl_aload_n (pc := 18) h 2 rfl rfl dL_law_18 ?_
  refine vl_iconst (pc := 19) (v := nI 0) h (by decide) dL_law_19 ?_
  refine vl_cell (pc := 20) (b := b) (L := L) (j := 0) (xs := xs) h hS0 hbl hbA hL (by decide) W2.all lk_RL_273 (by decide) (by decide) (Nat.le_of_ble_eq_true rfl) dL_law_20 (fun v0 hv0 => ?_)
  refine vl_bipush (pc := 23) (v := nI 19) h (by decide) dL_law_23 ?_
  refine vl_irem (pc := 25) (v := nI (v0 % 19)) h (by decide) (pk_rem (by omega) (by omega) (by omega)) dL_law_25 ?_
  refine vl_iadd (pc := 26) (v := nI (12 + (v0 % 19))) h (nI_add _ _) dL_law_26 ?_
  refine vl_istore_n (pc := 27) (lo2 := [(3, .int (nI (12 + (v0 % 19)))), (2, .ref (K.2.1 + 0)), (1, .ref (G.2.1 + 0)), (0, .ref b)]) h rfl (by decide) rfl dL_law_27 ?_
  refine vl_aload_n (pc := 28) h 3 rfl rfl dL_law_28 ?_
  refine vl_iconst (pc := 29) (v := nI 1) h (by decide) dL_law_29 ?_
  refine vl_cell (pc := 30) (b := b) (L := L) (j := 1) (xs := xs) h hS0 hbl hbA hL (by decide) W2.all lk_RL_273 (by decide) (by decide) (Nat.le_of_ble_eq_true rfl) dL_law_30 (fun v1 hv1 => ?_)
  refine vl_istore (pc := 33) (lo2 := [(4, .int (nI v1)), (3, .int (nI (12 + (v0 % 19)))), (2, .ref (K.2.1 + 0)), (1, .ref (G.2.1 + 0)), (0, .ref b)]) h (by decide) rfl dL_law_33 ?_
  refine vl_iconst (pc := 35) (v := nI 1) h (by decide) dL_law_35 ?_
  refine vl_istore (pc := 36) (lo2 := [(5, .int (nI 1)), (4, .int (nI v1)), (3, .int (nI (12 + (v0 % 19)))), (2, .ref (K.2.1 + 0)), (1, .ref (G.2.1 + 0)), (0, .ref b)]) h (by decide) rfl dL_law_36 ?_
  refine vl_iconst (pc := 38) (v := nI 0) h (by decide) dL_law_38 ?_
  refine vl_istore (pc := 39) (lo2 := [(6, .int (nI 0)), (5, .int (nI 1)), (4, .int (nI v1)), (3, .int (nI (12 + (v0 % 19)))), (2, .ref (K.2.1 + 0)), (1, .ref (G.2.1 + 0)), (0, .ref b)]) h (by decide) rfl dL_law_39 ?_
  refine vl_iload (pc := 41) h 0 rfl dL_law_41 ?_
  refine vl_iconst (pc := 43) (v := nI 2) h (by decide) dL_law_43 ?_
  refine vl_icmp_ge_f (pc := 44) (tgt := 124) h (by decide) (by decide) dL_law_44 ?_
  refine vl_iload (pc := 47) h 1 rfl dL_law_47 ?_
  refine vl_if_eq_f (pc := 49) (tgt := 124) h (by decide) (by decide) dL_law_49 ?_
  refine vl_iload (pc := 52) h 2 rfl dL_law_52 ?_
  refine vl_iload (pc := 54) h 0 rfl dL_law_54 ?_
  refine vl_iconst (pc := 56) (v := nI 1) h (by decide) dL_law_56 ?_
  refine vl_iadd (pc := 57) (v := nI (0 + 1)) h (nI_add _ _) dL_law_57 ?_
  refine vl_idiv (pc := 58) (v := nI (v1 / (0 + 1))) h (nI_ne0 (by omega) (by omega)) (pk_div (by omega) (by omega) (by omega)) dL_law_58 ?_
  refine vl_bipush (pc := 59) (v := nI 40) h (by decide) dL_law_59 ?_
  refine vl_irem (pc := 61) (v := nI ((v1 / (0 + 1)) % 40)) h (by decide) (pk_rem (by omega) (by omega) (by omega)) dL_law_61 ?_
  refine vl_istore (pc := 62) (lo2 := [(7, .int (nI ((v1 / (0 + 1)) % 40))), (6, .int (nI 0)), (5, .int (nI 1)), (4, .int (nI v1)), (3, .int (nI (12 + (v0 % 19)))), (2, .ref (K.2.1 + 0)), (1, .ref (G.2.1 + 0)), (0, .ref b)]) h (by decide) rfl dL_law_62 ?_
  refine vl_iconst (pc := 64) (v := nI 1) h (by decide) dL_law_64 ?_
  refine vl_iload (pc := 65) h 3 rfl dL_law_65 ?_
  refine vl_bipush (pc := 67) (v := nI 40) h (by decide) dL_law_67 ?_
  refine vl_idiv (pc := 69) (v := nI (v1 / 40)) h (by decide) (pk_div (by omega) (by omega) (by omega)) dL_law_69 ?_
  refine vl_iload (pc := 70) h 1 rfl dL_law_70 ?_
  refine vl_iconst (pc := 72) (v := nI 1) h (by decide) dL_law_72 ?_
  refine vl_iadd (pc := 73) (v := nI (0 + 1)) h (nI_add _ _) dL_law_73 ?_
  refine vl_idiv (pc := 74) (v := nI ((v1 / 40) / (0 + 1))) h (nI_ne0 (by omega) (by omega)) (pk_div (by omega) (by omega) (by omega)) dL_law_74 ?_
  refine vl_bipush (pc := 75) (v := nI 9) h (by decide) dL_law_75 ?_
  refine vl_irem (pc := 77) (v := nI (((v1 / 40) / (0 + 1)) % 9)) h (by decide) (pk_rem (by omega) (by omega) (by omega)) dL_law_77 ?_
  refine vl_iadd (pc := 78) (v := nI (1 + (((v1 / 40) / (0 + 1)) % 9))) h (nI_add _ _) dL_law_78 ?_
  refine vl_istore (pc := 79) (lo2 := [(8, .int (nI (1 + (((v1 / 40) / (0 + 1)) % 9)))), (7, .int (nI ((v1 / (0 + 1)) % 40))), (6, .int (nI 0)), (5, .int (nI 1)), (4, .int (nI v1)), (3, .int (nI (12 + (v0 % 19)))), (2, .ref (K.2.1 + 0)), (1, .ref (G.2.1 + 0)), (0, .ref b)]) h (by decide) rfl dL_law_79 ?_
  refine vl_aload_n (pc := 81) h 7 rfl rfl dL_law_81 ?_
  refine vl_iconst (pc := 82) (v := nI 2) h (by decide) dL_law_82 ?_
  refine vl_iload (pc := 83) h 1 rfl dL_law_83 ?_
  refine vl_iload (pc := 85) h 0 rfl dL_law_85 ?_
  refine vl_iconst (pc := 87) (v := nI 0) h (by decide) dL_law_87 ?_
  obtain ⟨S1, hS1⟩ : ∃ T, T = nK_2 S00 (nI ((v1 / (0 + 1)) % 40)) (nI (1 + (((v1 / 40) / (0 + 1)) % 9))) (nI 0) := ⟨_, rfl⟩
  refine wSo (pc := 88) (As := [.ref (G.2.1 + 0), .int (nI 2), .int (nI ((v1 / (0 + 1)) % 40)), .int (nI (1 + (((v1 / 40) / (0 + 1)) % 9))), .int (nI 0)]) (st := []) (r2 := nI 0) (u2 := 1401) h2 h hE hX lk_RL_248 (KL.eqs rfl hS1.symm (kc_2 hst G S00 (nI ((v1 / (0 + 1)) % 40)) (nI (1 + (((v1 / 40) / (0 + 1)) % 9))) (nI 0) (oc_115 (S := S00) (by omega) (by omega) (by omega) (by decide)))) rfl rfl rfl (by decide) rfl (Nat.le_of_ble_eq_true rfl) (by decide) dL_law_88 ?_
  refine vl_iload (pc := 91) h 2 rfl dL_law_91 ?_
  refine vl_icmp_ne_f (pc := 93) (tgt := 115) h rfl (by decide) dL_law_93 ?_
  refine vl_aload_n (pc := 96) h 6 rfl rfl dL_law_96 ?_
  refine vl_iconst (pc := 97) (v := nI 2) h (by decide) dL_law_97 ?_
  refine vl_iload (pc := 98) h 1 rfl dL_law_98 ?_
  refine vl_iload (pc := 100) h 0 rfl dL_law_100 ?_
  refine vl_iconst (pc := 102) (v := nI 0) h (by decide) dL_law_102 ?_
  refine wSq (pc := 103) (As := [.ref (K.2.1 + 0), .int (nI 2), .int (nI ((v1 / (0 + 1)) % 40)), .int (nI (1 + (((v1 / 40) / (0 + 1)) % 9))), .int (nI 0)]) (st := []) (r2 := nI 0) (u2 := 1402) h2 h hE2 hX lk_RL_248 (KL.eqs rfl hS1.symm (kc_2 hst K S00 (nI ((v1 / (0 + 1)) % 40)) (nI (1 + (((v1 / 40) / (0 + 1)) % 9))) (nI 0) (oc_115 (S := S00) (by omega) (by omega) (by omega) (by decide)))) rfl rfl rfl (by decide) rfl (Nat.le_of_ble_eq_true rfl) (by decide) dL_law_103 ?_
  refine vl_iload (pc := 106) h 2 rfl dL_law_106 ?_
  refine vl_icmp_ne_f (pc := 108) (tgt := 115) h rfl (by decide) dL_law_108 ?_
  refine vl_iconst (pc := 111) (v := nI 1) h (by decide) dL_law_111 ?_
  refine vl_goto (pc := 112) (tgt := 116) h (by decide) dL_law_112 ?_
  refine vl_istore (pc := 116) (lo2 := [(5, .int (nI 1)), (8, .int (nI (1 + (((v1 / 40) / (0 + 1)) % 9)))), (7, .int (nI ((v1 / (0 + 1)) % 40))), (6, .int (nI 0)), (4, .int (nI v1)), (3, .int (nI (12 + (v0 % 19)))), (2, .ref (K.2.1 + 0)), (1, .ref (G.2.1 + 0)), (0, .ref b)]) h (by decide) rfl dL_law_116 ?_
  refine vl_iinc (pc := 118) (v := nI (0 + 1)) (lo2 := [(6, .int (nI (0 + 1))), (5, .int (nI 1)), (8, .int (nI (1 + (((v1 / 40) / (0 + 1)) % 9)))), (7, .int (nI ((v1 / (0 + 1)) % 40))), (4, .int (nI v1)), (3, .int (nI (12 + (v0 % 19)))), (2, .ref (K.2.1 + 0)), (1, .ref (G.2.1 + 0)), (0, .ref b)]) h 3 rfl (iinc1 _) (by decide) rfl dL_law_118 ?_
  refine vl_goto (pc := 121) (tgt := 41) h (by decide) dL_law_121 ?_
  refine vl_iload (pc := 41) h 0 rfl dL_law_41 ?_
  refine vl_iconst (pc := 43) (v := nI 2) h (by decide) dL_law_43 ?_
  refine vl_icmp_ge_f (pc := 44) (tgt := 124) h (by decide) (by decide) dL_law_44 ?_
  refine vl_iload (pc := 47) h 1 rfl dL_law_47 ?_
  refine vl_if_eq_f (pc := 49) (tgt := 124) h (by decide) (by decide) dL_law_49 ?_
  refine vl_iload (pc := 52) h 4 rfl dL_law_52 ?_
  refine vl_iload (pc := 54) h 0 rfl dL_law_54 ?_
  refine vl_iconst (pc := 56) (v := nI 1) h (by decide) dL_law_56 ?_
  refine vl_iadd (pc := 57) (v := nI ((0 + 1) + 1)) h (nI_add _ _) dL_law_57 ?_
  refine vl_idiv (pc := 58) (v := nI (v1 / ((0 + 1) + 1))) h (nI_ne0 (by omega) (by omega)) (pk_div (by omega) (by omega) (by omega)) dL_law_58 ?_
  refine vl_bipush (pc := 59) (v := nI 40) h (by decide) dL_law_59 ?_
  refine vl_irem (pc := 61) (v := nI ((v1 / ((0 + 1) + 1)) % 40)) h (by decide) (pk_rem (by omega) (by omega) (by omega)) dL_law_61 ?_
  refine vl_istore (pc := 62) (lo2 := [(7, .int (nI ((v1 / ((0 + 1) + 1)) % 40))), (6, .int (nI (0 + 1))), (5, .int (nI 1)), (8, .int (nI (1 + (((v1 / 40) / (0 + 1)) % 9)))), (4, .int (nI v1)), (3, .int (nI (12 + (v0 % 19)))), (2, .ref (K.2.1 + 0)), (1, .ref (G.2.1 + 0)), (0, .ref b)]) h (by decide) rfl dL_law_62 ?_
  refine vl_iconst (pc := 64) (v := nI 1) h (by decide) dL_law_64 ?_
  refine vl_iload (pc := 65) h 4 rfl dL_law_65 ?_
  refine vl_bipush (pc := 67) (v := nI 40) h (by decide) dL_law_67 ?_
  refine vl_idiv (pc := 69) (v := nI (v1 / 40)) h (by decide) (pk_div (by omega) (by omega) (by omega)) dL_law_69 ?_
  refine vl_iload (pc := 70) h 1 rfl dL_law_70 ?_
  refine vl_iconst (pc := 72) (v := nI 1) h (by decide) dL_law_72 ?_
  refine vl_iadd (pc := 73) (v := nI ((0 + 1) + 1)) h (nI_add _ _) dL_law_73 ?_
  refine vl_idiv (pc := 74) (v := nI ((v1 / 40) / ((0 + 1) + 1))) h (nI_ne0 (by omega) (by omega)) (pk_div (by omega) (by omega) (by omega)) dL_law_74 ?_
  refine vl_bipush (pc := 75) (v := nI 9) h (by decide) dL_law_75 ?_
  refine vl_irem (pc := 77) (v := nI (((v1 / 40) / ((0 + 1) + 1)) % 9)) h (by decide) (pk_rem (by omega) (by omega) (by omega)) dL_law_77 ?_
  refine vl_iadd (pc := 78) (v := nI (1 + (((v1 / 40) / ((0 + 1) + 1)) % 9))) h (nI_add _ _) dL_law_78 ?_
  refine vl_istore (pc := 79) (lo2 := [(8, .int (nI (1 + (((v1 / 40) / ((0 + 1) + 1)) % 9)))), (7, .int (nI ((v1 / ((0 + 1) + 1)) % 40))), (6, .int (nI (0 + 1))), (5, .int (nI 1)), (4, .int (nI v1)), (3, .int (nI (12 + (v0 % 19)))), (2, .ref (K.2.1 + 0)), (1, .ref (G.2.1 + 0)), (0, .ref b)]) h (by decide) rfl dL_law_79 ?_
  refine vl_aload_n (pc := 81) h 7 rfl rfl dL_law_81 ?_
  refine vl_iconst (pc := 82) (v := nI 2) h (by decide) dL_law_82 ?_
  refine vl_iload (pc := 83) h 1 rfl dL_law_83 ?_
  refine vl_iload (pc := 85) h 0 rfl dL_law_85 ?_
  refine vl_iconst (pc := 87) (v := nI 0) h (by decide) dL_law_87 ?_
  obtain ⟨S2, hS2⟩ : ∃ T, T = nK_2 S1 (nI ((v1 / ((0 + 1) + 1)) % 40)) (nI (1 + (((v1 / 40) / ((0 + 1) + 1)) % 9))) (nI 0) := ⟨_, rfl⟩
  refine wSo (pc := 88) (As := [.ref (G.2.1 + 0), .int (nI 2), .int (nI ((v1 / ((0 + 1) + 1)) % 40)), .int (nI (1 + (((v1 / 40) / ((0 + 1) + 1)) % 9))), .int (nI 0)]) (st := []) (r2 := nI (0 + 1)) (u2 := 1403) h2 h hE hX lk_RL_248 (KL.eqs rfl hS2.symm (kc_2 hst G S1 (nI ((v1 / ((0 + 1) + 1)) % 40)) (nI (1 + (((v1 / 40) / ((0 + 1) + 1)) % 9))) (nI 0) (oc_115 (S := S1) (by omega) (by omega) (by omega) (by rw [hS1]; show (0 + 1 : Nat) < 12; omega)))) (by rw [hS1]; rfl) rfl rfl (by decide) rfl (Nat.le_of_ble_eq_true rfl) (by decide) dL_law_88 ?_
  refine vl_iload (pc := 91) h 2 rfl dL_law_91 ?_
  refine vl_icmp_ne_f (pc := 93) (tgt := 115) h rfl (by decide) dL_law_93 ?_
  refine vl_aload_n (pc := 96) h 6 rfl rfl dL_law_96 ?_
  refine vl_iconst (pc := 97) (v := nI 2) h (by decide) dL_law_97 ?_
  refine vl_iload (pc := 98) h 1 rfl dL_law_98 ?_
  refine vl_iload (pc := 100) h 0 rfl dL_law_100 ?_
  refine vl_iconst (pc := 102) (v := nI 0) h (by decide) dL_law_102 ?_
  refine wSq (pc := 103) (As := [.ref (K.2.1 + 0), .int (nI 2), .int (nI ((v1 / ((0 + 1) + 1)) % 40)), .int (nI (1 + (((v1 / 40) / ((0 + 1) + 1)) % 9))), .int (nI 0)]) (st := []) (r2 := nI (0 + 1)) (u2 := 1404) h2 h hE2 hX lk_RL_248 (KL.eqs rfl hS2.symm (kc_2 hst K S1 (nI ((v1 / ((0 + 1) + 1)) % 40)) (nI (1 + (((v1 / 40) / ((0 + 1) + 1)) % 9))) (nI 0) (oc_115 (S := S1) (by omega) (by omega) (by omega) (by rw [hS1]; show (0 + 1 : Nat) < 12; omega)))) (by rw [hS1]; rfl) rfl rfl (by decide) rfl (Nat.le_of_ble_eq_true rfl) (by decide) dL_law_103 ?_
  refine vl_iload (pc := 106) h 2 rfl dL_law_106 ?_
  refine vl_icmp_ne_f (pc := 108) (tgt := 115) h rfl (by decide) dL_law_108 ?_
  refine vl_iconst (pc := 111) (v := nI 1) h (by decide) dL_law_111 ?_
  refine vl_goto (pc := 112) (tgt := 116) h (by decide) dL_law_112 ?_
  refine vl_istore (pc := 116) (lo2 := [(5, .int (nI 1)), (8, .int (nI (1 + (((v1 / 40) / ((0 + 1) + 1)) % 9)))), (7, .int (nI ((v1 / ((0 + 1) + 1)) % 40))), (6, .int (nI (0 + 1))), (4, .int (nI v1)), (3, .int (nI (12 + (v0 % 19)))), (2, .ref (K.2.1 + 0)), (1, .ref (G.2.1 + 0)), (0, .ref b)]) h (by decide) rfl dL_law_116 ?_
  refine vl_iinc (pc := 118) (v := nI ((0 + 1) + 1)) (lo2 := [(6, .int (nI ((0 + 1) + 1))), (5, .int (nI 1)), (8, .int (nI (1 + (((v1 / 40) / ((0 + 1) + 1)) % 9)))), (7, .int (nI ((v1 / ((0 + 1) + 1)) % 40))), (4, .int (nI v1)), (3, .int (nI (12 + (v0 % 19)))), (2, .ref (K.2.1 + 0)), (1, .ref (G.2.1 + 0)), (0, .ref b)]) h 3 rfl (iinc1 _) (by decide) rfl dL_law_118 ?_
  refine vl_goto (pc := 121) (tgt := 41) h (by decide) dL_law_121 ?_
  refine vl_iload (pc := 41) h 0 rfl dL_law_41 ?_
  refine vl_iconst (pc := 43) (v := nI 2) h (by decide) dL_law_43 ?_
  refine vl_icmp_ge_t (pc := 44) (tgt := 124) h (by decide) (by decide) dL_law_44 ?_
  refine vl_iconst (pc := 124) (v := nI 0) h (by decide) dL_law_124 ?_
  refine vl_istore (pc := 125) (lo2 := [(6, .int (nI 0)), (5, .int (nI 1)), (8, .int (nI (1 + (((v1 / 40) / ((0 + 1) + 1)) % 9)))), (7, .int (nI ((v1 / ((0 + 1) + 1)) % 40))), (4, .int (nI v1)), (3, .int (nI (12 + (v0 % 19)))), (2, .ref (K.2.1 + 0)), (1, .ref (G.2.1 + 0)), (0, .ref b)]) h (by decide) rfl dL_law_125 ?_
  have lp127 : ∀ (fu : Nat) (k : Nat) (S : Cs), k ≤ (12 + (v0 % 19)) → LI S → (12 + (v0 % 19)) - k < fu → VP x (bB G K) 9 (1500 + 14000 * k) Q (W2 G K S S) 127 [(6, .int (nI k)), (5, .int (nI 1)), (0, .ref b), (1, .ref (G.2.1 + 0)), (2, .ref (K.2.1 + 0)), (3, .int (nI (12 + (v0 % 19))))] [] := by
    intro fu
    induction fu with
    | zero => intro k S hk hI hfu; exact absurd hfu (Nat.not_lt_zero _)
    | succ fu ih127 =>
      intro k S hk hI hfu
      refine vl_iload (pc := 127) h 0 rfl dL_law_127 ?_
      refine vl_iload_n (pc := 129) h 5 rfl rfl dL_law_129 ?_
      refine vl_icmp_ge (pc := 130) (tgt := 290) h (by decide) dL_law_130 (fun c130 => ?_) (fun c130 => ?_)
      · skip
        refine vl_iload (pc := 290) h 1 rfl dL_law_290 ?_
        exact hend _ _ _ (by omega)
      · skip
        rw [nI_leI (by omega) (by omega)] at c130
        refine vl_fact (fun H hH => W1.ok hH.1) (fun ok => ?_)
        have hm14 := ok_m ok
        have h20 : 2 ≤ nLi S := hI.1
        refine vl_iload (pc := 133) h 1 rfl dL_law_133 ?_
        refine vl_if_eq_f (pc := 135) (tgt := 290) h (by decide) (by decide) dL_law_135 ?_
        refine vl_aload_n (pc := 138) h 2 rfl rfl dL_law_138 ?_
        refine vl_iconst (pc := 139) (v := nI 2) h (by decide) dL_law_139 ?_
        refine vl_iload (pc := 140) h 0 rfl dL_law_140 ?_
        refine vl_iadd (pc := 142) (v := nI (2 + k)) h (nI_add _ _) dL_law_142 ?_
        refine vl_cell (pc := 143) (b := b) (L := L) (j := 2 + k) (xs := xs) h hS0 hbl hbA hL (by omega) W2.all lk_RL_273 (by decide) (by show _ ≤ 600130; omega) (Nat.le_of_ble_eq_true rfl) dL_law_143 (fun v hv => ?_)
        refine vl_istore (pc := 146) (lo2 := [(7, .int (nI v)), (6, .int (nI k)), (5, .int (nI 1)), (0, .ref b), (1, .ref (G.2.1 + 0)), (2, .ref (K.2.1 + 0)), (3, .int (nI (12 + (v0 % 19))))]) h (by decide) rfl dL_law_146 ?_
        refine vl_aload_n (pc := 148) h 4 rfl rfl dL_law_148 ?_
        refine vl_iload (pc := 149) h 0 rfl dL_law_149 ?_
        obtain ⟨T, hT⟩ : ∃ T, T = (actF S v).2 := ⟨_, rfl⟩
        have hI1 : LI T := by rw [hT]; exact LI_actF hI hm14
        have h21 : 2 ≤ nLi T := hI1.1
        refine wSo (pc := 151) (As := [.ref (G.2.1 + 0), .int (nI v)]) (st := []) (r2 := (actF S v).1) (u2 := 1500 + 14000 * k + 4) h2 h hE hX lk_RL_277 (KL.eqs rfl hT.symm (n_act x.2.1 hst G S v hv (by omega))) rfl rfl rfl (by decide) rfl (Nat.le_of_ble_eq_true rfl) ⟨by show _ + 4 ≤ _; omega, by show _ ≤ 600130; omega⟩ dL_law_151 ?_
        refine vl_istore (pc := 154) (lo2 := [(8, .int ((actF S v).1)), (7, .int (nI v)), (6, .int (nI k)), (5, .int (nI 1)), (0, .ref b), (1, .ref (G.2.1 + 0)), (2, .ref (K.2.1 + 0)), (3, .int (nI (12 + (v0 % 19))))]) h (by decide) rfl dL_law_154 ?_
        refine vl_aload_n (pc := 156) h 6 rfl rfl dL_law_156 ?_
        refine vl_iload (pc := 157) h 1 rfl dL_law_157 ?_
        refine vl_ldc (pc := 159) (v := nI 100000) h mw_1_3 dL_law_159 ?_
        refine vl_irem (pc := 161) (v := nI (v % 100000)) h (by decide) (pk_rem (by omega) (by omega) (by omega)) dL_law_161 ?_
        refine wSq (pc := 162) (As := [.ref (K.2.1 + 0), .int (nI (v % 100000))]) (st := []) (r2 := nI 1) (u2 := 1500 + 14000 * k + 4 + 250) h2 h hE2 hX lk_RL_280 (n_refuses x.2.1 hst K S (v % 100000) (by omega) (by omega)) rfl rfl rfl (by decide) rfl (Nat.le_of_ble_eq_true rfl) ⟨by show _ + 250 ≤ _; omega, by show _ ≤ 600130; omega⟩ dL_law_162 ?_
        refine vl_if_eq_f (pc := 165) (tgt := 281) h (by decide) (by decide) dL_law_165 ?_
        refine vl_aload_n (pc := 168) h 6 rfl rfl dL_law_168 ?_
        refine vl_iload (pc := 169) h 1 rfl dL_law_169 ?_
        refine wSq (pc := 171) (As := [.ref (K.2.1 + 0), .int (nI v)]) (st := []) (r2 := (actF S v).1) (u2 := 1500 + 14000 * k + 4 + 250 + 4) h2 h hE2 hX lk_RL_277 (KL.eqs rfl hT.symm (n_act x.2.1 hst K S v hv (by omega))) rfl rfl rfl (by decide) rfl (Nat.le_of_ble_eq_true rfl) ⟨by show _ + 4 ≤ _; omega, by show _ ≤ 600130; omega⟩ dL_law_171 ?_
        refine vl_iload (pc := 174) h 0 rfl dL_law_174 ?_
        refine vl_icmp_ne_f (pc := 176) (tgt := 281) h rfl (by decide) dL_law_176 ?_
        refine vl_aload_n (pc := 179) h 6 rfl rfl dL_law_179 ?_
        refine vl_iload (pc := 180) h 1 rfl dL_law_180 ?_
        refine vl_sipush (pc := 182) (v := nI 1000) h (by decide) dL_law_182 ?_
        refine vl_irem (pc := 185) (v := nI (v % 1000)) h (by decide) (pk_rem (by omega) (by omega) (by omega)) dL_law_185 ?_
        refine wSq (pc := 186) (As := [.ref (K.2.1 + 0), .int (nI (v % 1000))]) (st := []) (r2 := nI 1) (u2 := 1500 + 14000 * k + 4 + 250 + 4 + 250) h2 h hE2 hX lk_RL_280 (n_refuses x.2.1 hst K T (v % 1000) (by omega) (by omega)) rfl rfl rfl (by decide) rfl (Nat.le_of_ble_eq_true rfl) ⟨by show _ + 250 ≤ _; omega, by show _ ≤ 600130; omega⟩ dL_law_186 ?_
        refine vl_if_eq_f (pc := 189) (tgt := 281) h (by decide) (by decide) dL_law_189 ?_
        refine vl_aload_n (pc := 192) h 5 rfl rfl dL_law_192 ?_
        refine vl_aload_n (pc := 193) h 6 rfl rfl dL_law_193 ?_
        refine vl_iload (pc := 194) h 1 rfl dL_law_194 ?_
        refine vl_sipush (pc := 196) (v := nI 5000) h (by decide) dL_law_196 ?_
        refine vl_irem (pc := 199) (v := nI (v % 5000)) h (by decide) (pk_rem (by omega) (by omega) (by omega)) dL_law_199 ?_
        refine vl_iload (pc := 200) h 2 rfl dL_law_200 ?_
        refine vl_iload_n (pc := 202) h 7 rfl rfl dL_law_202 ?_
        refine vl_iconst (pc := 203) (v := nI 1) h (by decide) dL_law_203 ?_
        refine vl_isub (pc := 204) (v := nI ((12 + (v0 % 19)) - 1)) h (pk_sub (by omega)) dL_law_204 ?_
        have k213 : ∀ bb : Bool, VP x (bB G K) 9 (1500 + 14000 * k + 4 + 250 + 4 + 250) Q (W2 G K T T) 213 [(8, .int ((actF S v).1)), (7, .int (nI v)), (6, .int (nI k)), (5, .int (nI 1)), (0, .ref b), (1, .ref (G.2.1 + 0)), (2, .ref (K.2.1 + 0)), (3, .int (nI (12 + (v0 % 19))))] [.int (zB bb), .int (nI (v % 5000)), .ref (K.2.1 + 0), .ref (G.2.1 + 0)] := by
          intro bb
          refine vl_k2 (pc := 213) (As := [.ref (G.2.1 + 0), .ref (K.2.1 + 0), .int (nI (v % 5000)), .int (zB bb)]) (st := []) (r2 := nI 1) (u2 := 1500 + 14000 * k + 4 + 250 + 4 + 250 + 300) h hE hE2 hX lk_RL_284 (n_alike x.2.1 hst G K h2 T (v % 5000) (by omega) bb) rfl rfl rfl (by decide) rfl (Nat.le_of_ble_eq_true rfl) ⟨by show _ + 300 ≤ _; omega, by show _ ≤ 600130; omega⟩ dL_law_213 ?_
          refine vl_if_eq_f (pc := 216) (tgt := 281) h (by decide) (by decide) dL_law_216 ?_
          refine vl_iload (pc := 219) h 2 rfl dL_law_219 ?_
          refine vl_iconst (pc := 221) (v := nI 2) h (by decide) dL_law_221 ?_
          refine vl_irem (pc := 222) (v := nI (k % 2)) h (by decide) (pk_rem (by omega) (by omega) (by omega)) dL_law_222 ?_
          have k251 : VP x (bB G K) 9 (1500 + 14000 * k + 4 + 250 + 4 + 250 + 300 + 400) Q (W2 G K T T) 251 [(8, .int ((actF S v).1)), (7, .int (nI v)), (6, .int (nI k)), (5, .int (nI 1)), (0, .ref b), (1, .ref (G.2.1 + 0)), (2, .ref (K.2.1 + 0)), (3, .int (nI (12 + (v0 % 19))))] [] := by
            refine vl_aload_n (pc := 251) h 5 rfl rfl dL_law_251 ?_
            refine vl_aload_n (pc := 252) h 6 rfl rfl dL_law_252 ?_
            refine vl_iload (pc := 253) h 1 rfl dL_law_253 ?_
            refine vl_bipush (pc := 255) (v := nI 7) h (by decide) dL_law_255 ?_
            refine vl_idiv (pc := 257) (v := nI (v / 7)) h (by decide) (pk_div (by omega) (by omega) (by omega)) dL_law_257 ?_
            refine vl_fact (fun H hH => W1.ok hH.1) (fun ok1 => ?_)
            have hm1 := ok_m ok1
            obtain ⟨T2, hT2⟩ : ∃ T2, T2 = rlT T (v / 7) := ⟨_, rfl⟩
            have hI2 : LI T2 := by rw [hT2]; exact LI_rlT hI1 hm1
            have h22 : 2 ≤ nLi T2 := hI2.1
            refine vl_k2 (pc := 258) (As := [.ref (G.2.1 + 0), .ref (K.2.1 + 0), .int (nI (v / 7))]) (st := []) (r2 := nI 1) (u2 := 1500 + 14000 * k + 4 + 250 + 4 + 250 + 300 + 400 + 12400) h hE hE2 hX lk_RL_291 (K2.eqs rfl hT2.symm (n_rules x.2.1 hst G K h2 T (v / 7) (by omega) (by omega))) rfl rfl rfl (by decide) rfl (Nat.le_of_ble_eq_true rfl) ⟨by show _ + 12400 ≤ _; omega, by show _ ≤ 600130; omega⟩ dL_law_258 ?_
            refine vl_if_eq_f (pc := 261) (tgt := 281) h (by decide) (by decide) dL_law_261 ?_
            refine vl_aload_n (pc := 264) h 5 rfl rfl dL_law_264 ?_
            refine vl_aload_n (pc := 265) h 6 rfl rfl dL_law_265 ?_
            refine vl_iload (pc := 266) h 1 rfl dL_law_266 ?_
            refine vl_bipush (pc := 268) (v := nI 11) h (by decide) dL_law_268 ?_
            refine vl_idiv (pc := 270) (v := nI (v / 11)) h (by decide) (pk_div (by omega) (by omega) (by omega)) dL_law_270 ?_
            refine vl_fact (fun H hH => W1.ok hH.1) (fun ok2 => ?_)
            have hm2 := ok_m ok2
            obtain ⟨T3, hT3⟩ : ∃ T3, T3 = rdT T2 (v / 11) := ⟨_, rfl⟩
            have hI3 : LI T3 := by rw [hT3]; exact LI_rdT hI2 hm2
            refine vl_k2 (pc := 271) (As := [.ref (G.2.1 + 0), .ref (K.2.1 + 0), .int (nI (v / 11))]) (st := []) (r2 := nI 1) (u2 := 1500 + 14000 * k + 4 + 250 + 4 + 250 + 300 + 400 + 12400 + 100) h hE hE2 hX lk_RL_295 (K2.eqs rfl hT3.symm (n_reads x.2.1 hst G K h2 T2 (v / 11) (by omega) (by omega))) rfl rfl rfl (by decide) rfl (Nat.le_of_ble_eq_true rfl) ⟨by show _ + 100 ≤ _; omega, by show _ ≤ 600130; omega⟩ dL_law_271 ?_
            refine vl_if_eq_f (pc := 274) (tgt := 281) h (by decide) (by decide) dL_law_274 ?_
            refine vl_iconst (pc := 277) (v := nI 1) h (by decide) dL_law_277 ?_
            refine vl_goto (pc := 278) (tgt := 282) h (by decide) dL_law_278 ?_
            refine vl_istore (pc := 282) (lo2 := [(5, .int (nI 1)), (8, .int ((actF S v).1)), (7, .int (nI v)), (6, .int (nI k)), (0, .ref b), (1, .ref (G.2.1 + 0)), (2, .ref (K.2.1 + 0)), (3, .int (nI (12 + (v0 % 19))))]) h (by decide) rfl dL_law_282 ?_
            refine vl_iinc (pc := 284) (v := nI (k + 1)) (lo2 := [(6, .int (nI (k + 1))), (5, .int (nI 1)), (8, .int ((actF S v).1)), (7, .int (nI v)), (0, .ref b), (1, .ref (G.2.1 + 0)), (2, .ref (K.2.1 + 0)), (3, .int (nI (12 + (v0 % 19))))]) h 3 rfl (iinc1 _) (by decide) rfl dL_law_284 ?_
            refine vl_goto (pc := 287) (tgt := 127) h (by decide) dL_law_287 ?_
            refine vl_sub [0, 1, 4, 5, 6, 7] rfl ?_
            exact vl_wd (by omega) (ih127 (k + 1) T3 (by omega) hI3 (by omega))
          refine vl_if_ne (pc := 223) (tgt := 240) h (by decide) dL_law_223 (fun c223 => ?_) (fun c223 => ?_)
          · skip
            refine vl_aload_n (pc := 240) h 6 rfl rfl dL_law_240 ?_
            refine vl_iload (pc := 241) h 1 rfl dL_law_241 ?_
            refine vl_iconst (pc := 243) (v := nI 3) h (by decide) dL_law_243 ?_
            refine vl_idiv (pc := 244) (v := nI (v / 3)) h (by decide) (pk_div (by omega) (by omega) (by omega)) dL_law_244 ?_
            refine wSq (pc := 245) (As := [.ref (K.2.1 + 0), .int (nI (v / 3))]) (st := []) (r2 := nI 1) (u2 := 1500 + 14000 * k + 4 + 250 + 4 + 250 + 300 + 400) h2 h hE2 hX lk_RL_288 (n_holds x.2.1 hst K T (v / 3) (by omega) (by omega)) rfl rfl rfl (by decide) rfl (Nat.le_of_ble_eq_true rfl) ⟨by show _ + 400 ≤ _; omega, by show _ ≤ 600130; omega⟩ dL_law_245 ?_
            refine vl_if_eq_f (pc := 248) (tgt := 281) h (by decide) (by decide) dL_law_248 ?_
            exact vl_wd (by omega) k251
          · skip
            refine vl_aload_n (pc := 226) h 5 rfl rfl dL_law_226 ?_
            refine vl_iload (pc := 227) h 1 rfl dL_law_227 ?_
            refine vl_iconst (pc := 229) (v := nI 3) h (by decide) dL_law_229 ?_
            refine vl_idiv (pc := 230) (v := nI (v / 3)) h (by decide) (pk_div (by omega) (by omega) (by omega)) dL_law_230 ?_
            refine wSo (pc := 231) (As := [.ref (G.2.1 + 0), .int (nI (v / 3))]) (st := []) (r2 := nI 1) (u2 := 1500 + 14000 * k + 4 + 250 + 4 + 250 + 300 + 400) h2 h hE hX lk_RL_288 (n_holds x.2.1 hst G T (v / 3) (by omega) (by omega)) rfl rfl rfl (by decide) rfl (Nat.le_of_ble_eq_true rfl) ⟨by show _ + 400 ≤ _; omega, by show _ ≤ 600130; omega⟩ dL_law_231 ?_
            refine vl_if_eq_f (pc := 234) (tgt := 281) h (by decide) (by decide) dL_law_234 ?_
            refine vl_goto (pc := 237) (tgt := 251) h (by decide) dL_law_237 ?_
            exact vl_wd (by omega) k251
        refine vl_icmp_ne (pc := 205) (tgt := 212) h (by decide) dL_law_205 (fun c205 => ?_) (fun c205 => ?_)
        · skip
          refine vl_iconst (pc := 212) (v := nI 0) h (by decide) dL_law_212 ?_
          exact k213 false
        · skip
          refine vl_iconst (pc := 208) (v := nI 1) h (by decide) dL_law_208 ?_
          refine vl_goto (pc := 209) (tgt := 213) h (by decide) dL_law_209 ?_
          exact k213 true
  refine vl_sub [0, 1, 8, 7, 6, 5] rfl ?_
  exact vl_wd (by omega) (lp127 _ 0 S2 (by omega) (by rw [hS2, hS1]; exact LI_two) (Nat.lt_succ_self _))
