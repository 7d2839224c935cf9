/-! TEXT: a number -/
theorem nI_ne {n : Nat} (h : n < 2 ^ 31) : ¬ nI n = -1 := fun e => by
  have e2 : (nI n).toInt = (-1 : Int32).toInt := congrArg Int32.toInt e
  rw [nI_toInt h] at e2
  have : (-1 : Int32).toInt = -1 := by decide
  omega
def erV (r : Option Nat × Nat) : Int32 := match r.1 with
  | none => nI r.2
  | some _ => -1
set_option maxRecDepth 100000 in
set_option maxHeartbeats 800000 in
theorem c_takeNumber1 (l : Launch) (G : Gl) (σ : Sg) (n : Nat) (tx : Nat → Nat) (ht : TextC n tx σ) (a : Nat) (ha : a ≤ n) (k : Int32) (nu : Nat → Int32) (i lo hi : Nat) (hi3 : i < 3) (hlo : lo ≤ 1) (hhi : hi < 1000) : Cv l yX4_takeNumber cX4_takeNumber 10 ({ frames := 1, cells := 0, slots := 0, locals := 40 } : Room) G [.ref (G.2.1 + 1), .int (nI i), .int (nI 1), .int (nI lo), .int (nI hi)] (tB σ (nI a) (-1) k nu) (fun σ2 => ∃ nu2, σ2 = tB σ (nI (fig tx n lo hi [1] 0 a).2) (erV (fig tx n lo hi [1] 0 a)) k nu2 ∧ ∀ v, (fig tx n lo hi [1] 0 a).1 = some v → nu2 = upd nu i (nI v)) := by
  refine Cv_of (own := RX4) rfl (by decide +kernel) (lo := [(0, .ref (G.2.1 + 1)), (1, .int (nI i)), (2, .int (nI 1)), (3, .int (nI lo)), (4, .int (nI hi))]) rfl (Nat.le_of_ble_eq_true rfl) ?_
  intro x Q hxl h hret
  subst hxl
  have hn9 := ht.1.1
  refine r_iconst (pc := 0) (v := nI 0) h (by decide) dX4_takeNumber_0 ?_
  refine r_istore (pc := 1) (lo2 := [(5, .int (nI 0)), (0, .ref (G.2.1 + 1)), (1, .int (nI i)), (2, .int (nI 1)), (3, .int (nI lo)), (4, .int (nI hi))]) h (by decide) rfl dX4_takeNumber_1 ?_
  refine r_iload_n (pc := 3) h 3 rfl rfl dX4_takeNumber_3 ?_
  refine r_iconst (pc := 4) (v := nI 3) h (by decide) dX4_takeNumber_4 ?_
  refine r_icmp_ne (pc := 5) (tgt := 14) h (by decide) dX4_takeNumber_5 (fun _ => ?_) (fun c5 => absurd c5 (by decide))
  refine r_iload_n (pc := 14) h 3 rfl rfl dX4_takeNumber_14 ?_
  refine r_iconst (pc := 15) (v := nI 2) h (by decide) dX4_takeNumber_15 ?_
  refine r_icmp_ne (pc := 16) (tgt := 24) h (by decide) dX4_takeNumber_16 (fun _ => ?_) (fun c16 => absurd c16 (by decide))
  refine r_bipush (pc := 24) (v := nI 10) h (by decide) dX4_takeNumber_24 ?_
  refine r_istore (pc := 26) (lo2 := [(6, .int (nI 10)), (5, .int (nI 0)), (0, .ref (G.2.1 + 1)), (1, .int (nI i)), (2, .int (nI 1)), (3, .int (nI lo)), (4, .int (nI hi))]) h (by decide) rfl dX4_takeNumber_26 ?_
  refine r_iconst (pc := 28) (v := nI 0) h (by decide) dX4_takeNumber_28 ?_
  refine r_istore (pc := 29) (lo2 := [(7, .int (nI 0)), (6, .int (nI 10)), (5, .int (nI 0)), (0, .ref (G.2.1 + 1)), (1, .int (nI i)), (2, .int (nI 1)), (3, .int (nI lo)), (4, .int (nI hi))]) h (by decide) rfl dX4_takeNumber_29 ?_
  refine r_iload (pc := 31) h 0 rfl dX4_takeNumber_31 ?_
  refine r_iload_n (pc := 33) h 5 rfl rfl dX4_takeNumber_33 ?_
  refine r_icmp_ge (pc := 34) (tgt := 132) h (by decide) dX4_takeNumber_34 (fun c34 => absurd c34 (by decide)) (fun _ => ?_)
  refine r_aload_n (pc := 37) h 3 rfl rfl dX4_takeNumber_37 ?_
  refine g_4_error (pc := 38) h mw_5_12 dX4_takeNumber_38 ?_
  refine r_topi (b := (-1)) (tB_e _ _ _ _ _) ?_
  refine r_iconst (pc := 41) (v := (-1)) h (by decide) dX4_takeNumber_41 ?_
  refine r_icmp_ne (pc := 42) (tgt := 132) h (by decide) dX4_takeNumber_42 (fun c42 => absurd c42 (by decide)) (fun _ => ?_)
  refine r_iload (pc := 45) h 1 rfl dX4_takeNumber_45 ?_
  refine r_bipush (pc := 47) (v := nI 10) h (by decide) dX4_takeNumber_47 ?_
  refine r_idiv (pc := 49) (v := nI 1) h (by decide) (by decide) dX4_takeNumber_49 ?_
  refine r_istore (pc := 50) (lo2 := [(6, .int (nI 1)), (7, .int (nI 0)), (5, .int (nI 0)), (0, .ref (G.2.1 + 1)), (1, .int (nI i)), (2, .int (nI 1)), (3, .int (nI lo)), (4, .int (nI hi))]) h (by decide) rfl dX4_takeNumber_50 ?_
  refine r_aload_n (pc := 52) h 3 rfl rfl dX4_takeNumber_52 ?_
  refine r_cVi (pc := 53) (As := []) (st := []) h lk_RX4_53 (c_digitHere x.2.1 G σ n tx ht a (by omega) (-1) k nu) rc_4 (by decide) rfl rfl (by first | decide | exact Nat.le_of_ble_eq_true rfl) (by decide) dX4_takeNumber_53 (fun r1 s2 q3 => ?_)
  rw [q3.1, q3.2]
  cases hd1 : dig tx n a with
  | none =>
    refine r_topi (b := (-1)) rfl ?_
    refine r_istore (pc := 56) (lo2 := [(8, .int (-1)), (6, .int (nI 1)), (7, .int (nI 0)), (5, .int (nI 0)), (0, .ref (G.2.1 + 1)), (1, .int (nI i)), (2, .int (nI 1)), (3, .int (nI lo)), (4, .int (nI hi))]) h (by decide) rfl dX4_takeNumber_56 ?_
    refine r_iload (pc := 58) h 3 rfl dX4_takeNumber_58 ?_
    refine r_bipush (pc := 60) (v := nI 10) h (by decide) dX4_takeNumber_60 ?_
    refine r_imul (pc := 62) (v := nI 0) h (by decide) dX4_takeNumber_62 ?_
    refine r_iload (pc := 63) h 0 rfl dX4_takeNumber_63 ?_
    refine r_iadd (pc := 65) (v := (-1)) h (by decide) dX4_takeNumber_65 ?_
    refine r_iload (pc := 66) h 1 rfl dX4_takeNumber_66 ?_
    refine r_imul (pc := 68) (v := (-1)) h (by decide) dX4_takeNumber_68 ?_
    refine r_istore (pc := 69) (lo2 := [(9, .int (-1)), (8, .int (-1)), (6, .int (nI 1)), (7, .int (nI 0)), (5, .int (nI 0)), (0, .ref (G.2.1 + 1)), (1, .int (nI i)), (2, .int (nI 1)), (3, .int (nI lo)), (4, .int (nI hi))]) h (by decide) rfl dX4_takeNumber_69 ?_
    refine r_iload (pc := 71) h 1 rfl dX4_takeNumber_71 ?_
    refine r_iconst (pc := 73) (v := (-1)) h (by decide) dX4_takeNumber_73 ?_
    refine r_icmp_eq (pc := 74) (tgt := 95) h (by decide) dX4_takeNumber_74 (fun _ => ?_) (fun c74 => absurd c74 (by decide))
    refine r_aload_n (pc := 95) h 5 rfl rfl dX4_takeNumber_95 ?_
    refine r_aload_n (pc := 96) h 5 rfl rfl dX4_takeNumber_96 ?_
    refine g_4_at (pc := 97) h mw_5_17 dX4_takeNumber_97 ?_
    refine r_topi (b := nI a) (tB_a _ _ _ _ _) ?_
    refine p_4_error (pc := 100) h mw_5_12 dX4_takeNumber_100 ?_
    refine V.sg (tB_se _ _ _ _ _ _) ?_
    refine r_goto (pc := 103) (tgt := 126) h (by decide) dX4_takeNumber_103 ?_
    refine r_iinc (pc := 126) (v := nI 1) (lo2 := [(7, .int (nI 1)), (9, .int (-1)), (8, .int (-1)), (6, .int (nI 1)), (5, .int (nI 0)), (0, .ref (G.2.1 + 1)), (1, .int (nI i)), (2, .int (nI 1)), (3, .int (nI lo)), (4, .int (nI hi))]) h 3 rfl (by decide) (by decide) rfl dX4_takeNumber_126 ?_
    refine r_goto (pc := 129) (tgt := 31) h (by decide) dX4_takeNumber_129 ?_
    refine r_iload (pc := 31) h 0 rfl dX4_takeNumber_31 ?_
    refine r_iload_n (pc := 33) h 7 rfl rfl dX4_takeNumber_33 ?_
    refine r_icmp_ge (pc := 34) (tgt := 132) h (by decide) dX4_takeNumber_34 (fun _ => ?_) (fun c34 => absurd c34 (by decide))
    refine r_aload_n (pc := 132) h 5 rfl rfl dX4_takeNumber_132 ?_
    refine g_4_numbers (pc := 133) h mw_2_8 dX4_takeNumber_133 ?_
    refine r_iload_n (pc := 136) h 6 rfl rfl dX4_takeNumber_136 ?_
    refine r_iload (pc := 137) h 4 rfl dX4_takeNumber_137 ?_
    refine r_iast (pc := 139) (w := nI 0) h a_nu i rfl (by omega) rfl dX4_takeNumber_139 ?_
    refine V.sg (tB_sn _ _ _ _ _ _ _) ?_
    have ef : fig tx n lo hi [1] 0 a = (none, a) := by rw [fig_n hd1]
    exact hret _ (⟨_, by rw [ef]; rfl, fun v hv => by rw [ef] at hv; cases hv⟩) 140 _ dX4_takeNumber_140
  | some d1 =>
    refine r_topi (b := nI d1) rfl ?_
    have hb1 := dig_le hd1
    refine r_istore (pc := 56) (lo2 := [(8, .int (nI d1)), (6, .int (nI 1)), (7, .int (nI 0)), (5, .int (nI 0)), (0, .ref (G.2.1 + 1)), (1, .int (nI i)), (2, .int (nI 1)), (3, .int (nI lo)), (4, .int (nI hi))]) h (by decide) rfl dX4_takeNumber_56 ?_
    refine r_iload (pc := 58) h 3 rfl dX4_takeNumber_58 ?_
    refine r_bipush (pc := 60) (v := nI 10) h (by decide) dX4_takeNumber_60 ?_
    refine r_imul (pc := 62) (v := nI 0) h (by decide) dX4_takeNumber_62 ?_
    refine r_iload (pc := 63) h 0 rfl dX4_takeNumber_63 ?_
    refine r_iadd (pc := 65) (v := nI (0 + d1)) h (nI_add _ _) dX4_takeNumber_65 ?_
    refine r_iload (pc := 66) h 1 rfl dX4_takeNumber_66 ?_
    refine r_imul (pc := 68) (v := nI ((0 + d1) * 1)) h (pk_mul _ _) dX4_takeNumber_68 ?_
    refine r_istore (pc := 69) (lo2 := [(9, .int (nI ((0 + d1) * 1))), (8, .int (nI d1)), (6, .int (nI 1)), (7, .int (nI 0)), (5, .int (nI 0)), (0, .ref (G.2.1 + 1)), (1, .int (nI i)), (2, .int (nI 1)), (3, .int (nI lo)), (4, .int (nI hi))]) h (by decide) rfl dX4_takeNumber_69 ?_
    refine r_iload (pc := 71) h 1 rfl dX4_takeNumber_71 ?_
    refine r_iconst (pc := 73) (v := (-1)) h (by decide) dX4_takeNumber_73 ?_
    refine r_icmp_eq (pc := 74) (tgt := 95) h (by decide) dX4_takeNumber_74 (fun c74 => ?_) (fun c74 => ?_)
    · skip
      exact absurd c74 (nI_ne (by omega))
    · skip
      refine r_iload (pc := 77) h 0 rfl dX4_takeNumber_77 ?_
      refine r_iload (pc := 79) h 9 rfl dX4_takeNumber_79 ?_
      refine r_icmp_gt (pc := 81) (tgt := 95) h (by decide) dX4_takeNumber_81 (fun c81 => ?_) (fun c81 => ?_)
      · skip
        rw [nI_ltI (by omega) (by omega)] at c81
        refine r_aload_n (pc := 95) h 5 rfl rfl dX4_takeNumber_95 ?_
        refine r_aload_n (pc := 96) h 5 rfl rfl dX4_takeNumber_96 ?_
        refine g_4_at (pc := 97) h mw_5_17 dX4_takeNumber_97 ?_
        refine r_topi (b := nI a) (tB_a _ _ _ _ _) ?_
        refine p_4_error (pc := 100) h mw_5_12 dX4_takeNumber_100 ?_
        refine V.sg (tB_se _ _ _ _ _ _) ?_
        refine r_goto (pc := 103) (tgt := 126) h (by decide) dX4_takeNumber_103 ?_
        refine r_iinc (pc := 126) (v := nI 1) (lo2 := [(7, .int (nI 1)), (9, .int (nI ((0 + d1) * 1))), (8, .int (nI d1)), (6, .int (nI 1)), (5, .int (nI 0)), (0, .ref (G.2.1 + 1)), (1, .int (nI i)), (2, .int (nI 1)), (3, .int (nI lo)), (4, .int (nI hi))]) h 3 rfl (by decide) (by decide) rfl dX4_takeNumber_126 ?_
        refine r_goto (pc := 129) (tgt := 31) h (by decide) dX4_takeNumber_129 ?_
        refine r_iload (pc := 31) h 0 rfl dX4_takeNumber_31 ?_
        refine r_iload_n (pc := 33) h 7 rfl rfl dX4_takeNumber_33 ?_
        refine r_icmp_ge (pc := 34) (tgt := 132) h (by decide) dX4_takeNumber_34 (fun _ => ?_) (fun c34 => absurd c34 (by decide))
        refine r_aload_n (pc := 132) h 5 rfl rfl dX4_takeNumber_132 ?_
        refine g_4_numbers (pc := 133) h mw_2_8 dX4_takeNumber_133 ?_
        refine r_iload_n (pc := 136) h 6 rfl rfl dX4_takeNumber_136 ?_
        refine r_iload (pc := 137) h 4 rfl dX4_takeNumber_137 ?_
        refine r_iast (pc := 139) (w := nI 0) h a_nu i rfl (by omega) rfl dX4_takeNumber_139 ?_
        refine V.sg (tB_sn _ _ _ _ _ _ _) ?_
        have ef : fig tx n lo hi [1] 0 a = (none, a) := by rw [fig_f hd1 (by omega)]
        exact hret _ (⟨_, by rw [ef]; rfl, fun v hv => by rw [ef] at hv; cases hv⟩) 140 _ dX4_takeNumber_140
      · skip
        rw [nI_ltI (by omega) (by omega)] at c81
        refine r_iload (pc := 84) h 0 rfl dX4_takeNumber_84 ?_
        refine r_iload (pc := 86) h 2 rfl dX4_takeNumber_86 ?_
        refine r_iadd (pc := 88) (v := nI (((0 + d1) * 1) + 1)) h (nI_add _ _) dX4_takeNumber_88 ?_
        refine r_iconst (pc := 89) (v := nI 1) h (by decide) dX4_takeNumber_89 ?_
        refine r_isub (pc := 90) (v := nI ((((0 + d1) * 1) + 1) - 1)) h (pk_sub (by omega)) dX4_takeNumber_90 ?_
        refine r_iload_n (pc := 91) h 8 rfl rfl dX4_takeNumber_91 ?_
        refine r_icmp_ge (pc := 92) (tgt := 106) h (by decide) dX4_takeNumber_92 (fun c92 => ?_) (fun c92 => ?_)
        · skip
          rw [nI_leI (by omega) (by omega)] at c92
          refine r_iload (pc := 106) h 4 rfl dX4_takeNumber_106 ?_
          refine r_bipush (pc := 108) (v := nI 10) h (by decide) dX4_takeNumber_108 ?_
          refine r_imul (pc := 110) (v := nI 0) h (by decide) dX4_takeNumber_110 ?_
          refine r_iload (pc := 111) h 1 rfl dX4_takeNumber_111 ?_
          refine r_iadd (pc := 113) (v := nI (0 + d1)) h (nI_add _ _) dX4_takeNumber_113 ?_
          refine r_istore (pc := 114) (lo2 := [(5, .int (nI (0 + d1))), (9, .int (nI ((0 + d1) * 1))), (8, .int (nI d1)), (6, .int (nI 1)), (7, .int (nI 0)), (0, .ref (G.2.1 + 1)), (1, .int (nI i)), (2, .int (nI 1)), (3, .int (nI lo)), (4, .int (nI hi))]) h (by decide) rfl dX4_takeNumber_114 ?_
          refine r_aload_n (pc := 116) h 5 rfl rfl dX4_takeNumber_116 ?_
          refine r_dup (pc := 117) h rfl dX4_takeNumber_117 ?_
          refine g_4_at (pc := 118) h mw_5_17 dX4_takeNumber_118 ?_
          refine r_topi (b := nI a) (tB_a _ _ _ _ _) ?_
          refine r_iconst (pc := 121) (v := nI 1) h (by decide) dX4_takeNumber_121 ?_
          refine r_iadd (pc := 122) (v := nI (a + 1)) h (nI_add _ _) dX4_takeNumber_122 ?_
          refine p_4_at (pc := 123) h mw_5_17 dX4_takeNumber_123 ?_
          refine V.sg (tB_sa _ _ _ _ _ _) ?_
          refine r_iinc (pc := 126) (v := nI 1) (lo2 := [(7, .int (nI 1)), (5, .int (nI (0 + d1))), (9, .int (nI ((0 + d1) * 1))), (8, .int (nI d1)), (6, .int (nI 1)), (0, .ref (G.2.1 + 1)), (1, .int (nI i)), (2, .int (nI 1)), (3, .int (nI lo)), (4, .int (nI hi))]) h 4 rfl (by decide) (by decide) rfl dX4_takeNumber_126 ?_
          refine r_goto (pc := 129) (tgt := 31) h (by decide) dX4_takeNumber_129 ?_
          refine r_iload (pc := 31) h 0 rfl dX4_takeNumber_31 ?_
          refine r_iload_n (pc := 33) h 7 rfl rfl dX4_takeNumber_33 ?_
          refine r_icmp_ge (pc := 34) (tgt := 132) h (by decide) dX4_takeNumber_34 (fun _ => ?_) (fun c34 => absurd c34 (by decide))
          refine r_aload_n (pc := 132) h 5 rfl rfl dX4_takeNumber_132 ?_
          refine g_4_numbers (pc := 133) h mw_2_8 dX4_takeNumber_133 ?_
          refine r_iload_n (pc := 136) h 6 rfl rfl dX4_takeNumber_136 ?_
          refine r_iload (pc := 137) h 1 rfl dX4_takeNumber_137 ?_
          refine r_iast (pc := 139) (w := nI (0 + d1)) h a_nu i rfl (by omega) rfl dX4_takeNumber_139 ?_
          refine V.sg (tB_sn _ _ _ _ _ _ _) ?_
          have ef : fig tx n lo hi [1] 0 a = (some (0 + d1 * 1), a + 1) := by rw [fig_s hd1 (by omega) (by omega), fig_e]
          exact hret _ (⟨_, by rw [ef]; rfl, fun v hv => by rw [ef] at hv; cases hv; exact congrArg (fun z => upd nu i (nI z)) (by omega)⟩) 140 _ dX4_takeNumber_140
        · skip
          rw [nI_leI (by omega) (by omega)] at c92
          refine r_aload_n (pc := 95) h 5 rfl rfl dX4_takeNumber_95 ?_
          refine r_aload_n (pc := 96) h 5 rfl rfl dX4_takeNumber_96 ?_
          refine g_4_at (pc := 97) h mw_5_17 dX4_takeNumber_97 ?_
          refine r_topi (b := nI a) (tB_a _ _ _ _ _) ?_
          refine p_4_error (pc := 100) h mw_5_12 dX4_takeNumber_100 ?_
          refine V.sg (tB_se _ _ _ _ _ _) ?_
          refine r_goto (pc := 103) (tgt := 126) h (by decide) dX4_takeNumber_103 ?_
          refine r_iinc (pc := 126) (v := nI 1) (lo2 := [(7, .int (nI 1)), (9, .int (nI ((0 + d1) * 1))), (8, .int (nI d1)), (6, .int (nI 1)), (5, .int (nI 0)), (0, .ref (G.2.1 + 1)), (1, .int (nI i)), (2, .int (nI 1)), (3, .int (nI lo)), (4, .int (nI hi))]) h 3 rfl (by decide) (by decide) rfl dX4_takeNumber_126 ?_
          refine r_goto (pc := 129) (tgt := 31) h (by decide) dX4_takeNumber_129 ?_
          refine r_iload (pc := 31) h 0 rfl dX4_takeNumber_31 ?_
          refine r_iload_n (pc := 33) h 7 rfl rfl dX4_takeNumber_33 ?_
          refine r_icmp_ge (pc := 34) (tgt := 132) h (by decide) dX4_takeNumber_34 (fun _ => ?_) (fun c34 => absurd c34 (by decide))
          refine r_aload_n (pc := 132) h 5 rfl rfl dX4_takeNumber_132 ?_
          refine g_4_numbers (pc := 133) h mw_2_8 dX4_takeNumber_133 ?_
          refine r_iload_n (pc := 136) h 6 rfl rfl dX4_takeNumber_136 ?_
          refine r_iload (pc := 137) h 4 rfl dX4_takeNumber_137 ?_
          refine r_iast (pc := 139) (w := nI 0) h a_nu i rfl (by omega) rfl dX4_takeNumber_139 ?_
          refine V.sg (tB_sn _ _ _ _ _ _ _) ?_
          have ef : fig tx n lo hi [1] 0 a = (none, a) := by rw [fig_f hd1 (by omega)]
          exact hret _ (⟨_, by rw [ef]; rfl, fun v hv => by rw [ef] at hv; cases hv⟩) 140 _ dX4_takeNumber_140

set_option maxRecDepth 100000 in
set_option maxHeartbeats 800000 in
theorem c_takeNumberE1 (l : Launch) (G : Gl) (σ : Sg) (n : Nat) (tx : Nat → Nat) (ht : TextC n tx σ) (a p : Nat) (hp : p < 2 ^ 31) (k : Int32) (nu : Nat → Int32) (i lo hi : Nat) (hi3 : i < 3) : Cv l yX4_takeNumber cX4_takeNumber 10 ({ frames := 1, cells := 0, slots := 0, locals := 40 } : Room) G [.ref (G.2.1 + 1), .int (nI i), .int (nI 1), .int (nI lo), .int (nI hi)] (tB σ (nI a) (nI p) k nu) (fun σ2 => σ2 = tB σ (nI a) (nI p) k (upd nu i (nI 0))) := by
  refine Cv_of (own := RX4) rfl (by decide +kernel) (lo := [(0, .ref (G.2.1 + 1)), (1, .int (nI i)), (2, .int (nI 1)), (3, .int (nI lo)), (4, .int (nI hi))]) rfl (Nat.le_of_ble_eq_true rfl) ?_
  intro x Q hxl h hret
  subst hxl
  have hn9 := ht.1.1
  refine r_iconst (pc := 0) (v := nI 0) h (by decide) dX4_takeNumber_0 ?_
  refine r_istore (pc := 1) (lo2 := [(5, .int (nI 0)), (0, .ref (G.2.1 + 1)), (1, .int (nI i)), (2, .int (nI 1)), (3, .int (nI lo)), (4, .int (nI hi))]) h (by decide) rfl dX4_takeNumber_1 ?_
  refine r_iload_n (pc := 3) h 3 rfl rfl dX4_takeNumber_3 ?_
  refine r_iconst (pc := 4) (v := nI 3) h (by decide) dX4_takeNumber_4 ?_
  refine r_icmp_ne (pc := 5) (tgt := 14) h (by decide) dX4_takeNumber_5 (fun _ => ?_) (fun c5 => absurd c5 (by decide))
  refine r_iload_n (pc := 14) h 3 rfl rfl dX4_takeNumber_14 ?_
  refine r_iconst (pc := 15) (v := nI 2) h (by decide) dX4_takeNumber_15 ?_
  refine r_icmp_ne (pc := 16) (tgt := 24) h (by decide) dX4_takeNumber_16 (fun _ => ?_) (fun c16 => absurd c16 (by decide))
  refine r_bipush (pc := 24) (v := nI 10) h (by decide) dX4_takeNumber_24 ?_
  refine r_istore (pc := 26) (lo2 := [(6, .int (nI 10)), (5, .int (nI 0)), (0, .ref (G.2.1 + 1)), (1, .int (nI i)), (2, .int (nI 1)), (3, .int (nI lo)), (4, .int (nI hi))]) h (by decide) rfl dX4_takeNumber_26 ?_
  refine r_iconst (pc := 28) (v := nI 0) h (by decide) dX4_takeNumber_28 ?_
  refine r_istore (pc := 29) (lo2 := [(7, .int (nI 0)), (6, .int (nI 10)), (5, .int (nI 0)), (0, .ref (G.2.1 + 1)), (1, .int (nI i)), (2, .int (nI 1)), (3, .int (nI lo)), (4, .int (nI hi))]) h (by decide) rfl dX4_takeNumber_29 ?_
  refine r_iload (pc := 31) h 0 rfl dX4_takeNumber_31 ?_
  refine r_iload_n (pc := 33) h 5 rfl rfl dX4_takeNumber_33 ?_
  refine r_icmp_ge (pc := 34) (tgt := 132) h (by decide) dX4_takeNumber_34 (fun c34 => absurd c34 (by decide)) (fun _ => ?_)
  refine r_aload_n (pc := 37) h 3 rfl rfl dX4_takeNumber_37 ?_
  refine g_4_error (pc := 38) h mw_5_12 dX4_takeNumber_38 ?_
  refine r_topi (b := nI p) (tB_e _ _ _ _ _) ?_
  refine r_iconst (pc := 41) (v := (-1)) h (by decide) dX4_takeNumber_41 ?_
  refine r_icmp_ne (pc := 42) (tgt := 132) h (by decide) dX4_takeNumber_42 (fun c42 => ?_) (fun c42 => ?_)
  · skip
    refine r_aload_n (pc := 132) h 3 rfl rfl dX4_takeNumber_132 ?_
    refine g_4_numbers (pc := 133) h mw_2_8 dX4_takeNumber_133 ?_
    refine r_iload_n (pc := 136) h 4 rfl rfl dX4_takeNumber_136 ?_
    refine r_iload (pc := 137) h 2 rfl dX4_takeNumber_137 ?_
    refine r_iast (pc := 139) (w := nI 0) h a_nu i rfl (by omega) rfl dX4_takeNumber_139 ?_
    refine V.sg (tB_sn _ _ _ _ _ _ _) ?_
    exact hret _ (rfl) 140 _ dX4_takeNumber_140
  · skip
    exact absurd c42 (nI_ne hp)

set_option maxRecDepth 100000 in
set_option maxHeartbeats 800000 in
theorem c_takeNumber2 (l : Launch) (G : Gl) (σ : Sg) (n : Nat) (tx : Nat → Nat) (ht : TextC n tx σ) (a : Nat) (ha : a ≤ n) (k : Int32) (nu : Nat → Int32) (i lo hi : Nat) (hi3 : i < 3) (hlo : lo ≤ 1) (hhi : hi < 1000) : Cv l yX4_takeNumber cX4_takeNumber 10 ({ frames := 1, cells := 0, slots := 0, locals := 40 } : Room) G [.ref (G.2.1 + 1), .int (nI i), .int (nI 2), .int (nI lo), .int (nI hi)] (tB σ (nI a) (-1) k nu) (fun σ2 => ∃ nu2, σ2 = tB σ (nI (fig tx n lo hi [10, 1] 0 a).2) (erV (fig tx n lo hi [10, 1] 0 a)) k nu2 ∧ ∀ v, (fig tx n lo hi [10, 1] 0 a).1 = some v → nu2 = upd nu i (nI v)) := by
  refine Cv_of (own := RX4) rfl (by decide +kernel) (lo := [(0, .ref (G.2.1 + 1)), (1, .int (nI i)), (2, .int (nI 2)), (3, .int (nI lo)), (4, .int (nI hi))]) rfl (Nat.le_of_ble_eq_true rfl) ?_
  intro x Q hxl h hret
  subst hxl
  have hn9 := ht.1.1
  refine r_iconst (pc := 0) (v := nI 0) h (by decide) dX4_takeNumber_0 ?_
  refine r_istore (pc := 1) (lo2 := [(5, .int (nI 0)), (0, .ref (G.2.1 + 1)), (1, .int (nI i)), (2, .int (nI 2)), (3, .int (nI lo)), (4, .int (nI hi))]) h (by decide) rfl dX4_takeNumber_1 ?_
  refine r_iload_n (pc := 3) h 3 rfl rfl dX4_takeNumber_3 ?_
  refine r_iconst (pc := 4) (v := nI 3) h (by decide) dX4_takeNumber_4 ?_
  refine r_icmp_ne (pc := 5) (tgt := 14) h (by decide) dX4_takeNumber_5 (fun _ => ?_) (fun c5 => absurd c5 (by decide))
  refine r_iload_n (pc := 14) h 3 rfl rfl dX4_takeNumber_14 ?_
  refine r_iconst (pc := 15) (v := nI 2) h (by decide) dX4_takeNumber_15 ?_
  refine r_icmp_ne (pc := 16) (tgt := 24) h (by decide) dX4_takeNumber_16 (fun c16 => absurd c16 (by decide)) (fun _ => ?_)
  refine r_bipush (pc := 19) (v := nI 100) h (by decide) dX4_takeNumber_19 ?_
  refine r_goto (pc := 21) (tgt := 26) h (by decide) dX4_takeNumber_21 ?_
  refine r_istore (pc := 26) (lo2 := [(6, .int (nI 100)), (5, .int (nI 0)), (0, .ref (G.2.1 + 1)), (1, .int (nI i)), (2, .int (nI 2)), (3, .int (nI lo)), (4, .int (nI hi))]) h (by decide) rfl dX4_takeNumber_26 ?_
  refine r_iconst (pc := 28) (v := nI 0) h (by decide) dX4_takeNumber_28 ?_
  refine r_istore (pc := 29) (lo2 := [(7, .int (nI 0)), (6, .int (nI 100)), (5, .int (nI 0)), (0, .ref (G.2.1 + 1)), (1, .int (nI i)), (2, .int (nI 2)), (3, .int (nI lo)), (4, .int (nI hi))]) h (by decide) rfl dX4_takeNumber_29 ?_
  refine r_iload (pc := 31) h 0 rfl dX4_takeNumber_31 ?_
  refine r_iload_n (pc := 33) h 5 rfl rfl dX4_takeNumber_33 ?_
  refine r_icmp_ge (pc := 34) (tgt := 132) h (by decide) dX4_takeNumber_34 (fun c34 => absurd c34 (by decide)) (fun _ => ?_)
  refine r_aload_n (pc := 37) h 3 rfl rfl dX4_takeNumber_37 ?_
  refine g_4_error (pc := 38) h mw_5_12 dX4_takeNumber_38 ?_
  refine r_topi (b := (-1)) (tB_e _ _ _ _ _) ?_
  refine r_iconst (pc := 41) (v := (-1)) h (by decide) dX4_takeNumber_41 ?_
  refine r_icmp_ne (pc := 42) (tgt := 132) h (by decide) dX4_takeNumber_42 (fun c42 => absurd c42 (by decide)) (fun _ => ?_)
  refine r_iload (pc := 45) h 1 rfl dX4_takeNumber_45 ?_
  refine r_bipush (pc := 47) (v := nI 10) h (by decide) dX4_takeNumber_47 ?_
  refine r_idiv (pc := 49) (v := nI 10) h (by decide) (by decide) dX4_takeNumber_49 ?_
  refine r_istore (pc := 50) (lo2 := [(6, .int (nI 10)), (7, .int (nI 0)), (5, .int (nI 0)), (0, .ref (G.2.1 + 1)), (1, .int (nI i)), (2, .int (nI 2)), (3, .int (nI lo)), (4, .int (nI hi))]) h (by decide) rfl dX4_takeNumber_50 ?_
  refine r_aload_n (pc := 52) h 3 rfl rfl dX4_takeNumber_52 ?_
  refine r_cVi (pc := 53) (As := []) (st := []) h lk_RX4_53 (c_digitHere x.2.1 G σ n tx ht a (by omega) (-1) k nu) rc_4 (by decide) rfl rfl (by first | decide | exact Nat.le_of_ble_eq_true rfl) (by decide) dX4_takeNumber_53 (fun r1 s2 q3 => ?_)
  rw [q3.1, q3.2]
  cases hd1 : dig tx n a with
  | none =>
    refine r_topi (b := (-1)) rfl ?_
    refine r_istore (pc := 56) (lo2 := [(8, .int (-1)), (6, .int (nI 10)), (7, .int (nI 0)), (5, .int (nI 0)), (0, .ref (G.2.1 + 1)), (1, .int (nI i)), (2, .int (nI 2)), (3, .int (nI lo)), (4, .int (nI hi))]) h (by decide) rfl dX4_takeNumber_56 ?_
    refine r_iload (pc := 58) h 3 rfl dX4_takeNumber_58 ?_
    refine r_bipush (pc := 60) (v := nI 10) h (by decide) dX4_takeNumber_60 ?_
    refine r_imul (pc := 62) (v := nI 0) h (by decide) dX4_takeNumber_62 ?_
    refine r_iload (pc := 63) h 0 rfl dX4_takeNumber_63 ?_
    refine r_iadd (pc := 65) (v := (-1)) h (by decide) dX4_takeNumber_65 ?_
    refine r_iload (pc := 66) h 1 rfl dX4_takeNumber_66 ?_
    refine r_imul (pc := 68) (v := (-10)) h (by decide) dX4_takeNumber_68 ?_
    refine r_istore (pc := 69) (lo2 := [(9, .int (-10)), (8, .int (-1)), (6, .int (nI 10)), (7, .int (nI 0)), (5, .int (nI 0)), (0, .ref (G.2.1 + 1)), (1, .int (nI i)), (2, .int (nI 2)), (3, .int (nI lo)), (4, .int (nI hi))]) h (by decide) rfl dX4_takeNumber_69 ?_
    refine r_iload (pc := 71) h 1 rfl dX4_takeNumber_71 ?_
    refine r_iconst (pc := 73) (v := (-1)) h (by decide) dX4_takeNumber_73 ?_
    refine r_icmp_eq (pc := 74) (tgt := 95) h (by decide) dX4_takeNumber_74 (fun _ => ?_) (fun c74 => absurd c74 (by decide))
    refine r_aload_n (pc := 95) h 5 rfl rfl dX4_takeNumber_95 ?_
    refine r_aload_n (pc := 96) h 5 rfl rfl dX4_takeNumber_96 ?_
    refine g_4_at (pc := 97) h mw_5_17 dX4_takeNumber_97 ?_
    refine r_topi (b := nI a) (tB_a _ _ _ _ _) ?_
    refine p_4_error (pc := 100) h mw_5_12 dX4_takeNumber_100 ?_
    refine V.sg (tB_se _ _ _ _ _ _) ?_
    refine r_goto (pc := 103) (tgt := 126) h (by decide) dX4_takeNumber_103 ?_
    refine r_iinc (pc := 126) (v := nI 1) (lo2 := [(7, .int (nI 1)), (9, .int (-10)), (8, .int (-1)), (6, .int (nI 10)), (5, .int (nI 0)), (0, .ref (G.2.1 + 1)), (1, .int (nI i)), (2, .int (nI 2)), (3, .int (nI lo)), (4, .int (nI hi))]) h 3 rfl (by decide) (by decide) rfl dX4_takeNumber_126 ?_
    refine r_goto (pc := 129) (tgt := 31) h (by decide) dX4_takeNumber_129 ?_
    refine r_iload (pc := 31) h 0 rfl dX4_takeNumber_31 ?_
    refine r_iload_n (pc := 33) h 7 rfl rfl dX4_takeNumber_33 ?_
    refine r_icmp_ge (pc := 34) (tgt := 132) h (by decide) dX4_takeNumber_34 (fun c34 => absurd c34 (by decide)) (fun _ => ?_)
    refine r_aload_n (pc := 37) h 5 rfl rfl dX4_takeNumber_37 ?_
    refine g_4_error (pc := 38) h mw_5_12 dX4_takeNumber_38 ?_
    refine r_topi (b := nI a) (tB_e _ _ _ _ _) ?_
    refine r_iconst (pc := 41) (v := (-1)) h (by decide) dX4_takeNumber_41 ?_
    refine r_icmp_ne (pc := 42) (tgt := 132) h (by decide) dX4_takeNumber_42 (fun c42 => ?_) (fun c42 => ?_)
    · skip
      refine r_aload_n (pc := 132) h 5 rfl rfl dX4_takeNumber_132 ?_
      refine g_4_numbers (pc := 133) h mw_2_8 dX4_takeNumber_133 ?_
      refine r_iload_n (pc := 136) h 6 rfl rfl dX4_takeNumber_136 ?_
      refine r_iload (pc := 137) h 4 rfl dX4_takeNumber_137 ?_
      refine r_iast (pc := 139) (w := nI 0) h a_nu i rfl (by omega) rfl dX4_takeNumber_139 ?_
      refine V.sg (tB_sn _ _ _ _ _ _ _) ?_
      have ef : fig tx n lo hi [10, 1] 0 a = (none, a) := by rw [fig_n hd1]
      exact hret _ (⟨_, by rw [ef]; rfl, fun v hv => by rw [ef] at hv; cases hv⟩) 140 _ dX4_takeNumber_140
    · skip
      exact absurd c42 (nI_ne (by omega))
  | some d1 =>
    refine r_topi (b := nI d1) rfl ?_
    have hb1 := dig_le hd1
    refine r_istore (pc := 56) (lo2 := [(8, .int (nI d1)), (6, .int (nI 10)), (7, .int (nI 0)), (5, .int (nI 0)), (0, .ref (G.2.1 + 1)), (1, .int (nI i)), (2, .int (nI 2)), (3, .int (nI lo)), (4, .int (nI hi))]) h (by decide) rfl dX4_takeNumber_56 ?_
    refine r_iload (pc := 58) h 3 rfl dX4_takeNumber_58 ?_
    refine r_bipush (pc := 60) (v := nI 10) h (by decide) dX4_takeNumber_60 ?_
    refine r_imul (pc := 62) (v := nI 0) h (by decide) dX4_takeNumber_62 ?_
    refine r_iload (pc := 63) h 0 rfl dX4_takeNumber_63 ?_
    refine r_iadd (pc := 65) (v := nI (0 + d1)) h (nI_add _ _) dX4_takeNumber_65 ?_
    refine r_iload (pc := 66) h 1 rfl dX4_takeNumber_66 ?_
    refine r_imul (pc := 68) (v := nI ((0 + d1) * 10)) h (pk_mul _ _) dX4_takeNumber_68 ?_
    refine r_istore (pc := 69) (lo2 := [(9, .int (nI ((0 + d1) * 10))), (8, .int (nI d1)), (6, .int (nI 10)), (7, .int (nI 0)), (5, .int (nI 0)), (0, .ref (G.2.1 + 1)), (1, .int (nI i)), (2, .int (nI 2)), (3, .int (nI lo)), (4, .int (nI hi))]) h (by decide) rfl dX4_takeNumber_69 ?_
    refine r_iload (pc := 71) h 1 rfl dX4_takeNumber_71 ?_
    refine r_iconst (pc := 73) (v := (-1)) h (by decide) dX4_takeNumber_73 ?_
    refine r_icmp_eq (pc := 74) (tgt := 95) h (by decide) dX4_takeNumber_74 (fun c74 => ?_) (fun c74 => ?_)
    · skip
      exact absurd c74 (nI_ne (by omega))
    · skip
      refine r_iload (pc := 77) h 0 rfl dX4_takeNumber_77 ?_
      refine r_iload (pc := 79) h 9 rfl dX4_takeNumber_79 ?_
      refine r_icmp_gt (pc := 81) (tgt := 95) h (by decide) dX4_takeNumber_81 (fun c81 => ?_) (fun c81 => ?_)
      · skip
        rw [nI_ltI (by omega) (by omega)] at c81
        refine r_aload_n (pc := 95) h 5 rfl rfl dX4_takeNumber_95 ?_
        refine r_aload_n (pc := 96) h 5 rfl rfl dX4_takeNumber_96 ?_
        refine g_4_at (pc := 97) h mw_5_17 dX4_takeNumber_97 ?_
        refine r_topi (b := nI a) (tB_a _ _ _ _ _) ?_
        refine p_4_error (pc := 100) h mw_5_12 dX4_takeNumber_100 ?_
        refine V.sg (tB_se _ _ _ _ _ _) ?_
        refine r_goto (pc := 103) (tgt := 126) h (by decide) dX4_takeNumber_103 ?_
        refine r_iinc (pc := 126) (v := nI 1) (lo2 := [(7, .int (nI 1)), (9, .int (nI ((0 + d1) * 10))), (8, .int (nI d1)), (6, .int (nI 10)), (5, .int (nI 0)), (0, .ref (G.2.1 + 1)), (1, .int (nI i)), (2, .int (nI 2)), (3, .int (nI lo)), (4, .int (nI hi))]) h 3 rfl (by decide) (by decide) rfl dX4_takeNumber_126 ?_
        refine r_goto (pc := 129) (tgt := 31) h (by decide) dX4_takeNumber_129 ?_
        refine r_iload (pc := 31) h 0 rfl dX4_takeNumber_31 ?_
        refine r_iload_n (pc := 33) h 7 rfl rfl dX4_takeNumber_33 ?_
        refine r_icmp_ge (pc := 34) (tgt := 132) h (by decide) dX4_takeNumber_34 (fun c34 => absurd c34 (by decide)) (fun _ => ?_)
        refine r_aload_n (pc := 37) h 5 rfl rfl dX4_takeNumber_37 ?_
        refine g_4_error (pc := 38) h mw_5_12 dX4_takeNumber_38 ?_
        refine r_topi (b := nI a) (tB_e _ _ _ _ _) ?_
        refine r_iconst (pc := 41) (v := (-1)) h (by decide) dX4_takeNumber_41 ?_
        refine r_icmp_ne (pc := 42) (tgt := 132) h (by decide) dX4_takeNumber_42 (fun c42 => ?_) (fun c42 => ?_)
        · skip
          refine r_aload_n (pc := 132) h 5 rfl rfl dX4_takeNumber_132 ?_
          refine g_4_numbers (pc := 133) h mw_2_8 dX4_takeNumber_133 ?_
          refine r_iload_n (pc := 136) h 6 rfl rfl dX4_takeNumber_136 ?_
          refine r_iload (pc := 137) h 4 rfl dX4_takeNumber_137 ?_
          refine r_iast (pc := 139) (w := nI 0) h a_nu i rfl (by omega) rfl dX4_takeNumber_139 ?_
          refine V.sg (tB_sn _ _ _ _ _ _ _) ?_
          have ef : fig tx n lo hi [10, 1] 0 a = (none, a) := by rw [fig_f hd1 (by omega)]
          exact hret _ (⟨_, by rw [ef]; rfl, fun v hv => by rw [ef] at hv; cases hv⟩) 140 _ dX4_takeNumber_140
        · skip
          exact absurd c42 (nI_ne (by omega))
      · skip
        rw [nI_ltI (by omega) (by omega)] at c81
        refine r_iload (pc := 84) h 0 rfl dX4_takeNumber_84 ?_
        refine r_iload (pc := 86) h 2 rfl dX4_takeNumber_86 ?_
        refine r_iadd (pc := 88) (v := nI (((0 + d1) * 10) + 10)) h (nI_add _ _) dX4_takeNumber_88 ?_
        refine r_iconst (pc := 89) (v := nI 1) h (by decide) dX4_takeNumber_89 ?_
        refine r_isub (pc := 90) (v := nI ((((0 + d1) * 10) + 10) - 1)) h (pk_sub (by omega)) dX4_takeNumber_90 ?_
        refine r_iload_n (pc := 91) h 8 rfl rfl dX4_takeNumber_91 ?_
        refine r_icmp_ge (pc := 92) (tgt := 106) h (by decide) dX4_takeNumber_92 (fun c92 => ?_) (fun c92 => ?_)
        · skip
          rw [nI_leI (by omega) (by omega)] at c92
          refine r_iload (pc := 106) h 4 rfl dX4_takeNumber_106 ?_
          refine r_bipush (pc := 108) (v := nI 10) h (by decide) dX4_takeNumber_108 ?_
          refine r_imul (pc := 110) (v := nI 0) h (by decide) dX4_takeNumber_110 ?_
          refine r_iload (pc := 111) h 1 rfl dX4_takeNumber_111 ?_
          refine r_iadd (pc := 113) (v := nI (0 + d1)) h (nI_add _ _) dX4_takeNumber_113 ?_
          refine r_istore (pc := 114) (lo2 := [(5, .int (nI (0 + d1))), (9, .int (nI ((0 + d1) * 10))), (8, .int (nI d1)), (6, .int (nI 10)), (7, .int (nI 0)), (0, .ref (G.2.1 + 1)), (1, .int (nI i)), (2, .int (nI 2)), (3, .int (nI lo)), (4, .int (nI hi))]) h (by decide) rfl dX4_takeNumber_114 ?_
          refine r_aload_n (pc := 116) h 5 rfl rfl dX4_takeNumber_116 ?_
          refine r_dup (pc := 117) h rfl dX4_takeNumber_117 ?_
          refine g_4_at (pc := 118) h mw_5_17 dX4_takeNumber_118 ?_
          refine r_topi (b := nI a) (tB_a _ _ _ _ _) ?_
          refine r_iconst (pc := 121) (v := nI 1) h (by decide) dX4_takeNumber_121 ?_
          refine r_iadd (pc := 122) (v := nI (a + 1)) h (nI_add _ _) dX4_takeNumber_122 ?_
          refine p_4_at (pc := 123) h mw_5_17 dX4_takeNumber_123 ?_
          refine V.sg (tB_sa _ _ _ _ _ _) ?_
          refine r_iinc (pc := 126) (v := nI 1) (lo2 := [(7, .int (nI 1)), (5, .int (nI (0 + d1))), (9, .int (nI ((0 + d1) * 10))), (8, .int (nI d1)), (6, .int (nI 10)), (0, .ref (G.2.1 + 1)), (1, .int (nI i)), (2, .int (nI 2)), (3, .int (nI lo)), (4, .int (nI hi))]) h 4 rfl (by decide) (by decide) rfl dX4_takeNumber_126 ?_
          refine r_goto (pc := 129) (tgt := 31) h (by decide) dX4_takeNumber_129 ?_
          refine r_iload (pc := 31) h 0 rfl dX4_takeNumber_31 ?_
          refine r_iload_n (pc := 33) h 7 rfl rfl dX4_takeNumber_33 ?_
          refine r_icmp_ge (pc := 34) (tgt := 132) h (by decide) dX4_takeNumber_34 (fun c34 => absurd c34 (by decide)) (fun _ => ?_)
          refine r_aload_n (pc := 37) h 5 rfl rfl dX4_takeNumber_37 ?_
          refine g_4_error (pc := 38) h mw_5_12 dX4_takeNumber_38 ?_
          refine r_topi (b := (-1)) (tB_e _ _ _ _ _) ?_
          refine r_iconst (pc := 41) (v := (-1)) h (by decide) dX4_takeNumber_41 ?_
          refine r_icmp_ne (pc := 42) (tgt := 132) h (by decide) dX4_takeNumber_42 (fun c42 => absurd c42 (by decide)) (fun _ => ?_)
          refine r_iload (pc := 45) h 4 rfl dX4_takeNumber_45 ?_
          refine r_bipush (pc := 47) (v := nI 10) h (by decide) dX4_takeNumber_47 ?_
          refine r_idiv (pc := 49) (v := nI 1) h (by decide) (by decide) dX4_takeNumber_49 ?_
          refine r_istore (pc := 50) (lo2 := [(6, .int (nI 1)), (7, .int (nI 1)), (5, .int (nI (0 + d1))), (9, .int (nI ((0 + d1) * 10))), (8, .int (nI d1)), (0, .ref (G.2.1 + 1)), (1, .int (nI i)), (2, .int (nI 2)), (3, .int (nI lo)), (4, .int (nI hi))]) h (by decide) rfl dX4_takeNumber_50 ?_
          refine r_aload_n (pc := 52) h 5 rfl rfl dX4_takeNumber_52 ?_
          refine r_cVi (pc := 53) (As := []) (st := []) h lk_RX4_53 (c_digitHere x.2.1 G σ n tx ht (a + 1) (by omega) (-1) k nu) rc_4 (by decide) rfl rfl (by first | decide | exact Nat.le_of_ble_eq_true rfl) (by decide) dX4_takeNumber_53 (fun r4 s5 q6 => ?_)
          rw [q6.1, q6.2]
          cases hd2 : dig tx n (a + 1) with
          | none =>
            refine r_topi (b := (-1)) rfl ?_
            refine r_istore (pc := 56) (lo2 := [(8, .int (-1)), (6, .int (nI 1)), (7, .int (nI 1)), (5, .int (nI (0 + d1))), (9, .int (nI ((0 + d1) * 10))), (0, .ref (G.2.1 + 1)), (1, .int (nI i)), (2, .int (nI 2)), (3, .int (nI lo)), (4, .int (nI hi))]) h (by decide) rfl dX4_takeNumber_56 ?_
            refine r_iload (pc := 58) h 3 rfl dX4_takeNumber_58 ?_
            refine r_bipush (pc := 60) (v := nI 10) h (by decide) dX4_takeNumber_60 ?_
            refine r_imul (pc := 62) (v := nI ((0 + d1) * 10)) h (pk_mul _ _) dX4_takeNumber_62 ?_
            refine r_iload (pc := 63) h 0 rfl dX4_takeNumber_63 ?_
            refine r_iadd (pc := 65) (v := (nI ((0 + d1) * 10)) + (-1)) h rfl dX4_takeNumber_65 ?_
            refine r_iload (pc := 66) h 1 rfl dX4_takeNumber_66 ?_
            refine r_imul (pc := 68) (v := ((nI ((0 + d1) * 10)) + (-1)) * (nI 1)) h rfl dX4_takeNumber_68 ?_
            refine r_istore (pc := 69) (lo2 := [(9, .int (((nI ((0 + d1) * 10)) + (-1)) * (nI 1))), (8, .int (-1)), (6, .int (nI 1)), (7, .int (nI 1)), (5, .int (nI (0 + d1))), (0, .ref (G.2.1 + 1)), (1, .int (nI i)), (2, .int (nI 2)), (3, .int (nI lo)), (4, .int (nI hi))]) h (by decide) rfl dX4_takeNumber_69 ?_
            refine r_iload (pc := 71) h 1 rfl dX4_takeNumber_71 ?_
            refine r_iconst (pc := 73) (v := (-1)) h (by decide) dX4_takeNumber_73 ?_
            refine r_icmp_eq (pc := 74) (tgt := 95) h (by decide) dX4_takeNumber_74 (fun _ => ?_) (fun c74 => absurd c74 (by decide))
            refine r_aload_n (pc := 95) h 5 rfl rfl dX4_takeNumber_95 ?_
            refine r_aload_n (pc := 96) h 5 rfl rfl dX4_takeNumber_96 ?_
            refine g_4_at (pc := 97) h mw_5_17 dX4_takeNumber_97 ?_
            refine r_topi (b := nI (a + 1)) (tB_a _ _ _ _ _) ?_
            refine p_4_error (pc := 100) h mw_5_12 dX4_takeNumber_100 ?_
            refine V.sg (tB_se _ _ _ _ _ _) ?_
            refine r_goto (pc := 103) (tgt := 126) h (by decide) dX4_takeNumber_103 ?_
            refine r_iinc (pc := 126) (v := nI 2) (lo2 := [(7, .int (nI 2)), (9, .int (((nI ((0 + d1) * 10)) + (-1)) * (nI 1))), (8, .int (-1)), (6, .int (nI 1)), (5, .int (nI (0 + d1))), (0, .ref (G.2.1 + 1)), (1, .int (nI i)), (2, .int (nI 2)), (3, .int (nI lo)), (4, .int (nI hi))]) h 3 rfl (by decide) (by decide) rfl dX4_takeNumber_126 ?_
            refine r_goto (pc := 129) (tgt := 31) h (by decide) dX4_takeNumber_129 ?_
            refine r_iload (pc := 31) h 0 rfl dX4_takeNumber_31 ?_
            refine r_iload_n (pc := 33) h 7 rfl rfl dX4_takeNumber_33 ?_
            refine r_icmp_ge (pc := 34) (tgt := 132) h (by decide) dX4_takeNumber_34 (fun _ => ?_) (fun c34 => absurd c34 (by decide))
            refine r_aload_n (pc := 132) h 5 rfl rfl dX4_takeNumber_132 ?_
            refine g_4_numbers (pc := 133) h mw_2_8 dX4_takeNumber_133 ?_
            refine r_iload_n (pc := 136) h 6 rfl rfl dX4_takeNumber_136 ?_
            refine r_iload (pc := 137) h 4 rfl dX4_takeNumber_137 ?_
            refine r_iast (pc := 139) (w := nI (0 + d1)) h a_nu i rfl (by omega) rfl dX4_takeNumber_139 ?_
            refine V.sg (tB_sn _ _ _ _ _ _ _) ?_
            have ef : fig tx n lo hi [10, 1] 0 a = (none, a + 1) := by rw [fig_s hd1 (by omega) (by omega), fig_n hd2]
            exact hret _ (⟨_, by rw [ef]; rfl, fun v hv => by rw [ef] at hv; cases hv⟩) 140 _ dX4_takeNumber_140
          | some d2 =>
            refine r_topi (b := nI d2) rfl ?_
            have hb2 := dig_le hd2
            refine r_istore (pc := 56) (lo2 := [(8, .int (nI d2)), (6, .int (nI 1)), (7, .int (nI 1)), (5, .int (nI (0 + d1))), (9, .int (nI ((0 + d1) * 10))), (0, .ref (G.2.1 + 1)), (1, .int (nI i)), (2, .int (nI 2)), (3, .int (nI lo)), (4, .int (nI hi))]) h (by decide) rfl dX4_takeNumber_56 ?_
            refine r_iload (pc := 58) h 3 rfl dX4_takeNumber_58 ?_
            refine r_bipush (pc := 60) (v := nI 10) h (by decide) dX4_takeNumber_60 ?_
            refine r_imul (pc := 62) (v := nI ((0 + d1) * 10)) h (pk_mul _ _) dX4_takeNumber_62 ?_
            refine r_iload (pc := 63) h 0 rfl dX4_takeNumber_63 ?_
            refine r_iadd (pc := 65) (v := nI (((0 + d1) * 10) + d2)) h (nI_add _ _) dX4_takeNumber_65 ?_
            refine r_iload (pc := 66) h 1 rfl dX4_takeNumber_66 ?_
            refine r_imul (pc := 68) (v := nI ((((0 + d1) * 10) + d2) * 1)) h (pk_mul _ _) dX4_takeNumber_68 ?_
            refine r_istore (pc := 69) (lo2 := [(9, .int (nI ((((0 + d1) * 10) + d2) * 1))), (8, .int (nI d2)), (6, .int (nI 1)), (7, .int (nI 1)), (5, .int (nI (0 + d1))), (0, .ref (G.2.1 + 1)), (1, .int (nI i)), (2, .int (nI 2)), (3, .int (nI lo)), (4, .int (nI hi))]) h (by decide) rfl dX4_takeNumber_69 ?_
            refine r_iload (pc := 71) h 1 rfl dX4_takeNumber_71 ?_
            refine r_iconst (pc := 73) (v := (-1)) h (by decide) dX4_takeNumber_73 ?_
            refine r_icmp_eq (pc := 74) (tgt := 95) h (by decide) dX4_takeNumber_74 (fun c74 => ?_) (fun c74 => ?_)
            · skip
              exact absurd c74 (nI_ne (by omega))
            · skip
              refine r_iload (pc := 77) h 0 rfl dX4_takeNumber_77 ?_
              refine r_iload (pc := 79) h 9 rfl dX4_takeNumber_79 ?_
              refine r_icmp_gt (pc := 81) (tgt := 95) h (by decide) dX4_takeNumber_81 (fun c81 => ?_) (fun c81 => ?_)
              · skip
                rw [nI_ltI (by omega) (by omega)] at c81
                refine r_aload_n (pc := 95) h 5 rfl rfl dX4_takeNumber_95 ?_
                refine r_aload_n (pc := 96) h 5 rfl rfl dX4_takeNumber_96 ?_
                refine g_4_at (pc := 97) h mw_5_17 dX4_takeNumber_97 ?_
                refine r_topi (b := nI (a + 1)) (tB_a _ _ _ _ _) ?_
                refine p_4_error (pc := 100) h mw_5_12 dX4_takeNumber_100 ?_
                refine V.sg (tB_se _ _ _ _ _ _) ?_
                refine r_goto (pc := 103) (tgt := 126) h (by decide) dX4_takeNumber_103 ?_
                refine r_iinc (pc := 126) (v := nI 2) (lo2 := [(7, .int (nI 2)), (9, .int (nI ((((0 + d1) * 10) + d2) * 1))), (8, .int (nI d2)), (6, .int (nI 1)), (5, .int (nI (0 + d1))), (0, .ref (G.2.1 + 1)), (1, .int (nI i)), (2, .int (nI 2)), (3, .int (nI lo)), (4, .int (nI hi))]) h 3 rfl (by decide) (by decide) rfl dX4_takeNumber_126 ?_
                refine r_goto (pc := 129) (tgt := 31) h (by decide) dX4_takeNumber_129 ?_
                refine r_iload (pc := 31) h 0 rfl dX4_takeNumber_31 ?_
                refine r_iload_n (pc := 33) h 7 rfl rfl dX4_takeNumber_33 ?_
                refine r_icmp_ge (pc := 34) (tgt := 132) h (by decide) dX4_takeNumber_34 (fun _ => ?_) (fun c34 => absurd c34 (by decide))
                refine r_aload_n (pc := 132) h 5 rfl rfl dX4_takeNumber_132 ?_
                refine g_4_numbers (pc := 133) h mw_2_8 dX4_takeNumber_133 ?_
                refine r_iload_n (pc := 136) h 6 rfl rfl dX4_takeNumber_136 ?_
                refine r_iload (pc := 137) h 4 rfl dX4_takeNumber_137 ?_
                refine r_iast (pc := 139) (w := nI (0 + d1)) h a_nu i rfl (by omega) rfl dX4_takeNumber_139 ?_
                refine V.sg (tB_sn _ _ _ _ _ _ _) ?_
                have ef : fig tx n lo hi [10, 1] 0 a = (none, a + 1) := by rw [fig_s hd1 (by omega) (by omega), fig_f hd2 (by omega)]
                exact hret _ (⟨_, by rw [ef]; rfl, fun v hv => by rw [ef] at hv; cases hv⟩) 140 _ dX4_takeNumber_140
              · skip
                rw [nI_ltI (by omega) (by omega)] at c81
                refine r_iload (pc := 84) h 0 rfl dX4_takeNumber_84 ?_
                refine r_iload (pc := 86) h 2 rfl dX4_takeNumber_86 ?_
                refine r_iadd (pc := 88) (v := nI (((((0 + d1) * 10) + d2) * 1) + 1)) h (nI_add _ _) dX4_takeNumber_88 ?_
                refine r_iconst (pc := 89) (v := nI 1) h (by decide) dX4_takeNumber_89 ?_
                refine r_isub (pc := 90) (v := nI ((((((0 + d1) * 10) + d2) * 1) + 1) - 1)) h (pk_sub (by omega)) dX4_takeNumber_90 ?_
                refine r_iload_n (pc := 91) h 8 rfl rfl dX4_takeNumber_91 ?_
                refine r_icmp_ge (pc := 92) (tgt := 106) h (by decide) dX4_takeNumber_92 (fun c92 => ?_) (fun c92 => ?_)
                · skip
                  rw [nI_leI (by omega) (by omega)] at c92
                  refine r_iload (pc := 106) h 4 rfl dX4_takeNumber_106 ?_
                  refine r_bipush (pc := 108) (v := nI 10) h (by decide) dX4_takeNumber_108 ?_
                  refine r_imul (pc := 110) (v := nI ((0 + d1) * 10)) h (pk_mul _ _) dX4_takeNumber_110 ?_
                  refine r_iload (pc := 111) h 1 rfl dX4_takeNumber_111 ?_
                  refine r_iadd (pc := 113) (v := nI (((0 + d1) * 10) + d2)) h (nI_add _ _) dX4_takeNumber_113 ?_
                  refine r_istore (pc := 114) (lo2 := [(5, .int (nI (((0 + d1) * 10) + d2))), (9, .int (nI ((((0 + d1) * 10) + d2) * 1))), (8, .int (nI d2)), (6, .int (nI 1)), (7, .int (nI 1)), (0, .ref (G.2.1 + 1)), (1, .int (nI i)), (2, .int (nI 2)), (3, .int (nI lo)), (4, .int (nI hi))]) h (by decide) rfl dX4_takeNumber_114 ?_
                  refine r_aload_n (pc := 116) h 5 rfl rfl dX4_takeNumber_116 ?_
                  refine r_dup (pc := 117) h rfl dX4_takeNumber_117 ?_
                  refine g_4_at (pc := 118) h mw_5_17 dX4_takeNumber_118 ?_
                  refine r_topi (b := nI (a + 1)) (tB_a _ _ _ _ _) ?_
                  refine r_iconst (pc := 121) (v := nI 1) h (by decide) dX4_takeNumber_121 ?_
                  refine r_iadd (pc := 122) (v := nI ((a + 1) + 1)) h (nI_add _ _) dX4_takeNumber_122 ?_
                  refine p_4_at (pc := 123) h mw_5_17 dX4_takeNumber_123 ?_
                  refine V.sg (tB_sa _ _ _ _ _ _) ?_
                  refine r_iinc (pc := 126) (v := nI 2) (lo2 := [(7, .int (nI 2)), (5, .int (nI (((0 + d1) * 10) + d2))), (9, .int (nI ((((0 + d1) * 10) + d2) * 1))), (8, .int (nI d2)), (6, .int (nI 1)), (0, .ref (G.2.1 + 1)), (1, .int (nI i)), (2, .int (nI 2)), (3, .int (nI lo)), (4, .int (nI hi))]) h 4 rfl (by decide) (by decide) rfl dX4_takeNumber_126 ?_
                  refine r_goto (pc := 129) (tgt := 31) h (by decide) dX4_takeNumber_129 ?_
                  refine r_iload (pc := 31) h 0 rfl dX4_takeNumber_31 ?_
                  refine r_iload_n (pc := 33) h 7 rfl rfl dX4_takeNumber_33 ?_
                  refine r_icmp_ge (pc := 34) (tgt := 132) h (by decide) dX4_takeNumber_34 (fun _ => ?_) (fun c34 => absurd c34 (by decide))
                  refine r_aload_n (pc := 132) h 5 rfl rfl dX4_takeNumber_132 ?_
                  refine g_4_numbers (pc := 133) h mw_2_8 dX4_takeNumber_133 ?_
                  refine r_iload_n (pc := 136) h 6 rfl rfl dX4_takeNumber_136 ?_
                  refine r_iload (pc := 137) h 1 rfl dX4_takeNumber_137 ?_
                  refine r_iast (pc := 139) (w := nI (((0 + d1) * 10) + d2)) h a_nu i rfl (by omega) rfl dX4_takeNumber_139 ?_
                  refine V.sg (tB_sn _ _ _ _ _ _ _) ?_
                  have ef : fig tx n lo hi [10, 1] 0 a = (some (0 + d1 * 10 + d2 * 1), a + 1 + 1) := by rw [fig_s hd1 (by omega) (by omega), fig_s hd2 (by omega) (by omega), fig_e]
                  exact hret _ (⟨_, by rw [ef]; rfl, fun v hv => by rw [ef] at hv; cases hv; exact congrArg (fun z => upd nu i (nI z)) (by omega)⟩) 140 _ dX4_takeNumber_140
                · skip
                  rw [nI_leI (by omega) (by omega)] at c92
                  refine r_aload_n (pc := 95) h 5 rfl rfl dX4_takeNumber_95 ?_
                  refine r_aload_n (pc := 96) h 5 rfl rfl dX4_takeNumber_96 ?_
                  refine g_4_at (pc := 97) h mw_5_17 dX4_takeNumber_97 ?_
                  refine r_topi (b := nI (a + 1)) (tB_a _ _ _ _ _) ?_
                  refine p_4_error (pc := 100) h mw_5_12 dX4_takeNumber_100 ?_
                  refine V.sg (tB_se _ _ _ _ _ _) ?_
                  refine r_goto (pc := 103) (tgt := 126) h (by decide) dX4_takeNumber_103 ?_
                  refine r_iinc (pc := 126) (v := nI 2) (lo2 := [(7, .int (nI 2)), (9, .int (nI ((((0 + d1) * 10) + d2) * 1))), (8, .int (nI d2)), (6, .int (nI 1)), (5, .int (nI (0 + d1))), (0, .ref (G.2.1 + 1)), (1, .int (nI i)), (2, .int (nI 2)), (3, .int (nI lo)), (4, .int (nI hi))]) h 3 rfl (by decide) (by decide) rfl dX4_takeNumber_126 ?_
                  refine r_goto (pc := 129) (tgt := 31) h (by decide) dX4_takeNumber_129 ?_
                  refine r_iload (pc := 31) h 0 rfl dX4_takeNumber_31 ?_
                  refine r_iload_n (pc := 33) h 7 rfl rfl dX4_takeNumber_33 ?_
                  refine r_icmp_ge (pc := 34) (tgt := 132) h (by decide) dX4_takeNumber_34 (fun _ => ?_) (fun c34 => absurd c34 (by decide))
                  refine r_aload_n (pc := 132) h 5 rfl rfl dX4_takeNumber_132 ?_
                  refine g_4_numbers (pc := 133) h mw_2_8 dX4_takeNumber_133 ?_
                  refine r_iload_n (pc := 136) h 6 rfl rfl dX4_takeNumber_136 ?_
                  refine r_iload (pc := 137) h 4 rfl dX4_takeNumber_137 ?_
                  refine r_iast (pc := 139) (w := nI (0 + d1)) h a_nu i rfl (by omega) rfl dX4_takeNumber_139 ?_
                  refine V.sg (tB_sn _ _ _ _ _ _ _) ?_
                  have ef : fig tx n lo hi [10, 1] 0 a = (none, a + 1) := by rw [fig_s hd1 (by omega) (by omega), fig_f hd2 (by omega)]
                  exact hret _ (⟨_, by rw [ef]; rfl, fun v hv => by rw [ef] at hv; cases hv⟩) 140 _ dX4_takeNumber_140
        · skip
          rw [nI_leI (by omega) (by omega)] at c92
          refine r_aload_n (pc := 95) h 5 rfl rfl dX4_takeNumber_95 ?_
          refine r_aload_n (pc := 96) h 5 rfl rfl dX4_takeNumber_96 ?_
          refine g_4_at (pc := 97) h mw_5_17 dX4_takeNumber_97 ?_
          refine r_topi (b := nI a) (tB_a _ _ _ _ _) ?_
          refine p_4_error (pc := 100) h mw_5_12 dX4_takeNumber_100 ?_
          refine V.sg (tB_se _ _ _ _ _ _) ?_
          refine r_goto (pc := 103) (tgt := 126) h (by decide) dX4_takeNumber_103 ?_
          refine r_iinc (pc := 126) (v := nI 1) (lo2 := [(7, .int (nI 1)), (9, .int (nI ((0 + d1) * 10))), (8, .int (nI d1)), (6, .int (nI 10)), (5, .int (nI 0)), (0, .ref (G.2.1 + 1)), (1, .int (nI i)), (2, .int (nI 2)), (3, .int (nI lo)), (4, .int (nI hi))]) h 3 rfl (by decide) (by decide) rfl dX4_takeNumber_126 ?_
          refine r_goto (pc := 129) (tgt := 31) h (by decide) dX4_takeNumber_129 ?_
          refine r_iload (pc := 31) h 0 rfl dX4_takeNumber_31 ?_
          refine r_iload_n (pc := 33) h 7 rfl rfl dX4_takeNumber_33 ?_
          refine r_icmp_ge (pc := 34) (tgt := 132) h (by decide) dX4_takeNumber_34 (fun c34 => absurd c34 (by decide)) (fun _ => ?_)
          refine r_aload_n (pc := 37) h 5 rfl rfl dX4_takeNumber_37 ?_
          refine g_4_error (pc := 38) h mw_5_12 dX4_takeNumber_38 ?_
          refine r_topi (b := nI a) (tB_e _ _ _ _ _) ?_
          refine r_iconst (pc := 41) (v := (-1)) h (by decide) dX4_takeNumber_41 ?_
          refine r_icmp_ne (pc := 42) (tgt := 132) h (by decide) dX4_takeNumber_42 (fun c42 => ?_) (fun c42 => ?_)
          · skip
            refine r_aload_n (pc := 132) h 5 rfl rfl dX4_takeNumber_132 ?_
            refine g_4_numbers (pc := 133) h mw_2_8 dX4_takeNumber_133 ?_
            refine r_iload_n (pc := 136) h 6 rfl rfl dX4_takeNumber_136 ?_
            refine r_iload (pc := 137) h 4 rfl dX4_takeNumber_137 ?_
            refine r_iast (pc := 139) (w := nI 0) h a_nu i rfl (by omega) rfl dX4_takeNumber_139 ?_
            refine V.sg (tB_sn _ _ _ _ _ _ _) ?_
            have ef : fig tx n lo hi [10, 1] 0 a = (none, a) := by rw [fig_f hd1 (by omega)]
            exact hret _ (⟨_, by rw [ef]; rfl, fun v hv => by rw [ef] at hv; cases hv⟩) 140 _ dX4_takeNumber_140
          · skip
            exact absurd c42 (nI_ne (by omega))

set_option maxRecDepth 100000 in
set_option maxHeartbeats 800000 in
theorem c_takeNumberE2 (l : Launch) (G : Gl) (σ : Sg) (n : Nat) (tx : Nat → Nat) (ht : TextC n tx σ) (a p : Nat) (hp : p < 2 ^ 31) (k : Int32) (nu : Nat → Int32) (i lo hi : Nat) (hi3 : i < 3) : Cv l yX4_takeNumber cX4_takeNumber 10 ({ frames := 1, cells := 0, slots := 0, locals := 40 } : Room) G [.ref (G.2.1 + 1), .int (nI i), .int (nI 2), .int (nI lo), .int (nI hi)] (tB σ (nI a) (nI p) k nu) (fun σ2 => σ2 = tB σ (nI a) (nI p) k (upd nu i (nI 0))) := by
  refine Cv_of (own := RX4) rfl (by decide +kernel) (lo := [(0, .ref (G.2.1 + 1)), (1, .int (nI i)), (2, .int (nI 2)), (3, .int (nI lo)), (4, .int (nI hi))]) rfl (Nat.le_of_ble_eq_true rfl) ?_
  intro x Q hxl h hret
  subst hxl
  have hn9 := ht.1.1
  refine r_iconst (pc := 0) (v := nI 0) h (by decide) dX4_takeNumber_0 ?_
  refine r_istore (pc := 1) (lo2 := [(5, .int (nI 0)), (0, .ref (G.2.1 + 1)), (1, .int (nI i)), (2, .int (nI 2)), (3, .int (nI lo)), (4, .int (nI hi))]) h (by decide) rfl dX4_takeNumber_1 ?_
  refine r_iload_n (pc := 3) h 3 rfl rfl dX4_takeNumber_3 ?_
  refine r_iconst (pc := 4) (v := nI 3) h (by decide) dX4_takeNumber_4 ?_
  refine r_icmp_ne (pc := 5) (tgt := 14) h (by decide) dX4_takeNumber_5 (fun _ => ?_) (fun c5 => absurd c5 (by decide))
  refine r_iload_n (pc := 14) h 3 rfl rfl dX4_takeNumber_14 ?_
  refine r_iconst (pc := 15) (v := nI 2) h (by decide) dX4_takeNumber_15 ?_
  refine r_icmp_ne (pc := 16) (tgt := 24) h (by decide) dX4_takeNumber_16 (fun c16 => absurd c16 (by decide)) (fun _ => ?_)
  refine r_bipush (pc := 19) (v := nI 100) h (by decide) dX4_takeNumber_19 ?_
  refine r_goto (pc := 21) (tgt := 26) h (by decide) dX4_takeNumber_21 ?_
  refine r_istore (pc := 26) (lo2 := [(6, .int (nI 100)), (5, .int (nI 0)), (0, .ref (G.2.1 + 1)), (1, .int (nI i)), (2, .int (nI 2)), (3, .int (nI lo)), (4, .int (nI hi))]) h (by decide) rfl dX4_takeNumber_26 ?_
  refine r_iconst (pc := 28) (v := nI 0) h (by decide) dX4_takeNumber_28 ?_
  refine r_istore (pc := 29) (lo2 := [(7, .int (nI 0)), (6, .int (nI 100)), (5, .int (nI 0)), (0, .ref (G.2.1 + 1)), (1, .int (nI i)), (2, .int (nI 2)), (3, .int (nI lo)), (4, .int (nI hi))]) h (by decide) rfl dX4_takeNumber_29 ?_
  refine r_iload (pc := 31) h 0 rfl dX4_takeNumber_31 ?_
  refine r_iload_n (pc := 33) h 5 rfl rfl dX4_takeNumber_33 ?_
  refine r_icmp_ge (pc := 34) (tgt := 132) h (by decide) dX4_takeNumber_34 (fun c34 => absurd c34 (by decide)) (fun _ => ?_)
  refine r_aload_n (pc := 37) h 3 rfl rfl dX4_takeNumber_37 ?_
  refine g_4_error (pc := 38) h mw_5_12 dX4_takeNumber_38 ?_
  refine r_topi (b := nI p) (tB_e _ _ _ _ _) ?_
  refine r_iconst (pc := 41) (v := (-1)) h (by decide) dX4_takeNumber_41 ?_
  refine r_icmp_ne (pc := 42) (tgt := 132) h (by decide) dX4_takeNumber_42 (fun c42 => ?_) (fun c42 => ?_)
  · skip
    refine r_aload_n (pc := 132) h 3 rfl rfl dX4_takeNumber_132 ?_
    refine g_4_numbers (pc := 133) h mw_2_8 dX4_takeNumber_133 ?_
    refine r_iload_n (pc := 136) h 4 rfl rfl dX4_takeNumber_136 ?_
    refine r_iload (pc := 137) h 2 rfl dX4_takeNumber_137 ?_
    refine r_iast (pc := 139) (w := nI 0) h a_nu i rfl (by omega) rfl dX4_takeNumber_139 ?_
    refine V.sg (tB_sn _ _ _ _ _ _ _) ?_
    exact hret _ (rfl) 140 _ dX4_takeNumber_140
  · skip
    exact absurd c42 (nI_ne hp)

set_option maxRecDepth 100000 in
set_option maxHeartbeats 800000 in
theorem c_takeNumber3 (l : Launch) (G : Gl) (σ : Sg) (n : Nat) (tx : Nat → Nat) (ht : TextC n tx σ) (a : Nat) (ha : a ≤ n) (k : Int32) (nu : Nat → Int32) (i lo hi : Nat) (hi3 : i < 3) (hlo : lo ≤ 1) (hhi : hi < 1000) : Cv l yX4_takeNumber cX4_takeNumber 10 ({ frames := 1, cells := 0, slots := 0, locals := 40 } : Room) G [.ref (G.2.1 + 1), .int (nI i), .int (nI 3), .int (nI lo), .int (nI hi)] (tB σ (nI a) (-1) k nu) (fun σ2 => ∃ nu2, σ2 = tB σ (nI (fig tx n lo hi [100, 10, 1] 0 a).2) (erV (fig tx n lo hi [100, 10, 1] 0 a)) k nu2 ∧ ∀ v, (fig tx n lo hi [100, 10, 1] 0 a).1 = some v → nu2 = upd nu i (nI v)) := by
  refine Cv_of (own := RX4) rfl (by decide +kernel) (lo := [(0, .ref (G.2.1 + 1)), (1, .int (nI i)), (2, .int (nI 3)), (3, .int (nI lo)), (4, .int (nI hi))]) rfl (Nat.le_of_ble_eq_true rfl) ?_
  intro x Q hxl h hret
  subst hxl
  have hn9 := ht.1.1
  refine r_iconst (pc := 0) (v := nI 0) h (by decide) dX4_takeNumber_0 ?_
  refine r_istore (pc := 1) (lo2 := [(5, .int (nI 0)), (0, .ref (G.2.1 + 1)), (1, .int (nI i)), (2, .int (nI 3)), (3, .int (nI lo)), (4, .int (nI hi))]) h (by decide) rfl dX4_takeNumber_1 ?_
  refine r_iload_n (pc := 3) h 3 rfl rfl dX4_takeNumber_3 ?_
  refine r_iconst (pc := 4) (v := nI 3) h (by decide) dX4_takeNumber_4 ?_
  refine r_icmp_ne (pc := 5) (tgt := 14) h (by decide) dX4_takeNumber_5 (fun c5 => absurd c5 (by decide)) (fun _ => ?_)
  refine r_sipush (pc := 8) (v := nI 1000) h (by decide) dX4_takeNumber_8 ?_
  refine r_goto (pc := 11) (tgt := 26) h (by decide) dX4_takeNumber_11 ?_
  refine r_istore (pc := 26) (lo2 := [(6, .int (nI 1000)), (5, .int (nI 0)), (0, .ref (G.2.1 + 1)), (1, .int (nI i)), (2, .int (nI 3)), (3, .int (nI lo)), (4, .int (nI hi))]) h (by decide) rfl dX4_takeNumber_26 ?_
  refine r_iconst (pc := 28) (v := nI 0) h (by decide) dX4_takeNumber_28 ?_
  refine r_istore (pc := 29) (lo2 := [(7, .int (nI 0)), (6, .int (nI 1000)), (5, .int (nI 0)), (0, .ref (G.2.1 + 1)), (1, .int (nI i)), (2, .int (nI 3)), (3, .int (nI lo)), (4, .int (nI hi))]) h (by decide) rfl dX4_takeNumber_29 ?_
  refine r_iload (pc := 31) h 0 rfl dX4_takeNumber_31 ?_
  refine r_iload_n (pc := 33) h 5 rfl rfl dX4_takeNumber_33 ?_
  refine r_icmp_ge (pc := 34) (tgt := 132) h (by decide) dX4_takeNumber_34 (fun c34 => absurd c34 (by decide)) (fun _ => ?_)
  refine r_aload_n (pc := 37) h 3 rfl rfl dX4_takeNumber_37 ?_
  refine g_4_error (pc := 38) h mw_5_12 dX4_takeNumber_38 ?_
  refine r_topi (b := (-1)) (tB_e _ _ _ _ _) ?_
  refine r_iconst (pc := 41) (v := (-1)) h (by decide) dX4_takeNumber_41 ?_
  refine r_icmp_ne (pc := 42) (tgt := 132) h (by decide) dX4_takeNumber_42 (fun c42 => absurd c42 (by decide)) (fun _ => ?_)
  refine r_iload (pc := 45) h 1 rfl dX4_takeNumber_45 ?_
  refine r_bipush (pc := 47) (v := nI 10) h (by decide) dX4_takeNumber_47 ?_
  refine r_idiv (pc := 49) (v := nI 100) h (by decide) (by decide) dX4_takeNumber_49 ?_
  refine r_istore (pc := 50) (lo2 := [(6, .int (nI 100)), (7, .int (nI 0)), (5, .int (nI 0)), (0, .ref (G.2.1 + 1)), (1, .int (nI i)), (2, .int (nI 3)), (3, .int (nI lo)), (4, .int (nI hi))]) h (by decide) rfl dX4_takeNumber_50 ?_
  refine r_aload_n (pc := 52) h 3 rfl rfl dX4_takeNumber_52 ?_
  refine r_cVi (pc := 53) (As := []) (st := []) h lk_RX4_53 (c_digitHere x.2.1 G σ n tx ht a (by omega) (-1) k nu) rc_4 (by decide) rfl rfl (by first | decide | exact Nat.le_of_ble_eq_true rfl) (by decide) dX4_takeNumber_53 (fun r1 s2 q3 => ?_)
  rw [q3.1, q3.2]
  cases hd1 : dig tx n a with
  | none =>
    refine r_topi (b := (-1)) rfl ?_
    refine r_istore (pc := 56) (lo2 := [(8, .int (-1)), (6, .int (nI 100)), (7, .int (nI 0)), (5, .int (nI 0)), (0, .ref (G.2.1 + 1)), (1, .int (nI i)), (2, .int (nI 3)), (3, .int (nI lo)), (4, .int (nI hi))]) h (by decide) rfl dX4_takeNumber_56 ?_
    refine r_iload (pc := 58) h 3 rfl dX4_takeNumber_58 ?_
    refine r_bipush (pc := 60) (v := nI 10) h (by decide) dX4_takeNumber_60 ?_
    refine r_imul (pc := 62) (v := nI 0) h (by decide) dX4_takeNumber_62 ?_
    refine r_iload (pc := 63) h 0 rfl dX4_takeNumber_63 ?_
    refine r_iadd (pc := 65) (v := (-1)) h (by decide) dX4_takeNumber_65 ?_
    refine r_iload (pc := 66) h 1 rfl dX4_takeNumber_66 ?_
    refine r_imul (pc := 68) (v := (-100)) h (by decide) dX4_takeNumber_68 ?_
    refine r_istore (pc := 69) (lo2 := [(9, .int (-100)), (8, .int (-1)), (6, .int (nI 100)), (7, .int (nI 0)), (5, .int (nI 0)), (0, .ref (G.2.1 + 1)), (1, .int (nI i)), (2, .int (nI 3)), (3, .int (nI lo)), (4, .int (nI hi))]) h (by decide) rfl dX4_takeNumber_69 ?_
    refine r_iload (pc := 71) h 1 rfl dX4_takeNumber_71 ?_
    refine r_iconst (pc := 73) (v := (-1)) h (by decide) dX4_takeNumber_73 ?_
    refine r_icmp_eq (pc := 74) (tgt := 95) h (by decide) dX4_takeNumber_74 (fun _ => ?_) (fun c74 => absurd c74 (by decide))
    refine r_aload_n (pc := 95) h 5 rfl rfl dX4_takeNumber_95 ?_
    refine r_aload_n (pc := 96) h 5 rfl rfl dX4_takeNumber_96 ?_
    refine g_4_at (pc := 97) h mw_5_17 dX4_takeNumber_97 ?_
    refine r_topi (b := nI a) (tB_a _ _ _ _ _) ?_
    refine p_4_error (pc := 100) h mw_5_12 dX4_takeNumber_100 ?_
    refine V.sg (tB_se _ _ _ _ _ _) ?_
    refine r_goto (pc := 103) (tgt := 126) h (by decide) dX4_takeNumber_103 ?_
    refine r_iinc (pc := 126) (v := nI 1) (lo2 := [(7, .int (nI 1)), (9, .int (-100)), (8, .int (-1)), (6, .int (nI 100)), (5, .int (nI 0)), (0, .ref (G.2.1 + 1)), (1, .int (nI i)), (2, .int (nI 3)), (3, .int (nI lo)), (4, .int (nI hi))]) h 3 rfl (by decide) (by decide) rfl dX4_takeNumber_126 ?_
    refine r_goto (pc := 129) (tgt := 31) h (by decide) dX4_takeNumber_129 ?_
    refine r_iload (pc := 31) h 0 rfl dX4_takeNumber_31 ?_
    refine r_iload_n (pc := 33) h 7 rfl rfl dX4_takeNumber_33 ?_
    refine r_icmp_ge (pc := 34) (tgt := 132) h (by decide) dX4_takeNumber_34 (fun c34 => absurd c34 (by decide)) (fun _ => ?_)
    refine r_aload_n (pc := 37) h 5 rfl rfl dX4_takeNumber_37 ?_
    refine g_4_error (pc := 38) h mw_5_12 dX4_takeNumber_38 ?_
    refine r_topi (b := nI a) (tB_e _ _ _ _ _) ?_
    refine r_iconst (pc := 41) (v := (-1)) h (by decide) dX4_takeNumber_41 ?_
    refine r_icmp_ne (pc := 42) (tgt := 132) h (by decide) dX4_takeNumber_42 (fun c42 => ?_) (fun c42 => ?_)
    · skip
      refine r_aload_n (pc := 132) h 5 rfl rfl dX4_takeNumber_132 ?_
      refine g_4_numbers (pc := 133) h mw_2_8 dX4_takeNumber_133 ?_
      refine r_iload_n (pc := 136) h 6 rfl rfl dX4_takeNumber_136 ?_
      refine r_iload (pc := 137) h 4 rfl dX4_takeNumber_137 ?_
      refine r_iast (pc := 139) (w := nI 0) h a_nu i rfl (by omega) rfl dX4_takeNumber_139 ?_
      refine V.sg (tB_sn _ _ _ _ _ _ _) ?_
      have ef : fig tx n lo hi [100, 10, 1] 0 a = (none, a) := by rw [fig_n hd1]
      exact hret _ (⟨_, by rw [ef]; rfl, fun v hv => by rw [ef] at hv; cases hv⟩) 140 _ dX4_takeNumber_140
    · skip
      exact absurd c42 (nI_ne (by omega))
  | some d1 =>
    refine r_topi (b := nI d1) rfl ?_
    have hb1 := dig_le hd1
    refine r_istore (pc := 56) (lo2 := [(8, .int (nI d1)), (6, .int (nI 100)), (7, .int (nI 0)), (5, .int (nI 0)), (0, .ref (G.2.1 + 1)), (1, .int (nI i)), (2, .int (nI 3)), (3, .int (nI lo)), (4, .int (nI hi))]) h (by decide) rfl dX4_takeNumber_56 ?_
    refine r_iload (pc := 58) h 3 rfl dX4_takeNumber_58 ?_
    refine r_bipush (pc := 60) (v := nI 10) h (by decide) dX4_takeNumber_60 ?_
    refine r_imul (pc := 62) (v := nI 0) h (by decide) dX4_takeNumber_62 ?_
    refine r_iload (pc := 63) h 0 rfl dX4_takeNumber_63 ?_
    refine r_iadd (pc := 65) (v := nI (0 + d1)) h (nI_add _ _) dX4_takeNumber_65 ?_
    refine r_iload (pc := 66) h 1 rfl dX4_takeNumber_66 ?_
    refine r_imul (pc := 68) (v := nI ((0 + d1) * 100)) h (pk_mul _ _) dX4_takeNumber_68 ?_
    refine r_istore (pc := 69) (lo2 := [(9, .int (nI ((0 + d1) * 100))), (8, .int (nI d1)), (6, .int (nI 100)), (7, .int (nI 0)), (5, .int (nI 0)), (0, .ref (G.2.1 + 1)), (1, .int (nI i)), (2, .int (nI 3)), (3, .int (nI lo)), (4, .int (nI hi))]) h (by decide) rfl dX4_takeNumber_69 ?_
    refine r_iload (pc := 71) h 1 rfl dX4_takeNumber_71 ?_
    refine r_iconst (pc := 73) (v := (-1)) h (by decide) dX4_takeNumber_73 ?_
    refine r_icmp_eq (pc := 74) (tgt := 95) h (by decide) dX4_takeNumber_74 (fun c74 => ?_) (fun c74 => ?_)
    · skip
      exact absurd c74 (nI_ne (by omega))
    · skip
      refine r_iload (pc := 77) h 0 rfl dX4_takeNumber_77 ?_
      refine r_iload (pc := 79) h 9 rfl dX4_takeNumber_79 ?_
      refine r_icmp_gt (pc := 81) (tgt := 95) h (by decide) dX4_takeNumber_81 (fun c81 => ?_) (fun c81 => ?_)
      · skip
        rw [nI_ltI (by omega) (by omega)] at c81
        refine r_aload_n (pc := 95) h 5 rfl rfl dX4_takeNumber_95 ?_
        refine r_aload_n (pc := 96) h 5 rfl rfl dX4_takeNumber_96 ?_
        refine g_4_at (pc := 97) h mw_5_17 dX4_takeNumber_97 ?_
        refine r_topi (b := nI a) (tB_a _ _ _ _ _) ?_
        refine p_4_error (pc := 100) h mw_5_12 dX4_takeNumber_100 ?_
        refine V.sg (tB_se _ _ _ _ _ _) ?_
        refine r_goto (pc := 103) (tgt := 126) h (by decide) dX4_takeNumber_103 ?_
        refine r_iinc (pc := 126) (v := nI 1) (lo2 := [(7, .int (nI 1)), (9, .int (nI ((0 + d1) * 100))), (8, .int (nI d1)), (6, .int (nI 100)), (5, .int (nI 0)), (0, .ref (G.2.1 + 1)), (1, .int (nI i)), (2, .int (nI 3)), (3, .int (nI lo)), (4, .int (nI hi))]) h 3 rfl (by decide) (by decide) rfl dX4_takeNumber_126 ?_
        refine r_goto (pc := 129) (tgt := 31) h (by decide) dX4_takeNumber_129 ?_
        refine r_iload (pc := 31) h 0 rfl dX4_takeNumber_31 ?_
        refine r_iload_n (pc := 33) h 7 rfl rfl dX4_takeNumber_33 ?_
        refine r_icmp_ge (pc := 34) (tgt := 132) h (by decide) dX4_takeNumber_34 (fun c34 => absurd c34 (by decide)) (fun _ => ?_)
        refine r_aload_n (pc := 37) h 5 rfl rfl dX4_takeNumber_37 ?_
        refine g_4_error (pc := 38) h mw_5_12 dX4_takeNumber_38 ?_
        refine r_topi (b := nI a) (tB_e _ _ _ _ _) ?_
        refine r_iconst (pc := 41) (v := (-1)) h (by decide) dX4_takeNumber_41 ?_
        refine r_icmp_ne (pc := 42) (tgt := 132) h (by decide) dX4_takeNumber_42 (fun c42 => ?_) (fun c42 => ?_)
        · skip
          refine r_aload_n (pc := 132) h 5 rfl rfl dX4_takeNumber_132 ?_
          refine g_4_numbers (pc := 133) h mw_2_8 dX4_takeNumber_133 ?_
          refine r_iload_n (pc := 136) h 6 rfl rfl dX4_takeNumber_136 ?_
          refine r_iload (pc := 137) h 4 rfl dX4_takeNumber_137 ?_
          refine r_iast (pc := 139) (w := nI 0) h a_nu i rfl (by omega) rfl dX4_takeNumber_139 ?_
          refine V.sg (tB_sn _ _ _ _ _ _ _) ?_
          have ef : fig tx n lo hi [100, 10, 1] 0 a = (none, a) := by rw [fig_f hd1 (by omega)]
          exact hret _ (⟨_, by rw [ef]; rfl, fun v hv => by rw [ef] at hv; cases hv⟩) 140 _ dX4_takeNumber_140
        · skip
          exact absurd c42 (nI_ne (by omega))
      · skip
        rw [nI_ltI (by omega) (by omega)] at c81
        refine r_iload (pc := 84) h 0 rfl dX4_takeNumber_84 ?_
        refine r_iload (pc := 86) h 2 rfl dX4_takeNumber_86 ?_
        refine r_iadd (pc := 88) (v := nI (((0 + d1) * 100) + 100)) h (nI_add _ _) dX4_takeNumber_88 ?_
        refine r_iconst (pc := 89) (v := nI 1) h (by decide) dX4_takeNumber_89 ?_
        refine r_isub (pc := 90) (v := nI ((((0 + d1) * 100) + 100) - 1)) h (pk_sub (by omega)) dX4_takeNumber_90 ?_
        refine r_iload_n (pc := 91) h 8 rfl rfl dX4_takeNumber_91 ?_
        refine r_icmp_ge (pc := 92) (tgt := 106) h (by decide) dX4_takeNumber_92 (fun c92 => ?_) (fun c92 => ?_)
        · skip
          rw [nI_leI (by omega) (by omega)] at c92
          refine r_iload (pc := 106) h 4 rfl dX4_takeNumber_106 ?_
          refine r_bipush (pc := 108) (v := nI 10) h (by decide) dX4_takeNumber_108 ?_
          refine r_imul (pc := 110) (v := nI 0) h (by decide) dX4_takeNumber_110 ?_
          refine r_iload (pc := 111) h 1 rfl dX4_takeNumber_111 ?_
          refine r_iadd (pc := 113) (v := nI (0 + d1)) h (nI_add _ _) dX4_takeNumber_113 ?_
          refine r_istore (pc := 114) (lo2 := [(5, .int (nI (0 + d1))), (9, .int (nI ((0 + d1) * 100))), (8, .int (nI d1)), (6, .int (nI 100)), (7, .int (nI 0)), (0, .ref (G.2.1 + 1)), (1, .int (nI i)), (2, .int (nI 3)), (3, .int (nI lo)), (4, .int (nI hi))]) h (by decide) rfl dX4_takeNumber_114 ?_
          refine r_aload_n (pc := 116) h 5 rfl rfl dX4_takeNumber_116 ?_
          refine r_dup (pc := 117) h rfl dX4_takeNumber_117 ?_
          refine g_4_at (pc := 118) h mw_5_17 dX4_takeNumber_118 ?_
          refine r_topi (b := nI a) (tB_a _ _ _ _ _) ?_
          refine r_iconst (pc := 121) (v := nI 1) h (by decide) dX4_takeNumber_121 ?_
          refine r_iadd (pc := 122) (v := nI (a + 1)) h (nI_add _ _) dX4_takeNumber_122 ?_
          refine p_4_at (pc := 123) h mw_5_17 dX4_takeNumber_123 ?_
          refine V.sg (tB_sa _ _ _ _ _ _) ?_
          refine r_iinc (pc := 126) (v := nI 1) (lo2 := [(7, .int (nI 1)), (5, .int (nI (0 + d1))), (9, .int (nI ((0 + d1) * 100))), (8, .int (nI d1)), (6, .int (nI 100)), (0, .ref (G.2.1 + 1)), (1, .int (nI i)), (2, .int (nI 3)), (3, .int (nI lo)), (4, .int (nI hi))]) h 4 rfl (by decide) (by decide) rfl dX4_takeNumber_126 ?_
          refine r_goto (pc := 129) (tgt := 31) h (by decide) dX4_takeNumber_129 ?_
          refine r_iload (pc := 31) h 0 rfl dX4_takeNumber_31 ?_
          refine r_iload_n (pc := 33) h 7 rfl rfl dX4_takeNumber_33 ?_
          refine r_icmp_ge (pc := 34) (tgt := 132) h (by decide) dX4_takeNumber_34 (fun c34 => absurd c34 (by decide)) (fun _ => ?_)
          refine r_aload_n (pc := 37) h 5 rfl rfl dX4_takeNumber_37 ?_
          refine g_4_error (pc := 38) h mw_5_12 dX4_takeNumber_38 ?_
          refine r_topi (b := (-1)) (tB_e _ _ _ _ _) ?_
          refine r_iconst (pc := 41) (v := (-1)) h (by decide) dX4_takeNumber_41 ?_
          refine r_icmp_ne (pc := 42) (tgt := 132) h (by decide) dX4_takeNumber_42 (fun c42 => absurd c42 (by decide)) (fun _ => ?_)
          refine r_iload (pc := 45) h 4 rfl dX4_takeNumber_45 ?_
          refine r_bipush (pc := 47) (v := nI 10) h (by decide) dX4_takeNumber_47 ?_
          refine r_idiv (pc := 49) (v := nI 10) h (by decide) (by decide) dX4_takeNumber_49 ?_
          refine r_istore (pc := 50) (lo2 := [(6, .int (nI 10)), (7, .int (nI 1)), (5, .int (nI (0 + d1))), (9, .int (nI ((0 + d1) * 100))), (8, .int (nI d1)), (0, .ref (G.2.1 + 1)), (1, .int (nI i)), (2, .int (nI 3)), (3, .int (nI lo)), (4, .int (nI hi))]) h (by decide) rfl dX4_takeNumber_50 ?_
          refine r_aload_n (pc := 52) h 5 rfl rfl dX4_takeNumber_52 ?_
          refine r_cVi (pc := 53) (As := []) (st := []) h lk_RX4_53 (c_digitHere x.2.1 G σ n tx ht (a + 1) (by omega) (-1) k nu) rc_4 (by decide) rfl rfl (by first | decide | exact Nat.le_of_ble_eq_true rfl) (by decide) dX4_takeNumber_53 (fun r4 s5 q6 => ?_)
          rw [q6.1, q6.2]
          cases hd2 : dig tx n (a + 1) with
          | none =>
            refine r_topi (b := (-1)) rfl ?_
            refine r_istore (pc := 56) (lo2 := [(8, .int (-1)), (6, .int (nI 10)), (7, .int (nI 1)), (5, .int (nI (0 + d1))), (9, .int (nI ((0 + d1) * 100))), (0, .ref (G.2.1 + 1)), (1, .int (nI i)), (2, .int (nI 3)), (3, .int (nI lo)), (4, .int (nI hi))]) h (by decide) rfl dX4_takeNumber_56 ?_
            refine r_iload (pc := 58) h 3 rfl dX4_takeNumber_58 ?_
            refine r_bipush (pc := 60) (v := nI 10) h (by decide) dX4_takeNumber_60 ?_
            refine r_imul (pc := 62) (v := nI ((0 + d1) * 10)) h (pk_mul _ _) dX4_takeNumber_62 ?_
            refine r_iload (pc := 63) h 0 rfl dX4_takeNumber_63 ?_
            refine r_iadd (pc := 65) (v := (nI ((0 + d1) * 10)) + (-1)) h rfl dX4_takeNumber_65 ?_
            refine r_iload (pc := 66) h 1 rfl dX4_takeNumber_66 ?_
            refine r_imul (pc := 68) (v := ((nI ((0 + d1) * 10)) + (-1)) * (nI 10)) h rfl dX4_takeNumber_68 ?_
            refine r_istore (pc := 69) (lo2 := [(9, .int (((nI ((0 + d1) * 10)) + (-1)) * (nI 10))), (8, .int (-1)), (6, .int (nI 10)), (7, .int (nI 1)), (5, .int (nI (0 + d1))), (0, .ref (G.2.1 + 1)), (1, .int (nI i)), (2, .int (nI 3)), (3, .int (nI lo)), (4, .int (nI hi))]) h (by decide) rfl dX4_takeNumber_69 ?_
            refine r_iload (pc := 71) h 1 rfl dX4_takeNumber_71 ?_
            refine r_iconst (pc := 73) (v := (-1)) h (by decide) dX4_takeNumber_73 ?_
            refine r_icmp_eq (pc := 74) (tgt := 95) h (by decide) dX4_takeNumber_74 (fun _ => ?_) (fun c74 => absurd c74 (by decide))
            refine r_aload_n (pc := 95) h 5 rfl rfl dX4_takeNumber_95 ?_
            refine r_aload_n (pc := 96) h 5 rfl rfl dX4_takeNumber_96 ?_
            refine g_4_at (pc := 97) h mw_5_17 dX4_takeNumber_97 ?_
            refine r_topi (b := nI (a + 1)) (tB_a _ _ _ _ _) ?_
            refine p_4_error (pc := 100) h mw_5_12 dX4_takeNumber_100 ?_
            refine V.sg (tB_se _ _ _ _ _ _) ?_
            refine r_goto (pc := 103) (tgt := 126) h (by decide) dX4_takeNumber_103 ?_
            refine r_iinc (pc := 126) (v := nI 2) (lo2 := [(7, .int (nI 2)), (9, .int (((nI ((0 + d1) * 10)) + (-1)) * (nI 10))), (8, .int (-1)), (6, .int (nI 10)), (5, .int (nI (0 + d1))), (0, .ref (G.2.1 + 1)), (1, .int (nI i)), (2, .int (nI 3)), (3, .int (nI lo)), (4, .int (nI hi))]) h 3 rfl (by decide) (by decide) rfl dX4_takeNumber_126 ?_
            refine r_goto (pc := 129) (tgt := 31) h (by decide) dX4_takeNumber_129 ?_
            refine r_iload (pc := 31) h 0 rfl dX4_takeNumber_31 ?_
            refine r_iload_n (pc := 33) h 7 rfl rfl dX4_takeNumber_33 ?_
            refine r_icmp_ge (pc := 34) (tgt := 132) h (by decide) dX4_takeNumber_34 (fun c34 => absurd c34 (by decide)) (fun _ => ?_)
            refine r_aload_n (pc := 37) h 5 rfl rfl dX4_takeNumber_37 ?_
            refine g_4_error (pc := 38) h mw_5_12 dX4_takeNumber_38 ?_
            refine r_topi (b := nI (a + 1)) (tB_e _ _ _ _ _) ?_
            refine r_iconst (pc := 41) (v := (-1)) h (by decide) dX4_takeNumber_41 ?_
            refine r_icmp_ne (pc := 42) (tgt := 132) h (by decide) dX4_takeNumber_42 (fun c42 => ?_) (fun c42 => ?_)
            · skip
              refine r_aload_n (pc := 132) h 5 rfl rfl dX4_takeNumber_132 ?_
              refine g_4_numbers (pc := 133) h mw_2_8 dX4_takeNumber_133 ?_
              refine r_iload_n (pc := 136) h 6 rfl rfl dX4_takeNumber_136 ?_
              refine r_iload (pc := 137) h 4 rfl dX4_takeNumber_137 ?_
              refine r_iast (pc := 139) (w := nI (0 + d1)) h a_nu i rfl (by omega) rfl dX4_takeNumber_139 ?_
              refine V.sg (tB_sn _ _ _ _ _ _ _) ?_
              have ef : fig tx n lo hi [100, 10, 1] 0 a = (none, a + 1) := by rw [fig_s hd1 (by omega) (by omega), fig_n hd2]
              exact hret _ (⟨_, by rw [ef]; rfl, fun v hv => by rw [ef] at hv; cases hv⟩) 140 _ dX4_takeNumber_140
            · skip
              exact absurd c42 (nI_ne (by omega))
          | some d2 =>
            refine r_topi (b := nI d2) rfl ?_
            have hb2 := dig_le hd2
            refine r_istore (pc := 56) (lo2 := [(8, .int (nI d2)), (6, .int (nI 10)), (7, .int (nI 1)), (5, .int (nI (0 + d1))), (9, .int (nI ((0 + d1) * 100))), (0, .ref (G.2.1 + 1)), (1, .int (nI i)), (2, .int (nI 3)), (3, .int (nI lo)), (4, .int (nI hi))]) h (by decide) rfl dX4_takeNumber_56 ?_
            refine r_iload (pc := 58) h 3 rfl dX4_takeNumber_58 ?_
            refine r_bipush (pc := 60) (v := nI 10) h (by decide) dX4_takeNumber_60 ?_
            refine r_imul (pc := 62) (v := nI ((0 + d1) * 10)) h (pk_mul _ _) dX4_takeNumber_62 ?_
            refine r_iload (pc := 63) h 0 rfl dX4_takeNumber_63 ?_
            refine r_iadd (pc := 65) (v := nI (((0 + d1) * 10) + d2)) h (nI_add _ _) dX4_takeNumber_65 ?_
            refine r_iload (pc := 66) h 1 rfl dX4_takeNumber_66 ?_
            refine r_imul (pc := 68) (v := nI ((((0 + d1) * 10) + d2) * 10)) h (pk_mul _ _) dX4_takeNumber_68 ?_
            refine r_istore (pc := 69) (lo2 := [(9, .int (nI ((((0 + d1) * 10) + d2) * 10))), (8, .int (nI d2)), (6, .int (nI 10)), (7, .int (nI 1)), (5, .int (nI (0 + d1))), (0, .ref (G.2.1 + 1)), (1, .int (nI i)), (2, .int (nI 3)), (3, .int (nI lo)), (4, .int (nI hi))]) h (by decide) rfl dX4_takeNumber_69 ?_
            refine r_iload (pc := 71) h 1 rfl dX4_takeNumber_71 ?_
            refine r_iconst (pc := 73) (v := (-1)) h (by decide) dX4_takeNumber_73 ?_
            refine r_icmp_eq (pc := 74) (tgt := 95) h (by decide) dX4_takeNumber_74 (fun c74 => ?_) (fun c74 => ?_)
            · skip
              exact absurd c74 (nI_ne (by omega))
            · skip
              refine r_iload (pc := 77) h 0 rfl dX4_takeNumber_77 ?_
              refine r_iload (pc := 79) h 9 rfl dX4_takeNumber_79 ?_
              refine r_icmp_gt (pc := 81) (tgt := 95) h (by decide) dX4_takeNumber_81 (fun c81 => ?_) (fun c81 => ?_)
              · skip
                rw [nI_ltI (by omega) (by omega)] at c81
                refine r_aload_n (pc := 95) h 5 rfl rfl dX4_takeNumber_95 ?_
                refine r_aload_n (pc := 96) h 5 rfl rfl dX4_takeNumber_96 ?_
                refine g_4_at (pc := 97) h mw_5_17 dX4_takeNumber_97 ?_
                refine r_topi (b := nI (a + 1)) (tB_a _ _ _ _ _) ?_
                refine p_4_error (pc := 100) h mw_5_12 dX4_takeNumber_100 ?_
                refine V.sg (tB_se _ _ _ _ _ _) ?_
                refine r_goto (pc := 103) (tgt := 126) h (by decide) dX4_takeNumber_103 ?_
                refine r_iinc (pc := 126) (v := nI 2) (lo2 := [(7, .int (nI 2)), (9, .int (nI ((((0 + d1) * 10) + d2) * 10))), (8, .int (nI d2)), (6, .int (nI 10)), (5, .int (nI (0 + d1))), (0, .ref (G.2.1 + 1)), (1, .int (nI i)), (2, .int (nI 3)), (3, .int (nI lo)), (4, .int (nI hi))]) h 3 rfl (by decide) (by decide) rfl dX4_takeNumber_126 ?_
                refine r_goto (pc := 129) (tgt := 31) h (by decide) dX4_takeNumber_129 ?_
                refine r_iload (pc := 31) h 0 rfl dX4_takeNumber_31 ?_
                refine r_iload_n (pc := 33) h 7 rfl rfl dX4_takeNumber_33 ?_
                refine r_icmp_ge (pc := 34) (tgt := 132) h (by decide) dX4_takeNumber_34 (fun c34 => absurd c34 (by decide)) (fun _ => ?_)
                refine r_aload_n (pc := 37) h 5 rfl rfl dX4_takeNumber_37 ?_
                refine g_4_error (pc := 38) h mw_5_12 dX4_takeNumber_38 ?_
                refine r_topi (b := nI (a + 1)) (tB_e _ _ _ _ _) ?_
                refine r_iconst (pc := 41) (v := (-1)) h (by decide) dX4_takeNumber_41 ?_
                refine r_icmp_ne (pc := 42) (tgt := 132) h (by decide) dX4_takeNumber_42 (fun c42 => ?_) (fun c42 => ?_)
                · skip
                  refine r_aload_n (pc := 132) h 5 rfl rfl dX4_takeNumber_132 ?_
                  refine g_4_numbers (pc := 133) h mw_2_8 dX4_takeNumber_133 ?_
                  refine r_iload_n (pc := 136) h 6 rfl rfl dX4_takeNumber_136 ?_
                  refine r_iload (pc := 137) h 4 rfl dX4_takeNumber_137 ?_
                  refine r_iast (pc := 139) (w := nI (0 + d1)) h a_nu i rfl (by omega) rfl dX4_takeNumber_139 ?_
                  refine V.sg (tB_sn _ _ _ _ _ _ _) ?_
                  have ef : fig tx n lo hi [100, 10, 1] 0 a = (none, a + 1) := by rw [fig_s hd1 (by omega) (by omega), fig_f hd2 (by omega)]
                  exact hret _ (⟨_, by rw [ef]; rfl, fun v hv => by rw [ef] at hv; cases hv⟩) 140 _ dX4_takeNumber_140
                · skip
                  exact absurd c42 (nI_ne (by omega))
              · skip
                rw [nI_ltI (by omega) (by omega)] at c81
                refine r_iload (pc := 84) h 0 rfl dX4_takeNumber_84 ?_
                refine r_iload (pc := 86) h 2 rfl dX4_takeNumber_86 ?_
                refine r_iadd (pc := 88) (v := nI (((((0 + d1) * 10) + d2) * 10) + 10)) h (nI_add _ _) dX4_takeNumber_88 ?_
                refine r_iconst (pc := 89) (v := nI 1) h (by decide) dX4_takeNumber_89 ?_
                refine r_isub (pc := 90) (v := nI ((((((0 + d1) * 10) + d2) * 10) + 10) - 1)) h (pk_sub (by omega)) dX4_takeNumber_90 ?_
                refine r_iload_n (pc := 91) h 8 rfl rfl dX4_takeNumber_91 ?_
                refine r_icmp_ge (pc := 92) (tgt := 106) h (by decide) dX4_takeNumber_92 (fun c92 => ?_) (fun c92 => ?_)
                · skip
                  rw [nI_leI (by omega) (by omega)] at c92
                  refine r_iload (pc := 106) h 4 rfl dX4_takeNumber_106 ?_
                  refine r_bipush (pc := 108) (v := nI 10) h (by decide) dX4_takeNumber_108 ?_
                  refine r_imul (pc := 110) (v := nI ((0 + d1) * 10)) h (pk_mul _ _) dX4_takeNumber_110 ?_
                  refine r_iload (pc := 111) h 1 rfl dX4_takeNumber_111 ?_
                  refine r_iadd (pc := 113) (v := nI (((0 + d1) * 10) + d2)) h (nI_add _ _) dX4_takeNumber_113 ?_
                  refine r_istore (pc := 114) (lo2 := [(5, .int (nI (((0 + d1) * 10) + d2))), (9, .int (nI ((((0 + d1) * 10) + d2) * 10))), (8, .int (nI d2)), (6, .int (nI 10)), (7, .int (nI 1)), (0, .ref (G.2.1 + 1)), (1, .int (nI i)), (2, .int (nI 3)), (3, .int (nI lo)), (4, .int (nI hi))]) h (by decide) rfl dX4_takeNumber_114 ?_
                  refine r_aload_n (pc := 116) h 5 rfl rfl dX4_takeNumber_116 ?_
                  refine r_dup (pc := 117) h rfl dX4_takeNumber_117 ?_
                  refine g_4_at (pc := 118) h mw_5_17 dX4_takeNumber_118 ?_
                  refine r_topi (b := nI (a + 1)) (tB_a _ _ _ _ _) ?_
                  refine r_iconst (pc := 121) (v := nI 1) h (by decide) dX4_takeNumber_121 ?_
                  refine r_iadd (pc := 122) (v := nI ((a + 1) + 1)) h (nI_add _ _) dX4_takeNumber_122 ?_
                  refine p_4_at (pc := 123) h mw_5_17 dX4_takeNumber_123 ?_
                  refine V.sg (tB_sa _ _ _ _ _ _) ?_
                  refine r_iinc (pc := 126) (v := nI 2) (lo2 := [(7, .int (nI 2)), (5, .int (nI (((0 + d1) * 10) + d2))), (9, .int (nI ((((0 + d1) * 10) + d2) * 10))), (8, .int (nI d2)), (6, .int (nI 10)), (0, .ref (G.2.1 + 1)), (1, .int (nI i)), (2, .int (nI 3)), (3, .int (nI lo)), (4, .int (nI hi))]) h 4 rfl (by decide) (by decide) rfl dX4_takeNumber_126 ?_
                  refine r_goto (pc := 129) (tgt := 31) h (by decide) dX4_takeNumber_129 ?_
                  refine r_iload (pc := 31) h 0 rfl dX4_takeNumber_31 ?_
                  refine r_iload_n (pc := 33) h 7 rfl rfl dX4_takeNumber_33 ?_
                  refine r_icmp_ge (pc := 34) (tgt := 132) h (by decide) dX4_takeNumber_34 (fun c34 => absurd c34 (by decide)) (fun _ => ?_)
                  refine r_aload_n (pc := 37) h 5 rfl rfl dX4_takeNumber_37 ?_
                  refine g_4_error (pc := 38) h mw_5_12 dX4_takeNumber_38 ?_
                  refine r_topi (b := (-1)) (tB_e _ _ _ _ _) ?_
                  refine r_iconst (pc := 41) (v := (-1)) h (by decide) dX4_takeNumber_41 ?_
                  refine r_icmp_ne (pc := 42) (tgt := 132) h (by decide) dX4_takeNumber_42 (fun c42 => absurd c42 (by decide)) (fun _ => ?_)
                  refine r_iload (pc := 45) h 4 rfl dX4_takeNumber_45 ?_
                  refine r_bipush (pc := 47) (v := nI 10) h (by decide) dX4_takeNumber_47 ?_
                  refine r_idiv (pc := 49) (v := nI 1) h (by decide) (by decide) dX4_takeNumber_49 ?_
                  refine r_istore (pc := 50) (lo2 := [(6, .int (nI 1)), (7, .int (nI 2)), (5, .int (nI (((0 + d1) * 10) + d2))), (9, .int (nI ((((0 + d1) * 10) + d2) * 10))), (8, .int (nI d2)), (0, .ref (G.2.1 + 1)), (1, .int (nI i)), (2, .int (nI 3)), (3, .int (nI lo)), (4, .int (nI hi))]) h (by decide) rfl dX4_takeNumber_50 ?_
                  refine r_aload_n (pc := 52) h 5 rfl rfl dX4_takeNumber_52 ?_
                  refine r_cVi (pc := 53) (As := []) (st := []) h lk_RX4_53 (c_digitHere x.2.1 G σ n tx ht ((a + 1) + 1) (by omega) (-1) k nu) rc_4 (by decide) rfl rfl (by first | decide | exact Nat.le_of_ble_eq_true rfl) (by decide) dX4_takeNumber_53 (fun r7 s8 q9 => ?_)
                  rw [q9.1, q9.2]
                  cases hd3 : dig tx n ((a + 1) + 1) with
                  | none =>
                    refine r_topi (b := (-1)) rfl ?_
                    refine r_istore (pc := 56) (lo2 := [(8, .int (-1)), (6, .int (nI 1)), (7, .int (nI 2)), (5, .int (nI (((0 + d1) * 10) + d2))), (9, .int (nI ((((0 + d1) * 10) + d2) * 10))), (0, .ref (G.2.1 + 1)), (1, .int (nI i)), (2, .int (nI 3)), (3, .int (nI lo)), (4, .int (nI hi))]) h (by decide) rfl dX4_takeNumber_56 ?_
                    refine r_iload (pc := 58) h 3 rfl dX4_takeNumber_58 ?_
                    refine r_bipush (pc := 60) (v := nI 10) h (by decide) dX4_takeNumber_60 ?_
                    refine r_imul (pc := 62) (v := nI ((((0 + d1) * 10) + d2) * 10)) h (pk_mul _ _) dX4_takeNumber_62 ?_
                    refine r_iload (pc := 63) h 0 rfl dX4_takeNumber_63 ?_
                    refine r_iadd (pc := 65) (v := (nI ((((0 + d1) * 10) + d2) * 10)) + (-1)) h rfl dX4_takeNumber_65 ?_
                    refine r_iload (pc := 66) h 1 rfl dX4_takeNumber_66 ?_
                    refine r_imul (pc := 68) (v := ((nI ((((0 + d1) * 10) + d2) * 10)) + (-1)) * (nI 1)) h rfl dX4_takeNumber_68 ?_
                    refine r_istore (pc := 69) (lo2 := [(9, .int (((nI ((((0 + d1) * 10) + d2) * 10)) + (-1)) * (nI 1))), (8, .int (-1)), (6, .int (nI 1)), (7, .int (nI 2)), (5, .int (nI (((0 + d1) * 10) + d2))), (0, .ref (G.2.1 + 1)), (1, .int (nI i)), (2, .int (nI 3)), (3, .int (nI lo)), (4, .int (nI hi))]) h (by decide) rfl dX4_takeNumber_69 ?_
                    refine r_iload (pc := 71) h 1 rfl dX4_takeNumber_71 ?_
                    refine r_iconst (pc := 73) (v := (-1)) h (by decide) dX4_takeNumber_73 ?_
                    refine r_icmp_eq (pc := 74) (tgt := 95) h (by decide) dX4_takeNumber_74 (fun _ => ?_) (fun c74 => absurd c74 (by decide))
                    refine r_aload_n (pc := 95) h 5 rfl rfl dX4_takeNumber_95 ?_
                    refine r_aload_n (pc := 96) h 5 rfl rfl dX4_takeNumber_96 ?_
                    refine g_4_at (pc := 97) h mw_5_17 dX4_takeNumber_97 ?_
                    refine r_topi (b := nI ((a + 1) + 1)) (tB_a _ _ _ _ _) ?_
                    refine p_4_error (pc := 100) h mw_5_12 dX4_takeNumber_100 ?_
                    refine V.sg (tB_se _ _ _ _ _ _) ?_
                    refine r_goto (pc := 103) (tgt := 126) h (by decide) dX4_takeNumber_103 ?_
                    refine r_iinc (pc := 126) (v := nI 3) (lo2 := [(7, .int (nI 3)), (9, .int (((nI ((((0 + d1) * 10) + d2) * 10)) + (-1)) * (nI 1))), (8, .int (-1)), (6, .int (nI 1)), (5, .int (nI (((0 + d1) * 10) + d2))), (0, .ref (G.2.1 + 1)), (1, .int (nI i)), (2, .int (nI 3)), (3, .int (nI lo)), (4, .int (nI hi))]) h 3 rfl (by decide) (by decide) rfl dX4_takeNumber_126 ?_
                    refine r_goto (pc := 129) (tgt := 31) h (by decide) dX4_takeNumber_129 ?_
                    refine r_iload (pc := 31) h 0 rfl dX4_takeNumber_31 ?_
                    refine r_iload_n (pc := 33) h 7 rfl rfl dX4_takeNumber_33 ?_
                    refine r_icmp_ge (pc := 34) (tgt := 132) h (by decide) dX4_takeNumber_34 (fun _ => ?_) (fun c34 => absurd c34 (by decide))
                    refine r_aload_n (pc := 132) h 5 rfl rfl dX4_takeNumber_132 ?_
                    refine g_4_numbers (pc := 133) h mw_2_8 dX4_takeNumber_133 ?_
                    refine r_iload_n (pc := 136) h 6 rfl rfl dX4_takeNumber_136 ?_
                    refine r_iload (pc := 137) h 4 rfl dX4_takeNumber_137 ?_
                    refine r_iast (pc := 139) (w := nI (((0 + d1) * 10) + d2)) h a_nu i rfl (by omega) rfl dX4_takeNumber_139 ?_
                    refine V.sg (tB_sn _ _ _ _ _ _ _) ?_
                    have ef : fig tx n lo hi [100, 10, 1] 0 a = (none, a + 1 + 1) := by rw [fig_s hd1 (by omega) (by omega), fig_s hd2 (by omega) (by omega), fig_n hd3]
                    exact hret _ (⟨_, by rw [ef]; rfl, fun v hv => by rw [ef] at hv; cases hv⟩) 140 _ dX4_takeNumber_140
                  | some d3 =>
                    refine r_topi (b := nI d3) rfl ?_
                    have hb3 := dig_le hd3
                    refine r_istore (pc := 56) (lo2 := [(8, .int (nI d3)), (6, .int (nI 1)), (7, .int (nI 2)), (5, .int (nI (((0 + d1) * 10) + d2))), (9, .int (nI ((((0 + d1) * 10) + d2) * 10))), (0, .ref (G.2.1 + 1)), (1, .int (nI i)), (2, .int (nI 3)), (3, .int (nI lo)), (4, .int (nI hi))]) h (by decide) rfl dX4_takeNumber_56 ?_
                    refine r_iload (pc := 58) h 3 rfl dX4_takeNumber_58 ?_
                    refine r_bipush (pc := 60) (v := nI 10) h (by decide) dX4_takeNumber_60 ?_
                    refine r_imul (pc := 62) (v := nI ((((0 + d1) * 10) + d2) * 10)) h (pk_mul _ _) dX4_takeNumber_62 ?_
                    refine r_iload (pc := 63) h 0 rfl dX4_takeNumber_63 ?_
                    refine r_iadd (pc := 65) (v := nI (((((0 + d1) * 10) + d2) * 10) + d3)) h (nI_add _ _) dX4_takeNumber_65 ?_
                    refine r_iload (pc := 66) h 1 rfl dX4_takeNumber_66 ?_
                    refine r_imul (pc := 68) (v := nI ((((((0 + d1) * 10) + d2) * 10) + d3) * 1)) h (pk_mul _ _) dX4_takeNumber_68 ?_
                    refine r_istore (pc := 69) (lo2 := [(9, .int (nI ((((((0 + d1) * 10) + d2) * 10) + d3) * 1))), (8, .int (nI d3)), (6, .int (nI 1)), (7, .int (nI 2)), (5, .int (nI (((0 + d1) * 10) + d2))), (0, .ref (G.2.1 + 1)), (1, .int (nI i)), (2, .int (nI 3)), (3, .int (nI lo)), (4, .int (nI hi))]) h (by decide) rfl dX4_takeNumber_69 ?_
                    refine r_iload (pc := 71) h 1 rfl dX4_takeNumber_71 ?_
                    refine r_iconst (pc := 73) (v := (-1)) h (by decide) dX4_takeNumber_73 ?_
                    refine r_icmp_eq (pc := 74) (tgt := 95) h (by decide) dX4_takeNumber_74 (fun c74 => ?_) (fun c74 => ?_)
                    · skip
                      exact absurd c74 (nI_ne (by omega))
                    · skip
                      refine r_iload (pc := 77) h 0 rfl dX4_takeNumber_77 ?_
                      refine r_iload (pc := 79) h 9 rfl dX4_takeNumber_79 ?_
                      refine r_icmp_gt (pc := 81) (tgt := 95) h (by decide) dX4_takeNumber_81 (fun c81 => ?_) (fun c81 => ?_)
                      · skip
                        rw [nI_ltI (by omega) (by omega)] at c81
                        refine r_aload_n (pc := 95) h 5 rfl rfl dX4_takeNumber_95 ?_
                        refine r_aload_n (pc := 96) h 5 rfl rfl dX4_takeNumber_96 ?_
                        refine g_4_at (pc := 97) h mw_5_17 dX4_takeNumber_97 ?_
                        refine r_topi (b := nI ((a + 1) + 1)) (tB_a _ _ _ _ _) ?_
                        refine p_4_error (pc := 100) h mw_5_12 dX4_takeNumber_100 ?_
                        refine V.sg (tB_se _ _ _ _ _ _) ?_
                        refine r_goto (pc := 103) (tgt := 126) h (by decide) dX4_takeNumber_103 ?_
                        refine r_iinc (pc := 126) (v := nI 3) (lo2 := [(7, .int (nI 3)), (9, .int (nI ((((((0 + d1) * 10) + d2) * 10) + d3) * 1))), (8, .int (nI d3)), (6, .int (nI 1)), (5, .int (nI (((0 + d1) * 10) + d2))), (0, .ref (G.2.1 + 1)), (1, .int (nI i)), (2, .int (nI 3)), (3, .int (nI lo)), (4, .int (nI hi))]) h 3 rfl (by decide) (by decide) rfl dX4_takeNumber_126 ?_
                        refine r_goto (pc := 129) (tgt := 31) h (by decide) dX4_takeNumber_129 ?_
                        refine r_iload (pc := 31) h 0 rfl dX4_takeNumber_31 ?_
                        refine r_iload_n (pc := 33) h 7 rfl rfl dX4_takeNumber_33 ?_
                        refine r_icmp_ge (pc := 34) (tgt := 132) h (by decide) dX4_takeNumber_34 (fun _ => ?_) (fun c34 => absurd c34 (by decide))
                        refine r_aload_n (pc := 132) h 5 rfl rfl dX4_takeNumber_132 ?_
                        refine g_4_numbers (pc := 133) h mw_2_8 dX4_takeNumber_133 ?_
                        refine r_iload_n (pc := 136) h 6 rfl rfl dX4_takeNumber_136 ?_
                        refine r_iload (pc := 137) h 4 rfl dX4_takeNumber_137 ?_
                        refine r_iast (pc := 139) (w := nI (((0 + d1) * 10) + d2)) h a_nu i rfl (by omega) rfl dX4_takeNumber_139 ?_
                        refine V.sg (tB_sn _ _ _ _ _ _ _) ?_
                        have ef : fig tx n lo hi [100, 10, 1] 0 a = (none, a + 1 + 1) := by rw [fig_s hd1 (by omega) (by omega), fig_s hd2 (by omega) (by omega), fig_f hd3 (by omega)]
                        exact hret _ (⟨_, by rw [ef]; rfl, fun v hv => by rw [ef] at hv; cases hv⟩) 140 _ dX4_takeNumber_140
                      · skip
                        rw [nI_ltI (by omega) (by omega)] at c81
                        refine r_iload (pc := 84) h 0 rfl dX4_takeNumber_84 ?_
                        refine r_iload (pc := 86) h 2 rfl dX4_takeNumber_86 ?_
                        refine r_iadd (pc := 88) (v := nI (((((((0 + d1) * 10) + d2) * 10) + d3) * 1) + 1)) h (nI_add _ _) dX4_takeNumber_88 ?_
                        refine r_iconst (pc := 89) (v := nI 1) h (by decide) dX4_takeNumber_89 ?_
                        refine r_isub (pc := 90) (v := nI ((((((((0 + d1) * 10) + d2) * 10) + d3) * 1) + 1) - 1)) h (pk_sub (by omega)) dX4_takeNumber_90 ?_
                        refine r_iload_n (pc := 91) h 8 rfl rfl dX4_takeNumber_91 ?_
                        refine r_icmp_ge (pc := 92) (tgt := 106) h (by decide) dX4_takeNumber_92 (fun c92 => ?_) (fun c92 => ?_)
                        · skip
                          rw [nI_leI (by omega) (by omega)] at c92
                          refine r_iload (pc := 106) h 4 rfl dX4_takeNumber_106 ?_
                          refine r_bipush (pc := 108) (v := nI 10) h (by decide) dX4_takeNumber_108 ?_
                          refine r_imul (pc := 110) (v := nI ((((0 + d1) * 10) + d2) * 10)) h (pk_mul _ _) dX4_takeNumber_110 ?_
                          refine r_iload (pc := 111) h 1 rfl dX4_takeNumber_111 ?_
                          refine r_iadd (pc := 113) (v := nI (((((0 + d1) * 10) + d2) * 10) + d3)) h (nI_add _ _) dX4_takeNumber_113 ?_
                          refine r_istore (pc := 114) (lo2 := [(5, .int (nI (((((0 + d1) * 10) + d2) * 10) + d3))), (9, .int (nI ((((((0 + d1) * 10) + d2) * 10) + d3) * 1))), (8, .int (nI d3)), (6, .int (nI 1)), (7, .int (nI 2)), (0, .ref (G.2.1 + 1)), (1, .int (nI i)), (2, .int (nI 3)), (3, .int (nI lo)), (4, .int (nI hi))]) h (by decide) rfl dX4_takeNumber_114 ?_
                          refine r_aload_n (pc := 116) h 5 rfl rfl dX4_takeNumber_116 ?_
                          refine r_dup (pc := 117) h rfl dX4_takeNumber_117 ?_
                          refine g_4_at (pc := 118) h mw_5_17 dX4_takeNumber_118 ?_
                          refine r_topi (b := nI ((a + 1) + 1)) (tB_a _ _ _ _ _) ?_
                          refine r_iconst (pc := 121) (v := nI 1) h (by decide) dX4_takeNumber_121 ?_
                          refine r_iadd (pc := 122) (v := nI (((a + 1) + 1) + 1)) h (nI_add _ _) dX4_takeNumber_122 ?_
                          refine p_4_at (pc := 123) h mw_5_17 dX4_takeNumber_123 ?_
                          refine V.sg (tB_sa _ _ _ _ _ _) ?_
                          refine r_iinc (pc := 126) (v := nI 3) (lo2 := [(7, .int (nI 3)), (5, .int (nI (((((0 + d1) * 10) + d2) * 10) + d3))), (9, .int (nI ((((((0 + d1) * 10) + d2) * 10) + d3) * 1))), (8, .int (nI d3)), (6, .int (nI 1)), (0, .ref (G.2.1 + 1)), (1, .int (nI i)), (2, .int (nI 3)), (3, .int (nI lo)), (4, .int (nI hi))]) h 4 rfl (by decide) (by decide) rfl dX4_takeNumber_126 ?_
                          refine r_goto (pc := 129) (tgt := 31) h (by decide) dX4_takeNumber_129 ?_
                          refine r_iload (pc := 31) h 0 rfl dX4_takeNumber_31 ?_
                          refine r_iload_n (pc := 33) h 7 rfl rfl dX4_takeNumber_33 ?_
                          refine r_icmp_ge (pc := 34) (tgt := 132) h (by decide) dX4_takeNumber_34 (fun _ => ?_) (fun c34 => absurd c34 (by decide))
                          refine r_aload_n (pc := 132) h 5 rfl rfl dX4_takeNumber_132 ?_
                          refine g_4_numbers (pc := 133) h mw_2_8 dX4_takeNumber_133 ?_
                          refine r_iload_n (pc := 136) h 6 rfl rfl dX4_takeNumber_136 ?_
                          refine r_iload (pc := 137) h 1 rfl dX4_takeNumber_137 ?_
                          refine r_iast (pc := 139) (w := nI (((((0 + d1) * 10) + d2) * 10) + d3)) h a_nu i rfl (by omega) rfl dX4_takeNumber_139 ?_
                          refine V.sg (tB_sn _ _ _ _ _ _ _) ?_
                          have ef : fig tx n lo hi [100, 10, 1] 0 a = (some (0 + d1 * 100 + d2 * 10 + d3 * 1), a + 1 + 1 + 1) := by rw [fig_s hd1 (by omega) (by omega), fig_s hd2 (by omega) (by omega), fig_s hd3 (by omega) (by omega), fig_e]
                          exact hret _ (⟨_, by rw [ef]; rfl, fun v hv => by rw [ef] at hv; cases hv; exact congrArg (fun z => upd nu i (nI z)) (by omega)⟩) 140 _ dX4_takeNumber_140
                        · skip
                          rw [nI_leI (by omega) (by omega)] at c92
                          refine r_aload_n (pc := 95) h 5 rfl rfl dX4_takeNumber_95 ?_
                          refine r_aload_n (pc := 96) h 5 rfl rfl dX4_takeNumber_96 ?_
                          refine g_4_at (pc := 97) h mw_5_17 dX4_takeNumber_97 ?_
                          refine r_topi (b := nI ((a + 1) + 1)) (tB_a _ _ _ _ _) ?_
                          refine p_4_error (pc := 100) h mw_5_12 dX4_takeNumber_100 ?_
                          refine V.sg (tB_se _ _ _ _ _ _) ?_
                          refine r_goto (pc := 103) (tgt := 126) h (by decide) dX4_takeNumber_103 ?_
                          refine r_iinc (pc := 126) (v := nI 3) (lo2 := [(7, .int (nI 3)), (9, .int (nI ((((((0 + d1) * 10) + d2) * 10) + d3) * 1))), (8, .int (nI d3)), (6, .int (nI 1)), (5, .int (nI (((0 + d1) * 10) + d2))), (0, .ref (G.2.1 + 1)), (1, .int (nI i)), (2, .int (nI 3)), (3, .int (nI lo)), (4, .int (nI hi))]) h 3 rfl (by decide) (by decide) rfl dX4_takeNumber_126 ?_
                          refine r_goto (pc := 129) (tgt := 31) h (by decide) dX4_takeNumber_129 ?_
                          refine r_iload (pc := 31) h 0 rfl dX4_takeNumber_31 ?_
                          refine r_iload_n (pc := 33) h 7 rfl rfl dX4_takeNumber_33 ?_
                          refine r_icmp_ge (pc := 34) (tgt := 132) h (by decide) dX4_takeNumber_34 (fun _ => ?_) (fun c34 => absurd c34 (by decide))
                          refine r_aload_n (pc := 132) h 5 rfl rfl dX4_takeNumber_132 ?_
                          refine g_4_numbers (pc := 133) h mw_2_8 dX4_takeNumber_133 ?_
                          refine r_iload_n (pc := 136) h 6 rfl rfl dX4_takeNumber_136 ?_
                          refine r_iload (pc := 137) h 4 rfl dX4_takeNumber_137 ?_
                          refine r_iast (pc := 139) (w := nI (((0 + d1) * 10) + d2)) h a_nu i rfl (by omega) rfl dX4_takeNumber_139 ?_
                          refine V.sg (tB_sn _ _ _ _ _ _ _) ?_
                          have ef : fig tx n lo hi [100, 10, 1] 0 a = (none, a + 1 + 1) := by rw [fig_s hd1 (by omega) (by omega), fig_s hd2 (by omega) (by omega), fig_f hd3 (by omega)]
                          exact hret _ (⟨_, by rw [ef]; rfl, fun v hv => by rw [ef] at hv; cases hv⟩) 140 _ dX4_takeNumber_140
                · skip
                  rw [nI_leI (by omega) (by omega)] at c92
                  refine r_aload_n (pc := 95) h 5 rfl rfl dX4_takeNumber_95 ?_
                  refine r_aload_n (pc := 96) h 5 rfl rfl dX4_takeNumber_96 ?_
                  refine g_4_at (pc := 97) h mw_5_17 dX4_takeNumber_97 ?_
                  refine r_topi (b := nI (a + 1)) (tB_a _ _ _ _ _) ?_
                  refine p_4_error (pc := 100) h mw_5_12 dX4_takeNumber_100 ?_
                  refine V.sg (tB_se _ _ _ _ _ _) ?_
                  refine r_goto (pc := 103) (tgt := 126) h (by decide) dX4_takeNumber_103 ?_
                  refine r_iinc (pc := 126) (v := nI 2) (lo2 := [(7, .int (nI 2)), (9, .int (nI ((((0 + d1) * 10) + d2) * 10))), (8, .int (nI d2)), (6, .int (nI 10)), (5, .int (nI (0 + d1))), (0, .ref (G.2.1 + 1)), (1, .int (nI i)), (2, .int (nI 3)), (3, .int (nI lo)), (4, .int (nI hi))]) h 3 rfl (by decide) (by decide) rfl dX4_takeNumber_126 ?_
                  refine r_goto (pc := 129) (tgt := 31) h (by decide) dX4_takeNumber_129 ?_
                  refine r_iload (pc := 31) h 0 rfl dX4_takeNumber_31 ?_
                  refine r_iload_n (pc := 33) h 7 rfl rfl dX4_takeNumber_33 ?_
                  refine r_icmp_ge (pc := 34) (tgt := 132) h (by decide) dX4_takeNumber_34 (fun c34 => absurd c34 (by decide)) (fun _ => ?_)
                  refine r_aload_n (pc := 37) h 5 rfl rfl dX4_takeNumber_37 ?_
                  refine g_4_error (pc := 38) h mw_5_12 dX4_takeNumber_38 ?_
                  refine r_topi (b := nI (a + 1)) (tB_e _ _ _ _ _) ?_
                  refine r_iconst (pc := 41) (v := (-1)) h (by decide) dX4_takeNumber_41 ?_
                  refine r_icmp_ne (pc := 42) (tgt := 132) h (by decide) dX4_takeNumber_42 (fun c42 => ?_) (fun c42 => ?_)
                  · skip
                    refine r_aload_n (pc := 132) h 5 rfl rfl dX4_takeNumber_132 ?_
                    refine g_4_numbers (pc := 133) h mw_2_8 dX4_takeNumber_133 ?_
                    refine r_iload_n (pc := 136) h 6 rfl rfl dX4_takeNumber_136 ?_
                    refine r_iload (pc := 137) h 4 rfl dX4_takeNumber_137 ?_
                    refine r_iast (pc := 139) (w := nI (0 + d1)) h a_nu i rfl (by omega) rfl dX4_takeNumber_139 ?_
                    refine V.sg (tB_sn _ _ _ _ _ _ _) ?_
                    have ef : fig tx n lo hi [100, 10, 1] 0 a = (none, a + 1) := by rw [fig_s hd1 (by omega) (by omega), fig_f hd2 (by omega)]
                    exact hret _ (⟨_, by rw [ef]; rfl, fun v hv => by rw [ef] at hv; cases hv⟩) 140 _ dX4_takeNumber_140
                  · skip
                    exact absurd c42 (nI_ne (by omega))
        · skip
          rw [nI_leI (by omega) (by omega)] at c92
          refine r_aload_n (pc := 95) h 5 rfl rfl dX4_takeNumber_95 ?_
          refine r_aload_n (pc := 96) h 5 rfl rfl dX4_takeNumber_96 ?_
          refine g_4_at (pc := 97) h mw_5_17 dX4_takeNumber_97 ?_
          refine r_topi (b := nI a) (tB_a _ _ _ _ _) ?_
          refine p_4_error (pc := 100) h mw_5_12 dX4_takeNumber_100 ?_
          refine V.sg (tB_se _ _ _ _ _ _) ?_
          refine r_goto (pc := 103) (tgt := 126) h (by decide) dX4_takeNumber_103 ?_
          refine r_iinc (pc := 126) (v := nI 1) (lo2 := [(7, .int (nI 1)), (9, .int (nI ((0 + d1) * 100))), (8, .int (nI d1)), (6, .int (nI 100)), (5, .int (nI 0)), (0, .ref (G.2.1 + 1)), (1, .int (nI i)), (2, .int (nI 3)), (3, .int (nI lo)), (4, .int (nI hi))]) h 3 rfl (by decide) (by decide) rfl dX4_takeNumber_126 ?_
          refine r_goto (pc := 129) (tgt := 31) h (by decide) dX4_takeNumber_129 ?_
          refine r_iload (pc := 31) h 0 rfl dX4_takeNumber_31 ?_
          refine r_iload_n (pc := 33) h 7 rfl rfl dX4_takeNumber_33 ?_
          refine r_icmp_ge (pc := 34) (tgt := 132) h (by decide) dX4_takeNumber_34 (fun c34 => absurd c34 (by decide)) (fun _ => ?_)
          refine r_aload_n (pc := 37) h 5 rfl rfl dX4_takeNumber_37 ?_
          refine g_4_error (pc := 38) h mw_5_12 dX4_takeNumber_38 ?_
          refine r_topi (b := nI a) (tB_e _ _ _ _ _) ?_
          refine r_iconst (pc := 41) (v := (-1)) h (by decide) dX4_takeNumber_41 ?_
          refine r_icmp_ne (pc := 42) (tgt := 132) h (by decide) dX4_takeNumber_42 (fun c42 => ?_) (fun c42 => ?_)
          · skip
            refine r_aload_n (pc := 132) h 5 rfl rfl dX4_takeNumber_132 ?_
            refine g_4_numbers (pc := 133) h mw_2_8 dX4_takeNumber_133 ?_
            refine r_iload_n (pc := 136) h 6 rfl rfl dX4_takeNumber_136 ?_
            refine r_iload (pc := 137) h 4 rfl dX4_takeNumber_137 ?_
            refine r_iast (pc := 139) (w := nI 0) h a_nu i rfl (by omega) rfl dX4_takeNumber_139 ?_
            refine V.sg (tB_sn _ _ _ _ _ _ _) ?_
            have ef : fig tx n lo hi [100, 10, 1] 0 a = (none, a) := by rw [fig_f hd1 (by omega)]
            exact hret _ (⟨_, by rw [ef]; rfl, fun v hv => by rw [ef] at hv; cases hv⟩) 140 _ dX4_takeNumber_140
          · skip
            exact absurd c42 (nI_ne (by omega))

set_option maxRecDepth 100000 in
set_option maxHeartbeats 800000 in
theorem c_takeNumberE3 (l : Launch) (G : Gl) (σ : Sg) (n : Nat) (tx : Nat → Nat) (ht : TextC n tx σ) (a p : Nat) (hp : p < 2 ^ 31) (k : Int32) (nu : Nat → Int32) (i lo hi : Nat) (hi3 : i < 3) : Cv l yX4_takeNumber cX4_takeNumber 10 ({ frames := 1, cells := 0, slots := 0, locals := 40 } : Room) G [.ref (G.2.1 + 1), .int (nI i), .int (nI 3), .int (nI lo), .int (nI hi)] (tB σ (nI a) (nI p) k nu) (fun σ2 => σ2 = tB σ (nI a) (nI p) k (upd nu i (nI 0))) := by
  refine Cv_of (own := RX4) rfl (by decide +kernel) (lo := [(0, .ref (G.2.1 + 1)), (1, .int (nI i)), (2, .int (nI 3)), (3, .int (nI lo)), (4, .int (nI hi))]) rfl (Nat.le_of_ble_eq_true rfl) ?_
  intro x Q hxl h hret
  subst hxl
  have hn9 := ht.1.1
  refine r_iconst (pc := 0) (v := nI 0) h (by decide) dX4_takeNumber_0 ?_
  refine r_istore (pc := 1) (lo2 := [(5, .int (nI 0)), (0, .ref (G.2.1 + 1)), (1, .int (nI i)), (2, .int (nI 3)), (3, .int (nI lo)), (4, .int (nI hi))]) h (by decide) rfl dX4_takeNumber_1 ?_
  refine r_iload_n (pc := 3) h 3 rfl rfl dX4_takeNumber_3 ?_
  refine r_iconst (pc := 4) (v := nI 3) h (by decide) dX4_takeNumber_4 ?_
  refine r_icmp_ne (pc := 5) (tgt := 14) h (by decide) dX4_takeNumber_5 (fun c5 => absurd c5 (by decide)) (fun _ => ?_)
  refine r_sipush (pc := 8) (v := nI 1000) h (by decide) dX4_takeNumber_8 ?_
  refine r_goto (pc := 11) (tgt := 26) h (by decide) dX4_takeNumber_11 ?_
  refine r_istore (pc := 26) (lo2 := [(6, .int (nI 1000)), (5, .int (nI 0)), (0, .ref (G.2.1 + 1)), (1, .int (nI i)), (2, .int (nI 3)), (3, .int (nI lo)), (4, .int (nI hi))]) h (by decide) rfl dX4_takeNumber_26 ?_
  refine r_iconst (pc := 28) (v := nI 0) h (by decide) dX4_takeNumber_28 ?_
  refine r_istore (pc := 29) (lo2 := [(7, .int (nI 0)), (6, .int (nI 1000)), (5, .int (nI 0)), (0, .ref (G.2.1 + 1)), (1, .int (nI i)), (2, .int (nI 3)), (3, .int (nI lo)), (4, .int (nI hi))]) h (by decide) rfl dX4_takeNumber_29 ?_
  refine r_iload (pc := 31) h 0 rfl dX4_takeNumber_31 ?_
  refine r_iload_n (pc := 33) h 5 rfl rfl dX4_takeNumber_33 ?_
  refine r_icmp_ge (pc := 34) (tgt := 132) h (by decide) dX4_takeNumber_34 (fun c34 => absurd c34 (by decide)) (fun _ => ?_)
  refine r_aload_n (pc := 37) h 3 rfl rfl dX4_takeNumber_37 ?_
  refine g_4_error (pc := 38) h mw_5_12 dX4_takeNumber_38 ?_
  refine r_topi (b := nI p) (tB_e _ _ _ _ _) ?_
  refine r_iconst (pc := 41) (v := (-1)) h (by decide) dX4_takeNumber_41 ?_
  refine r_icmp_ne (pc := 42) (tgt := 132) h (by decide) dX4_takeNumber_42 (fun c42 => ?_) (fun c42 => ?_)
  · skip
    refine r_aload_n (pc := 132) h 3 rfl rfl dX4_takeNumber_132 ?_
    refine g_4_numbers (pc := 133) h mw_2_8 dX4_takeNumber_133 ?_
    refine r_iload_n (pc := 136) h 4 rfl rfl dX4_takeNumber_136 ?_
    refine r_iload (pc := 137) h 2 rfl dX4_takeNumber_137 ?_
    refine r_iast (pc := 139) (w := nI 0) h a_nu i rfl (by omega) rfl dX4_takeNumber_139 ?_
    refine V.sg (tB_sn _ _ _ _ _ _ _) ?_
    exact hret _ (rfl) 140 _ dX4_takeNumber_140
  · skip
    exact absurd c42 (nI_ne hp)

