/-! THE CLASS: load -/
theorem cmd_kind {tx : Nat → Nat} {n a p : Nat} {q : Nat × Nat × Nat} (h : cmd tx n a = (some q, p)) (hl : tx a < 256) : tx a = 115 ∨ tx a = 120 ∨ tx a = 106 ∨ tx a = 104 ∨ tx a = 119 ∨ tx a = 118 ∨ tx a = 117 ∨ tx a = 101 ∨ tx a = 100 ∨ tx a = 114 ∨ tx a = 110 ∨ tx a = 107 ∨ tx a = 122 ∨ tx a = 113 := by
  rcases k_cases (tx a) hl with e | e | e
  · exact e
  · rw [cmd_out e] at h; cases h
  · exfalso
    revert h
    unfold cmd
    rcases e with e | e | e | e | e | e | e | e | e <;> (rw [e]; intro h; cases h)
theorem oI_ne {o : Option Nat} {v : Nat} (h : o = some v) (hv : v < 2 ^ 31) : ¬ oI o = -1 := by subst h; exact nI_ne hv
theorem co_ne {A : Ab} {c : Int32} {w : Nat → Int64} {k d : Int32} {l p f : Nat → Int32} (hr : RelC A c w k d l p f) {K : Nat} (hK : K = 115 ∨ K = 120 ∨ K = 106 ∨ K = 104 ∨ K = 119 ∨ K = 118 ∨ K = 117 ∨ K = 101 ∨ K = 100 ∨ K = 114 ∨ K = 110 ∨ K = 107 ∨ K = 122 ∨ K = 113) {u1 u2 u3 : Int32} (h0 : ob A K u1 u2 u3 = 0) : ¬ (co A K u1 u2 u3).1 = -1 := by
  have hN12 := hr.1.1
  have hR4 := hr.2.1.1
  rcases hK with rfl | rfl | rfl | rfl | rfl | rfl | rfl | rfl | rfl | rfl | rfl | rfl | rfl | rfl
  · exact nI_ne (by omega)
  · exact nI_ne (by omega)
  · exact nI_ne (by omega)
  · exact nI_ne (by omega)
  · exact nI_ne (by omega)
  · exact nI_ne (by omega)
  · exact nI_ne (by omega)
  · exact nI_ne (by omega)
  · exact nI_ne (by omega)
  · exact nI_ne (by omega)
  · obtain ⟨i, v, rfl, hi, hv⟩ := ob_110 hR4 h0
    show ¬ oI (nextO A (toN (nI i))) = -1
    rw [toN_nI (by omega)]
    exact oI_ne hv (by have := (ath_spec hv).1; omega)
  · obtain ⟨i, m, rfl, rfl, hi, h1, h2⟩ := ob_107 hR4 h0
    show ¬ nI (skN A (toN (nI i)) (toN (nI m))) = -1
    rw [toN_nI (by omega), toN_nI (by omega)]
    exact nI_ne (by unfold skN; omega)
  · obtain ⟨i, rfl, hi⟩ := ob_R hR4 h0
    obtain ⟨-, -, -, g, hg, -, hc⟩ := hr.2.2.2.2 i hi
    show ¬ nI (aP A (toN (nI i))) = -1
    rw [toN_nI (by omega)]
    exact nI_ne (by have := cS_le (mem (aU A) (aL A i)) g; omega)
  · exact nI_ne (by omega)
theorem att_1 {A : Ab} {K : Nat} {u1 u2 u3 : Int32} (h : ¬ ob A K u1 u2 u3 = 0) : (att A K u1 u2 u3).1 = -1 := by unfold att; rw [if_neg h]
theorem att_0 {A : Ab} {K : Nat} {u1 u2 u3 : Int32} (h : ob A K u1 u2 u3 = 0) : att A K u1 u2 u3 = co A K u1 u2 u3 := by unfold att; rw [if_pos h]
theorem cot_bad {tx : Nat → Nat} {n i a e s : Nat} {A : Ab} (he : (runT tx n 120 1 emptyA 0).1 = none) (h : runT tx n 120 1 emptyA 0 = runT tx n (120 - i) a A s) (hi : i < 120) (ha : a < n) (hc : cmd tx n a = (none, e)) : False := by
  rw [h, show 120 - i = (119 - i) + 1 by omega, runT_bad ha hc] at he
  cases he
theorem cot_ok {tx : Nat → Nat} {n i a s x y z a2 : Nat} {A : Ab} (h : runT tx n 120 1 emptyA 0 = runT tx n (120 - i) a A s) (hi : i < 120) (ha : a < n) (hc : cmd tx n a = (some (x, y, z), a2)) : runT tx n 120 1 emptyA 0 = runT tx n (120 - (i + 1)) a2 (att A (tx a) (nI x) (nI y) (nI z)).2 (if ob A (tx a) (nI x) (nI y) (nI z) = 0 then s else s + 1) :=
  h.trans ((congrArg (fun q => runT tx n q a A s) (show 120 - i = (120 - (i + 1)) + 1 by omega)).trans (runT_step ha hc))
set_option maxRecDepth 100000 in
set_option maxHeartbeats 800000 in
theorem c_carryOutText (l : Launch) (G : Gl) (σ : Sg) (n : Nat) (tx : Nat → Nat) (ht : TextC n tx σ) (hr0 : RelB emptyA σ 4) (he : (runA tx n).1 = none) : Ci l yX5_carryOutText cX5_carryOutText 3 .int ({ frames := 6, cells := 0, slots := 0, locals := 143 } : Room) G [.ref (G.2.1 + 0)] σ (fun r σ2 => r = nI (runA tx n).2.2 ∧ RelB (runA tx n).2.1 σ2 4 ∧ TextC n tx σ2 ∧ Out 1 11 σ σ2) := by
  refine Ci_of (own := RX5) rfl (by decide +kernel) (lo := [(0, .ref (G.2.1 + 0))]) rfl (Nat.le_of_ble_eq_true rfl) (fun r s hp => by obtain ⟨rfl, _⟩ := hp; rfl) ?_
  intro x Q hxl h hret
  subst hxl
  have hn9 := ht.1.1
  refine V.sg (show σ = tB σ (σ.1 1 2) (σ.1 1 3) (σ.1 1 4) (σ.1 3) from (tB_self σ).symm) ?_
  refine r_iconst (pc := 0) (v := nI 0) h (by decide) dX5_carryOutText_0 ?_
  refine r_istore_n (pc := 1) (lo2 := [(1, .int (nI 0)), (0, .ref (G.2.1 + 0))]) h rfl (by decide) rfl dX5_carryOutText_1 ?_
  refine r_aload_n (pc := 2) h 1 rfl rfl dX5_carryOutText_2 ?_
  refine g_5_text (pc := 3) h mw_1_13 dX5_carryOutText_3 ?_
  refine r_cVv (pc := 6) (As := []) (st := []) h lk_RX5_192 (c_begin x.2.1 G σ n tx ht (σ.1 1 2) (σ.1 1 3) (σ.1 1 4) (σ.1 3)) rc_4 (by decide) rfl rfl (by first | decide | exact Nat.le_of_ble_eq_true rfl) (by decide) dX5_carryOutText_6 (fun s2 q3 => ?_)
  subst q3
  have hbeg : begB n tx = true := by
    cases hb : begB n tx with
    | true => rfl
    | false => rw [runA_N hb] at he; cases he
  have he1 : (runT tx n 120 1 emptyA 0).1 = none := by rw [← runA_L hbeg]; exact he
  rw [hbeg]
  refine V.sg (show _ = tB σ (nI 1) (oI none) (σ.1 1 4) (σ.1 3) from rfl) ?_
  refine r_iconst (pc := 9) (v := nI 0) h (by decide) dX5_carryOutText_9 ?_
  refine r_istore_n (pc := 10) (lo2 := [(2, .int (nI 0)), (1, .int (nI 0)), (0, .ref (G.2.1 + 0))]) h rfl (by decide) rfl dX5_carryOutText_10 ?_
  have lp11 : ∀ (fu : Nat) (i : Nat) (a : Nat) (s : Nat) (τ : Sg) (A : Ab) (k : Int32) (nu : Nat → Int32), i ≤ 120 → a ≤ n → i + 1 ≤ a → runT tx n 120 1 emptyA 0 = runT tx n (120 - i) a A s → TextC n tx τ → RelB A τ 4 → Out 1 11 σ τ → 120 - i < fu → V x G 3 0 0 Q (tB τ (nI a) (oI none) k nu) 11 [(0, .ref (G.2.1 + 0)), (1, .int (nI s)), (2, .int (nI i))] [] := by
    intro fu
    induction fu with
    | zero => intro i a s τ A k nu hi ha hia hrun ht hrl ho hfu; exact absurd hfu (Nat.not_lt_zero _)
    | succ fu ih11 =>
      intro i a s τ A k nu hi ha hia hrun ht hrl ho hfu
      refine r_iload_n (pc := 11) h 2 rfl rfl dX5_carryOutText_11 ?_
      refine r_bipush (pc := 12) (v := nI 120) h (by decide) dX5_carryOutText_12 ?_
      refine r_icmp_ge (pc := 14) (tgt := 88) h (by decide) dX5_carryOutText_14 (fun c14 => ?_) (fun c14 => ?_)
      · skip
        rw [nI_leI (by omega) (by omega)] at c14
        refine r_iload_n (pc := 88) h 1 rfl rfl dX5_carryOutText_88 ?_
        exact hret _ _ (⟨by rw [runA_L hbeg, hrun, runT_stop (by omega)], by rw [runA_L hbeg, hrun, runT_stop (by omega)]; exact hrl.o (tB_out _ _ _ _ _) (by omega), TextC.tB _ _ _ _ ht, ho.tr ((tB_out _ _ _ _ _).wd (by omega) (by omega))⟩) 89 _ dX5_carryOutText_89
      · skip
        rw [nI_leI (by omega) (by omega)] at c14
        refine r_aload_n (pc := 17) h 0 rfl rfl dX5_carryOutText_17 ?_
        refine g_5_text (pc := 18) h mw_1_13 dX5_carryOutText_18 ?_
        refine r_cVi (pc := 21) (As := []) (st := []) h lk_RX5_195 (c_hasMore x.2.1 G τ n tx ht a (by omega) none (fun v hv => by cases hv) k nu) rc_4 (by decide) rfl rfl (by first | decide | exact Nat.le_of_ble_eq_true rfl) (by decide) dX5_carryOutText_21 (fun r4 s5 q6 => ?_)
        rw [q6.1, q6.2]
        refine r_if_eq (pc := 24) (tgt := 88) h (by decide) dX5_carryOutText_24 (fun c24 => ?_) (fun c24 => ?_)
        · skip
          replace c24 := zB_0.mp c24
          have han : ¬ a < n := by simpa using c24
          refine r_iload_n (pc := 88) h 1 rfl rfl dX5_carryOutText_88 ?_
          exact hret _ _ (⟨by rw [runA_L hbeg, hrun, runT_stop (by omega)], by rw [runA_L hbeg, hrun, runT_stop (by omega)]; exact hrl.o (tB_out _ _ _ _ _) (by omega), TextC.tB _ _ _ _ ht, ho.tr ((tB_out _ _ _ _ _).wd (by omega) (by omega))⟩) 89 _ dX5_carryOutText_89
        · skip
          replace c24 := zB_n0.mp c24
          have han : a < n := by simpa using c24
          refine V.sg (show _ = tB τ (nI a) (-1) k nu from rfl) ?_
          refine r_aload_n (pc := 27) h 0 rfl rfl dX5_carryOutText_27 ?_
          refine g_5_text (pc := 28) h mw_1_13 dX5_carryOutText_28 ?_
          refine r_cVv (pc := 31) (As := []) (st := []) h lk_RX5_199 (c_takeCommand x.2.1 G τ n tx ht a han k nu) rc_4 (by decide) rfl rfl (by first | decide | exact Nat.le_of_ble_eq_true rfl) (by decide) dX5_carryOutText_31 (fun s8 q9 => ?_)
          obtain ⟨qa, qb⟩ := q9
          obtain ⟨oc, ac, hoc⟩ : ∃ o p, cmd tx n a = (o, p) := ⟨_, _, rfl⟩
          cases oc with
          | none => exact (cot_bad he1 hrun (by omega) han hoc).elim
          | some v9 =>
            obtain ⟨x9, y9, z9⟩ := v9
            obtain ⟨nu3, ha2, ha3, e3, e4, e5, e6⟩ := qb x9 y9 z9 ac hoc
            subst e3
            refine V.sg (show _ = tB τ (nI ac) (-1) (nI (tx a)) nu3 from rfl) ?_
            refine r_aload_n (pc := 34) h 0 rfl rfl dX5_carryOutText_34 ?_
            refine g_5_state (pc := 35) h mw_1_17 dX5_carryOutText_35 ?_
            refine r_aload_n (pc := 38) h 0 rfl rfl dX5_carryOutText_38 ?_
            refine g_5_text (pc := 39) h mw_1_13 dX5_carryOutText_39 ?_
            refine g_4_kind (pc := 42) h mw_7_11 dX5_carryOutText_42 ?_
            refine r_topi (b := nI (tx a)) (tB_k _ _ _ _ _) ?_
            refine r_aload_n (pc := 45) h 0 rfl rfl dX5_carryOutText_45 ?_
            refine g_5_text (pc := 46) h mw_1_13 dX5_carryOutText_46 ?_
            refine g_4_numbers (pc := 49) h mw_7_12 dX5_carryOutText_49 ?_
            refine r_iconst (pc := 52) (v := nI 0) h (by decide) dX5_carryOutText_52 ?_
            refine r_iald (pc := 53) h a_nu 0 rfl (by omega) dX5_carryOutText_53 ?_
            refine r_topi (b := nI x9) ((tB_n _ _ _ _ _ _).trans e4) ?_
            refine r_aload_n (pc := 54) h 0 rfl rfl dX5_carryOutText_54 ?_
            refine g_5_text (pc := 55) h mw_1_13 dX5_carryOutText_55 ?_
            refine g_4_numbers (pc := 58) h mw_7_12 dX5_carryOutText_58 ?_
            refine r_iconst (pc := 61) (v := nI 1) h (by decide) dX5_carryOutText_61 ?_
            refine r_iald (pc := 62) h a_nu 1 rfl (by omega) dX5_carryOutText_62 ?_
            refine r_topi (b := nI y9) ((tB_n _ _ _ _ _ _).trans e5) ?_
            refine r_aload_n (pc := 63) h 0 rfl rfl dX5_carryOutText_63 ?_
            refine g_5_text (pc := 64) h mw_1_13 dX5_carryOutText_64 ?_
            refine g_4_numbers (pc := 67) h mw_7_12 dX5_carryOutText_67 ?_
            refine r_iconst (pc := 70) (v := nI 2) h (by decide) dX5_carryOutText_70 ?_
            refine r_iald (pc := 71) h a_nu 2 rfl (by omega) dX5_carryOutText_71 ?_
            refine r_topi (b := nI z9) ((tB_n _ _ _ _ _ _).trans e6) ?_
            refine r_cVi (pc := 72) (As := [.int (nI (tx a)), .int (nI x9), .int (nI y9), .int (nI z9)]) (st := []) h lk_RX5_208 (c_attempt x.2.1 G (tB τ (nI ac) (-1) (nI (tx a)) nu3) 4 blk_4 A (hrl.o (tB_out _ _ _ _ _) (by omega)) (tx a) (cmd_kind hoc (ht.2 a han).2) (nI x9) (nI y9) (nI z9)) (rc_3 blk_4) (by decide) rfl rfl (by first | decide | exact Nat.le_of_ble_eq_true rfl) (by decide) dX5_carryOutText_72 (fun r10 s11 q12 => ?_)
            obtain ⟨k0, k1⟩ := q12
            subst k0
            have f2 : s11.1 1 2 = nI ac := (k1.out.i 1 2 (by omega)).trans (tB_a _ _ _ _ _)
            have f3 : s11.1 1 3 = -1 := (k1.out.i 1 3 (by omega)).trans (tB_e _ _ _ _ _)
            refine V.sg (show s11 = tB s11 (nI ac) (oI none) (s11.1 1 4) (s11.1 3) from by rw [show oI none = s11.1 1 3 from f3.symm, ← f2]; exact (tB_self s11).symm) ?_
            refine r_iconst (pc := 75) (v := (-1)) h (by decide) dX5_carryOutText_75 ?_
            refine r_icmp_ne (pc := 76) (tgt := 82) h (by decide) dX5_carryOutText_76 (fun c76 => ?_) (fun c76 => ?_)
            · skip
              have hob : ob A (tx a) (nI x9) (nI y9) (nI z9) = 0 := Classical.byContradiction fun q => c76 (att_1 q)
              have hst := cot_ok hrun (by omega) han hoc
              rw [if_pos hob] at hst
              refine r_iinc (pc := 82) (v := nI (i + 1)) (lo2 := [(2, .int (nI (i + 1))), (0, .ref (G.2.1 + 0)), (1, .int (nI s))]) h 2 rfl (iinc1 _) (by decide) rfl dX5_carryOutText_82 ?_
              refine r_goto (pc := 85) (tgt := 11) h (by decide) dX5_carryOutText_85 ?_
              refine r_sub (lo2 := [(0, .ref (G.2.1 + 0)), (1, .int (nI s)), (2, .int (nI (i + 1)))]) [1, 2, 0] rfl ?_
              exact ih11 (i + 1) ac s s11 (att A (tx a) (nI x9) (nI y9) (nI z9)).2 _ _ (by omega) (by omega) (by omega) hst ((TextC.tB _ _ _ _ ht).o k1.out (by omega)) k1.rel (((ho.tr ((tB_out _ _ _ _ _).wd (by omega) (by omega))).tr (k1.out.wd (by omega) (by omega)))) (by omega)
            · skip
              have hob : ¬ ob A (tx a) (nI x9) (nI y9) (nI z9) = 0 := fun q => co_ne (hrl.o (tB_out τ (nI ac) (-1) (nI (tx a)) nu3) (by omega)) (cmd_kind hoc (ht.2 a han).2) q (by rw [← att_0 q]; exact c76)
              have hst := cot_ok hrun (by omega) han hoc
              rw [if_neg hob] at hst
              refine r_iinc (pc := 79) (v := nI (s + 1)) (lo2 := [(1, .int (nI (s + 1))), (0, .ref (G.2.1 + 0)), (2, .int (nI i))]) h 1 rfl (iinc1 _) (by decide) rfl dX5_carryOutText_79 ?_
              refine r_iinc (pc := 82) (v := nI (i + 1)) (lo2 := [(2, .int (nI (i + 1))), (1, .int (nI (s + 1))), (0, .ref (G.2.1 + 0))]) h 2 rfl (iinc1 _) (by decide) rfl dX5_carryOutText_82 ?_
              refine r_goto (pc := 85) (tgt := 11) h (by decide) dX5_carryOutText_85 ?_
              refine r_sub (lo2 := [(0, .ref (G.2.1 + 0)), (1, .int (nI (s + 1))), (2, .int (nI (i + 1)))]) [2, 1, 0] rfl ?_
              exact ih11 (i + 1) ac (s + 1) s11 (att A (tx a) (nI x9) (nI y9) (nI z9)).2 _ _ (by omega) (by omega) (by omega) hst ((TextC.tB _ _ _ _ ht).o k1.out (by omega)) k1.rel (((ho.tr ((tB_out _ _ _ _ _).wd (by omega) (by omega))).tr (k1.out.wd (by omega) (by omega)))) (by omega)
  refine r_sub (lo2 := [(0, .ref (G.2.1 + 0)), (1, .int (nI 0)), (2, .int (nI 0))]) [2, 1, 0] rfl ?_
  exact lp11 _ 0 1 0 σ emptyA _ _ (by omega) (by have := of_decide_eq_true hbeg; omega) (by omega) rfl ht hr0 (Out.rf _ _ _) (Nat.lt_succ_self _)

theorem run_lt {tx : Nat → Nat} {n : Nat} (hn : n ≤ 120) : ∀ (f a : Nat) (A : Ab) (s v : Nat), (runT tx n f a A s).1 = some v → v ≤ 120
  | 0, a, A, s, v, h => by cases h
  | f + 1, a, A, s, v, h => by
    by_cases e : a < n
    · cases q : cmd tx n a with
      | mk o p =>
        cases o with
        | none => rw [runT_bad e q] at h; cases h; have := cmd_le q e; omega
        | some x =>
          obtain ⟨x, y, z⟩ := x
          rw [runT_step e q] at h
          exact run_lt hn f _ _ _ v h
    · rw [runT_stop (by omega)] at h; cases h
theorem runA_m1 {tx : Nat → Nat} {n : Nat} (hn : n ≤ 120) : oI (runA tx n).1 = -1 ↔ (runA tx n).1 = none := oI_eq (fun v hv => by
  cases hb : begB n tx with
  | false => rw [runA_N hb] at hv; cases hv; omega
  | true => rw [runA_L hb] at hv; have := run_lt hn _ _ _ _ _ hv; omega)
theorem inv_load {n : Nat} {tx : Nat → Nat} {A A2 : Ab} {m : Nat} {H H2 : Nat → Ab} {sv : Nat → Bool} {sl : Nat → Ab} {σ σ1 σ2 σ3 : Sg} (hi : InvC n tx A m H sv sl σ) (k1 : Out 1 4 σ σ1) (k2 : Out 4 11 σ1 σ2) (k3 : RelB A2 σ3 4) (k4 : TextC n tx σ3) (k5 : Out 1 11 (sI (sI (sI σ2 11 2 (nI 0)) 112 0 (nI 0)) 112 1 (nI 0)) σ3) : InvC n tx A2 0 H2 (fun _ => false) sl σ3 := by
  have h1 := (hi.2.2.1.o k1 (by omega)).o k2 (by omega)
  have h2 := his_forget h1 H2
  have h3 := ((h2.o (out_sI _ 112 0 (nI 0)) (by omega)).o (out_sI _ 112 1 (nI 0)) (by omega)).o k5 (by omega)
  refine ⟨k4, k3, h3, fun j hj => ⟨?_, fun q => by cases q⟩⟩
  rw [k5.i 112 j (by omega)]
  by_cases e : j = 1
  · subst e; exact sI_s _ _ _ _
  · rw [sI_n _ _ _ _ e, show j = 0 by omega]; exact sI_s _ _ _ _
set_option maxRecDepth 100000 in
set_option maxHeartbeats 800000 in
theorem c_x_load (l : Launch) (hst : l.stackTraces = false) (G : Gl) (σ : Sg) (n : Nat) (tx : Nat → Nat) (A : Ab) (m : Nat) (H : Nat → Ab) (sv : Nat → Bool) (sl : Nat → Ab) (hi : InvC n tx A m H sv sl σ) : Xi l yX5_load cX5_load 2 .int ({ frames := 7, cells := 1, slots := 6, locals := 165 } : Room) G [.ref (G.2.1 + 0)] σ (fun r σ2 => cB (decide ((runA tx n).1 = none)) 3 = 0 ∧ r = nI (runA tx n).2.2 ∧ InvC n tx ((runA tx n).2.1) 0 H (fun _ => false) sl σ2 ∧ Out 1 134 σ σ2) (fun E σ2 => (Out 1 4 σ σ2 ∧ TextC n tx σ2) ∧ cB (decide ((runA tx n).1 = none)) 3 ≠ 0 ∧ E = exN (cB (decide ((runA tx n).1 = none)) 3)) := by
  refine Xi_of hst rfl (by decide +kernel) (lo := [(0, .ref (G.2.1 + 0))]) rfl (Nat.le_of_ble_eq_true rfl) (fun r s hp => by obtain ⟨_, rfl, _⟩ := hp; rfl) ?_
  intro x Q hxl h hX hret thI thS thO hout
  subst hxl
  have hr := hi.2.1
  have hN12 := hr.1.1
  have hR4 := hr.2.1.1
  have hn9 := hi.1.1.1
  have hm14 := hi.2.2.1.1.1
  refine r_aload_n (pc := 0) h 0 rfl rfl dX5_load_0 ?_
  refine g_5_text (pc := 1) h mw_1_13 dX5_load_1 ?_
  refine r_cVi (pc := 4) (As := []) (st := []) h lk_RX5_60 (c_findError x.2.1 G σ n tx hi.1) rc_4 (by decide) rfl rfl (by first | decide | exact Nat.le_of_ble_eq_true rfl) (by decide) dX5_load_4 (fun r1 s2 q3 => ?_)
  obtain ⟨k0, k1, k2⟩ := q3
  subst k0
  refine r_iconst (pc := 7) (v := (-1)) h (by decide) dX5_load_7 ?_
  refine r_icmp_eq (pc := 8) (tgt := 21) h (by decide) dX5_load_8 (fun c8 => ?_) (fun c8 => ?_)
  · skip
    refine r_aload_n (pc := 21) h 0 rfl rfl dX5_load_21 ?_
    refine g_5_state (pc := 22) h mw_1_17 dX5_load_22 ?_
    refine r_cVv (pc := 25) (As := []) (st := []) h lk_RX5_66 (c_empty x.2.1 G s2 4 blk_4) (rc_3 blk_4) (by decide) rfl rfl (by first | decide | exact Nat.le_of_ble_eq_true rfl) (by decide) dX5_load_25 (fun s5 q6 => ?_)
    have k3 := q6
    refine r_aload_n (pc := 28) h 0 rfl rfl dX5_load_28 ?_
    refine g_5_history (pc := 29) h mw_1_21 dX5_load_29 ?_
    refine r_cVv (pc := 32) (As := []) (st := []) h lk_RX5_69 (c_forget x.2.1 G s5) rc_0 (by decide) rfl rfl (by first | decide | exact Nat.le_of_ble_eq_true rfl) (by decide) dX5_load_32 (fun s8 q9 => ?_)
    subst q9
    refine r_iconst (pc := 35) (v := nI 0) h (by decide) dX5_load_35 ?_
    refine r_istore_n (pc := 36) (lo2 := [(1, .int (nI 0)), (0, .ref (G.2.1 + 0))]) h rfl (by decide) rfl dX5_load_36 ?_
    refine r_iload_n (pc := 37) h 0 rfl rfl dX5_load_37 ?_
    refine r_iconst (pc := 38) (v := nI 2) h (by decide) dX5_load_38 ?_
    refine r_icmp_ge (pc := 39) (tgt := 55) h (by decide) dX5_load_39 (fun c39 => absurd c39 (by decide)) (fun _ => ?_)
    refine r_aload_n (pc := 42) h 1 rfl rfl dX5_load_42 ?_
    refine g_5_saved (pc := 43) h mw_2_0 dX5_load_43 ?_
    refine r_iload_n (pc := 46) h 0 rfl rfl dX5_load_46 ?_
    refine r_iconst (pc := 47) (v := nI 0) h (by decide) dX5_load_47 ?_
    refine r_zast (pc := 48) (w := nI 0) h a_sv 0 rfl (by omega) (by decide) dX5_load_48 ?_
    refine r_iinc (pc := 49) (v := nI 1) (lo2 := [(1, .int (nI 1)), (0, .ref (G.2.1 + 0))]) h 0 rfl (by decide) (by decide) rfl dX5_load_49 ?_
    refine r_goto (pc := 52) (tgt := 37) h (by decide) dX5_load_52 ?_
    refine r_iload_n (pc := 37) h 0 rfl rfl dX5_load_37 ?_
    refine r_iconst (pc := 38) (v := nI 2) h (by decide) dX5_load_38 ?_
    refine r_icmp_ge (pc := 39) (tgt := 55) h (by decide) dX5_load_39 (fun c39 => absurd c39 (by decide)) (fun _ => ?_)
    refine r_aload_n (pc := 42) h 1 rfl rfl dX5_load_42 ?_
    refine g_5_saved (pc := 43) h mw_2_0 dX5_load_43 ?_
    refine r_iload_n (pc := 46) h 0 rfl rfl dX5_load_46 ?_
    refine r_iconst (pc := 47) (v := nI 0) h (by decide) dX5_load_47 ?_
    refine r_zast (pc := 48) (w := nI 0) h a_sv 1 rfl (by omega) (by decide) dX5_load_48 ?_
    refine r_iinc (pc := 49) (v := nI 2) (lo2 := [(1, .int (nI 2)), (0, .ref (G.2.1 + 0))]) h 0 rfl (by decide) (by decide) rfl dX5_load_49 ?_
    refine r_goto (pc := 52) (tgt := 37) h (by decide) dX5_load_52 ?_
    refine r_iload_n (pc := 37) h 0 rfl rfl dX5_load_37 ?_
    refine r_iconst (pc := 38) (v := nI 2) h (by decide) dX5_load_38 ?_
    refine r_icmp_ge (pc := 39) (tgt := 55) h (by decide) dX5_load_39 (fun _ => ?_) (fun c39 => absurd c39 (by decide))
    refine r_aload_n (pc := 55) h 1 rfl rfl dX5_load_55 ?_
    refine r_cVi (pc := 56) (As := []) (st := []) h lk_RX5_72 (c_carryOutText x.2.1 G (sI (sI (sI s5 11 2 (nI 0)) 112 0 (nI 0)) 112 1 (nI 0)) n tx ((((k2.o k3.out (by omega)).o (out_sI _ 11 2 (nI 0)) (by omega)).o (out_sI _ 112 0 (nI 0)) (by omega)).o (out_sI _ 112 1 (nI 0)) (by omega)) (((k3.rel.o (out_sI _ 11 2 (nI 0)) (by omega)).o (out_sI _ 112 0 (nI 0)) (by omega)).o (out_sI _ 112 1 (nI 0)) (by omega)) ((runA_m1 hn9).mp c8)) rc_5 (by decide) rfl rfl (by first | decide | exact Nat.le_of_ble_eq_true rfl) (by decide) dX5_load_56 (fun r10 s11 q12 => ?_)
    obtain ⟨k4, k5, k6, k7⟩ := q12
    subst k4
    exact V.wd (by decide) (by decide) (hret _ _ (⟨cB_t (decide_eq_true ((runA_m1 hn9).mp c8)), rfl, inv_load hi k1 k3.out k5 k6 k7, (((((k1.wd (by omega) (by omega)).tr (k3.out.wd (by omega) (by omega))).tr ((out_sI _ 11 2 (nI 0)).wd (by omega) (by omega))).tr ((out_sI _ 112 0 (nI 0)).wd (by omega) (by omega))).tr ((out_sI _ 112 1 (nI 0)).wd (by omega) (by omega))).tr (k7.wd (by omega) (by omega))⟩) 59 _ dX5_load_59)
  · skip
    exact thS _ (⟨⟨k1, k2⟩, pe_cB (decide_eq_false (fun q => c8 ((runA_m1 hn9).mpr q))) (by decide) exN_3⟩) 64 "the text is not rules" (by decide) 11 _ _ _ _ dX5_load_11 dX5_load_14 dX5_load_15 dX5_load_17 dX5_load_20 ⟨by decide, by decide, by decide, by decide⟩

