/-! THE REFERENCE: joins, finds -/
def jB (k : Nat) (a b : Bool) : Bool := if k = 2 then a || b else a && (b == decide (k = 3))
theorem okR_ab {u : Rul} {L : Nat} (h : okR u L) (hk : u.1 = 2 ∨ u.1 = 3 ∨ u.1 = 4) : u.2.1 < L ∧ u.2.2.1 < L := by
  obtain ⟨k, a, b, c⟩ := u
  match k, h with
  | 2, h => exact h
  | 3, h => exact h
  | 4, h => exact h
  | 0, _ => rcases hk with e | e | e <;> cases e
  | 1, _ => rcases hk with e | e | e <;> cases e
  | 5, _ => rcases hk with e | e | e <;> cases e
  | 6, _ => rcases hk with e | e | e <;> cases e
  | 7, _ => rcases hk with e | e | e <;> cases e
theorem mem_join {U : Nat → Rul} {n v : Nat} (hk : (U n).1 = 2 ∨ (U n).1 = 3 ∨ (U n).1 = 4) (hok : okR (U n) n) (hv : v < 1000) : mem U n v = jB (U n).1 (mem U (U n).2.1 v) (mem U (U n).2.2.1 v) := by
  apply Bool.eq_iff_iff.mpr
  rw [mem_iff hok hv]
  unfold rS
  rcases hk with e | e | e
  · rw [e]
    show (mem U (U n).2.1 v = true ∨ mem U (U n).2.2.1 v = true) ↔ _
    cases mem U (U n).2.1 v <;> cases mem U (U n).2.2.1 v <;> decide
  · rw [e]
    show (mem U (U n).2.1 v = true ∧ mem U (U n).2.2.1 v = true) ↔ _
    cases mem U (U n).2.1 v <;> cases mem U (U n).2.2.1 v <;> decide
  · rw [e]
    show (mem U (U n).2.1 v = true ∧ mem U (U n).2.2.1 v = false) ↔ _
    cases mem U (U n).2.1 v <;> cases mem U (U n).2.2.1 v <;> decide
theorem jB_2 {k : Nat} {a b : Bool} (h : k = 2) : jB k a b = (a || b) := if_pos h
theorem jB_n {k : Nat} {a b : Bool} (h : ¬ k = 2) : jB k a b = (a && (b == decide (k = 3))) := if_neg h
theorem zB_t {b : Bool} : zB b = nI 1 ↔ b = true := by cases b <;> decide
theorem zB_f {b : Bool} : zB b = nI 0 ↔ b = false := by cases b <;> decide
theorem zB_nt {b : Bool} : ¬ zB b = nI 1 ↔ b = false := by cases b <;> decide
theorem zB_nf {b : Bool} : ¬ zB b = nI 0 ↔ b = true := by cases b <;> decide
def stB (u : Rul) (v : Nat) : Bool := decide (u.1 = 0 ∧ u.2.1 ≤ v ∧ (v - u.2.1) % u.2.2.1 = 0)
theorem mem_steps {U : Nat → Rul} {n v : Nat} (hk : (U n).1 = 0) (hok : okR (U n) n) (hv : v < 1000) : mem U n v = stB (U n) v := by
  apply Bool.eq_iff_iff.mpr
  rw [mem_iff hok hv]
  unfold rS stB
  rw [hk, decide_eq_true_iff]
  exact ⟨fun q => ⟨rfl, q⟩, fun q => q.2⟩
theorem okR_0 {u : Rul} {L : Nat} (e : u.1 = 0) (h : okR u L) : u.2.1 < 1000 ∧ 1 ≤ u.2.2.1 ∧ u.2.2.1 ≤ 99 := by
  obtain ⟨k, a, b, c⟩ := u
  have e : k = 0 := e
  subst e; exact h
theorem row_n {U : Nat → Rul} {n : Nat} {hh h1 : Nat → Int32} (hH : HasN U n hh) (hoff : ∀ j, j < 1000 * n → h1 j = hh j) (hR : ∀ u, u < 1000 → h1 (1000 * n + u) = zB (mem U n u)) : HasN U (n + 1) h1 := fun L hL v hv => by
  by_cases e : L = n
  · subst e; exact hR v hv
  · exact (hoff _ (by omega)).trans (hH L (by omega) v hv)
theorem rowF {h : Nat → Int32} {n : Nat} (f : ∀ u, u < 1000 → h (1000 * n + u) = nI 0) : RowP h n (fun _ => False) := fun v hv => Or.inr ⟨f v hv, id⟩
theorem row_up {h1 : Nat → Int32} {n v : Nat} {f : Nat → Bool} (hR : ∀ u, u < v → h1 (1000 * n + u) = zB (f u)) : ∀ u, u < v + 1 → upd h1 (1000 * n + v) (zB (f v)) (1000 * n + u) = zB (f u) := fun u hu => by
  by_cases e : u = v
  · subst e; exact pk_us
  · rw [pk_un (by omega)]; exact hR u (by omega)
theorem off_up {h1 hh : Nat → Int32} {n v : Nat} {x : Int32} (hoff : ∀ j, j < 1000 * n → h1 j = hh j) : ∀ j, j < 1000 * n → upd h1 (1000 * n + v) x j = hh j := fun j hj => (pk_un (by omega)).trans (hoff j hj)
set_option maxRecDepth 100000 in
set_option maxHeartbeats 800000 in
theorem c_joins (l : Launch) (G : Gl) (σ : Sg) (c : Nat) (hc : Rc c) (s hh xx m : Nat → Int32) (A : Ab) (hA : okA A) (hM : RelM A s) (n : Nat) (hn : n < A.1) (hk : (aU A n).1 = 2 ∨ (aU A n).1 = 3 ∨ (aU A n).1 = 4) (hH : HasN (aU A) n hh) : Cv l yX6_joins cX6_joins 6 ({ frames := 1, cells := 0, slots := 0, locals := 22 } : Room) G [.ref (G.2.1 + 134), .ref (G.2.1 + c), .int (nI n)] (mB σ c s hh xx m) (fun σ2 => ∃ h2, σ2 = mB σ c s h2 xx m ∧ HasN (aU A) (n + 1) h2) := by
  refine Cv_of (own := RX6) rfl (by decide +kernel) (lo := [(0, .ref (G.2.1 + 134)), (1, .ref (G.2.1 + c)), (2, .int (nI n))]) rfl (Nat.le_of_ble_eq_true rfl) ?_
  intro x Q hxl h hret
  subst hxl
  have h12 := hA.1
  have hok := hA.2.2.1 n hn
  have hk7 := okR_k hok
  obtain ⟨t0, t1, t2, t3⟩ := hM.2.2.2.1 n hn
  obtain ⟨ha, hb⟩ := okR_ab hok hk
  refine r_iconst (pc := 0) (v := nI 0) h (by decide) dX6_joins_0 ?_
  refine r_istore_n (pc := 1) (lo2 := [(3, .int (nI 0)), (0, .ref (G.2.1 + 134)), (1, .ref (G.2.1 + c)), (2, .int (nI n))]) h rfl (by decide) rfl dX6_joins_1 ?_
  have lp2 : ∀ (fu : Nat) (v : Nat) (h1 : Nat → Int32), v ≤ 1000 → (∀ j, j < 1000 * n → h1 j = hh j) → (∀ u, u < v → h1 (1000 * n + u) = zB (mem (aU A) n u)) → 1000 - v < fu → V x G 6 0 0 Q (mB σ c s h1 xx m) 2 [(0, .ref (G.2.1 + 134)), (1, .ref (G.2.1 + c)), (2, .int (nI n)), (3, .int (nI v))] [] := by
    intro fu
    induction fu with
    | zero => intro v h1 hv hoff hR hfu; exact absurd hfu (Nat.not_lt_zero _)
    | succ fu ih2 =>
      intro v h1 hv hoff hR hfu
      refine r_iload_n (pc := 2) h 3 rfl rfl dX6_joins_2 ?_
      refine r_sipush (pc := 3) (v := nI 999) h (by decide) dX6_joins_3 ?_
      refine r_icmp_gt (pc := 6) (tgt := 111) h (by decide) dX6_joins_6 (fun c6 => ?_) (fun c6 => ?_)
      · skip
        rw [nI_ltI (by omega) (by omega)] at c6
        have e : v = 1000 := by omega
        subst e
        exact hret _ (⟨h1, rfl, row_n hH hoff hR⟩) 111 _ dX6_joins_111
      · skip
        rw [nI_ltI (by omega) (by omega)] at c6
        refine r_aload_n (pc := 9) h 0 rfl rfl dX6_joins_9 ?_
        refine r_aload_n (pc := 10) h 1 rfl rfl dX6_joins_10 ?_
        refine r_iload_n (pc := 11) h 2 rfl rfl dX6_joins_11 ?_
        refine r_iconst (pc := 12) (v := nI 1) h (by decide) dX6_joins_12 ?_
        refine r_cSi (pc := 13) (As := [.ref (G.2.1 + c), .int (nI n), .int (nI 1)]) (st := [.ref (G.2.1 + 134)]) h lk_RX6_47 (c_of x.2.1 G (mB σ c s h1 xx m) c hc n 1 (by omega) (by omega)) (by decide) rfl rfl (by first | decide | exact Nat.le_of_ble_eq_true rfl) (by decide) dX6_joins_13 (fun r1 s2 q3 => ?_)
        rw [q3.1, q3.2]
        refine r_topi (b := nI (aU A n).2.1) ((mB_s _).trans t1) ?_
        refine r_iload_n (pc := 16) h 3 rfl rfl dX6_joins_16 ?_
        refine r_cVi (pc := 17) (As := [.int (nI (aU A n).2.1), .int (nI v)]) (st := []) h lk_RX6_51 (c_member x.2.1 G (mB σ c s h1 xx m) ((aU A n).2.1) v (mem (aU A) ((aU A n).2.1) v) (by omega) (by omega) ((mB_h hc _).trans ((hoff _ (by omega)).trans (hH _ (by omega) v (by omega))))) rc_6 (by decide) rfl rfl (by first | decide | exact Nat.le_of_ble_eq_true rfl) (by decide) dX6_joins_17 (fun r4 s5 q6 => ?_)
        rw [q6.1, q6.2]
        have hj := mem_join hk hok (show v < 1000 by omega)
        refine r_istore (pc := 20) (lo2 := [(4, .int (zB (mem (aU A) ((aU A n).2.1) v))), (0, .ref (G.2.1 + 134)), (1, .ref (G.2.1 + c)), (2, .int (nI n)), (3, .int (nI v))]) h (by decide) rfl dX6_joins_20 ?_
        refine r_aload_n (pc := 22) h 1 rfl rfl dX6_joins_22 ?_
        refine r_aload_n (pc := 23) h 2 rfl rfl dX6_joins_23 ?_
        refine r_iload_n (pc := 24) h 3 rfl rfl dX6_joins_24 ?_
        refine r_iconst (pc := 25) (v := nI 2) h (by decide) dX6_joins_25 ?_
        refine r_cSi (pc := 26) (As := [.ref (G.2.1 + c), .int (nI n), .int (nI 2)]) (st := [.ref (G.2.1 + 134)]) h lk_RX6_47 (c_of x.2.1 G (mB σ c s h1 xx m) c hc n 2 (by omega) (by omega)) (by decide) rfl rfl (by first | decide | exact Nat.le_of_ble_eq_true rfl) (by decide) dX6_joins_26 (fun r7 s8 q9 => ?_)
        rw [q9.1, q9.2]
        refine r_topi (b := nI (aU A n).2.2.1) ((mB_s _).trans (t2 (by omega) (by omega))) ?_
        refine r_iload_n (pc := 29) h 4 rfl rfl dX6_joins_29 ?_
        refine r_cVi (pc := 30) (As := [.int (nI (aU A n).2.2.1), .int (nI v)]) (st := []) h lk_RX6_51 (c_member x.2.1 G (mB σ c s h1 xx m) ((aU A n).2.2.1) v (mem (aU A) ((aU A n).2.2.1) v) (by omega) (by omega) ((mB_h hc _).trans ((hoff _ (by omega)).trans (hH _ (by omega) v (by omega))))) rc_6 (by decide) rfl rfl (by first | decide | exact Nat.le_of_ble_eq_true rfl) (by decide) dX6_joins_30 (fun r10 s11 q12 => ?_)
        rw [q12.1, q12.2]
        refine r_istore (pc := 33) (lo2 := [(5, .int (zB (mem (aU A) ((aU A n).2.2.1) v))), (4, .int (zB (mem (aU A) ((aU A n).2.1) v))), (0, .ref (G.2.1 + 134)), (1, .ref (G.2.1 + c)), (2, .int (nI n)), (3, .int (nI v))]) h (by decide) rfl dX6_joins_33 ?_
        refine r_aload_n (pc := 35) h 2 rfl rfl dX6_joins_35 ?_
        refine g_6_has (pc := 36) h mw_4_2 dX6_joins_36 ?_
        refine r_sipush (pc := 39) (v := nI 1000) h (by decide) dX6_joins_39 ?_
        refine r_iload_n (pc := 42) h 4 rfl rfl dX6_joins_42 ?_
        refine r_imul (pc := 43) (v := nI (1000 * n)) h (pk_mul _ _) dX6_joins_43 ?_
        refine r_iload_n (pc := 44) h 5 rfl rfl dX6_joins_44 ?_
        refine r_iadd (pc := 45) (v := nI ((1000 * n) + v)) h (nI_add _ _) dX6_joins_45 ?_
        refine r_aload_n (pc := 46) h 3 rfl rfl dX6_joins_46 ?_
        refine r_iload_n (pc := 47) h 4 rfl rfl dX6_joins_47 ?_
        refine r_iconst (pc := 48) (v := nI 0) h (by decide) dX6_joins_48 ?_
        refine r_cSi (pc := 49) (As := [.ref (G.2.1 + c), .int (nI n), .int (nI 0)]) (st := [.int (nI ((1000 * n) + v)), .ref (G.2.1 + 141)]) h lk_RX6_47 (c_of x.2.1 G (mB σ c s h1 xx m) c hc n 0 (by omega) (by omega)) (by decide) rfl rfl (by first | decide | exact Nat.le_of_ble_eq_true rfl) (by decide) dX6_joins_49 (fun r13 s14 q15 => ?_)
        rw [q15.1, q15.2]
        refine r_topi (b := nI (aU A n).1) ((mB_s _).trans t0) ?_
        refine r_iconst (pc := 52) (v := nI 2) h (by decide) dX6_joins_52 ?_
        refine r_icmp_ne (pc := 53) (tgt := 74) h (by decide) dX6_joins_53 (fun c53 => ?_) (fun c53 => ?_)
        · skip
          rw [nI_eq (by omega) (by omega)] at c53
          refine r_iload (pc := 74) h 1 rfl dX6_joins_74 ?_
          refine r_if_eq (pc := 76) (tgt := 103) h (by decide) dX6_joins_76 (fun c76 => ?_) (fun c76 => ?_)
          · skip
            replace c76 := zB_0.mp c76
            refine r_iconst (pc := 103) (v := nI 0) h (by decide) dX6_joins_103 ?_
            refine r_topi (b := zB (mem (aU A) n v)) (by rw [hj, jB_n c53, c76]; rfl) ?_
            refine r_zast (pc := 104) (w := zB (mem (aU A) n v)) h a_mh ((1000 * n) + v) rfl (by omega) (nar_zB _) dX6_joins_104 ?_
            refine V.sg (mB_sh hc _ _) ?_
            refine r_iinc (pc := 105) (v := nI (v + 1)) (lo2 := [(3, .int (nI (v + 1))), (5, .int (zB (mem (aU A) ((aU A n).2.2.1) v))), (4, .int (zB (mem (aU A) ((aU A n).2.1) v))), (0, .ref (G.2.1 + 134)), (1, .ref (G.2.1 + c)), (2, .int (nI n))]) h 5 rfl (iinc1 _) (by decide) rfl dX6_joins_105 ?_
            refine r_goto (pc := 108) (tgt := 2) h (by decide) dX6_joins_108 ?_
            refine r_sub (lo2 := [(0, .ref (G.2.1 + 134)), (1, .ref (G.2.1 + c)), (2, .int (nI n)), (3, .int (nI (v + 1)))]) [3, 4, 5, 0] rfl ?_
            exact ih2 (v + 1) _ (by omega) (off_up hoff) (row_up hR) (by omega)
          · skip
            replace c76 := zB_n0.mp c76
            refine r_iload (pc := 79) h 0 rfl dX6_joins_79 ?_
            refine r_aload_n (pc := 81) h 3 rfl rfl dX6_joins_81 ?_
            refine r_iload_n (pc := 82) h 4 rfl rfl dX6_joins_82 ?_
            refine r_iconst (pc := 83) (v := nI 0) h (by decide) dX6_joins_83 ?_
            refine r_cSi (pc := 84) (As := [.ref (G.2.1 + c), .int (nI n), .int (nI 0)]) (st := [.int (zB (mem (aU A) ((aU A n).2.2.1) v)), .int (nI ((1000 * n) + v)), .ref (G.2.1 + 141)]) h lk_RX6_47 (c_of x.2.1 G (mB σ c s h1 xx m) c hc n 0 (by omega) (by omega)) (by decide) rfl rfl (by first | decide | exact Nat.le_of_ble_eq_true rfl) (by decide) dX6_joins_84 (fun r16 s17 q18 => ?_)
            rw [q18.1, q18.2]
            refine r_topi (b := nI (aU A n).1) ((mB_s _).trans t0) ?_
            refine r_iconst (pc := 87) (v := nI 3) h (by decide) dX6_joins_87 ?_
            refine r_icmp_ne (pc := 88) (tgt := 95) h (by decide) dX6_joins_88 (fun c88 => ?_) (fun c88 => ?_)
            · skip
              rw [nI_eq (by omega) (by omega)] at c88
              refine r_iconst (pc := 95) (v := nI 0) h (by decide) dX6_joins_95 ?_
              refine r_icmp_ne (pc := 96) (tgt := 103) h (by decide) dX6_joins_96 (fun c96 => ?_) (fun c96 => ?_)
              · skip
                rw [zB_nf] at c96
                refine r_iconst (pc := 103) (v := nI 0) h (by decide) dX6_joins_103 ?_
                refine r_topi (b := zB (mem (aU A) n v)) (by rw [hj, jB_n c53, c76, decide_eq_false c88, c96]; rfl) ?_
                refine r_zast (pc := 104) (w := zB (mem (aU A) n v)) h a_mh ((1000 * n) + v) rfl (by omega) (nar_zB _) dX6_joins_104 ?_
                refine V.sg (mB_sh hc _ _) ?_
                refine r_iinc (pc := 105) (v := nI (v + 1)) (lo2 := [(3, .int (nI (v + 1))), (5, .int (zB (mem (aU A) ((aU A n).2.2.1) v))), (4, .int (zB (mem (aU A) ((aU A n).2.1) v))), (0, .ref (G.2.1 + 134)), (1, .ref (G.2.1 + c)), (2, .int (nI n))]) h 5 rfl (iinc1 _) (by decide) rfl dX6_joins_105 ?_
                refine r_goto (pc := 108) (tgt := 2) h (by decide) dX6_joins_108 ?_
                refine r_sub (lo2 := [(0, .ref (G.2.1 + 134)), (1, .ref (G.2.1 + c)), (2, .int (nI n)), (3, .int (nI (v + 1)))]) [3, 4, 5, 0] rfl ?_
                exact ih2 (v + 1) _ (by omega) (off_up hoff) (row_up hR) (by omega)
              · skip
                rw [zB_f] at c96
                refine r_iconst (pc := 99) (v := nI 1) h (by decide) dX6_joins_99 ?_
                refine r_goto (pc := 100) (tgt := 104) h (by decide) dX6_joins_100 ?_
                refine r_topi (b := zB (mem (aU A) n v)) (by rw [hj, jB_n c53, c76, decide_eq_false c88, c96]; rfl) ?_
                refine r_zast (pc := 104) (w := zB (mem (aU A) n v)) h a_mh ((1000 * n) + v) rfl (by omega) (nar_zB _) dX6_joins_104 ?_
                refine V.sg (mB_sh hc _ _) ?_
                refine r_iinc (pc := 105) (v := nI (v + 1)) (lo2 := [(3, .int (nI (v + 1))), (5, .int (zB (mem (aU A) ((aU A n).2.2.1) v))), (4, .int (zB (mem (aU A) ((aU A n).2.1) v))), (0, .ref (G.2.1 + 134)), (1, .ref (G.2.1 + c)), (2, .int (nI n))]) h 5 rfl (iinc1 _) (by decide) rfl dX6_joins_105 ?_
                refine r_goto (pc := 108) (tgt := 2) h (by decide) dX6_joins_108 ?_
                refine r_sub (lo2 := [(0, .ref (G.2.1 + 134)), (1, .ref (G.2.1 + c)), (2, .int (nI n)), (3, .int (nI (v + 1)))]) [3, 4, 5, 0] rfl ?_
                exact ih2 (v + 1) _ (by omega) (off_up hoff) (row_up hR) (by omega)
            · skip
              rw [nI_eq (by omega) (by omega)] at c88
              refine r_iconst (pc := 91) (v := nI 1) h (by decide) dX6_joins_91 ?_
              refine r_goto (pc := 92) (tgt := 96) h (by decide) dX6_joins_92 ?_
              refine r_icmp_ne (pc := 96) (tgt := 103) h (by decide) dX6_joins_96 (fun c96 => ?_) (fun c96 => ?_)
              · skip
                rw [zB_nt] at c96
                refine r_iconst (pc := 103) (v := nI 0) h (by decide) dX6_joins_103 ?_
                refine r_topi (b := zB (mem (aU A) n v)) (by rw [hj, jB_n c53, c76, decide_eq_true c88, c96]; rfl) ?_
                refine r_zast (pc := 104) (w := zB (mem (aU A) n v)) h a_mh ((1000 * n) + v) rfl (by omega) (nar_zB _) dX6_joins_104 ?_
                refine V.sg (mB_sh hc _ _) ?_
                refine r_iinc (pc := 105) (v := nI (v + 1)) (lo2 := [(3, .int (nI (v + 1))), (5, .int (zB (mem (aU A) ((aU A n).2.2.1) v))), (4, .int (zB (mem (aU A) ((aU A n).2.1) v))), (0, .ref (G.2.1 + 134)), (1, .ref (G.2.1 + c)), (2, .int (nI n))]) h 5 rfl (iinc1 _) (by decide) rfl dX6_joins_105 ?_
                refine r_goto (pc := 108) (tgt := 2) h (by decide) dX6_joins_108 ?_
                refine r_sub (lo2 := [(0, .ref (G.2.1 + 134)), (1, .ref (G.2.1 + c)), (2, .int (nI n)), (3, .int (nI (v + 1)))]) [3, 4, 5, 0] rfl ?_
                exact ih2 (v + 1) _ (by omega) (off_up hoff) (row_up hR) (by omega)
              · skip
                rw [zB_t] at c96
                refine r_iconst (pc := 99) (v := nI 1) h (by decide) dX6_joins_99 ?_
                refine r_goto (pc := 100) (tgt := 104) h (by decide) dX6_joins_100 ?_
                refine r_topi (b := zB (mem (aU A) n v)) (by rw [hj, jB_n c53, c76, decide_eq_true c88, c96]; rfl) ?_
                refine r_zast (pc := 104) (w := zB (mem (aU A) n v)) h a_mh ((1000 * n) + v) rfl (by omega) (nar_zB _) dX6_joins_104 ?_
                refine V.sg (mB_sh hc _ _) ?_
                refine r_iinc (pc := 105) (v := nI (v + 1)) (lo2 := [(3, .int (nI (v + 1))), (5, .int (zB (mem (aU A) ((aU A n).2.2.1) v))), (4, .int (zB (mem (aU A) ((aU A n).2.1) v))), (0, .ref (G.2.1 + 134)), (1, .ref (G.2.1 + c)), (2, .int (nI n))]) h 5 rfl (iinc1 _) (by decide) rfl dX6_joins_105 ?_
                refine r_goto (pc := 108) (tgt := 2) h (by decide) dX6_joins_108 ?_
                refine r_sub (lo2 := [(0, .ref (G.2.1 + 134)), (1, .ref (G.2.1 + c)), (2, .int (nI n)), (3, .int (nI (v + 1)))]) [3, 4, 5, 0] rfl ?_
                exact ih2 (v + 1) _ (by omega) (off_up hoff) (row_up hR) (by omega)
        · skip
          rw [nI_eq (by omega) (by omega)] at c53
          refine r_iload (pc := 56) h 1 rfl dX6_joins_56 ?_
          refine r_if_ne (pc := 58) (tgt := 66) h (by decide) dX6_joins_58 (fun c58 => ?_) (fun c58 => ?_)
          · skip
            replace c58 := zB_n0.mp c58
            refine r_iconst (pc := 66) (v := nI 1) h (by decide) dX6_joins_66 ?_
            refine r_goto (pc := 67) (tgt := 104) h (by decide) dX6_joins_67 ?_
            refine r_topi (b := zB (mem (aU A) n v)) (by rw [hj, jB_2 c53, c58]; rfl) ?_
            refine r_zast (pc := 104) (w := zB (mem (aU A) n v)) h a_mh ((1000 * n) + v) rfl (by omega) (nar_zB _) dX6_joins_104 ?_
            refine V.sg (mB_sh hc _ _) ?_
            refine r_iinc (pc := 105) (v := nI (v + 1)) (lo2 := [(3, .int (nI (v + 1))), (5, .int (zB (mem (aU A) ((aU A n).2.2.1) v))), (4, .int (zB (mem (aU A) ((aU A n).2.1) v))), (0, .ref (G.2.1 + 134)), (1, .ref (G.2.1 + c)), (2, .int (nI n))]) h 5 rfl (iinc1 _) (by decide) rfl dX6_joins_105 ?_
            refine r_goto (pc := 108) (tgt := 2) h (by decide) dX6_joins_108 ?_
            refine r_sub (lo2 := [(0, .ref (G.2.1 + 134)), (1, .ref (G.2.1 + c)), (2, .int (nI n)), (3, .int (nI (v + 1)))]) [3, 4, 5, 0] rfl ?_
            exact ih2 (v + 1) _ (by omega) (off_up hoff) (row_up hR) (by omega)
          · skip
            replace c58 := zB_0.mp c58
            refine r_iload (pc := 61) h 0 rfl dX6_joins_61 ?_
            refine r_if_eq (pc := 63) (tgt := 70) h (by decide) dX6_joins_63 (fun c63 => ?_) (fun c63 => ?_)
            · skip
              replace c63 := zB_0.mp c63
              refine r_iconst (pc := 70) (v := nI 0) h (by decide) dX6_joins_70 ?_
              refine r_goto (pc := 71) (tgt := 104) h (by decide) dX6_joins_71 ?_
              refine r_topi (b := zB (mem (aU A) n v)) (by rw [hj, jB_2 c53, c58, c63]; rfl) ?_
              refine r_zast (pc := 104) (w := zB (mem (aU A) n v)) h a_mh ((1000 * n) + v) rfl (by omega) (nar_zB _) dX6_joins_104 ?_
              refine V.sg (mB_sh hc _ _) ?_
              refine r_iinc (pc := 105) (v := nI (v + 1)) (lo2 := [(3, .int (nI (v + 1))), (5, .int (zB (mem (aU A) ((aU A n).2.2.1) v))), (4, .int (zB (mem (aU A) ((aU A n).2.1) v))), (0, .ref (G.2.1 + 134)), (1, .ref (G.2.1 + c)), (2, .int (nI n))]) h 5 rfl (iinc1 _) (by decide) rfl dX6_joins_105 ?_
              refine r_goto (pc := 108) (tgt := 2) h (by decide) dX6_joins_108 ?_
              refine r_sub (lo2 := [(0, .ref (G.2.1 + 134)), (1, .ref (G.2.1 + c)), (2, .int (nI n)), (3, .int (nI (v + 1)))]) [3, 4, 5, 0] rfl ?_
              exact ih2 (v + 1) _ (by omega) (off_up hoff) (row_up hR) (by omega)
            · skip
              replace c63 := zB_n0.mp c63
              refine r_iconst (pc := 66) (v := nI 1) h (by decide) dX6_joins_66 ?_
              refine r_goto (pc := 67) (tgt := 104) h (by decide) dX6_joins_67 ?_
              refine r_topi (b := zB (mem (aU A) n v)) (by rw [hj, jB_2 c53, c58, c63]; rfl) ?_
              refine r_zast (pc := 104) (w := zB (mem (aU A) n v)) h a_mh ((1000 * n) + v) rfl (by omega) (nar_zB _) dX6_joins_104 ?_
              refine V.sg (mB_sh hc _ _) ?_
              refine r_iinc (pc := 105) (v := nI (v + 1)) (lo2 := [(3, .int (nI (v + 1))), (5, .int (zB (mem (aU A) ((aU A n).2.2.1) v))), (4, .int (zB (mem (aU A) ((aU A n).2.1) v))), (0, .ref (G.2.1 + 134)), (1, .ref (G.2.1 + c)), (2, .int (nI n))]) h 5 rfl (iinc1 _) (by decide) rfl dX6_joins_105 ?_
              refine r_goto (pc := 108) (tgt := 2) h (by decide) dX6_joins_108 ?_
              refine r_sub (lo2 := [(0, .ref (G.2.1 + 134)), (1, .ref (G.2.1 + c)), (2, .int (nI n)), (3, .int (nI (v + 1)))]) [3, 4, 5, 0] rfl ?_
              exact ih2 (v + 1) _ (by omega) (off_up hoff) (row_up hR) (by omega)
  refine r_sub (lo2 := [(0, .ref (G.2.1 + 134)), (1, .ref (G.2.1 + c)), (2, .int (nI n)), (3, .int (nI 0))]) [1, 2, 3, 0] rfl ?_
  exact lp2 _ 0 hh (by omega) (fun j hj => rfl) (fun u hu => absurd hu (Nat.not_lt_zero u)) (Nat.lt_succ_self _)

set_option maxRecDepth 100000 in
set_option maxHeartbeats 800000 in
theorem c_finds (l : Launch) (G : Gl) (σ : Sg) (c : Nat) (hc : Rc c) (s hh xx m : Nat → Int32) (A : Ab) (hA : okA A) (hM : RelM A s) : Cv l yX6_finds cX6_finds 4 ({ frames := 2, cells := 0, slots := 0, locals := 49 } : Room) G [.ref (G.2.1 + 134), .ref (G.2.1 + c)] (mB σ c s hh xx m) (fun σ2 => ∃ h2 x2, σ2 = mB σ c s h2 x2 m ∧ HasN (aU A) A.1 h2) := by
  refine Cv_of (own := RX6) rfl (by decide +kernel) (lo := [(0, .ref (G.2.1 + 134)), (1, .ref (G.2.1 + c))]) rfl (Nat.le_of_ble_eq_true rfl) ?_
  intro x Q hxl h hret
  subst hxl
  have h12 := hA.1
  refine r_iconst (pc := 0) (v := nI 0) h (by decide) dX6_finds_0 ?_
  refine r_istore_n (pc := 1) (lo2 := [(2, .int (nI 0)), (0, .ref (G.2.1 + 134)), (1, .ref (G.2.1 + c))]) h rfl (by decide) rfl dX6_finds_1 ?_
  have lp2 : ∀ (fu : Nat) (n : Nat) (h1 : Nat → Int32) (x1 : Nat → Int32), n ≤ A.1 → HasN (aU A) n h1 → A.1 - n < fu → V x G 4 0 0 Q (mB σ c s h1 x1 m) 2 [(0, .ref (G.2.1 + 134)), (1, .ref (G.2.1 + c)), (2, .int (nI n))] [] := by
    intro fu
    induction fu with
    | zero => intro n h1 x1 hn hH hfu; exact absurd hfu (Nat.not_lt_zero _)
    | succ fu ih2 =>
      intro n h1 x1 hn hH hfu
      refine r_iload_n (pc := 2) h 2 rfl rfl dX6_finds_2 ?_
      refine r_aload_n (pc := 3) h 1 rfl rfl dX6_finds_3 ?_
      refine r_iconst (pc := 4) (v := nI 0) h (by decide) dX6_finds_4 ?_
      refine r_iald (pc := 5) h (a_rc hc) 0 rfl (by omega) dX6_finds_5 ?_
      refine r_topi (b := s 0) (mB_s _) ?_
      refine r_topi (b := nI A.1) hM.1 ?_
      refine r_icmp_ge (pc := 6) (tgt := 124) h (by decide) dX6_finds_6 (fun c6 => ?_) (fun c6 => ?_)
      · skip
        rw [nI_leI (by omega) (by omega)] at c6
        have e : n = A.1 := by omega
        subst e
        exact hret _ (⟨h1, x1, rfl, hH⟩) 124 _ dX6_finds_124
      · skip
        rw [nI_leI (by omega) (by omega)] at c6
        have hn8 : n < A.1 := by omega
        have h12 := hA.1
        have hok := hA.2.2.1 n hn8
        have hk7 := okR_k hok
        obtain ⟨t0, t1, t2, t3⟩ := hM.2.2.2.1 n hn8
        refine r_iconst (pc := 9) (v := nI 0) h (by decide) dX6_finds_9 ?_
        refine r_istore_n (pc := 10) (lo2 := [(3, .int (nI 0)), (0, .ref (G.2.1 + 134)), (1, .ref (G.2.1 + c)), (2, .int (nI n))]) h rfl (by decide) rfl dX6_finds_10 ?_
        have lp11 : ∀ (fu : Nat) (v : Nat) (h2 : Nat → Int32), v ≤ 1000 → (∀ j, j < 1000 * n → h2 j = h1 j) → (∀ u, u < v → h2 (1000 * n + u) = zB (stB (aU A n) u)) → 1000 - v < fu → V x G 4 0 0 Q (mB σ c s h2 x1 m) 11 [(0, .ref (G.2.1 + 134)), (1, .ref (G.2.1 + c)), (2, .int (nI n)), (3, .int (nI v))] [] := by
          intro fu
          induction fu with
          | zero => intro v h2 hv hoff hR hfu; exact absurd hfu (Nat.not_lt_zero _)
          | succ fu ih11 =>
            intro v h2 hv hoff hR hfu
            refine r_iload_n (pc := 11) h 3 rfl rfl dX6_finds_11 ?_
            refine r_sipush (pc := 12) (v := nI 999) h (by decide) dX6_finds_12 ?_
            refine r_icmp_gt (pc := 15) (tgt := 78) h (by decide) dX6_finds_15 (fun c15 => ?_) (fun c15 => ?_)
            · skip
              rw [nI_ltI (by omega) (by omega)] at c15
              have e9 : v = 1000 := by omega
              subst e9
              refine r_aload_n (pc := 78) h 1 rfl rfl dX6_finds_78 ?_
              refine r_iload_n (pc := 79) h 2 rfl rfl dX6_finds_79 ?_
              refine r_iconst (pc := 80) (v := nI 0) h (by decide) dX6_finds_80 ?_
              refine r_cSi (pc := 81) (As := [.ref (G.2.1 + c), .int (nI n), .int (nI 0)]) (st := []) h lk_RX6_47 (c_of x.2.1 G (mB σ c s h2 x1 m) c hc n 0 (by omega) (by omega)) (by decide) rfl rfl (by first | decide | exact Nat.le_of_ble_eq_true rfl) (by decide) dX6_finds_81 (fun r1 s2 q3 => ?_)
              rw [q3.1, q3.2]
              refine r_topi (b := nI (aU A n).1) ((mB_s _).trans t0) ?_
              refine r_istore_n (pc := 84) (lo2 := [(3, .int (nI (aU A n).1)), (0, .ref (G.2.1 + 134)), (1, .ref (G.2.1 + c)), (2, .int (nI n))]) h rfl (by decide) rfl dX6_finds_84 ?_
              refine r_iload_n (pc := 85) h 0 rfl rfl dX6_finds_85 ?_
              refine r_i2l (pc := 86) (v := (nI (aU A n).1).toInt64) h rfl dX6_finds_86 ?_
              refine r_ldc2 (pc := 87) (v := 2) h mw_10_13 dX6_finds_87 ?_
              refine r_ldc2 (pc := 90) (v := 4) h mw_10_14 dX6_finds_90 ?_
              refine r_cSi (pc := 93) (As := [.long ((nI (aU A n).1).toInt64), .long 2, .long 4]) (st := []) h lk_RX6_43 (c_in x.2.1 G (mB σ c s h2 x1 m) (nI (aU A n).1) (nI 2) (nI 4)) (by decide) rfl rfl (by first | decide | exact Nat.le_of_ble_eq_true rfl) (by decide) dX6_finds_93 (fun r4 s5 q6 => ?_)
              rw [q6.1, q6.2]
              refine r_if_eq (pc := 96) (tgt := 108) h (by decide) dX6_finds_96 (fun c96 => ?_) (fun c96 => ?_)
              · skip
                replace c96 := zB_0.mp c96
                have hk9 := of_decide_eq_false c96
                rw [nI_leI (by omega) (by omega), nI_leI (by omega) (by omega)] at hk9
                refine r_iload_n (pc := 108) h 0 rfl rfl dX6_finds_108 ?_
                refine r_if_eq (pc := 109) (tgt := 118) h (by decide) dX6_finds_109 (fun c109 => ?_) (fun c109 => ?_)
                · skip
                  rw [zI0, nI_eq (by omega) (by omega)] at c109
                  refine r_iinc (pc := 118) (v := nI (n + 1)) (lo2 := [(2, .int (nI (n + 1))), (3, .int (nI (aU A n).1)), (0, .ref (G.2.1 + 134)), (1, .ref (G.2.1 + c))]) h 3 rfl (iinc1 _) (by decide) rfl dX6_finds_118 ?_
                  refine r_goto (pc := 121) (tgt := 2) h (by decide) dX6_finds_121 ?_
                  refine r_sub (lo2 := [(0, .ref (G.2.1 + 134)), (1, .ref (G.2.1 + c)), (2, .int (nI (n + 1)))]) [2, 3, 0] rfl ?_
                  exact ih2 (n + 1) h2 x1 (by omega) (row_n hH hoff (fun u hu => (hR u hu).trans (congrArg zB (mem_steps c109 hok hu).symm))) (by omega)
                · skip
                  rw [zI0, nI_eq (by omega) (by omega)] at c109
                  refine r_aload_n (pc := 112) h 1 rfl rfl dX6_finds_112 ?_
                  refine r_aload_n (pc := 113) h 2 rfl rfl dX6_finds_113 ?_
                  refine r_iload_n (pc := 114) h 3 rfl rfl dX6_finds_114 ?_
                  have hk : (aU A n).1 = 1 ∨ (aU A n).1 = 5 ∨ (aU A n).1 = 6 ∨ (aU A n).1 = 7 := by omega
                  have hst : ∀ u, stB (aU A n) u = false := fun u => decide_eq_false (fun q => by have := q.1; omega)
                  refine r_cVv (pc := 115) (As := [.ref (G.2.1 + c), .int (nI n)]) (st := []) h lk_RX6_70 (c_follows x.2.1 G σ c hc s h2 x1 m A hA hM n (by omega) hk (HasN.off hH hoff) (rowF (fun u hu => (hR u hu).trans (by rw [hst u]; rfl)))) rc_6 (by decide) rfl rfl (by first | decide | exact Nat.le_of_ble_eq_true rfl) (by decide) dX6_finds_115 (fun s8 q9 => ?_)
                  obtain ⟨h3, x3, e3, hH3⟩ := q9
                  subst e3
                  refine r_iinc (pc := 118) (v := nI (n + 1)) (lo2 := [(2, .int (nI (n + 1))), (3, .int (nI (aU A n).1)), (0, .ref (G.2.1 + 134)), (1, .ref (G.2.1 + c))]) h 3 rfl (iinc1 _) (by decide) rfl dX6_finds_118 ?_
                  refine r_goto (pc := 121) (tgt := 2) h (by decide) dX6_finds_121 ?_
                  refine r_sub (lo2 := [(0, .ref (G.2.1 + 134)), (1, .ref (G.2.1 + c)), (2, .int (nI (n + 1)))]) [2, 3, 0] rfl ?_
                  exact ih2 (n + 1) h3 x3 (by omega) hH3 (by omega)
              · skip
                replace c96 := zB_n0.mp c96
                have hk9 := of_decide_eq_true c96
                rw [nI_leI (by omega) (by omega), nI_leI (by omega) (by omega)] at hk9
                have hk : (aU A n).1 = 2 ∨ (aU A n).1 = 3 ∨ (aU A n).1 = 4 := by omega
                refine r_aload_n (pc := 99) h 1 rfl rfl dX6_finds_99 ?_
                refine r_aload_n (pc := 100) h 2 rfl rfl dX6_finds_100 ?_
                refine r_iload_n (pc := 101) h 3 rfl rfl dX6_finds_101 ?_
                refine r_cVv (pc := 102) (As := [.ref (G.2.1 + c), .int (nI n)]) (st := []) h lk_RX6_66 (c_joins x.2.1 G σ c hc s h2 x1 m A hA hM n (by omega) hk (HasN.off hH hoff)) rc_6 (by decide) rfl rfl (by first | decide | exact Nat.le_of_ble_eq_true rfl) (by decide) dX6_finds_102 (fun s11 q12 => ?_)
                obtain ⟨h3, e3, hH3⟩ := q12
                subst e3
                refine r_goto (pc := 105) (tgt := 118) h (by decide) dX6_finds_105 ?_
                refine r_iinc (pc := 118) (v := nI (n + 1)) (lo2 := [(2, .int (nI (n + 1))), (3, .int (nI (aU A n).1)), (0, .ref (G.2.1 + 134)), (1, .ref (G.2.1 + c))]) h 3 rfl (iinc1 _) (by decide) rfl dX6_finds_118 ?_
                refine r_goto (pc := 121) (tgt := 2) h (by decide) dX6_finds_121 ?_
                refine r_sub (lo2 := [(0, .ref (G.2.1 + 134)), (1, .ref (G.2.1 + c)), (2, .int (nI (n + 1)))]) [2, 3, 0] rfl ?_
                exact ih2 (n + 1) h3 x1 (by omega) hH3 (by omega)
            · skip
              rw [nI_ltI (by omega) (by omega)] at c15
              refine r_aload_n (pc := 18) h 0 rfl rfl dX6_finds_18 ?_
              refine g_6_has (pc := 19) h mw_4_2 dX6_finds_19 ?_
              refine r_sipush (pc := 22) (v := nI 1000) h (by decide) dX6_finds_22 ?_
              refine r_iload_n (pc := 25) h 2 rfl rfl dX6_finds_25 ?_
              refine r_imul (pc := 26) (v := nI (1000 * n)) h (pk_mul _ _) dX6_finds_26 ?_
              refine r_iload_n (pc := 27) h 3 rfl rfl dX6_finds_27 ?_
              refine r_iadd (pc := 28) (v := nI ((1000 * n) + v)) h (nI_add _ _) dX6_finds_28 ?_
              refine r_aload_n (pc := 29) h 1 rfl rfl dX6_finds_29 ?_
              refine r_iload_n (pc := 30) h 2 rfl rfl dX6_finds_30 ?_
              refine r_iconst (pc := 31) (v := nI 0) h (by decide) dX6_finds_31 ?_
              refine r_cSi (pc := 32) (As := [.ref (G.2.1 + c), .int (nI n), .int (nI 0)]) (st := [.int (nI ((1000 * n) + v)), .ref (G.2.1 + 141)]) h lk_RX6_47 (c_of x.2.1 G (mB σ c s h2 x1 m) c hc n 0 (by omega) (by omega)) (by decide) rfl rfl (by first | decide | exact Nat.le_of_ble_eq_true rfl) (by decide) dX6_finds_32 (fun r13 s14 q15 => ?_)
              rw [q15.1, q15.2]
              refine r_topi (b := nI (aU A n).1) ((mB_s _).trans t0) ?_
              refine r_if_ne (pc := 35) (tgt := 70) h (by decide) dX6_finds_35 (fun c35 => ?_) (fun c35 => ?_)
              · skip
                rw [zI0, nI_eq (by omega) (by omega)] at c35
                refine r_iconst (pc := 70) (v := nI 0) h (by decide) dX6_finds_70 ?_
                refine r_topi (b := zB (stB (aU A n) v)) (by rw [show stB (aU A n) v = false from decide_eq_false (fun q => c35 q.1)]; rfl) ?_
                refine r_zast (pc := 71) (w := zB (stB (aU A n) v)) h a_mh ((1000 * n) + v) rfl (by omega) (nar_zB _) dX6_finds_71 ?_
                refine V.sg (mB_sh hc _ _) ?_
                refine r_iinc (pc := 72) (v := nI (v + 1)) (lo2 := [(3, .int (nI (v + 1))), (0, .ref (G.2.1 + 134)), (1, .ref (G.2.1 + c)), (2, .int (nI n))]) h 3 rfl (iinc1 _) (by decide) rfl dX6_finds_72 ?_
                refine r_goto (pc := 75) (tgt := 11) h (by decide) dX6_finds_75 ?_
                refine r_sub (lo2 := [(0, .ref (G.2.1 + 134)), (1, .ref (G.2.1 + c)), (2, .int (nI n)), (3, .int (nI (v + 1)))]) [1, 2, 3, 0] rfl ?_
                exact ih11 (v + 1) _ (by omega) (off_up hoff) (row_up hR) (by omega)
              · skip
                rw [zI0, nI_eq (by omega) (by omega)] at c35
                have hz := okR_0 c35 hok
                refine r_iload_n (pc := 38) h 3 rfl rfl dX6_finds_38 ?_
                refine r_aload_n (pc := 39) h 1 rfl rfl dX6_finds_39 ?_
                refine r_iload_n (pc := 40) h 2 rfl rfl dX6_finds_40 ?_
                refine r_iconst (pc := 41) (v := nI 1) h (by decide) dX6_finds_41 ?_
                refine r_cSi (pc := 42) (As := [.ref (G.2.1 + c), .int (nI n), .int (nI 1)]) (st := [.int (nI v), .int (nI ((1000 * n) + v)), .ref (G.2.1 + 141)]) h lk_RX6_47 (c_of x.2.1 G (mB σ c s h2 x1 m) c hc n 1 (by omega) (by omega)) (by decide) rfl rfl (by first | decide | exact Nat.le_of_ble_eq_true rfl) (by decide) dX6_finds_42 (fun r16 s17 q18 => ?_)
                rw [q18.1, q18.2]
                refine r_topi (b := nI (aU A n).2.1) ((mB_s _).trans t1) ?_
                refine r_icmp_lt (pc := 45) (tgt := 70) h (by decide) dX6_finds_45 (fun c45 => ?_) (fun c45 => ?_)
                · skip
                  rw [nI_ltI (by omega) (by omega)] at c45
                  refine r_iconst (pc := 70) (v := nI 0) h (by decide) dX6_finds_70 ?_
                  refine r_topi (b := zB (stB (aU A n) v)) (by rw [show stB (aU A n) v = false from decide_eq_false (fun q => by have := q.2.1; omega)]; rfl) ?_
                  refine r_zast (pc := 71) (w := zB (stB (aU A n) v)) h a_mh ((1000 * n) + v) rfl (by omega) (nar_zB _) dX6_finds_71 ?_
                  refine V.sg (mB_sh hc _ _) ?_
                  refine r_iinc (pc := 72) (v := nI (v + 1)) (lo2 := [(3, .int (nI (v + 1))), (0, .ref (G.2.1 + 134)), (1, .ref (G.2.1 + c)), (2, .int (nI n))]) h 3 rfl (iinc1 _) (by decide) rfl dX6_finds_72 ?_
                  refine r_goto (pc := 75) (tgt := 11) h (by decide) dX6_finds_75 ?_
                  refine r_sub (lo2 := [(0, .ref (G.2.1 + 134)), (1, .ref (G.2.1 + c)), (2, .int (nI n)), (3, .int (nI (v + 1)))]) [1, 2, 3, 0] rfl ?_
                  exact ih11 (v + 1) _ (by omega) (off_up hoff) (row_up hR) (by omega)
                · skip
                  rw [nI_ltI (by omega) (by omega)] at c45
                  refine r_iload_n (pc := 48) h 3 rfl rfl dX6_finds_48 ?_
                  refine r_aload_n (pc := 49) h 1 rfl rfl dX6_finds_49 ?_
                  refine r_iload_n (pc := 50) h 2 rfl rfl dX6_finds_50 ?_
                  refine r_iconst (pc := 51) (v := nI 1) h (by decide) dX6_finds_51 ?_
                  refine r_cSi (pc := 52) (As := [.ref (G.2.1 + c), .int (nI n), .int (nI 1)]) (st := [.int (nI v), .int (nI ((1000 * n) + v)), .ref (G.2.1 + 141)]) h lk_RX6_47 (c_of x.2.1 G (mB σ c s h2 x1 m) c hc n 1 (by omega) (by omega)) (by decide) rfl rfl (by first | decide | exact Nat.le_of_ble_eq_true rfl) (by decide) dX6_finds_52 (fun r19 s20 q21 => ?_)
                  rw [q21.1, q21.2]
                  refine r_topi (b := nI (aU A n).2.1) ((mB_s _).trans t1) ?_
                  refine r_isub (pc := 55) (v := nI (v - (aU A n).2.1)) h (pk_sub (by omega)) dX6_finds_55 ?_
                  refine r_aload_n (pc := 56) h 1 rfl rfl dX6_finds_56 ?_
                  refine r_iload_n (pc := 57) h 2 rfl rfl dX6_finds_57 ?_
                  refine r_iconst (pc := 58) (v := nI 2) h (by decide) dX6_finds_58 ?_
                  refine r_cSi (pc := 59) (As := [.ref (G.2.1 + c), .int (nI n), .int (nI 2)]) (st := [.int (nI (v - (aU A n).2.1)), .int (nI ((1000 * n) + v)), .ref (G.2.1 + 141)]) h lk_RX6_47 (c_of x.2.1 G (mB σ c s h2 x1 m) c hc n 2 (by omega) (by omega)) (by decide) rfl rfl (by first | decide | exact Nat.le_of_ble_eq_true rfl) (by decide) dX6_finds_59 (fun r22 s23 q24 => ?_)
                  rw [q24.1, q24.2]
                  refine r_topi (b := nI (aU A n).2.2.1) ((mB_s _).trans (t2 (by omega) (by omega))) ?_
                  refine r_irem (pc := 62) (v := nI ((v - (aU A n).2.1) % (aU A n).2.2.1)) h (fun q => by rw [zI0, nI_eq (by omega) (by omega)] at q; omega) (pk_rem (by omega) (by omega) (by omega)) dX6_finds_62 ?_
                  refine r_if_ne (pc := 63) (tgt := 70) h (by decide) dX6_finds_63 (fun c63 => ?_) (fun c63 => ?_)
                  · skip
                    have hml := Nat.mod_lt (v - (aU A n).2.1) (show 0 < (aU A n).2.2.1 by omega)
                    rw [zI0, nI_eq (by omega) (by omega)] at c63
                    refine r_iconst (pc := 70) (v := nI 0) h (by decide) dX6_finds_70 ?_
                    refine r_topi (b := zB (stB (aU A n) v)) (by rw [show stB (aU A n) v = false from decide_eq_false (fun q => c63 q.2.2)]; rfl) ?_
                    refine r_zast (pc := 71) (w := zB (stB (aU A n) v)) h a_mh ((1000 * n) + v) rfl (by omega) (nar_zB _) dX6_finds_71 ?_
                    refine V.sg (mB_sh hc _ _) ?_
                    refine r_iinc (pc := 72) (v := nI (v + 1)) (lo2 := [(3, .int (nI (v + 1))), (0, .ref (G.2.1 + 134)), (1, .ref (G.2.1 + c)), (2, .int (nI n))]) h 3 rfl (iinc1 _) (by decide) rfl dX6_finds_72 ?_
                    refine r_goto (pc := 75) (tgt := 11) h (by decide) dX6_finds_75 ?_
                    refine r_sub (lo2 := [(0, .ref (G.2.1 + 134)), (1, .ref (G.2.1 + c)), (2, .int (nI n)), (3, .int (nI (v + 1)))]) [1, 2, 3, 0] rfl ?_
                    exact ih11 (v + 1) _ (by omega) (off_up hoff) (row_up hR) (by omega)
                  · skip
                    have hml := Nat.mod_lt (v - (aU A n).2.1) (show 0 < (aU A n).2.2.1 by omega)
                    rw [zI0, nI_eq (by omega) (by omega)] at c63
                    refine r_iconst (pc := 66) (v := nI 1) h (by decide) dX6_finds_66 ?_
                    refine r_goto (pc := 67) (tgt := 71) h (by decide) dX6_finds_67 ?_
                    refine r_topi (b := zB (stB (aU A n) v)) (by rw [show stB (aU A n) v = true from decide_eq_true ⟨c35, by omega, c63⟩]; rfl) ?_
                    refine r_zast (pc := 71) (w := zB (stB (aU A n) v)) h a_mh ((1000 * n) + v) rfl (by omega) (nar_zB _) dX6_finds_71 ?_
                    refine V.sg (mB_sh hc _ _) ?_
                    refine r_iinc (pc := 72) (v := nI (v + 1)) (lo2 := [(3, .int (nI (v + 1))), (0, .ref (G.2.1 + 134)), (1, .ref (G.2.1 + c)), (2, .int (nI n))]) h 3 rfl (iinc1 _) (by decide) rfl dX6_finds_72 ?_
                    refine r_goto (pc := 75) (tgt := 11) h (by decide) dX6_finds_75 ?_
                    refine r_sub (lo2 := [(0, .ref (G.2.1 + 134)), (1, .ref (G.2.1 + c)), (2, .int (nI n)), (3, .int (nI (v + 1)))]) [1, 2, 3, 0] rfl ?_
                    exact ih11 (v + 1) _ (by omega) (off_up hoff) (row_up hR) (by omega)
        refine r_sub (lo2 := [(0, .ref (G.2.1 + 134)), (1, .ref (G.2.1 + c)), (2, .int (nI n)), (3, .int (nI 0))]) [1, 2, 3, 0] rfl ?_
        exact lp11 _ 0 h1 (by omega) (fun j hj => rfl) (fun u hu => absurd hu (Nat.not_lt_zero u)) (Nat.lt_succ_self _)
  refine r_sub (lo2 := [(0, .ref (G.2.1 + 134)), (1, .ref (G.2.1 + c)), (2, .int (nI 0))]) [1, 2, 0] rfl ?_
  exact lp2 _ 0 hh xx (by omega) (fun L hL => absurd hL (Nat.not_lt_zero L)) (Nat.lt_succ_self _)

