/-! THE REFERENCE: it reads a command -/
theorem fig_lo {tx : Nat → Nat} {n lo hi : Nat} : ∀ (us : List Nat) (v a x : Nat), (fig tx n lo hi (us ++ [1]) v a).1 = some x → lo ≤ x
  | [], v, a, x, h => by
    rw [List.nil_append] at h
    cases e : dig tx n a with
    | none => rw [fig_n e] at h; cases h
    | some d =>
      by_cases q : v + d * 1 ≤ hi ∧ lo + 1 ≤ v + d * 1 + 1
      · rw [fig_s e q.1 q.2, fig_e] at h
        cases h; omega
      · rw [fig_f e q] at h; cases h
  | u :: us, v, a, x, h => by
    rw [List.cons_append] at h
    cases e : dig tx n a with
    | none => rw [fig_n e] at h; cases h
    | some d =>
      by_cases q : v + d * u ≤ hi ∧ lo + 1 ≤ v + d * u + u
      · rw [fig_s e q.1 q.2] at h
        exact fig_lo us _ _ x h
      · rw [fig_f e q] at h; cases h
theorem figK_in {tx : Nat → Nat} {n lo hi k a x p : Nat} (hk : 1 ≤ k ∧ k ≤ 3) (h : fig tx n lo hi (usK k) 0 a = (some x, p)) : lo ≤ x ∧ x ≤ hi := by
  have h1 : (fig tx n lo hi (usK k) 0 a).1 = some x := by rw [h]
  refine ⟨?_, fig_hi (usK k) 0 a x (Nat.zero_le _) h1⟩
  rcases (show k = 1 ∨ k = 2 ∨ k = 3 by omega) with rfl | rfl | rfl
  · exact fig_lo [] 0 a x h1
  · exact fig_lo [10] 0 a x h1
  · exact fig_lo [100, 10] 0 a x h1
theorem figK_le {tx : Nat → Nat} {n lo hi k a p : Nat} {o : Option Nat} (ha : a ≤ n) (h : fig tx n lo hi (usK k) 0 a = (o, p)) : a ≤ p ∧ p ≤ n := by
  have := fig_le (tx := tx) (n := n) (lo := lo) (hi := hi) (usK k) 0 a ha
  rw [h] at this; exact this
theorem inB_of {lo hi x : Nat} (h1 : lo ≤ x) (h2 : x ≤ hi) (h3 : hi < 2 ^ 31) : inB (nI lo) (nI hi) (nI x) = true := decide_eq_true ⟨by rw [nI_leI (by omega) (by omega)]; omega, by rw [nI_leI (by omega) (by omega)]; omega⟩
/-- a command was read from the place a on: its numbers f, the action K; what the reference holds then -/
def CmR (σ : Sg) (c : Nat) (m : Nat → Int32) (A : Ab) (sk K n a : Nat) (f : Fr) (r : Int32) (σ2 : Sg) : Prop := match f with
  | (none, e) => r = nI 0 ∧ ∃ s2 h2 x2 m2, σ2 = mB σ c s2 h2 x2 m2 ∧ m2 11 = nI e ∧ e ≤ n ∧ ∀ j, j ≠ 11 → j ≠ 12 → m2 j = m j
  | (some (x, y, z), a2) => r = nI 1 ∧ ∃ s2 h2 x2 m2, σ2 = mB σ c s2 h2 x2 m2 ∧ RelM (att A K (nI x) (nI y) (nI z)).2 s2 ∧ a ≤ a2 ∧ a2 ≤ n ∧ m2 11 = nI a2 ∧ m2 12 = nI (if ob A K (nI x) (nI y) (nI z) = 0 then sk else sk + 1) ∧ ∀ j, j ≠ 11 → j ≠ 12 → m2 j = m j
section
variable {σ : Sg} {c : Nat} {m : Nat → Int32} {A : Ab} {sk K n a : Nat} {f : Fr}
theorem cmr_bad {e : Nat} {s2 h2 x2 : Nat → Int32} (hf : f = (none, e)) (he : e ≤ n) : CmR σ c m A sk K n a f (nI 0) (mB σ c s2 h2 x2 (upd m 11 (nI e))) := by
  subst hf
  exact ⟨rfl, _, _, _, _, rfl, pk_us, he, fun j h _ => pk_un h⟩
theorem cmr_ok {x y z a2 : Nat} {s2 h2 x2 : Nat → Int32} (hf : f = (some (x, y, z), a2)) (ha : a ≤ a2 ∧ a2 ≤ n) (h0 : ob A K (nI x) (nI y) (nI z) = 0) (hR : RelM (co A K (nI x) (nI y) (nI z)).2 s2) : CmR σ c m A sk K n a f (nI 1) (mB σ c s2 h2 x2 (upd (upd m 11 (nI a2)) 12 (nI (sk + 0)))) := by
  subst hf
  exact ⟨rfl, _, _, _, _, rfl, by rw [att_0 h0]; exact hR, ha.1, ha.2, (pk_un (by decide)).trans pk_us, by rw [if_pos h0]; exact pk_us, fun j h h2 => (pk_un h2).trans (pk_un h)⟩
theorem cmr_sk {x y z a2 : Nat} {s2 h2 x2 : Nat → Int32} (hf : f = (some (x, y, z), a2)) (ha : a ≤ a2 ∧ a2 ≤ n) (h0 : ¬ ob A K (nI x) (nI y) (nI z) = 0) (hR : RelM A s2) : CmR σ c m A sk K n a f (nI 1) (mB σ c s2 h2 x2 (upd (upd m 11 (nI a2)) 12 (nI (sk + 1)))) := by
  subst hf
  exact ⟨rfl, _, _, _, _, rfl, by unfold att; rw [if_neg h0]; exact hR, ha.1, ha.2, (pk_un (by decide)).trans pk_us, by rw [if_neg h0]; exact pk_us, fun j h h2 => (pk_un h2).trans (pk_un h)⟩
end
theorem fst3_n1 {a b c : Bool} (h : a = false) : ¬ fst3 a b c = 0 := fun q => by have := (fst3_0 q).1; rw [h] at this; cases this
theorem fst3_n3 {a b c : Bool} (h : c = false) : ¬ fst3 a b c = 0 := fun q => by have := (fst3_0 q).2.2; rw [h] at this; cases this
theorem fst3_y {a b c : Bool} (h1 : a = true) (h2 : b = true) (h3 : c = true) : fst3 a b c = 0 := by rw [h1, h2, h3]; rfl
theorem and_t {a b : Bool} (h1 : a = true) (h2 : b = true) : (a && b) = true := by rw [h1, h2]; rfl
theorem and_f1 {a b : Bool} (h1 : a = false) : (a && b) = false := by rw [h1]; rfl
theorem and_f2 {a b : Bool} (h1 : b = false) : (a && b) = false := by rw [h1, Bool.and_false]
theorem isSome_f {o : Option Nat} (h : o = none) : o.isSome = false := by subst h; rfl
theorem isSome_t {o : Option Nat} (h : ¬ o = none) : o.isSome = true := by cases o with
  | none => exact absurd rfl h
  | some v => rfl
theorem CmR_nar {σ : Sg} {c : Nat} {m : Nat → Int32} {A : Ab} {sk K n a : Nat} {f : Fr} {r : Int32} {σ2 : Sg} (h : CmR σ c m A sk K n a f r σ2) : narrow .boolean (.int r) = .int r := by
  obtain ⟨o, e⟩ := f
  cases o with
  | none => rw [h.1]; rfl
  | some v => obtain ⟨x, y, z⟩ := v; rw [h.1]; rfl
set_option maxRecDepth 100000 in
set_option maxHeartbeats 800000 in
theorem c_readSteps (l : Launch) (G : Gl) (σ : Sg) (c : Nat) (hc : Rc c) (s hh xx m : Nat → Int32) (A : Ab) (hA : okA A) (hM : RelM A s) (n : Nat) (tx : Nat → Nat) (ht : TxM n tx σ) (hm2 : m 2 = nI n) (a : Nat) (ha : a ≤ n) (hm11 : m 11 = nI a) (sk : Nat) (hm12 : m 12 = nI sk) : Ci l yX6_readSteps cX6_readSteps 4 .boolean ({ frames := 2, cells := 0, slots := 0, locals := 53 } : Room) G [.ref (G.2.1 + 134), .ref (G.2.1 + c)] (mB σ c s hh xx m) (fun r σ2 => CmR σ c m A sk 115 n a (ftwo (fig tx n 0 999 (usK 3) 0 a) (fun p => fig tx n 1 99 (usK 2) 0 p)) r σ2) := by
  refine Ci_of (own := RX6) rfl (by decide +kernel) (lo := [(0, .ref (G.2.1 + 134)), (1, .ref (G.2.1 + c))]) rfl (Nat.le_of_ble_eq_true rfl) (fun r s hp => CmR_nar hp) ?_
  intro x Q hxl h hret
  subst hxl
  have h12 := hA.1
  have h4 := hA.2.1
  have hn9 := ht.1
  refine V.sg (show mB σ c s hh xx m = mB σ c s hh xx (upd m 11 (nI a)) from congrArg (mB σ c s hh xx) (upd_id hm11).symm) ?_
  refine r_aload_n (pc := 0) h 0 rfl rfl dX6_readSteps_0 ?_
  refine r_iconst (pc := 1) (v := nI 0) h (by decide) dX6_readSteps_1 ?_
  refine r_bipush (pc := 2) (v := nI 100) h (by decide) dX6_readSteps_2 ?_
  refine r_iconst (pc := 4) (v := nI 0) h (by decide) dX6_readSteps_4 ?_
  refine r_sipush (pc := 5) (v := nI 999) h (by decide) dX6_readSteps_5 ?_
  refine r_cVi (pc := 8) (As := [.int (nI 0), .int (nI 100), .int (nI 0), .int (nI 999)]) (st := []) h lk_RX6_107 (c_fig x.2.1 G σ c hc s hh xx (upd m 11 (nI a)) n tx ht ((pk_un (by decide)).trans hm2) a (by omega) pk_us 0 3 0 999 (by omega) (by omega) (by omega) (by omega)) rc_6 (by decide) rfl rfl (by first | decide | exact Nat.le_of_ble_eq_true rfl) (by decide) dX6_readSteps_8 (fun r1 s2 q3 => ?_)
  obtain ⟨o1, p1, hf1⟩ : ∃ o p, fig tx n 0 999 (usK 3) 0 a = (o, p) := ⟨_, _, rfl⟩
  have hb1 := figK_le (by omega) hf1
  rw [q3.1, q3.2, upd_2, hf1]
  refine V.sg (show _ = mB σ c s hh xx (upd m 11 (nI p1)) from rfl) ?_
  refine r_topi (b := oI o1) rfl ?_
  cases o1 with
  | none =>
    refine r_topi (b := (-1)) rfl ?_
    refine r_istore_n (pc := 11) (lo2 := [(2, .int (-1)), (0, .ref (G.2.1 + 134)), (1, .ref (G.2.1 + c))]) h rfl (by decide) rfl dX6_readSteps_11 ?_
    refine r_aload_n (pc := 12) h 1 rfl rfl dX6_readSteps_12 ?_
    refine r_iload_n (pc := 13) h 0 rfl rfl dX6_readSteps_13 ?_
    refine r_bipush (pc := 14) (v := nI 10) h (by decide) dX6_readSteps_14 ?_
    refine r_iconst (pc := 16) (v := nI 1) h (by decide) dX6_readSteps_16 ?_
    refine r_bipush (pc := 17) (v := nI 99) h (by decide) dX6_readSteps_17 ?_
    refine r_cVi (pc := 19) (As := [.int (-1), .int (nI 10), .int (nI 1), .int (nI 99)]) (st := []) h lk_RX6_107 (c_figN x.2.1 G σ c hc s hh xx (upd m 11 (nI p1)) 2 1 99 (by omega)) rc_6 (by decide) rfl rfl (by first | decide | exact Nat.le_of_ble_eq_true rfl) (by decide) dX6_readSteps_19 (fun r4 s5 q6 => ?_)
    rw [q6.1, q6.2]
    refine r_istore_n (pc := 22) (lo2 := [(3, .int (-1)), (2, .int (-1)), (0, .ref (G.2.1 + 134)), (1, .ref (G.2.1 + c))]) h rfl (by decide) rfl dX6_readSteps_22 ?_
    refine r_iload_n (pc := 23) h 0 rfl rfl dX6_readSteps_23 ?_
    refine r_iconst (pc := 24) (v := (-1)) h (by decide) dX6_readSteps_24 ?_
    refine r_icmp_eq (pc := 25) (tgt := 62) h (by decide) dX6_readSteps_25 (fun _ => ?_) (fun c25 => absurd c25 (by decide))
    refine r_iconst (pc := 62) (v := nI 0) h (by decide) dX6_readSteps_62 ?_
    exact hret _ _ (cmr_bad (by simp only [fone, ftwo, fthr, hf1] : ftwo (fig tx n 0 999 (usK 3) 0 a) (fun p => fig tx n 1 99 (usK 2) 0 p) = (none, p1)) (by omega)) 63 _ dX6_readSteps_63
  | some v1 =>
    refine r_topi (b := nI v1) rfl ?_
    have hv1 := figK_in (by omega) hf1
    refine r_istore_n (pc := 11) (lo2 := [(2, .int (nI v1)), (0, .ref (G.2.1 + 134)), (1, .ref (G.2.1 + c))]) h rfl (by decide) rfl dX6_readSteps_11 ?_
    refine r_aload_n (pc := 12) h 1 rfl rfl dX6_readSteps_12 ?_
    refine r_iload_n (pc := 13) h 0 rfl rfl dX6_readSteps_13 ?_
    refine r_bipush (pc := 14) (v := nI 10) h (by decide) dX6_readSteps_14 ?_
    refine r_iconst (pc := 16) (v := nI 1) h (by decide) dX6_readSteps_16 ?_
    refine r_bipush (pc := 17) (v := nI 99) h (by decide) dX6_readSteps_17 ?_
    refine r_cVi (pc := 19) (As := [.int (nI v1), .int (nI 10), .int (nI 1), .int (nI 99)]) (st := []) h lk_RX6_107 (c_fig x.2.1 G σ c hc s hh xx (upd m 11 (nI p1)) n tx ht ((pk_un (by decide)).trans hm2) p1 (by omega) pk_us v1 2 1 99 (by omega) (by omega) (by omega) (by omega)) rc_6 (by decide) rfl rfl (by first | decide | exact Nat.le_of_ble_eq_true rfl) (by decide) dX6_readSteps_19 (fun r7 s8 q9 => ?_)
    obtain ⟨o2, p2, hf2⟩ : ∃ o p, fig tx n 1 99 (usK 2) 0 p1 = (o, p) := ⟨_, _, rfl⟩
    have hb2 := figK_le (by omega) hf2
    rw [q9.1, q9.2, upd_2, hf2]
    refine V.sg (show _ = mB σ c s hh xx (upd m 11 (nI p2)) from rfl) ?_
    refine r_topi (b := oI o2) rfl ?_
    cases o2 with
    | none =>
      refine r_topi (b := (-1)) rfl ?_
      refine r_istore_n (pc := 22) (lo2 := [(3, .int (-1)), (2, .int (nI v1)), (0, .ref (G.2.1 + 134)), (1, .ref (G.2.1 + c))]) h rfl (by decide) rfl dX6_readSteps_22 ?_
      refine r_iload_n (pc := 23) h 0 rfl rfl dX6_readSteps_23 ?_
      refine r_iconst (pc := 24) (v := (-1)) h (by decide) dX6_readSteps_24 ?_
      refine r_icmp_eq (pc := 25) (tgt := 62) h (by decide) dX6_readSteps_25 (fun _ => ?_) (fun c25 => absurd c25 (by decide))
      refine r_iconst (pc := 62) (v := nI 0) h (by decide) dX6_readSteps_62 ?_
      exact hret _ _ (cmr_bad (by simp only [fone, ftwo, fthr, hf1, hf2] : ftwo (fig tx n 0 999 (usK 3) 0 a) (fun p => fig tx n 1 99 (usK 2) 0 p) = (none, p2)) (by omega)) 63 _ dX6_readSteps_63
    | some v2 =>
      refine r_topi (b := nI v2) rfl ?_
      have hv2 := figK_in (by omega) hf2
      refine r_istore_n (pc := 22) (lo2 := [(3, .int (nI v2)), (2, .int (nI v1)), (0, .ref (G.2.1 + 134)), (1, .ref (G.2.1 + c))]) h rfl (by decide) rfl dX6_readSteps_22 ?_
      refine r_iload_n (pc := 23) h 0 rfl rfl dX6_readSteps_23 ?_
      refine r_iconst (pc := 24) (v := (-1)) h (by decide) dX6_readSteps_24 ?_
      refine r_icmp_eq (pc := 25) (tgt := 62) h (by decide) dX6_readSteps_25 (fun c25 => ?_) (fun c25 => ?_)
      · skip
        exact absurd c25 (nI_ne (by omega))
      · skip
        refine r_aload_n (pc := 28) h 2 rfl rfl dX6_readSteps_28 ?_
        refine r_aload_n (pc := 29) h 3 rfl rfl dX6_readSteps_29 ?_
        refine r_cSi (pc := 30) (As := [.ref (G.2.1 + c)]) (st := [.ref (G.2.1 + 134)]) h lk_RX6_111 (c_hasRoomM x.2.1 G (mB σ c s hh xx (upd m 11 (nI p2))) c hc A (by rw [mB_sF]; exact hM) (by omega)) (by decide) rfl rfl (by first | decide | exact Nat.le_of_ble_eq_true rfl) (by decide) dX6_readSteps_30 (fun r10 s11 q12 => ?_)
        rw [q12.1, q12.2]
        refine r_if_eq (pc := 33) (tgt := 51) h (by decide) dX6_readSteps_33 (fun c33 => ?_) (fun c33 => ?_)
        · skip
          replace c33 := zB_0.mp c33
          refine r_iconst (pc := 51) (v := nI 0) h (by decide) dX6_readSteps_51 ?_
          refine r_cVi (pc := 52) (As := [.int (nI 0)]) (st := []) h lk_RX6_119 (c_doneF x.2.1 G σ c hc s hh xx (upd m 11 (nI p2)) sk ((pk_un (by decide)).trans hm12)) rc_6 (by decide) rfl rfl (by first | decide | exact Nat.le_of_ble_eq_true rfl) (by decide) dX6_readSteps_52 (fun r13 s14 q15 => ?_)
          rw [q15.1, q15.2]
          refine r_if_eq (pc := 55) (tgt := 62) h (by decide) dX6_readSteps_55 (fun c55 => absurd c55 (by decide)) (fun _ => ?_)
          refine r_iconst (pc := 58) (v := nI 1) h (by decide) dX6_readSteps_58 ?_
          refine r_goto (pc := 59) (tgt := 63) h (by decide) dX6_readSteps_59 ?_
          exact hret _ _ (cmr_sk (by simp only [fone, ftwo, fthr, hf1, hf2] : ftwo (fig tx n 0 999 (usK 3) 0 a) (fun p => fig tx n 1 99 (usK 2) 0 p) = (some (v1, v2, 0), p2)) (by omega) (fst3_n3 c33) hM) 63 _ dX6_readSteps_63
        · skip
          replace c33 := zB_n0.mp c33
          refine r_aload_n (pc := 36) h 3 rfl rfl dX6_readSteps_36 ?_
          refine r_iconst (pc := 37) (v := nI 0) h (by decide) dX6_readSteps_37 ?_
          refine r_iload_n (pc := 38) h 1 rfl rfl dX6_readSteps_38 ?_
          refine r_iload_n (pc := 39) h 0 rfl rfl dX6_readSteps_39 ?_
          refine r_iconst (pc := 40) (v := nI 0) h (by decide) dX6_readSteps_40 ?_
          refine r_cSi (pc := 41) (As := [.ref (G.2.1 + c), .int (nI 0), .int (nI v1), .int (nI v2), .int (nI 0)]) (st := [.ref (G.2.1 + 134)]) h lk_RX6_115 (c_makeM x.2.1 G σ c hc s hh xx (upd m 11 (nI p2)) A hA hM (0, v1, v2, 0) (nI v2) (nI 0) (of_decide_eq_true c33) (fun _ _ => rfl) (fun q => by cases q)) (by decide) rfl rfl (by first | decide | exact Nat.le_of_ble_eq_true rfl) (by decide) dX6_readSteps_41 (fun r16 s17 q18 => ?_)
          obtain ⟨e9, s2, es, hs2⟩ := q18
          rw [e9]
          subst es
          refine r_if_lt (pc := 44) (tgt := 51) h (by decide) dX6_readSteps_44 (fun c44 => ?_) (fun c44 => ?_)
          · skip
            rw [zI0, nI_ltI (by omega) (by omega)] at c44
            exact absurd c44 (by omega)
          · skip
            rw [zI0, nI_ltI (by omega) (by omega)] at c44
            refine r_iconst (pc := 47) (v := nI 1) h (by decide) dX6_readSteps_47 ?_
            refine r_goto (pc := 48) (tgt := 52) h (by decide) dX6_readSteps_48 ?_
            refine r_cVi (pc := 52) (As := [.int (nI 1)]) (st := []) h lk_RX6_119 (c_doneT x.2.1 G σ c hc s2 hh xx (upd m 11 (nI p2)) sk ((pk_un (by decide)).trans hm12)) rc_6 (by decide) rfl rfl (by first | decide | exact Nat.le_of_ble_eq_true rfl) (by decide) dX6_readSteps_52 (fun r19 s20 q21 => ?_)
            rw [q21.1, q21.2]
            refine r_if_eq (pc := 55) (tgt := 62) h (by decide) dX6_readSteps_55 (fun c55 => absurd c55 (by decide)) (fun _ => ?_)
            refine r_iconst (pc := 58) (v := nI 1) h (by decide) dX6_readSteps_58 ?_
            refine r_goto (pc := 59) (tgt := 63) h (by decide) dX6_readSteps_59 ?_
            exact hret _ _ (cmr_ok (by simp only [fone, ftwo, fthr, hf1, hf2] : ftwo (fig tx n 0 999 (usK 3) 0 a) (fun p => fig tx n 1 99 (usK 2) 0 p) = (some (v1, v2, 0), p2)) (by omega) (fst3_y rfl (and_t (inB_of (by omega) (by omega) (by omega)) (inB_of (by omega) (by omega) (by omega))) c33) (by show RelM (mkA A (0, toN (nI v1), toN (nI v2), 0)) _; rw [toN_nI (show v1 < 2 ^ 31 by omega), toN_nI (show v2 < 2 ^ 31 by omega)]; exact hs2)) 63 _ dX6_readSteps_63

set_option maxRecDepth 100000 in
set_option maxHeartbeats 800000 in
theorem c_readScaled (l : Launch) (G : Gl) (σ : Sg) (c : Nat) (hc : Rc c) (s hh xx m : Nat → Int32) (A : Ab) (hA : okA A) (hM : RelM A s) (n : Nat) (tx : Nat → Nat) (ht : TxM n tx σ) (hm2 : m 2 = nI n) (a : Nat) (ha : a ≤ n) (hm11 : m 11 = nI a) (sk : Nat) (hm12 : m 12 = nI sk) : Ci l yX6_readScaled cX6_readScaled 5 .boolean ({ frames := 2, cells := 0, slots := 0, locals := 53 } : Room) G [.ref (G.2.1 + 134), .ref (G.2.1 + c)] (mB σ c s hh xx m) (fun r σ2 => CmR σ c m A sk 120 n a (fthr (fig tx n 0 11 (usK 2) 0 a) (fun p => fig tx n 1 9 (usK 1) 0 p) (fun p => fig tx n 0 99 (usK 2) 0 p)) r σ2) := by
  refine Ci_of (own := RX6) rfl (by decide +kernel) (lo := [(0, .ref (G.2.1 + 134)), (1, .ref (G.2.1 + c))]) rfl (Nat.le_of_ble_eq_true rfl) (fun r s hp => CmR_nar hp) ?_
  intro x Q hxl h hret
  subst hxl
  have h12 := hA.1
  have h4 := hA.2.1
  have hn9 := ht.1
  refine V.sg (show mB σ c s hh xx m = mB σ c s hh xx (upd m 11 (nI a)) from congrArg (mB σ c s hh xx) (upd_id hm11).symm) ?_
  refine r_aload_n (pc := 0) h 0 rfl rfl dX6_readScaled_0 ?_
  refine r_iconst (pc := 1) (v := nI 0) h (by decide) dX6_readScaled_1 ?_
  refine r_bipush (pc := 2) (v := nI 10) h (by decide) dX6_readScaled_2 ?_
  refine r_iconst (pc := 4) (v := nI 0) h (by decide) dX6_readScaled_4 ?_
  refine r_bipush (pc := 5) (v := nI 11) h (by decide) dX6_readScaled_5 ?_
  refine r_cVi (pc := 7) (As := [.int (nI 0), .int (nI 10), .int (nI 0), .int (nI 11)]) (st := []) h lk_RX6_107 (c_fig x.2.1 G σ c hc s hh xx (upd m 11 (nI a)) n tx ht ((pk_un (by decide)).trans hm2) a (by omega) pk_us 0 2 0 11 (by omega) (by omega) (by omega) (by omega)) rc_6 (by decide) rfl rfl (by first | decide | exact Nat.le_of_ble_eq_true rfl) (by decide) dX6_readScaled_7 (fun r1 s2 q3 => ?_)
  obtain ⟨o1, p1, hf1⟩ : ∃ o p, fig tx n 0 11 (usK 2) 0 a = (o, p) := ⟨_, _, rfl⟩
  have hb1 := figK_le (by omega) hf1
  rw [q3.1, q3.2, upd_2, hf1]
  refine V.sg (show _ = mB σ c s hh xx (upd m 11 (nI p1)) from rfl) ?_
  refine r_topi (b := oI o1) rfl ?_
  cases o1 with
  | none =>
    refine r_topi (b := (-1)) rfl ?_
    refine r_istore_n (pc := 10) (lo2 := [(2, .int (-1)), (0, .ref (G.2.1 + 134)), (1, .ref (G.2.1 + c))]) h rfl (by decide) rfl dX6_readScaled_10 ?_
    refine r_aload_n (pc := 11) h 1 rfl rfl dX6_readScaled_11 ?_
    refine r_iload_n (pc := 12) h 0 rfl rfl dX6_readScaled_12 ?_
    refine r_iconst (pc := 13) (v := nI 1) h (by decide) dX6_readScaled_13 ?_
    refine r_iconst (pc := 14) (v := nI 1) h (by decide) dX6_readScaled_14 ?_
    refine r_bipush (pc := 15) (v := nI 9) h (by decide) dX6_readScaled_15 ?_
    refine r_cVi (pc := 17) (As := [.int (-1), .int (nI 1), .int (nI 1), .int (nI 9)]) (st := []) h lk_RX6_107 (c_figN x.2.1 G σ c hc s hh xx (upd m 11 (nI p1)) 1 1 9 (by omega)) rc_6 (by decide) rfl rfl (by first | decide | exact Nat.le_of_ble_eq_true rfl) (by decide) dX6_readScaled_17 (fun r4 s5 q6 => ?_)
    rw [q6.1, q6.2]
    refine r_istore_n (pc := 20) (lo2 := [(3, .int (-1)), (2, .int (-1)), (0, .ref (G.2.1 + 134)), (1, .ref (G.2.1 + c))]) h rfl (by decide) rfl dX6_readScaled_20 ?_
    refine r_aload_n (pc := 21) h 2 rfl rfl dX6_readScaled_21 ?_
    refine r_iload_n (pc := 22) h 0 rfl rfl dX6_readScaled_22 ?_
    refine r_bipush (pc := 23) (v := nI 10) h (by decide) dX6_readScaled_23 ?_
    refine r_iconst (pc := 25) (v := nI 0) h (by decide) dX6_readScaled_25 ?_
    refine r_bipush (pc := 26) (v := nI 99) h (by decide) dX6_readScaled_26 ?_
    refine r_cVi (pc := 28) (As := [.int (-1), .int (nI 10), .int (nI 0), .int (nI 99)]) (st := []) h lk_RX6_107 (c_figN x.2.1 G σ c hc s hh xx (upd m 11 (nI p1)) 2 0 99 (by omega)) rc_6 (by decide) rfl rfl (by first | decide | exact Nat.le_of_ble_eq_true rfl) (by decide) dX6_readScaled_28 (fun r7 s8 q9 => ?_)
    rw [q9.1, q9.2]
    refine r_istore (pc := 31) (lo2 := [(4, .int (-1)), (3, .int (-1)), (2, .int (-1)), (0, .ref (G.2.1 + 134)), (1, .ref (G.2.1 + c))]) h (by decide) rfl dX6_readScaled_31 ?_
    refine r_iload (pc := 33) h 0 rfl dX6_readScaled_33 ?_
    refine r_iconst (pc := 35) (v := (-1)) h (by decide) dX6_readScaled_35 ?_
    refine r_icmp_eq (pc := 36) (tgt := 82) h (by decide) dX6_readScaled_36 (fun _ => ?_) (fun c36 => absurd c36 (by decide))
    refine r_iconst (pc := 82) (v := nI 0) h (by decide) dX6_readScaled_82 ?_
    exact hret _ _ (cmr_bad (by simp only [fone, ftwo, fthr, hf1] : fthr (fig tx n 0 11 (usK 2) 0 a) (fun p => fig tx n 1 9 (usK 1) 0 p) (fun p => fig tx n 0 99 (usK 2) 0 p) = (none, p1)) (by omega)) 83 _ dX6_readScaled_83
  | some v1 =>
    refine r_topi (b := nI v1) rfl ?_
    have hv1 := figK_in (by omega) hf1
    refine r_istore_n (pc := 10) (lo2 := [(2, .int (nI v1)), (0, .ref (G.2.1 + 134)), (1, .ref (G.2.1 + c))]) h rfl (by decide) rfl dX6_readScaled_10 ?_
    refine r_aload_n (pc := 11) h 1 rfl rfl dX6_readScaled_11 ?_
    refine r_iload_n (pc := 12) h 0 rfl rfl dX6_readScaled_12 ?_
    refine r_iconst (pc := 13) (v := nI 1) h (by decide) dX6_readScaled_13 ?_
    refine r_iconst (pc := 14) (v := nI 1) h (by decide) dX6_readScaled_14 ?_
    refine r_bipush (pc := 15) (v := nI 9) h (by decide) dX6_readScaled_15 ?_
    refine r_cVi (pc := 17) (As := [.int (nI v1), .int (nI 1), .int (nI 1), .int (nI 9)]) (st := []) h lk_RX6_107 (c_fig x.2.1 G σ c hc s hh xx (upd m 11 (nI p1)) n tx ht ((pk_un (by decide)).trans hm2) p1 (by omega) pk_us v1 1 1 9 (by omega) (by omega) (by omega) (by omega)) rc_6 (by decide) rfl rfl (by first | decide | exact Nat.le_of_ble_eq_true rfl) (by decide) dX6_readScaled_17 (fun r10 s11 q12 => ?_)
    obtain ⟨o2, p2, hf2⟩ : ∃ o p, fig tx n 1 9 (usK 1) 0 p1 = (o, p) := ⟨_, _, rfl⟩
    have hb2 := figK_le (by omega) hf2
    rw [q12.1, q12.2, upd_2, hf2]
    refine V.sg (show _ = mB σ c s hh xx (upd m 11 (nI p2)) from rfl) ?_
    refine r_topi (b := oI o2) rfl ?_
    cases o2 with
    | none =>
      refine r_topi (b := (-1)) rfl ?_
      refine r_istore_n (pc := 20) (lo2 := [(3, .int (-1)), (2, .int (nI v1)), (0, .ref (G.2.1 + 134)), (1, .ref (G.2.1 + c))]) h rfl (by decide) rfl dX6_readScaled_20 ?_
      refine r_aload_n (pc := 21) h 2 rfl rfl dX6_readScaled_21 ?_
      refine r_iload_n (pc := 22) h 0 rfl rfl dX6_readScaled_22 ?_
      refine r_bipush (pc := 23) (v := nI 10) h (by decide) dX6_readScaled_23 ?_
      refine r_iconst (pc := 25) (v := nI 0) h (by decide) dX6_readScaled_25 ?_
      refine r_bipush (pc := 26) (v := nI 99) h (by decide) dX6_readScaled_26 ?_
      refine r_cVi (pc := 28) (As := [.int (-1), .int (nI 10), .int (nI 0), .int (nI 99)]) (st := []) h lk_RX6_107 (c_figN x.2.1 G σ c hc s hh xx (upd m 11 (nI p2)) 2 0 99 (by omega)) rc_6 (by decide) rfl rfl (by first | decide | exact Nat.le_of_ble_eq_true rfl) (by decide) dX6_readScaled_28 (fun r13 s14 q15 => ?_)
      rw [q15.1, q15.2]
      refine r_istore (pc := 31) (lo2 := [(4, .int (-1)), (3, .int (-1)), (2, .int (nI v1)), (0, .ref (G.2.1 + 134)), (1, .ref (G.2.1 + c))]) h (by decide) rfl dX6_readScaled_31 ?_
      refine r_iload (pc := 33) h 0 rfl dX6_readScaled_33 ?_
      refine r_iconst (pc := 35) (v := (-1)) h (by decide) dX6_readScaled_35 ?_
      refine r_icmp_eq (pc := 36) (tgt := 82) h (by decide) dX6_readScaled_36 (fun _ => ?_) (fun c36 => absurd c36 (by decide))
      refine r_iconst (pc := 82) (v := nI 0) h (by decide) dX6_readScaled_82 ?_
      exact hret _ _ (cmr_bad (by simp only [fone, ftwo, fthr, hf1, hf2] : fthr (fig tx n 0 11 (usK 2) 0 a) (fun p => fig tx n 1 9 (usK 1) 0 p) (fun p => fig tx n 0 99 (usK 2) 0 p) = (none, p2)) (by omega)) 83 _ dX6_readScaled_83
    | some v2 =>
      refine r_topi (b := nI v2) rfl ?_
      have hv2 := figK_in (by omega) hf2
      refine r_istore_n (pc := 20) (lo2 := [(3, .int (nI v2)), (2, .int (nI v1)), (0, .ref (G.2.1 + 134)), (1, .ref (G.2.1 + c))]) h rfl (by decide) rfl dX6_readScaled_20 ?_
      refine r_aload_n (pc := 21) h 2 rfl rfl dX6_readScaled_21 ?_
      refine r_iload_n (pc := 22) h 0 rfl rfl dX6_readScaled_22 ?_
      refine r_bipush (pc := 23) (v := nI 10) h (by decide) dX6_readScaled_23 ?_
      refine r_iconst (pc := 25) (v := nI 0) h (by decide) dX6_readScaled_25 ?_
      refine r_bipush (pc := 26) (v := nI 99) h (by decide) dX6_readScaled_26 ?_
      refine r_cVi (pc := 28) (As := [.int (nI v2), .int (nI 10), .int (nI 0), .int (nI 99)]) (st := []) h lk_RX6_107 (c_fig x.2.1 G σ c hc s hh xx (upd m 11 (nI p2)) n tx ht ((pk_un (by decide)).trans hm2) p2 (by omega) pk_us v2 2 0 99 (by omega) (by omega) (by omega) (by omega)) rc_6 (by decide) rfl rfl (by first | decide | exact Nat.le_of_ble_eq_true rfl) (by decide) dX6_readScaled_28 (fun r16 s17 q18 => ?_)
      obtain ⟨o3, p3, hf3⟩ : ∃ o p, fig tx n 0 99 (usK 2) 0 p2 = (o, p) := ⟨_, _, rfl⟩
      have hb3 := figK_le (by omega) hf3
      rw [q18.1, q18.2, upd_2, hf3]
      refine V.sg (show _ = mB σ c s hh xx (upd m 11 (nI p3)) from rfl) ?_
      refine r_topi (b := oI o3) rfl ?_
      cases o3 with
      | none =>
        refine r_topi (b := (-1)) rfl ?_
        refine r_istore (pc := 31) (lo2 := [(4, .int (-1)), (3, .int (nI v2)), (2, .int (nI v1)), (0, .ref (G.2.1 + 134)), (1, .ref (G.2.1 + c))]) h (by decide) rfl dX6_readScaled_31 ?_
        refine r_iload (pc := 33) h 0 rfl dX6_readScaled_33 ?_
        refine r_iconst (pc := 35) (v := (-1)) h (by decide) dX6_readScaled_35 ?_
        refine r_icmp_eq (pc := 36) (tgt := 82) h (by decide) dX6_readScaled_36 (fun _ => ?_) (fun c36 => absurd c36 (by decide))
        refine r_iconst (pc := 82) (v := nI 0) h (by decide) dX6_readScaled_82 ?_
        exact hret _ _ (cmr_bad (by simp only [fone, ftwo, fthr, hf1, hf2, hf3] : fthr (fig tx n 0 11 (usK 2) 0 a) (fun p => fig tx n 1 9 (usK 1) 0 p) (fun p => fig tx n 0 99 (usK 2) 0 p) = (none, p3)) (by omega)) 83 _ dX6_readScaled_83
      | some v3 =>
        refine r_topi (b := nI v3) rfl ?_
        have hv3 := figK_in (by omega) hf3
        refine r_istore (pc := 31) (lo2 := [(4, .int (nI v3)), (3, .int (nI v2)), (2, .int (nI v1)), (0, .ref (G.2.1 + 134)), (1, .ref (G.2.1 + c))]) h (by decide) rfl dX6_readScaled_31 ?_
        refine r_iload (pc := 33) h 0 rfl dX6_readScaled_33 ?_
        refine r_iconst (pc := 35) (v := (-1)) h (by decide) dX6_readScaled_35 ?_
        refine r_icmp_eq (pc := 36) (tgt := 82) h (by decide) dX6_readScaled_36 (fun c36 => ?_) (fun c36 => ?_)
        · skip
          exact absurd c36 (nI_ne (by omega))
        · skip
          refine r_aload_n (pc := 39) h 3 rfl rfl dX6_readScaled_39 ?_
          refine r_aload_n (pc := 40) h 4 rfl rfl dX6_readScaled_40 ?_
          refine r_iload_n (pc := 41) h 2 rfl rfl dX6_readScaled_41 ?_
          refine r_cSi (pc := 42) (As := [.ref (G.2.1 + c), .int (nI v1)]) (st := [.ref (G.2.1 + 134)]) h lk_RX6_123 (c_isListM x.2.1 G (mB σ c s hh xx (upd m 11 (nI p3))) c hc A (by rw [mB_sF]; exact hM) (by omega) (nI v1)) (by decide) rfl rfl (by first | decide | exact Nat.le_of_ble_eq_true rfl) (by decide) dX6_readScaled_42 (fun r19 s20 q21 => ?_)
          rw [q21.1, q21.2]
          refine r_if_eq (pc := 45) (tgt := 71) h (by decide) dX6_readScaled_45 (fun c45 => ?_) (fun c45 => ?_)
          · skip
            replace c45 := zB_0.mp c45
            refine r_iconst (pc := 71) (v := nI 0) h (by decide) dX6_readScaled_71 ?_
            refine r_cVi (pc := 72) (As := [.int (nI 0)]) (st := []) h lk_RX6_119 (c_doneF x.2.1 G σ c hc s hh xx (upd m 11 (nI p3)) sk ((pk_un (by decide)).trans hm12)) rc_6 (by decide) rfl rfl (by first | decide | exact Nat.le_of_ble_eq_true rfl) (by decide) dX6_readScaled_72 (fun r22 s23 q24 => ?_)
            rw [q24.1, q24.2]
            refine r_if_eq (pc := 75) (tgt := 82) h (by decide) dX6_readScaled_75 (fun c75 => absurd c75 (by decide)) (fun _ => ?_)
            refine r_iconst (pc := 78) (v := nI 1) h (by decide) dX6_readScaled_78 ?_
            refine r_goto (pc := 79) (tgt := 83) h (by decide) dX6_readScaled_79 ?_
            exact hret _ _ (cmr_sk (by simp only [fone, ftwo, fthr, hf1, hf2, hf3] : fthr (fig tx n 0 11 (usK 2) 0 a) (fun p => fig tx n 1 9 (usK 1) 0 p) (fun p => fig tx n 0 99 (usK 2) 0 p) = (some (v1, v2, v3), p3)) (by omega) (fst3_n1 c45) hM) 83 _ dX6_readScaled_83
          · skip
            replace c45 := zB_n0.mp c45
            refine r_aload_n (pc := 48) h 4 rfl rfl dX6_readScaled_48 ?_
            refine r_cSi (pc := 49) (As := [.ref (G.2.1 + c)]) (st := [.ref (G.2.1 + 134)]) h lk_RX6_111 (c_hasRoomM x.2.1 G (mB σ c s hh xx (upd m 11 (nI p3))) c hc A (by rw [mB_sF]; exact hM) (by omega)) (by decide) rfl rfl (by first | decide | exact Nat.le_of_ble_eq_true rfl) (by decide) dX6_readScaled_49 (fun r25 s26 q27 => ?_)
            rw [q27.1, q27.2]
            refine r_if_eq (pc := 52) (tgt := 71) h (by decide) dX6_readScaled_52 (fun c52 => ?_) (fun c52 => ?_)
            · skip
              replace c52 := zB_0.mp c52
              refine r_iconst (pc := 71) (v := nI 0) h (by decide) dX6_readScaled_71 ?_
              refine r_cVi (pc := 72) (As := [.int (nI 0)]) (st := []) h lk_RX6_119 (c_doneF x.2.1 G σ c hc s hh xx (upd m 11 (nI p3)) sk ((pk_un (by decide)).trans hm12)) rc_6 (by decide) rfl rfl (by first | decide | exact Nat.le_of_ble_eq_true rfl) (by decide) dX6_readScaled_72 (fun r28 s29 q30 => ?_)
              rw [q30.1, q30.2]
              refine r_if_eq (pc := 75) (tgt := 82) h (by decide) dX6_readScaled_75 (fun c75 => absurd c75 (by decide)) (fun _ => ?_)
              refine r_iconst (pc := 78) (v := nI 1) h (by decide) dX6_readScaled_78 ?_
              refine r_goto (pc := 79) (tgt := 83) h (by decide) dX6_readScaled_79 ?_
              exact hret _ _ (cmr_sk (by simp only [fone, ftwo, fthr, hf1, hf2, hf3] : fthr (fig tx n 0 11 (usK 2) 0 a) (fun p => fig tx n 1 9 (usK 1) 0 p) (fun p => fig tx n 0 99 (usK 2) 0 p) = (some (v1, v2, v3), p3)) (by omega) (fst3_n3 c52) hM) 83 _ dX6_readScaled_83
            · skip
              replace c52 := zB_n0.mp c52
              refine r_aload_n (pc := 55) h 4 rfl rfl dX6_readScaled_55 ?_
              refine r_iconst (pc := 56) (v := nI 1) h (by decide) dX6_readScaled_56 ?_
              refine r_iload_n (pc := 57) h 2 rfl rfl dX6_readScaled_57 ?_
              refine r_iload_n (pc := 58) h 1 rfl rfl dX6_readScaled_58 ?_
              refine r_iload (pc := 59) h 0 rfl dX6_readScaled_59 ?_
              refine r_cSi (pc := 61) (As := [.ref (G.2.1 + c), .int (nI 1), .int (nI v1), .int (nI v2), .int (nI v3)]) (st := [.ref (G.2.1 + 134)]) h lk_RX6_115 (c_makeM x.2.1 G σ c hc s hh xx (upd m 11 (nI p3)) A hA hM (1, v1, v2, v3) (nI v2) (nI v3) (of_decide_eq_true c52) (fun _ _ => rfl) (fun _ => rfl)) (by decide) rfl rfl (by first | decide | exact Nat.le_of_ble_eq_true rfl) (by decide) dX6_readScaled_61 (fun r31 s32 q33 => ?_)
              obtain ⟨e9, s2, es, hs2⟩ := q33
              rw [e9]
              subst es
              refine r_if_lt (pc := 64) (tgt := 71) h (by decide) dX6_readScaled_64 (fun c64 => ?_) (fun c64 => ?_)
              · skip
                rw [zI0, nI_ltI (by omega) (by omega)] at c64
                exact absurd c64 (by omega)
              · skip
                rw [zI0, nI_ltI (by omega) (by omega)] at c64
                refine r_iconst (pc := 67) (v := nI 1) h (by decide) dX6_readScaled_67 ?_
                refine r_goto (pc := 68) (tgt := 72) h (by decide) dX6_readScaled_68 ?_
                refine r_cVi (pc := 72) (As := [.int (nI 1)]) (st := []) h lk_RX6_119 (c_doneT x.2.1 G σ c hc s2 hh xx (upd m 11 (nI p3)) sk ((pk_un (by decide)).trans hm12)) rc_6 (by decide) rfl rfl (by first | decide | exact Nat.le_of_ble_eq_true rfl) (by decide) dX6_readScaled_72 (fun r34 s35 q36 => ?_)
                rw [q36.1, q36.2]
                refine r_if_eq (pc := 75) (tgt := 82) h (by decide) dX6_readScaled_75 (fun c75 => absurd c75 (by decide)) (fun _ => ?_)
                refine r_iconst (pc := 78) (v := nI 1) h (by decide) dX6_readScaled_78 ?_
                refine r_goto (pc := 79) (tgt := 83) h (by decide) dX6_readScaled_79 ?_
                exact hret _ _ (cmr_ok (by simp only [fone, ftwo, fthr, hf1, hf2, hf3] : fthr (fig tx n 0 11 (usK 2) 0 a) (fun p => fig tx n 1 9 (usK 1) 0 p) (fun p => fig tx n 0 99 (usK 2) 0 p) = (some (v1, v2, v3), p3)) (by omega) (fst3_y c45 (and_t (inB_of (by omega) (by omega) (by omega)) (inB_of (by omega) (by omega) (by omega))) c52) (by show RelM (mkA A (1, toN (nI v1), toN (nI v2), toN (nI v3))) _; rw [toN_nI (show v1 < 2 ^ 31 by omega), toN_nI (show v2 < 2 ^ 31 by omega), toN_nI (show v3 < 2 ^ 31 by omega)]; exact hs2)) 83 _ dX6_readScaled_83

set_option maxRecDepth 100000 in
set_option maxHeartbeats 800000 in
theorem c_readJoined2 (l : Launch) (G : Gl) (σ : Sg) (c : Nat) (hc : Rc c) (s hh xx m : Nat → Int32) (A : Ab) (hA : okA A) (hM : RelM A s) (n : Nat) (tx : Nat → Nat) (ht : TxM n tx σ) (hm2 : m 2 = nI n) (a : Nat) (ha : a ≤ n) (hm11 : m 11 = nI a) (sk : Nat) (hm12 : m 12 = nI sk) : Ci l yX6_readJoined cX6_readJoined 5 .boolean ({ frames := 2, cells := 0, slots := 0, locals := 53 } : Room) G [.ref (G.2.1 + 134), .ref (G.2.1 + c), .int (nI 2)] (mB σ c s hh xx m) (fun r σ2 => CmR σ c m A sk 106 n a (ftwo (fig tx n 0 11 (usK 2) 0 a) (fun p => fig tx n 0 11 (usK 2) 0 p)) r σ2) := by
  refine Ci_of (own := RX6) rfl (by decide +kernel) (lo := [(0, .ref (G.2.1 + 134)), (1, .ref (G.2.1 + c)), (2, .int (nI 2))]) rfl (Nat.le_of_ble_eq_true rfl) (fun r s hp => CmR_nar hp) ?_
  intro x Q hxl h hret
  subst hxl
  have h12 := hA.1
  have h4 := hA.2.1
  have hn9 := ht.1
  refine V.sg (show mB σ c s hh xx m = mB σ c s hh xx (upd m 11 (nI a)) from congrArg (mB σ c s hh xx) (upd_id hm11).symm) ?_
  refine r_aload_n (pc := 0) h 0 rfl rfl dX6_readJoined_0 ?_
  refine r_iconst (pc := 1) (v := nI 0) h (by decide) dX6_readJoined_1 ?_
  refine r_bipush (pc := 2) (v := nI 10) h (by decide) dX6_readJoined_2 ?_
  refine r_iconst (pc := 4) (v := nI 0) h (by decide) dX6_readJoined_4 ?_
  refine r_bipush (pc := 5) (v := nI 11) h (by decide) dX6_readJoined_5 ?_
  refine r_cVi (pc := 7) (As := [.int (nI 0), .int (nI 10), .int (nI 0), .int (nI 11)]) (st := []) h lk_RX6_107 (c_fig x.2.1 G σ c hc s hh xx (upd m 11 (nI a)) n tx ht ((pk_un (by decide)).trans hm2) a (by omega) pk_us 0 2 0 11 (by omega) (by omega) (by omega) (by omega)) rc_6 (by decide) rfl rfl (by first | decide | exact Nat.le_of_ble_eq_true rfl) (by decide) dX6_readJoined_7 (fun r1 s2 q3 => ?_)
  obtain ⟨o1, p1, hf1⟩ : ∃ o p, fig tx n 0 11 (usK 2) 0 a = (o, p) := ⟨_, _, rfl⟩
  have hb1 := figK_le (by omega) hf1
  rw [q3.1, q3.2, upd_2, hf1]
  refine V.sg (show _ = mB σ c s hh xx (upd m 11 (nI p1)) from rfl) ?_
  refine r_topi (b := oI o1) rfl ?_
  cases o1 with
  | none =>
    refine r_topi (b := (-1)) rfl ?_
    refine r_istore_n (pc := 10) (lo2 := [(3, .int (-1)), (0, .ref (G.2.1 + 134)), (1, .ref (G.2.1 + c)), (2, .int (nI 2))]) h rfl (by decide) rfl dX6_readJoined_10 ?_
    refine r_aload_n (pc := 11) h 1 rfl rfl dX6_readJoined_11 ?_
    refine r_iload_n (pc := 12) h 0 rfl rfl dX6_readJoined_12 ?_
    refine r_bipush (pc := 13) (v := nI 10) h (by decide) dX6_readJoined_13 ?_
    refine r_iconst (pc := 15) (v := nI 0) h (by decide) dX6_readJoined_15 ?_
    refine r_bipush (pc := 16) (v := nI 11) h (by decide) dX6_readJoined_16 ?_
    refine r_cVi (pc := 18) (As := [.int (-1), .int (nI 10), .int (nI 0), .int (nI 11)]) (st := []) h lk_RX6_107 (c_figN x.2.1 G σ c hc s hh xx (upd m 11 (nI p1)) 2 0 11 (by omega)) rc_6 (by decide) rfl rfl (by first | decide | exact Nat.le_of_ble_eq_true rfl) (by decide) dX6_readJoined_18 (fun r4 s5 q6 => ?_)
    rw [q6.1, q6.2]
    refine r_istore (pc := 21) (lo2 := [(4, .int (-1)), (3, .int (-1)), (0, .ref (G.2.1 + 134)), (1, .ref (G.2.1 + c)), (2, .int (nI 2))]) h (by decide) rfl dX6_readJoined_21 ?_
    refine r_iload (pc := 23) h 0 rfl dX6_readJoined_23 ?_
    refine r_iconst (pc := 25) (v := (-1)) h (by decide) dX6_readJoined_25 ?_
    refine r_icmp_eq (pc := 26) (tgt := 81) h (by decide) dX6_readJoined_26 (fun _ => ?_) (fun c26 => absurd c26 (by decide))
    refine r_iconst (pc := 81) (v := nI 0) h (by decide) dX6_readJoined_81 ?_
    exact hret _ _ (cmr_bad (by simp only [fone, ftwo, fthr, hf1] : ftwo (fig tx n 0 11 (usK 2) 0 a) (fun p => fig tx n 0 11 (usK 2) 0 p) = (none, p1)) (by omega)) 82 _ dX6_readJoined_82
  | some v1 =>
    refine r_topi (b := nI v1) rfl ?_
    have hv1 := figK_in (by omega) hf1
    refine r_istore_n (pc := 10) (lo2 := [(3, .int (nI v1)), (0, .ref (G.2.1 + 134)), (1, .ref (G.2.1 + c)), (2, .int (nI 2))]) h rfl (by decide) rfl dX6_readJoined_10 ?_
    refine r_aload_n (pc := 11) h 1 rfl rfl dX6_readJoined_11 ?_
    refine r_iload_n (pc := 12) h 0 rfl rfl dX6_readJoined_12 ?_
    refine r_bipush (pc := 13) (v := nI 10) h (by decide) dX6_readJoined_13 ?_
    refine r_iconst (pc := 15) (v := nI 0) h (by decide) dX6_readJoined_15 ?_
    refine r_bipush (pc := 16) (v := nI 11) h (by decide) dX6_readJoined_16 ?_
    refine r_cVi (pc := 18) (As := [.int (nI v1), .int (nI 10), .int (nI 0), .int (nI 11)]) (st := []) h lk_RX6_107 (c_fig x.2.1 G σ c hc s hh xx (upd m 11 (nI p1)) n tx ht ((pk_un (by decide)).trans hm2) p1 (by omega) pk_us v1 2 0 11 (by omega) (by omega) (by omega) (by omega)) rc_6 (by decide) rfl rfl (by first | decide | exact Nat.le_of_ble_eq_true rfl) (by decide) dX6_readJoined_18 (fun r7 s8 q9 => ?_)
    obtain ⟨o2, p2, hf2⟩ : ∃ o p, fig tx n 0 11 (usK 2) 0 p1 = (o, p) := ⟨_, _, rfl⟩
    have hb2 := figK_le (by omega) hf2
    rw [q9.1, q9.2, upd_2, hf2]
    refine V.sg (show _ = mB σ c s hh xx (upd m 11 (nI p2)) from rfl) ?_
    refine r_topi (b := oI o2) rfl ?_
    cases o2 with
    | none =>
      refine r_topi (b := (-1)) rfl ?_
      refine r_istore (pc := 21) (lo2 := [(4, .int (-1)), (3, .int (nI v1)), (0, .ref (G.2.1 + 134)), (1, .ref (G.2.1 + c)), (2, .int (nI 2))]) h (by decide) rfl dX6_readJoined_21 ?_
      refine r_iload (pc := 23) h 0 rfl dX6_readJoined_23 ?_
      refine r_iconst (pc := 25) (v := (-1)) h (by decide) dX6_readJoined_25 ?_
      refine r_icmp_eq (pc := 26) (tgt := 81) h (by decide) dX6_readJoined_26 (fun _ => ?_) (fun c26 => absurd c26 (by decide))
      refine r_iconst (pc := 81) (v := nI 0) h (by decide) dX6_readJoined_81 ?_
      exact hret _ _ (cmr_bad (by simp only [fone, ftwo, fthr, hf1, hf2] : ftwo (fig tx n 0 11 (usK 2) 0 a) (fun p => fig tx n 0 11 (usK 2) 0 p) = (none, p2)) (by omega)) 82 _ dX6_readJoined_82
    | some v2 =>
      refine r_topi (b := nI v2) rfl ?_
      have hv2 := figK_in (by omega) hf2
      refine r_istore (pc := 21) (lo2 := [(4, .int (nI v2)), (3, .int (nI v1)), (0, .ref (G.2.1 + 134)), (1, .ref (G.2.1 + c)), (2, .int (nI 2))]) h (by decide) rfl dX6_readJoined_21 ?_
      refine r_iload (pc := 23) h 0 rfl dX6_readJoined_23 ?_
      refine r_iconst (pc := 25) (v := (-1)) h (by decide) dX6_readJoined_25 ?_
      refine r_icmp_eq (pc := 26) (tgt := 81) h (by decide) dX6_readJoined_26 (fun c26 => ?_) (fun c26 => ?_)
      · skip
        exact absurd c26 (nI_ne (by omega))
      · skip
        refine r_aload_n (pc := 29) h 2 rfl rfl dX6_readJoined_29 ?_
        refine r_aload_n (pc := 30) h 3 rfl rfl dX6_readJoined_30 ?_
        refine r_iload_n (pc := 31) h 1 rfl rfl dX6_readJoined_31 ?_
        refine r_cSi (pc := 32) (As := [.ref (G.2.1 + c), .int (nI v1)]) (st := [.ref (G.2.1 + 134)]) h lk_RX6_123 (c_isListM x.2.1 G (mB σ c s hh xx (upd m 11 (nI p2))) c hc A (by rw [mB_sF]; exact hM) (by omega) (nI v1)) (by decide) rfl rfl (by first | decide | exact Nat.le_of_ble_eq_true rfl) (by decide) dX6_readJoined_32 (fun r10 s11 q12 => ?_)
        rw [q12.1, q12.2]
        refine r_if_eq (pc := 35) (tgt := 70) h (by decide) dX6_readJoined_35 (fun c35 => ?_) (fun c35 => ?_)
        · skip
          replace c35 := zB_0.mp c35
          refine r_iconst (pc := 70) (v := nI 0) h (by decide) dX6_readJoined_70 ?_
          refine r_cVi (pc := 71) (As := [.int (nI 0)]) (st := []) h lk_RX6_119 (c_doneF x.2.1 G σ c hc s hh xx (upd m 11 (nI p2)) sk ((pk_un (by decide)).trans hm12)) rc_6 (by decide) rfl rfl (by first | decide | exact Nat.le_of_ble_eq_true rfl) (by decide) dX6_readJoined_71 (fun r13 s14 q15 => ?_)
          rw [q15.1, q15.2]
          refine r_if_eq (pc := 74) (tgt := 81) h (by decide) dX6_readJoined_74 (fun c74 => absurd c74 (by decide)) (fun _ => ?_)
          refine r_iconst (pc := 77) (v := nI 1) h (by decide) dX6_readJoined_77 ?_
          refine r_goto (pc := 78) (tgt := 82) h (by decide) dX6_readJoined_78 ?_
          exact hret _ _ (cmr_sk (by simp only [fone, ftwo, fthr, hf1, hf2] : ftwo (fig tx n 0 11 (usK 2) 0 a) (fun p => fig tx n 0 11 (usK 2) 0 p) = (some (v1, v2, 0), p2)) (by omega) (fst3_n1 (and_f1 c35)) hM) 82 _ dX6_readJoined_82
        · skip
          replace c35 := zB_n0.mp c35
          refine r_aload_n (pc := 38) h 3 rfl rfl dX6_readJoined_38 ?_
          refine r_iload (pc := 39) h 0 rfl dX6_readJoined_39 ?_
          refine r_cSi (pc := 41) (As := [.ref (G.2.1 + c), .int (nI v2)]) (st := [.ref (G.2.1 + 134)]) h lk_RX6_123 (c_isListM x.2.1 G (mB σ c s hh xx (upd m 11 (nI p2))) c hc A (by rw [mB_sF]; exact hM) (by omega) (nI v2)) (by decide) rfl rfl (by first | decide | exact Nat.le_of_ble_eq_true rfl) (by decide) dX6_readJoined_41 (fun r16 s17 q18 => ?_)
          rw [q18.1, q18.2]
          refine r_if_eq (pc := 44) (tgt := 70) h (by decide) dX6_readJoined_44 (fun c44 => ?_) (fun c44 => ?_)
          · skip
            replace c44 := zB_0.mp c44
            refine r_iconst (pc := 70) (v := nI 0) h (by decide) dX6_readJoined_70 ?_
            refine r_cVi (pc := 71) (As := [.int (nI 0)]) (st := []) h lk_RX6_119 (c_doneF x.2.1 G σ c hc s hh xx (upd m 11 (nI p2)) sk ((pk_un (by decide)).trans hm12)) rc_6 (by decide) rfl rfl (by first | decide | exact Nat.le_of_ble_eq_true rfl) (by decide) dX6_readJoined_71 (fun r19 s20 q21 => ?_)
            rw [q21.1, q21.2]
            refine r_if_eq (pc := 74) (tgt := 81) h (by decide) dX6_readJoined_74 (fun c74 => absurd c74 (by decide)) (fun _ => ?_)
            refine r_iconst (pc := 77) (v := nI 1) h (by decide) dX6_readJoined_77 ?_
            refine r_goto (pc := 78) (tgt := 82) h (by decide) dX6_readJoined_78 ?_
            exact hret _ _ (cmr_sk (by simp only [fone, ftwo, fthr, hf1, hf2] : ftwo (fig tx n 0 11 (usK 2) 0 a) (fun p => fig tx n 0 11 (usK 2) 0 p) = (some (v1, v2, 0), p2)) (by omega) (fst3_n1 (and_f2 c44)) hM) 82 _ dX6_readJoined_82
          · skip
            replace c44 := zB_n0.mp c44
            refine r_aload_n (pc := 47) h 3 rfl rfl dX6_readJoined_47 ?_
            refine r_cSi (pc := 48) (As := [.ref (G.2.1 + c)]) (st := [.ref (G.2.1 + 134)]) h lk_RX6_111 (c_hasRoomM x.2.1 G (mB σ c s hh xx (upd m 11 (nI p2))) c hc A (by rw [mB_sF]; exact hM) (by omega)) (by decide) rfl rfl (by first | decide | exact Nat.le_of_ble_eq_true rfl) (by decide) dX6_readJoined_48 (fun r22 s23 q24 => ?_)
            rw [q24.1, q24.2]
            refine r_if_eq (pc := 51) (tgt := 70) h (by decide) dX6_readJoined_51 (fun c51 => ?_) (fun c51 => ?_)
            · skip
              replace c51 := zB_0.mp c51
              refine r_iconst (pc := 70) (v := nI 0) h (by decide) dX6_readJoined_70 ?_
              refine r_cVi (pc := 71) (As := [.int (nI 0)]) (st := []) h lk_RX6_119 (c_doneF x.2.1 G σ c hc s hh xx (upd m 11 (nI p2)) sk ((pk_un (by decide)).trans hm12)) rc_6 (by decide) rfl rfl (by first | decide | exact Nat.le_of_ble_eq_true rfl) (by decide) dX6_readJoined_71 (fun r25 s26 q27 => ?_)
              rw [q27.1, q27.2]
              refine r_if_eq (pc := 74) (tgt := 81) h (by decide) dX6_readJoined_74 (fun c74 => absurd c74 (by decide)) (fun _ => ?_)
              refine r_iconst (pc := 77) (v := nI 1) h (by decide) dX6_readJoined_77 ?_
              refine r_goto (pc := 78) (tgt := 82) h (by decide) dX6_readJoined_78 ?_
              exact hret _ _ (cmr_sk (by simp only [fone, ftwo, fthr, hf1, hf2] : ftwo (fig tx n 0 11 (usK 2) 0 a) (fun p => fig tx n 0 11 (usK 2) 0 p) = (some (v1, v2, 0), p2)) (by omega) (fst3_n3 c51) hM) 82 _ dX6_readJoined_82
            · skip
              replace c51 := zB_n0.mp c51
              refine r_aload_n (pc := 54) h 3 rfl rfl dX6_readJoined_54 ?_
              refine r_iload_n (pc := 55) h 4 rfl rfl dX6_readJoined_55 ?_
              refine r_iload_n (pc := 56) h 1 rfl rfl dX6_readJoined_56 ?_
              refine r_iload (pc := 57) h 0 rfl dX6_readJoined_57 ?_
              refine r_iconst (pc := 59) (v := nI 0) h (by decide) dX6_readJoined_59 ?_
              refine r_cSi (pc := 60) (As := [.ref (G.2.1 + c), .int (nI 2), .int (nI v1), .int (nI v2), .int (nI 0)]) (st := [.ref (G.2.1 + 134)]) h lk_RX6_115 (c_makeM x.2.1 G σ c hc s hh xx (upd m 11 (nI p2)) A hA hM (2, v1, v2, 0) (nI v2) (nI 0) (of_decide_eq_true c51) (fun _ _ => rfl) (fun q => by cases q)) (by decide) rfl rfl (by first | decide | exact Nat.le_of_ble_eq_true rfl) (by decide) dX6_readJoined_60 (fun r28 s29 q30 => ?_)
              obtain ⟨e9, s2, es, hs2⟩ := q30
              rw [e9]
              subst es
              refine r_if_lt (pc := 63) (tgt := 70) h (by decide) dX6_readJoined_63 (fun c63 => ?_) (fun c63 => ?_)
              · skip
                rw [zI0, nI_ltI (by omega) (by omega)] at c63
                exact absurd c63 (by omega)
              · skip
                rw [zI0, nI_ltI (by omega) (by omega)] at c63
                refine r_iconst (pc := 66) (v := nI 1) h (by decide) dX6_readJoined_66 ?_
                refine r_goto (pc := 67) (tgt := 71) h (by decide) dX6_readJoined_67 ?_
                refine r_cVi (pc := 71) (As := [.int (nI 1)]) (st := []) h lk_RX6_119 (c_doneT x.2.1 G σ c hc s2 hh xx (upd m 11 (nI p2)) sk ((pk_un (by decide)).trans hm12)) rc_6 (by decide) rfl rfl (by first | decide | exact Nat.le_of_ble_eq_true rfl) (by decide) dX6_readJoined_71 (fun r31 s32 q33 => ?_)
                rw [q33.1, q33.2]
                refine r_if_eq (pc := 74) (tgt := 81) h (by decide) dX6_readJoined_74 (fun c74 => absurd c74 (by decide)) (fun _ => ?_)
                refine r_iconst (pc := 77) (v := nI 1) h (by decide) dX6_readJoined_77 ?_
                refine r_goto (pc := 78) (tgt := 82) h (by decide) dX6_readJoined_78 ?_
                exact hret _ _ (cmr_ok (by simp only [fone, ftwo, fthr, hf1, hf2] : ftwo (fig tx n 0 11 (usK 2) 0 a) (fun p => fig tx n 0 11 (usK 2) 0 p) = (some (v1, v2, 0), p2)) (by omega) (fst3_y (and_t c35 c44) rfl c51) (by show RelM (mkA A (2, toN (nI v1), toN (nI v2), 0)) _; rw [toN_nI (show v1 < 2 ^ 31 by omega), toN_nI (show v2 < 2 ^ 31 by omega)]; exact hs2)) 82 _ dX6_readJoined_82

set_option maxRecDepth 100000 in
set_option maxHeartbeats 800000 in
theorem c_readJoined3 (l : Launch) (G : Gl) (σ : Sg) (c : Nat) (hc : Rc c) (s hh xx m : Nat → Int32) (A : Ab) (hA : okA A) (hM : RelM A s) (n : Nat) (tx : Nat → Nat) (ht : TxM n tx σ) (hm2 : m 2 = nI n) (a : Nat) (ha : a ≤ n) (hm11 : m 11 = nI a) (sk : Nat) (hm12 : m 12 = nI sk) : Ci l yX6_readJoined cX6_readJoined 5 .boolean ({ frames := 2, cells := 0, slots := 0, locals := 53 } : Room) G [.ref (G.2.1 + 134), .ref (G.2.1 + c), .int (nI 3)] (mB σ c s hh xx m) (fun r σ2 => CmR σ c m A sk 104 n a (ftwo (fig tx n 0 11 (usK 2) 0 a) (fun p => fig tx n 0 11 (usK 2) 0 p)) r σ2) := by
  refine Ci_of (own := RX6) rfl (by decide +kernel) (lo := [(0, .ref (G.2.1 + 134)), (1, .ref (G.2.1 + c)), (2, .int (nI 3))]) rfl (Nat.le_of_ble_eq_true rfl) (fun r s hp => CmR_nar hp) ?_
  intro x Q hxl h hret
  subst hxl
  have h12 := hA.1
  have h4 := hA.2.1
  have hn9 := ht.1
  refine V.sg (show mB σ c s hh xx m = mB σ c s hh xx (upd m 11 (nI a)) from congrArg (mB σ c s hh xx) (upd_id hm11).symm) ?_
  refine r_aload_n (pc := 0) h 0 rfl rfl dX6_readJoined_0 ?_
  refine r_iconst (pc := 1) (v := nI 0) h (by decide) dX6_readJoined_1 ?_
  refine r_bipush (pc := 2) (v := nI 10) h (by decide) dX6_readJoined_2 ?_
  refine r_iconst (pc := 4) (v := nI 0) h (by decide) dX6_readJoined_4 ?_
  refine r_bipush (pc := 5) (v := nI 11) h (by decide) dX6_readJoined_5 ?_
  refine r_cVi (pc := 7) (As := [.int (nI 0), .int (nI 10), .int (nI 0), .int (nI 11)]) (st := []) h lk_RX6_107 (c_fig x.2.1 G σ c hc s hh xx (upd m 11 (nI a)) n tx ht ((pk_un (by decide)).trans hm2) a (by omega) pk_us 0 2 0 11 (by omega) (by omega) (by omega) (by omega)) rc_6 (by decide) rfl rfl (by first | decide | exact Nat.le_of_ble_eq_true rfl) (by decide) dX6_readJoined_7 (fun r1 s2 q3 => ?_)
  obtain ⟨o1, p1, hf1⟩ : ∃ o p, fig tx n 0 11 (usK 2) 0 a = (o, p) := ⟨_, _, rfl⟩
  have hb1 := figK_le (by omega) hf1
  rw [q3.1, q3.2, upd_2, hf1]
  refine V.sg (show _ = mB σ c s hh xx (upd m 11 (nI p1)) from rfl) ?_
  refine r_topi (b := oI o1) rfl ?_
  cases o1 with
  | none =>
    refine r_topi (b := (-1)) rfl ?_
    refine r_istore_n (pc := 10) (lo2 := [(3, .int (-1)), (0, .ref (G.2.1 + 134)), (1, .ref (G.2.1 + c)), (2, .int (nI 3))]) h rfl (by decide) rfl dX6_readJoined_10 ?_
    refine r_aload_n (pc := 11) h 1 rfl rfl dX6_readJoined_11 ?_
    refine r_iload_n (pc := 12) h 0 rfl rfl dX6_readJoined_12 ?_
    refine r_bipush (pc := 13) (v := nI 10) h (by decide) dX6_readJoined_13 ?_
    refine r_iconst (pc := 15) (v := nI 0) h (by decide) dX6_readJoined_15 ?_
    refine r_bipush (pc := 16) (v := nI 11) h (by decide) dX6_readJoined_16 ?_
    refine r_cVi (pc := 18) (As := [.int (-1), .int (nI 10), .int (nI 0), .int (nI 11)]) (st := []) h lk_RX6_107 (c_figN x.2.1 G σ c hc s hh xx (upd m 11 (nI p1)) 2 0 11 (by omega)) rc_6 (by decide) rfl rfl (by first | decide | exact Nat.le_of_ble_eq_true rfl) (by decide) dX6_readJoined_18 (fun r4 s5 q6 => ?_)
    rw [q6.1, q6.2]
    refine r_istore (pc := 21) (lo2 := [(4, .int (-1)), (3, .int (-1)), (0, .ref (G.2.1 + 134)), (1, .ref (G.2.1 + c)), (2, .int (nI 3))]) h (by decide) rfl dX6_readJoined_21 ?_
    refine r_iload (pc := 23) h 0 rfl dX6_readJoined_23 ?_
    refine r_iconst (pc := 25) (v := (-1)) h (by decide) dX6_readJoined_25 ?_
    refine r_icmp_eq (pc := 26) (tgt := 81) h (by decide) dX6_readJoined_26 (fun _ => ?_) (fun c26 => absurd c26 (by decide))
    refine r_iconst (pc := 81) (v := nI 0) h (by decide) dX6_readJoined_81 ?_
    exact hret _ _ (cmr_bad (by simp only [fone, ftwo, fthr, hf1] : ftwo (fig tx n 0 11 (usK 2) 0 a) (fun p => fig tx n 0 11 (usK 2) 0 p) = (none, p1)) (by omega)) 82 _ dX6_readJoined_82
  | some v1 =>
    refine r_topi (b := nI v1) rfl ?_
    have hv1 := figK_in (by omega) hf1
    refine r_istore_n (pc := 10) (lo2 := [(3, .int (nI v1)), (0, .ref (G.2.1 + 134)), (1, .ref (G.2.1 + c)), (2, .int (nI 3))]) h rfl (by decide) rfl dX6_readJoined_10 ?_
    refine r_aload_n (pc := 11) h 1 rfl rfl dX6_readJoined_11 ?_
    refine r_iload_n (pc := 12) h 0 rfl rfl dX6_readJoined_12 ?_
    refine r_bipush (pc := 13) (v := nI 10) h (by decide) dX6_readJoined_13 ?_
    refine r_iconst (pc := 15) (v := nI 0) h (by decide) dX6_readJoined_15 ?_
    refine r_bipush (pc := 16) (v := nI 11) h (by decide) dX6_readJoined_16 ?_
    refine r_cVi (pc := 18) (As := [.int (nI v1), .int (nI 10), .int (nI 0), .int (nI 11)]) (st := []) h lk_RX6_107 (c_fig x.2.1 G σ c hc s hh xx (upd m 11 (nI p1)) n tx ht ((pk_un (by decide)).trans hm2) p1 (by omega) pk_us v1 2 0 11 (by omega) (by omega) (by omega) (by omega)) rc_6 (by decide) rfl rfl (by first | decide | exact Nat.le_of_ble_eq_true rfl) (by decide) dX6_readJoined_18 (fun r7 s8 q9 => ?_)
    obtain ⟨o2, p2, hf2⟩ : ∃ o p, fig tx n 0 11 (usK 2) 0 p1 = (o, p) := ⟨_, _, rfl⟩
    have hb2 := figK_le (by omega) hf2
    rw [q9.1, q9.2, upd_2, hf2]
    refine V.sg (show _ = mB σ c s hh xx (upd m 11 (nI p2)) from rfl) ?_
    refine r_topi (b := oI o2) rfl ?_
    cases o2 with
    | none =>
      refine r_topi (b := (-1)) rfl ?_
      refine r_istore (pc := 21) (lo2 := [(4, .int (-1)), (3, .int (nI v1)), (0, .ref (G.2.1 + 134)), (1, .ref (G.2.1 + c)), (2, .int (nI 3))]) h (by decide) rfl dX6_readJoined_21 ?_
      refine r_iload (pc := 23) h 0 rfl dX6_readJoined_23 ?_
      refine r_iconst (pc := 25) (v := (-1)) h (by decide) dX6_readJoined_25 ?_
      refine r_icmp_eq (pc := 26) (tgt := 81) h (by decide) dX6_readJoined_26 (fun _ => ?_) (fun c26 => absurd c26 (by decide))
      refine r_iconst (pc := 81) (v := nI 0) h (by decide) dX6_readJoined_81 ?_
      exact hret _ _ (cmr_bad (by simp only [fone, ftwo, fthr, hf1, hf2] : ftwo (fig tx n 0 11 (usK 2) 0 a) (fun p => fig tx n 0 11 (usK 2) 0 p) = (none, p2)) (by omega)) 82 _ dX6_readJoined_82
    | some v2 =>
      refine r_topi (b := nI v2) rfl ?_
      have hv2 := figK_in (by omega) hf2
      refine r_istore (pc := 21) (lo2 := [(4, .int (nI v2)), (3, .int (nI v1)), (0, .ref (G.2.1 + 134)), (1, .ref (G.2.1 + c)), (2, .int (nI 3))]) h (by decide) rfl dX6_readJoined_21 ?_
      refine r_iload (pc := 23) h 0 rfl dX6_readJoined_23 ?_
      refine r_iconst (pc := 25) (v := (-1)) h (by decide) dX6_readJoined_25 ?_
      refine r_icmp_eq (pc := 26) (tgt := 81) h (by decide) dX6_readJoined_26 (fun c26 => ?_) (fun c26 => ?_)
      · skip
        exact absurd c26 (nI_ne (by omega))
      · skip
        refine r_aload_n (pc := 29) h 2 rfl rfl dX6_readJoined_29 ?_
        refine r_aload_n (pc := 30) h 3 rfl rfl dX6_readJoined_30 ?_
        refine r_iload_n (pc := 31) h 1 rfl rfl dX6_readJoined_31 ?_
        refine r_cSi (pc := 32) (As := [.ref (G.2.1 + c), .int (nI v1)]) (st := [.ref (G.2.1 + 134)]) h lk_RX6_123 (c_isListM x.2.1 G (mB σ c s hh xx (upd m 11 (nI p2))) c hc A (by rw [mB_sF]; exact hM) (by omega) (nI v1)) (by decide) rfl rfl (by first | decide | exact Nat.le_of_ble_eq_true rfl) (by decide) dX6_readJoined_32 (fun r10 s11 q12 => ?_)
        rw [q12.1, q12.2]
        refine r_if_eq (pc := 35) (tgt := 70) h (by decide) dX6_readJoined_35 (fun c35 => ?_) (fun c35 => ?_)
        · skip
          replace c35 := zB_0.mp c35
          refine r_iconst (pc := 70) (v := nI 0) h (by decide) dX6_readJoined_70 ?_
          refine r_cVi (pc := 71) (As := [.int (nI 0)]) (st := []) h lk_RX6_119 (c_doneF x.2.1 G σ c hc s hh xx (upd m 11 (nI p2)) sk ((pk_un (by decide)).trans hm12)) rc_6 (by decide) rfl rfl (by first | decide | exact Nat.le_of_ble_eq_true rfl) (by decide) dX6_readJoined_71 (fun r13 s14 q15 => ?_)
          rw [q15.1, q15.2]
          refine r_if_eq (pc := 74) (tgt := 81) h (by decide) dX6_readJoined_74 (fun c74 => absurd c74 (by decide)) (fun _ => ?_)
          refine r_iconst (pc := 77) (v := nI 1) h (by decide) dX6_readJoined_77 ?_
          refine r_goto (pc := 78) (tgt := 82) h (by decide) dX6_readJoined_78 ?_
          exact hret _ _ (cmr_sk (by simp only [fone, ftwo, fthr, hf1, hf2] : ftwo (fig tx n 0 11 (usK 2) 0 a) (fun p => fig tx n 0 11 (usK 2) 0 p) = (some (v1, v2, 0), p2)) (by omega) (fst3_n1 (and_f1 c35)) hM) 82 _ dX6_readJoined_82
        · skip
          replace c35 := zB_n0.mp c35
          refine r_aload_n (pc := 38) h 3 rfl rfl dX6_readJoined_38 ?_
          refine r_iload (pc := 39) h 0 rfl dX6_readJoined_39 ?_
          refine r_cSi (pc := 41) (As := [.ref (G.2.1 + c), .int (nI v2)]) (st := [.ref (G.2.1 + 134)]) h lk_RX6_123 (c_isListM x.2.1 G (mB σ c s hh xx (upd m 11 (nI p2))) c hc A (by rw [mB_sF]; exact hM) (by omega) (nI v2)) (by decide) rfl rfl (by first | decide | exact Nat.le_of_ble_eq_true rfl) (by decide) dX6_readJoined_41 (fun r16 s17 q18 => ?_)
          rw [q18.1, q18.2]
          refine r_if_eq (pc := 44) (tgt := 70) h (by decide) dX6_readJoined_44 (fun c44 => ?_) (fun c44 => ?_)
          · skip
            replace c44 := zB_0.mp c44
            refine r_iconst (pc := 70) (v := nI 0) h (by decide) dX6_readJoined_70 ?_
            refine r_cVi (pc := 71) (As := [.int (nI 0)]) (st := []) h lk_RX6_119 (c_doneF x.2.1 G σ c hc s hh xx (upd m 11 (nI p2)) sk ((pk_un (by decide)).trans hm12)) rc_6 (by decide) rfl rfl (by first | decide | exact Nat.le_of_ble_eq_true rfl) (by decide) dX6_readJoined_71 (fun r19 s20 q21 => ?_)
            rw [q21.1, q21.2]
            refine r_if_eq (pc := 74) (tgt := 81) h (by decide) dX6_readJoined_74 (fun c74 => absurd c74 (by decide)) (fun _ => ?_)
            refine r_iconst (pc := 77) (v := nI 1) h (by decide) dX6_readJoined_77 ?_
            refine r_goto (pc := 78) (tgt := 82) h (by decide) dX6_readJoined_78 ?_
            exact hret _ _ (cmr_sk (by simp only [fone, ftwo, fthr, hf1, hf2] : ftwo (fig tx n 0 11 (usK 2) 0 a) (fun p => fig tx n 0 11 (usK 2) 0 p) = (some (v1, v2, 0), p2)) (by omega) (fst3_n1 (and_f2 c44)) hM) 82 _ dX6_readJoined_82
          · skip
            replace c44 := zB_n0.mp c44
            refine r_aload_n (pc := 47) h 3 rfl rfl dX6_readJoined_47 ?_
            refine r_cSi (pc := 48) (As := [.ref (G.2.1 + c)]) (st := [.ref (G.2.1 + 134)]) h lk_RX6_111 (c_hasRoomM x.2.1 G (mB σ c s hh xx (upd m 11 (nI p2))) c hc A (by rw [mB_sF]; exact hM) (by omega)) (by decide) rfl rfl (by first | decide | exact Nat.le_of_ble_eq_true rfl) (by decide) dX6_readJoined_48 (fun r22 s23 q24 => ?_)
            rw [q24.1, q24.2]
            refine r_if_eq (pc := 51) (tgt := 70) h (by decide) dX6_readJoined_51 (fun c51 => ?_) (fun c51 => ?_)
            · skip
              replace c51 := zB_0.mp c51
              refine r_iconst (pc := 70) (v := nI 0) h (by decide) dX6_readJoined_70 ?_
              refine r_cVi (pc := 71) (As := [.int (nI 0)]) (st := []) h lk_RX6_119 (c_doneF x.2.1 G σ c hc s hh xx (upd m 11 (nI p2)) sk ((pk_un (by decide)).trans hm12)) rc_6 (by decide) rfl rfl (by first | decide | exact Nat.le_of_ble_eq_true rfl) (by decide) dX6_readJoined_71 (fun r25 s26 q27 => ?_)
              rw [q27.1, q27.2]
              refine r_if_eq (pc := 74) (tgt := 81) h (by decide) dX6_readJoined_74 (fun c74 => absurd c74 (by decide)) (fun _ => ?_)
              refine r_iconst (pc := 77) (v := nI 1) h (by decide) dX6_readJoined_77 ?_
              refine r_goto (pc := 78) (tgt := 82) h (by decide) dX6_readJoined_78 ?_
              exact hret _ _ (cmr_sk (by simp only [fone, ftwo, fthr, hf1, hf2] : ftwo (fig tx n 0 11 (usK 2) 0 a) (fun p => fig tx n 0 11 (usK 2) 0 p) = (some (v1, v2, 0), p2)) (by omega) (fst3_n3 c51) hM) 82 _ dX6_readJoined_82
            · skip
              replace c51 := zB_n0.mp c51
              refine r_aload_n (pc := 54) h 3 rfl rfl dX6_readJoined_54 ?_
              refine r_iload_n (pc := 55) h 4 rfl rfl dX6_readJoined_55 ?_
              refine r_iload_n (pc := 56) h 1 rfl rfl dX6_readJoined_56 ?_
              refine r_iload (pc := 57) h 0 rfl dX6_readJoined_57 ?_
              refine r_iconst (pc := 59) (v := nI 0) h (by decide) dX6_readJoined_59 ?_
              refine r_cSi (pc := 60) (As := [.ref (G.2.1 + c), .int (nI 3), .int (nI v1), .int (nI v2), .int (nI 0)]) (st := [.ref (G.2.1 + 134)]) h lk_RX6_115 (c_makeM x.2.1 G σ c hc s hh xx (upd m 11 (nI p2)) A hA hM (3, v1, v2, 0) (nI v2) (nI 0) (of_decide_eq_true c51) (fun _ _ => rfl) (fun q => by cases q)) (by decide) rfl rfl (by first | decide | exact Nat.le_of_ble_eq_true rfl) (by decide) dX6_readJoined_60 (fun r28 s29 q30 => ?_)
              obtain ⟨e9, s2, es, hs2⟩ := q30
              rw [e9]
              subst es
              refine r_if_lt (pc := 63) (tgt := 70) h (by decide) dX6_readJoined_63 (fun c63 => ?_) (fun c63 => ?_)
              · skip
                rw [zI0, nI_ltI (by omega) (by omega)] at c63
                exact absurd c63 (by omega)
              · skip
                rw [zI0, nI_ltI (by omega) (by omega)] at c63
                refine r_iconst (pc := 66) (v := nI 1) h (by decide) dX6_readJoined_66 ?_
                refine r_goto (pc := 67) (tgt := 71) h (by decide) dX6_readJoined_67 ?_
                refine r_cVi (pc := 71) (As := [.int (nI 1)]) (st := []) h lk_RX6_119 (c_doneT x.2.1 G σ c hc s2 hh xx (upd m 11 (nI p2)) sk ((pk_un (by decide)).trans hm12)) rc_6 (by decide) rfl rfl (by first | decide | exact Nat.le_of_ble_eq_true rfl) (by decide) dX6_readJoined_71 (fun r31 s32 q33 => ?_)
                rw [q33.1, q33.2]
                refine r_if_eq (pc := 74) (tgt := 81) h (by decide) dX6_readJoined_74 (fun c74 => absurd c74 (by decide)) (fun _ => ?_)
                refine r_iconst (pc := 77) (v := nI 1) h (by decide) dX6_readJoined_77 ?_
                refine r_goto (pc := 78) (tgt := 82) h (by decide) dX6_readJoined_78 ?_
                exact hret _ _ (cmr_ok (by simp only [fone, ftwo, fthr, hf1, hf2] : ftwo (fig tx n 0 11 (usK 2) 0 a) (fun p => fig tx n 0 11 (usK 2) 0 p) = (some (v1, v2, 0), p2)) (by omega) (fst3_y (and_t c35 c44) rfl c51) (by show RelM (mkA A (3, toN (nI v1), toN (nI v2), 0)) _; rw [toN_nI (show v1 < 2 ^ 31 by omega), toN_nI (show v2 < 2 ^ 31 by omega)]; exact hs2)) 82 _ dX6_readJoined_82

set_option maxRecDepth 100000 in
set_option maxHeartbeats 800000 in
theorem c_readJoined4 (l : Launch) (G : Gl) (σ : Sg) (c : Nat) (hc : Rc c) (s hh xx m : Nat → Int32) (A : Ab) (hA : okA A) (hM : RelM A s) (n : Nat) (tx : Nat → Nat) (ht : TxM n tx σ) (hm2 : m 2 = nI n) (a : Nat) (ha : a ≤ n) (hm11 : m 11 = nI a) (sk : Nat) (hm12 : m 12 = nI sk) : Ci l yX6_readJoined cX6_readJoined 5 .boolean ({ frames := 2, cells := 0, slots := 0, locals := 53 } : Room) G [.ref (G.2.1 + 134), .ref (G.2.1 + c), .int (nI 4)] (mB σ c s hh xx m) (fun r σ2 => CmR σ c m A sk 119 n a (ftwo (fig tx n 0 11 (usK 2) 0 a) (fun p => fig tx n 0 11 (usK 2) 0 p)) r σ2) := by
  refine Ci_of (own := RX6) rfl (by decide +kernel) (lo := [(0, .ref (G.2.1 + 134)), (1, .ref (G.2.1 + c)), (2, .int (nI 4))]) rfl (Nat.le_of_ble_eq_true rfl) (fun r s hp => CmR_nar hp) ?_
  intro x Q hxl h hret
  subst hxl
  have h12 := hA.1
  have h4 := hA.2.1
  have hn9 := ht.1
  refine V.sg (show mB σ c s hh xx m = mB σ c s hh xx (upd m 11 (nI a)) from congrArg (mB σ c s hh xx) (upd_id hm11).symm) ?_
  refine r_aload_n (pc := 0) h 0 rfl rfl dX6_readJoined_0 ?_
  refine r_iconst (pc := 1) (v := nI 0) h (by decide) dX6_readJoined_1 ?_
  refine r_bipush (pc := 2) (v := nI 10) h (by decide) dX6_readJoined_2 ?_
  refine r_iconst (pc := 4) (v := nI 0) h (by decide) dX6_readJoined_4 ?_
  refine r_bipush (pc := 5) (v := nI 11) h (by decide) dX6_readJoined_5 ?_
  refine r_cVi (pc := 7) (As := [.int (nI 0), .int (nI 10), .int (nI 0), .int (nI 11)]) (st := []) h lk_RX6_107 (c_fig x.2.1 G σ c hc s hh xx (upd m 11 (nI a)) n tx ht ((pk_un (by decide)).trans hm2) a (by omega) pk_us 0 2 0 11 (by omega) (by omega) (by omega) (by omega)) rc_6 (by decide) rfl rfl (by first | decide | exact Nat.le_of_ble_eq_true rfl) (by decide) dX6_readJoined_7 (fun r1 s2 q3 => ?_)
  obtain ⟨o1, p1, hf1⟩ : ∃ o p, fig tx n 0 11 (usK 2) 0 a = (o, p) := ⟨_, _, rfl⟩
  have hb1 := figK_le (by omega) hf1
  rw [q3.1, q3.2, upd_2, hf1]
  refine V.sg (show _ = mB σ c s hh xx (upd m 11 (nI p1)) from rfl) ?_
  refine r_topi (b := oI o1) rfl ?_
  cases o1 with
  | none =>
    refine r_topi (b := (-1)) rfl ?_
    refine r_istore_n (pc := 10) (lo2 := [(3, .int (-1)), (0, .ref (G.2.1 + 134)), (1, .ref (G.2.1 + c)), (2, .int (nI 4))]) h rfl (by decide) rfl dX6_readJoined_10 ?_
    refine r_aload_n (pc := 11) h 1 rfl rfl dX6_readJoined_11 ?_
    refine r_iload_n (pc := 12) h 0 rfl rfl dX6_readJoined_12 ?_
    refine r_bipush (pc := 13) (v := nI 10) h (by decide) dX6_readJoined_13 ?_
    refine r_iconst (pc := 15) (v := nI 0) h (by decide) dX6_readJoined_15 ?_
    refine r_bipush (pc := 16) (v := nI 11) h (by decide) dX6_readJoined_16 ?_
    refine r_cVi (pc := 18) (As := [.int (-1), .int (nI 10), .int (nI 0), .int (nI 11)]) (st := []) h lk_RX6_107 (c_figN x.2.1 G σ c hc s hh xx (upd m 11 (nI p1)) 2 0 11 (by omega)) rc_6 (by decide) rfl rfl (by first | decide | exact Nat.le_of_ble_eq_true rfl) (by decide) dX6_readJoined_18 (fun r4 s5 q6 => ?_)
    rw [q6.1, q6.2]
    refine r_istore (pc := 21) (lo2 := [(4, .int (-1)), (3, .int (-1)), (0, .ref (G.2.1 + 134)), (1, .ref (G.2.1 + c)), (2, .int (nI 4))]) h (by decide) rfl dX6_readJoined_21 ?_
    refine r_iload (pc := 23) h 0 rfl dX6_readJoined_23 ?_
    refine r_iconst (pc := 25) (v := (-1)) h (by decide) dX6_readJoined_25 ?_
    refine r_icmp_eq (pc := 26) (tgt := 81) h (by decide) dX6_readJoined_26 (fun _ => ?_) (fun c26 => absurd c26 (by decide))
    refine r_iconst (pc := 81) (v := nI 0) h (by decide) dX6_readJoined_81 ?_
    exact hret _ _ (cmr_bad (by simp only [fone, ftwo, fthr, hf1] : ftwo (fig tx n 0 11 (usK 2) 0 a) (fun p => fig tx n 0 11 (usK 2) 0 p) = (none, p1)) (by omega)) 82 _ dX6_readJoined_82
  | some v1 =>
    refine r_topi (b := nI v1) rfl ?_
    have hv1 := figK_in (by omega) hf1
    refine r_istore_n (pc := 10) (lo2 := [(3, .int (nI v1)), (0, .ref (G.2.1 + 134)), (1, .ref (G.2.1 + c)), (2, .int (nI 4))]) h rfl (by decide) rfl dX6_readJoined_10 ?_
    refine r_aload_n (pc := 11) h 1 rfl rfl dX6_readJoined_11 ?_
    refine r_iload_n (pc := 12) h 0 rfl rfl dX6_readJoined_12 ?_
    refine r_bipush (pc := 13) (v := nI 10) h (by decide) dX6_readJoined_13 ?_
    refine r_iconst (pc := 15) (v := nI 0) h (by decide) dX6_readJoined_15 ?_
    refine r_bipush (pc := 16) (v := nI 11) h (by decide) dX6_readJoined_16 ?_
    refine r_cVi (pc := 18) (As := [.int (nI v1), .int (nI 10), .int (nI 0), .int (nI 11)]) (st := []) h lk_RX6_107 (c_fig x.2.1 G σ c hc s hh xx (upd m 11 (nI p1)) n tx ht ((pk_un (by decide)).trans hm2) p1 (by omega) pk_us v1 2 0 11 (by omega) (by omega) (by omega) (by omega)) rc_6 (by decide) rfl rfl (by first | decide | exact Nat.le_of_ble_eq_true rfl) (by decide) dX6_readJoined_18 (fun r7 s8 q9 => ?_)
    obtain ⟨o2, p2, hf2⟩ : ∃ o p, fig tx n 0 11 (usK 2) 0 p1 = (o, p) := ⟨_, _, rfl⟩
    have hb2 := figK_le (by omega) hf2
    rw [q9.1, q9.2, upd_2, hf2]
    refine V.sg (show _ = mB σ c s hh xx (upd m 11 (nI p2)) from rfl) ?_
    refine r_topi (b := oI o2) rfl ?_
    cases o2 with
    | none =>
      refine r_topi (b := (-1)) rfl ?_
      refine r_istore (pc := 21) (lo2 := [(4, .int (-1)), (3, .int (nI v1)), (0, .ref (G.2.1 + 134)), (1, .ref (G.2.1 + c)), (2, .int (nI 4))]) h (by decide) rfl dX6_readJoined_21 ?_
      refine r_iload (pc := 23) h 0 rfl dX6_readJoined_23 ?_
      refine r_iconst (pc := 25) (v := (-1)) h (by decide) dX6_readJoined_25 ?_
      refine r_icmp_eq (pc := 26) (tgt := 81) h (by decide) dX6_readJoined_26 (fun _ => ?_) (fun c26 => absurd c26 (by decide))
      refine r_iconst (pc := 81) (v := nI 0) h (by decide) dX6_readJoined_81 ?_
      exact hret _ _ (cmr_bad (by simp only [fone, ftwo, fthr, hf1, hf2] : ftwo (fig tx n 0 11 (usK 2) 0 a) (fun p => fig tx n 0 11 (usK 2) 0 p) = (none, p2)) (by omega)) 82 _ dX6_readJoined_82
    | some v2 =>
      refine r_topi (b := nI v2) rfl ?_
      have hv2 := figK_in (by omega) hf2
      refine r_istore (pc := 21) (lo2 := [(4, .int (nI v2)), (3, .int (nI v1)), (0, .ref (G.2.1 + 134)), (1, .ref (G.2.1 + c)), (2, .int (nI 4))]) h (by decide) rfl dX6_readJoined_21 ?_
      refine r_iload (pc := 23) h 0 rfl dX6_readJoined_23 ?_
      refine r_iconst (pc := 25) (v := (-1)) h (by decide) dX6_readJoined_25 ?_
      refine r_icmp_eq (pc := 26) (tgt := 81) h (by decide) dX6_readJoined_26 (fun c26 => ?_) (fun c26 => ?_)
      · skip
        exact absurd c26 (nI_ne (by omega))
      · skip
        refine r_aload_n (pc := 29) h 2 rfl rfl dX6_readJoined_29 ?_
        refine r_aload_n (pc := 30) h 3 rfl rfl dX6_readJoined_30 ?_
        refine r_iload_n (pc := 31) h 1 rfl rfl dX6_readJoined_31 ?_
        refine r_cSi (pc := 32) (As := [.ref (G.2.1 + c), .int (nI v1)]) (st := [.ref (G.2.1 + 134)]) h lk_RX6_123 (c_isListM x.2.1 G (mB σ c s hh xx (upd m 11 (nI p2))) c hc A (by rw [mB_sF]; exact hM) (by omega) (nI v1)) (by decide) rfl rfl (by first | decide | exact Nat.le_of_ble_eq_true rfl) (by decide) dX6_readJoined_32 (fun r10 s11 q12 => ?_)
        rw [q12.1, q12.2]
        refine r_if_eq (pc := 35) (tgt := 70) h (by decide) dX6_readJoined_35 (fun c35 => ?_) (fun c35 => ?_)
        · skip
          replace c35 := zB_0.mp c35
          refine r_iconst (pc := 70) (v := nI 0) h (by decide) dX6_readJoined_70 ?_
          refine r_cVi (pc := 71) (As := [.int (nI 0)]) (st := []) h lk_RX6_119 (c_doneF x.2.1 G σ c hc s hh xx (upd m 11 (nI p2)) sk ((pk_un (by decide)).trans hm12)) rc_6 (by decide) rfl rfl (by first | decide | exact Nat.le_of_ble_eq_true rfl) (by decide) dX6_readJoined_71 (fun r13 s14 q15 => ?_)
          rw [q15.1, q15.2]
          refine r_if_eq (pc := 74) (tgt := 81) h (by decide) dX6_readJoined_74 (fun c74 => absurd c74 (by decide)) (fun _ => ?_)
          refine r_iconst (pc := 77) (v := nI 1) h (by decide) dX6_readJoined_77 ?_
          refine r_goto (pc := 78) (tgt := 82) h (by decide) dX6_readJoined_78 ?_
          exact hret _ _ (cmr_sk (by simp only [fone, ftwo, fthr, hf1, hf2] : ftwo (fig tx n 0 11 (usK 2) 0 a) (fun p => fig tx n 0 11 (usK 2) 0 p) = (some (v1, v2, 0), p2)) (by omega) (fst3_n1 (and_f1 c35)) hM) 82 _ dX6_readJoined_82
        · skip
          replace c35 := zB_n0.mp c35
          refine r_aload_n (pc := 38) h 3 rfl rfl dX6_readJoined_38 ?_
          refine r_iload (pc := 39) h 0 rfl dX6_readJoined_39 ?_
          refine r_cSi (pc := 41) (As := [.ref (G.2.1 + c), .int (nI v2)]) (st := [.ref (G.2.1 + 134)]) h lk_RX6_123 (c_isListM x.2.1 G (mB σ c s hh xx (upd m 11 (nI p2))) c hc A (by rw [mB_sF]; exact hM) (by omega) (nI v2)) (by decide) rfl rfl (by first | decide | exact Nat.le_of_ble_eq_true rfl) (by decide) dX6_readJoined_41 (fun r16 s17 q18 => ?_)
          rw [q18.1, q18.2]
          refine r_if_eq (pc := 44) (tgt := 70) h (by decide) dX6_readJoined_44 (fun c44 => ?_) (fun c44 => ?_)
          · skip
            replace c44 := zB_0.mp c44
            refine r_iconst (pc := 70) (v := nI 0) h (by decide) dX6_readJoined_70 ?_
            refine r_cVi (pc := 71) (As := [.int (nI 0)]) (st := []) h lk_RX6_119 (c_doneF x.2.1 G σ c hc s hh xx (upd m 11 (nI p2)) sk ((pk_un (by decide)).trans hm12)) rc_6 (by decide) rfl rfl (by first | decide | exact Nat.le_of_ble_eq_true rfl) (by decide) dX6_readJoined_71 (fun r19 s20 q21 => ?_)
            rw [q21.1, q21.2]
            refine r_if_eq (pc := 74) (tgt := 81) h (by decide) dX6_readJoined_74 (fun c74 => absurd c74 (by decide)) (fun _ => ?_)
            refine r_iconst (pc := 77) (v := nI 1) h (by decide) dX6_readJoined_77 ?_
            refine r_goto (pc := 78) (tgt := 82) h (by decide) dX6_readJoined_78 ?_
            exact hret _ _ (cmr_sk (by simp only [fone, ftwo, fthr, hf1, hf2] : ftwo (fig tx n 0 11 (usK 2) 0 a) (fun p => fig tx n 0 11 (usK 2) 0 p) = (some (v1, v2, 0), p2)) (by omega) (fst3_n1 (and_f2 c44)) hM) 82 _ dX6_readJoined_82
          · skip
            replace c44 := zB_n0.mp c44
            refine r_aload_n (pc := 47) h 3 rfl rfl dX6_readJoined_47 ?_
            refine r_cSi (pc := 48) (As := [.ref (G.2.1 + c)]) (st := [.ref (G.2.1 + 134)]) h lk_RX6_111 (c_hasRoomM x.2.1 G (mB σ c s hh xx (upd m 11 (nI p2))) c hc A (by rw [mB_sF]; exact hM) (by omega)) (by decide) rfl rfl (by first | decide | exact Nat.le_of_ble_eq_true rfl) (by decide) dX6_readJoined_48 (fun r22 s23 q24 => ?_)
            rw [q24.1, q24.2]
            refine r_if_eq (pc := 51) (tgt := 70) h (by decide) dX6_readJoined_51 (fun c51 => ?_) (fun c51 => ?_)
            · skip
              replace c51 := zB_0.mp c51
              refine r_iconst (pc := 70) (v := nI 0) h (by decide) dX6_readJoined_70 ?_
              refine r_cVi (pc := 71) (As := [.int (nI 0)]) (st := []) h lk_RX6_119 (c_doneF x.2.1 G σ c hc s hh xx (upd m 11 (nI p2)) sk ((pk_un (by decide)).trans hm12)) rc_6 (by decide) rfl rfl (by first | decide | exact Nat.le_of_ble_eq_true rfl) (by decide) dX6_readJoined_71 (fun r25 s26 q27 => ?_)
              rw [q27.1, q27.2]
              refine r_if_eq (pc := 74) (tgt := 81) h (by decide) dX6_readJoined_74 (fun c74 => absurd c74 (by decide)) (fun _ => ?_)
              refine r_iconst (pc := 77) (v := nI 1) h (by decide) dX6_readJoined_77 ?_
              refine r_goto (pc := 78) (tgt := 82) h (by decide) dX6_readJoined_78 ?_
              exact hret _ _ (cmr_sk (by simp only [fone, ftwo, fthr, hf1, hf2] : ftwo (fig tx n 0 11 (usK 2) 0 a) (fun p => fig tx n 0 11 (usK 2) 0 p) = (some (v1, v2, 0), p2)) (by omega) (fst3_n3 c51) hM) 82 _ dX6_readJoined_82
            · skip
              replace c51 := zB_n0.mp c51
              refine r_aload_n (pc := 54) h 3 rfl rfl dX6_readJoined_54 ?_
              refine r_iload_n (pc := 55) h 4 rfl rfl dX6_readJoined_55 ?_
              refine r_iload_n (pc := 56) h 1 rfl rfl dX6_readJoined_56 ?_
              refine r_iload (pc := 57) h 0 rfl dX6_readJoined_57 ?_
              refine r_iconst (pc := 59) (v := nI 0) h (by decide) dX6_readJoined_59 ?_
              refine r_cSi (pc := 60) (As := [.ref (G.2.1 + c), .int (nI 4), .int (nI v1), .int (nI v2), .int (nI 0)]) (st := [.ref (G.2.1 + 134)]) h lk_RX6_115 (c_makeM x.2.1 G σ c hc s hh xx (upd m 11 (nI p2)) A hA hM (4, v1, v2, 0) (nI v2) (nI 0) (of_decide_eq_true c51) (fun _ _ => rfl) (fun q => by cases q)) (by decide) rfl rfl (by first | decide | exact Nat.le_of_ble_eq_true rfl) (by decide) dX6_readJoined_60 (fun r28 s29 q30 => ?_)
              obtain ⟨e9, s2, es, hs2⟩ := q30
              rw [e9]
              subst es
              refine r_if_lt (pc := 63) (tgt := 70) h (by decide) dX6_readJoined_63 (fun c63 => ?_) (fun c63 => ?_)
              · skip
                rw [zI0, nI_ltI (by omega) (by omega)] at c63
                exact absurd c63 (by omega)
              · skip
                rw [zI0, nI_ltI (by omega) (by omega)] at c63
                refine r_iconst (pc := 66) (v := nI 1) h (by decide) dX6_readJoined_66 ?_
                refine r_goto (pc := 67) (tgt := 71) h (by decide) dX6_readJoined_67 ?_
                refine r_cVi (pc := 71) (As := [.int (nI 1)]) (st := []) h lk_RX6_119 (c_doneT x.2.1 G σ c hc s2 hh xx (upd m 11 (nI p2)) sk ((pk_un (by decide)).trans hm12)) rc_6 (by decide) rfl rfl (by first | decide | exact Nat.le_of_ble_eq_true rfl) (by decide) dX6_readJoined_71 (fun r31 s32 q33 => ?_)
                rw [q33.1, q33.2]
                refine r_if_eq (pc := 74) (tgt := 81) h (by decide) dX6_readJoined_74 (fun c74 => absurd c74 (by decide)) (fun _ => ?_)
                refine r_iconst (pc := 77) (v := nI 1) h (by decide) dX6_readJoined_77 ?_
                refine r_goto (pc := 78) (tgt := 82) h (by decide) dX6_readJoined_78 ?_
                exact hret _ _ (cmr_ok (by simp only [fone, ftwo, fthr, hf1, hf2] : ftwo (fig tx n 0 11 (usK 2) 0 a) (fun p => fig tx n 0 11 (usK 2) 0 p) = (some (v1, v2, 0), p2)) (by omega) (fst3_y (and_t c35 c44) rfl c51) (by show RelM (mkA A (4, toN (nI v1), toN (nI v2), 0)) _; rw [toN_nI (show v1 < 2 ^ 31 by omega), toN_nI (show v2 < 2 ^ 31 by omega)]; exact hs2)) 82 _ dX6_readJoined_82

set_option maxRecDepth 100000 in
set_option maxHeartbeats 800000 in
theorem c_readOne5 (l : Launch) (G : Gl) (σ : Sg) (c : Nat) (hc : Rc c) (s hh xx m : Nat → Int32) (A : Ab) (hA : okA A) (hM : RelM A s) (n : Nat) (tx : Nat → Nat) (ht : TxM n tx σ) (hm2 : m 2 = nI n) (a : Nat) (ha : a ≤ n) (hm11 : m 11 = nI a) (sk : Nat) (hm12 : m 12 = nI sk) : Ci l yX6_readOne cX6_readOne 5 .boolean ({ frames := 2, cells := 0, slots := 0, locals := 53 } : Room) G [.ref (G.2.1 + 134), .ref (G.2.1 + c), .int (nI 5)] (mB σ c s hh xx m) (fun r σ2 => CmR σ c m A sk 118 n a (fone (fig tx n 0 11 (usK 2) 0 a)) r σ2) := by
  refine Ci_of (own := RX6) rfl (by decide +kernel) (lo := [(0, .ref (G.2.1 + 134)), (1, .ref (G.2.1 + c)), (2, .int (nI 5))]) rfl (Nat.le_of_ble_eq_true rfl) (fun r s hp => CmR_nar hp) ?_
  intro x Q hxl h hret
  subst hxl
  have h12 := hA.1
  have h4 := hA.2.1
  have hn9 := ht.1
  refine V.sg (show mB σ c s hh xx m = mB σ c s hh xx (upd m 11 (nI a)) from congrArg (mB σ c s hh xx) (upd_id hm11).symm) ?_
  refine r_aload_n (pc := 0) h 0 rfl rfl dX6_readOne_0 ?_
  refine r_iconst (pc := 1) (v := nI 0) h (by decide) dX6_readOne_1 ?_
  refine r_bipush (pc := 2) (v := nI 10) h (by decide) dX6_readOne_2 ?_
  refine r_iconst (pc := 4) (v := nI 0) h (by decide) dX6_readOne_4 ?_
  refine r_bipush (pc := 5) (v := nI 11) h (by decide) dX6_readOne_5 ?_
  refine r_cVi (pc := 7) (As := [.int (nI 0), .int (nI 10), .int (nI 0), .int (nI 11)]) (st := []) h lk_RX6_107 (c_fig x.2.1 G σ c hc s hh xx (upd m 11 (nI a)) n tx ht ((pk_un (by decide)).trans hm2) a (by omega) pk_us 0 2 0 11 (by omega) (by omega) (by omega) (by omega)) rc_6 (by decide) rfl rfl (by first | decide | exact Nat.le_of_ble_eq_true rfl) (by decide) dX6_readOne_7 (fun r1 s2 q3 => ?_)
  obtain ⟨o1, p1, hf1⟩ : ∃ o p, fig tx n 0 11 (usK 2) 0 a = (o, p) := ⟨_, _, rfl⟩
  have hb1 := figK_le (by omega) hf1
  rw [q3.1, q3.2, upd_2, hf1]
  refine V.sg (show _ = mB σ c s hh xx (upd m 11 (nI p1)) from rfl) ?_
  refine r_topi (b := oI o1) rfl ?_
  cases o1 with
  | none =>
    refine r_topi (b := (-1)) rfl ?_
    refine r_istore_n (pc := 10) (lo2 := [(3, .int (-1)), (0, .ref (G.2.1 + 134)), (1, .ref (G.2.1 + c)), (2, .int (nI 5))]) h rfl (by decide) rfl dX6_readOne_10 ?_
    refine r_iload_n (pc := 11) h 3 rfl rfl dX6_readOne_11 ?_
    refine r_bipush (pc := 12) (v := nI 6) h (by decide) dX6_readOne_12 ?_
    refine r_icmp_ne (pc := 14) (tgt := 29) h (by decide) dX6_readOne_14 (fun _ => ?_) (fun c14 => absurd c14 (by decide))
    refine r_iload_n (pc := 29) h 0 rfl rfl dX6_readOne_29 ?_
    refine r_istore (pc := 30) (lo2 := [(4, .int (-1)), (3, .int (-1)), (0, .ref (G.2.1 + 134)), (1, .ref (G.2.1 + c)), (2, .int (nI 5))]) h (by decide) rfl dX6_readOne_30 ?_
    refine r_iload (pc := 32) h 0 rfl dX6_readOne_32 ?_
    refine r_iconst (pc := 34) (v := (-1)) h (by decide) dX6_readOne_34 ?_
    refine r_icmp_eq (pc := 35) (tgt := 81) h (by decide) dX6_readOne_35 (fun _ => ?_) (fun c35 => absurd c35 (by decide))
    refine r_iconst (pc := 81) (v := nI 0) h (by decide) dX6_readOne_81 ?_
    exact hret _ _ (cmr_bad (by simp only [fone, ftwo, fthr, hf1] : fone (fig tx n 0 11 (usK 2) 0 a) = (none, p1)) (by omega)) 82 _ dX6_readOne_82
  | some v1 =>
    refine r_topi (b := nI v1) rfl ?_
    have hv1 := figK_in (by omega) hf1
    refine r_istore_n (pc := 10) (lo2 := [(3, .int (nI v1)), (0, .ref (G.2.1 + 134)), (1, .ref (G.2.1 + c)), (2, .int (nI 5))]) h rfl (by decide) rfl dX6_readOne_10 ?_
    refine r_iload_n (pc := 11) h 3 rfl rfl dX6_readOne_11 ?_
    refine r_bipush (pc := 12) (v := nI 6) h (by decide) dX6_readOne_12 ?_
    refine r_icmp_ne (pc := 14) (tgt := 29) h (by decide) dX6_readOne_14 (fun _ => ?_) (fun c14 => absurd c14 (by decide))
    refine r_iload_n (pc := 29) h 0 rfl rfl dX6_readOne_29 ?_
    refine r_istore (pc := 30) (lo2 := [(4, .int (nI v1)), (3, .int (nI v1)), (0, .ref (G.2.1 + 134)), (1, .ref (G.2.1 + c)), (2, .int (nI 5))]) h (by decide) rfl dX6_readOne_30 ?_
    refine r_iload (pc := 32) h 0 rfl dX6_readOne_32 ?_
    refine r_iconst (pc := 34) (v := (-1)) h (by decide) dX6_readOne_34 ?_
    refine r_icmp_eq (pc := 35) (tgt := 81) h (by decide) dX6_readOne_35 (fun c35 => ?_) (fun c35 => ?_)
    · skip
      exact absurd c35 (nI_ne (by omega))
    · skip
      refine r_aload_n (pc := 38) h 2 rfl rfl dX6_readOne_38 ?_
      refine r_aload_n (pc := 39) h 3 rfl rfl dX6_readOne_39 ?_
      refine r_iload_n (pc := 40) h 1 rfl rfl dX6_readOne_40 ?_
      refine r_cSi (pc := 41) (As := [.ref (G.2.1 + c), .int (nI v1)]) (st := [.ref (G.2.1 + 134)]) h lk_RX6_123 (c_isListM x.2.1 G (mB σ c s hh xx (upd m 11 (nI p1))) c hc A (by rw [mB_sF]; exact hM) (by omega) (nI v1)) (by decide) rfl rfl (by first | decide | exact Nat.le_of_ble_eq_true rfl) (by decide) dX6_readOne_41 (fun r4 s5 q6 => ?_)
      rw [q6.1, q6.2]
      refine r_if_eq (pc := 44) (tgt := 70) h (by decide) dX6_readOne_44 (fun c44 => ?_) (fun c44 => ?_)
      · skip
        replace c44 := zB_0.mp c44
        refine r_iconst (pc := 70) (v := nI 0) h (by decide) dX6_readOne_70 ?_
        refine r_cVi (pc := 71) (As := [.int (nI 0)]) (st := []) h lk_RX6_119 (c_doneF x.2.1 G σ c hc s hh xx (upd m 11 (nI p1)) sk ((pk_un (by decide)).trans hm12)) rc_6 (by decide) rfl rfl (by first | decide | exact Nat.le_of_ble_eq_true rfl) (by decide) dX6_readOne_71 (fun r7 s8 q9 => ?_)
        rw [q9.1, q9.2]
        refine r_if_eq (pc := 74) (tgt := 81) h (by decide) dX6_readOne_74 (fun c74 => absurd c74 (by decide)) (fun _ => ?_)
        refine r_iconst (pc := 77) (v := nI 1) h (by decide) dX6_readOne_77 ?_
        refine r_goto (pc := 78) (tgt := 82) h (by decide) dX6_readOne_78 ?_
        exact hret _ _ (cmr_sk (by simp only [fone, ftwo, fthr, hf1] : fone (fig tx n 0 11 (usK 2) 0 a) = (some (v1, 0, 0), p1)) (by omega) (fst3_n1 c44) hM) 82 _ dX6_readOne_82
      · skip
        replace c44 := zB_n0.mp c44
        refine r_aload_n (pc := 47) h 3 rfl rfl dX6_readOne_47 ?_
        refine r_cSi (pc := 48) (As := [.ref (G.2.1 + c)]) (st := [.ref (G.2.1 + 134)]) h lk_RX6_111 (c_hasRoomM x.2.1 G (mB σ c s hh xx (upd m 11 (nI p1))) c hc A (by rw [mB_sF]; exact hM) (by omega)) (by decide) rfl rfl (by first | decide | exact Nat.le_of_ble_eq_true rfl) (by decide) dX6_readOne_48 (fun r10 s11 q12 => ?_)
        rw [q12.1, q12.2]
        refine r_if_eq (pc := 51) (tgt := 70) h (by decide) dX6_readOne_51 (fun c51 => ?_) (fun c51 => ?_)
        · skip
          replace c51 := zB_0.mp c51
          refine r_iconst (pc := 70) (v := nI 0) h (by decide) dX6_readOne_70 ?_
          refine r_cVi (pc := 71) (As := [.int (nI 0)]) (st := []) h lk_RX6_119 (c_doneF x.2.1 G σ c hc s hh xx (upd m 11 (nI p1)) sk ((pk_un (by decide)).trans hm12)) rc_6 (by decide) rfl rfl (by first | decide | exact Nat.le_of_ble_eq_true rfl) (by decide) dX6_readOne_71 (fun r13 s14 q15 => ?_)
          rw [q15.1, q15.2]
          refine r_if_eq (pc := 74) (tgt := 81) h (by decide) dX6_readOne_74 (fun c74 => absurd c74 (by decide)) (fun _ => ?_)
          refine r_iconst (pc := 77) (v := nI 1) h (by decide) dX6_readOne_77 ?_
          refine r_goto (pc := 78) (tgt := 82) h (by decide) dX6_readOne_78 ?_
          exact hret _ _ (cmr_sk (by simp only [fone, ftwo, fthr, hf1] : fone (fig tx n 0 11 (usK 2) 0 a) = (some (v1, 0, 0), p1)) (by omega) (fst3_n3 c51) hM) 82 _ dX6_readOne_82
        · skip
          replace c51 := zB_n0.mp c51
          refine r_aload_n (pc := 54) h 3 rfl rfl dX6_readOne_54 ?_
          refine r_iload_n (pc := 55) h 4 rfl rfl dX6_readOne_55 ?_
          refine r_iload_n (pc := 56) h 1 rfl rfl dX6_readOne_56 ?_
          refine r_iload (pc := 57) h 0 rfl dX6_readOne_57 ?_
          refine r_iconst (pc := 59) (v := nI 0) h (by decide) dX6_readOne_59 ?_
          refine r_cSi (pc := 60) (As := [.ref (G.2.1 + c), .int (nI 5), .int (nI v1), .int (nI v1), .int (nI 0)]) (st := [.ref (G.2.1 + 134)]) h lk_RX6_115 (c_makeM x.2.1 G σ c hc s hh xx (upd m 11 (nI p1)) A hA hM (5, v1, 0, 0) (nI v1) (nI 0) (of_decide_eq_true c51) (fun q _ => absurd rfl q) (fun q => by cases q)) (by decide) rfl rfl (by first | decide | exact Nat.le_of_ble_eq_true rfl) (by decide) dX6_readOne_60 (fun r16 s17 q18 => ?_)
          obtain ⟨e9, s2, es, hs2⟩ := q18
          rw [e9]
          subst es
          refine r_if_lt (pc := 63) (tgt := 70) h (by decide) dX6_readOne_63 (fun c63 => ?_) (fun c63 => ?_)
          · skip
            rw [zI0, nI_ltI (by omega) (by omega)] at c63
            exact absurd c63 (by omega)
          · skip
            rw [zI0, nI_ltI (by omega) (by omega)] at c63
            refine r_iconst (pc := 66) (v := nI 1) h (by decide) dX6_readOne_66 ?_
            refine r_goto (pc := 67) (tgt := 71) h (by decide) dX6_readOne_67 ?_
            refine r_cVi (pc := 71) (As := [.int (nI 1)]) (st := []) h lk_RX6_119 (c_doneT x.2.1 G σ c hc s2 hh xx (upd m 11 (nI p1)) sk ((pk_un (by decide)).trans hm12)) rc_6 (by decide) rfl rfl (by first | decide | exact Nat.le_of_ble_eq_true rfl) (by decide) dX6_readOne_71 (fun r19 s20 q21 => ?_)
            rw [q21.1, q21.2]
            refine r_if_eq (pc := 74) (tgt := 81) h (by decide) dX6_readOne_74 (fun c74 => absurd c74 (by decide)) (fun _ => ?_)
            refine r_iconst (pc := 77) (v := nI 1) h (by decide) dX6_readOne_77 ?_
            refine r_goto (pc := 78) (tgt := 82) h (by decide) dX6_readOne_78 ?_
            exact hret _ _ (cmr_ok (by simp only [fone, ftwo, fthr, hf1] : fone (fig tx n 0 11 (usK 2) 0 a) = (some (v1, 0, 0), p1)) (by omega) (fst3_y c44 rfl c51) (by show RelM (mkA A (5, toN (nI v1), 0, 0)) _; rw [toN_nI (show v1 < 2 ^ 31 by omega)]; exact hs2)) 82 _ dX6_readOne_82

set_option maxRecDepth 100000 in
set_option maxHeartbeats 800000 in
theorem c_readOne6 (l : Launch) (G : Gl) (σ : Sg) (c : Nat) (hc : Rc c) (s hh xx m : Nat → Int32) (A : Ab) (hA : okA A) (hM : RelM A s) (n : Nat) (tx : Nat → Nat) (ht : TxM n tx σ) (hm2 : m 2 = nI n) (a : Nat) (ha : a ≤ n) (hm11 : m 11 = nI a) (sk : Nat) (hm12 : m 12 = nI sk) : Ci l yX6_readOne cX6_readOne 5 .boolean ({ frames := 2, cells := 0, slots := 0, locals := 53 } : Room) G [.ref (G.2.1 + 134), .ref (G.2.1 + c), .int (nI 6)] (mB σ c s hh xx m) (fun r σ2 => CmR σ c m A sk 101 n a (ftwo (fig tx n 0 11 (usK 2) 0 a) (fun p => fig tx n 1 9 (usK 1) 0 p)) r σ2) := by
  refine Ci_of (own := RX6) rfl (by decide +kernel) (lo := [(0, .ref (G.2.1 + 134)), (1, .ref (G.2.1 + c)), (2, .int (nI 6))]) rfl (Nat.le_of_ble_eq_true rfl) (fun r s hp => CmR_nar hp) ?_
  intro x Q hxl h hret
  subst hxl
  have h12 := hA.1
  have h4 := hA.2.1
  have hn9 := ht.1
  refine V.sg (show mB σ c s hh xx m = mB σ c s hh xx (upd m 11 (nI a)) from congrArg (mB σ c s hh xx) (upd_id hm11).symm) ?_
  refine r_aload_n (pc := 0) h 0 rfl rfl dX6_readOne_0 ?_
  refine r_iconst (pc := 1) (v := nI 0) h (by decide) dX6_readOne_1 ?_
  refine r_bipush (pc := 2) (v := nI 10) h (by decide) dX6_readOne_2 ?_
  refine r_iconst (pc := 4) (v := nI 0) h (by decide) dX6_readOne_4 ?_
  refine r_bipush (pc := 5) (v := nI 11) h (by decide) dX6_readOne_5 ?_
  refine r_cVi (pc := 7) (As := [.int (nI 0), .int (nI 10), .int (nI 0), .int (nI 11)]) (st := []) h lk_RX6_107 (c_fig x.2.1 G σ c hc s hh xx (upd m 11 (nI a)) n tx ht ((pk_un (by decide)).trans hm2) a (by omega) pk_us 0 2 0 11 (by omega) (by omega) (by omega) (by omega)) rc_6 (by decide) rfl rfl (by first | decide | exact Nat.le_of_ble_eq_true rfl) (by decide) dX6_readOne_7 (fun r1 s2 q3 => ?_)
  obtain ⟨o1, p1, hf1⟩ : ∃ o p, fig tx n 0 11 (usK 2) 0 a = (o, p) := ⟨_, _, rfl⟩
  have hb1 := figK_le (by omega) hf1
  rw [q3.1, q3.2, upd_2, hf1]
  refine V.sg (show _ = mB σ c s hh xx (upd m 11 (nI p1)) from rfl) ?_
  refine r_topi (b := oI o1) rfl ?_
  cases o1 with
  | none =>
    refine r_topi (b := (-1)) rfl ?_
    refine r_istore_n (pc := 10) (lo2 := [(3, .int (-1)), (0, .ref (G.2.1 + 134)), (1, .ref (G.2.1 + c)), (2, .int (nI 6))]) h rfl (by decide) rfl dX6_readOne_10 ?_
    refine r_iload_n (pc := 11) h 3 rfl rfl dX6_readOne_11 ?_
    refine r_bipush (pc := 12) (v := nI 6) h (by decide) dX6_readOne_12 ?_
    refine r_icmp_ne (pc := 14) (tgt := 29) h (by decide) dX6_readOne_14 (fun c14 => absurd c14 (by decide)) (fun _ => ?_)
    refine r_aload_n (pc := 17) h 1 rfl rfl dX6_readOne_17 ?_
    refine r_iload_n (pc := 18) h 0 rfl rfl dX6_readOne_18 ?_
    refine r_iconst (pc := 19) (v := nI 1) h (by decide) dX6_readOne_19 ?_
    refine r_iconst (pc := 20) (v := nI 1) h (by decide) dX6_readOne_20 ?_
    refine r_bipush (pc := 21) (v := nI 9) h (by decide) dX6_readOne_21 ?_
    refine r_cVi (pc := 23) (As := [.int (-1), .int (nI 1), .int (nI 1), .int (nI 9)]) (st := []) h lk_RX6_107 (c_figN x.2.1 G σ c hc s hh xx (upd m 11 (nI p1)) 1 1 9 (by omega)) rc_6 (by decide) rfl rfl (by first | decide | exact Nat.le_of_ble_eq_true rfl) (by decide) dX6_readOne_23 (fun r4 s5 q6 => ?_)
    rw [q6.1, q6.2]
    refine r_goto (pc := 26) (tgt := 30) h (by decide) dX6_readOne_26 ?_
    refine r_istore (pc := 30) (lo2 := [(4, .int (-1)), (3, .int (-1)), (0, .ref (G.2.1 + 134)), (1, .ref (G.2.1 + c)), (2, .int (nI 6))]) h (by decide) rfl dX6_readOne_30 ?_
    refine r_iload (pc := 32) h 0 rfl dX6_readOne_32 ?_
    refine r_iconst (pc := 34) (v := (-1)) h (by decide) dX6_readOne_34 ?_
    refine r_icmp_eq (pc := 35) (tgt := 81) h (by decide) dX6_readOne_35 (fun _ => ?_) (fun c35 => absurd c35 (by decide))
    refine r_iconst (pc := 81) (v := nI 0) h (by decide) dX6_readOne_81 ?_
    exact hret _ _ (cmr_bad (by simp only [fone, ftwo, fthr, hf1] : ftwo (fig tx n 0 11 (usK 2) 0 a) (fun p => fig tx n 1 9 (usK 1) 0 p) = (none, p1)) (by omega)) 82 _ dX6_readOne_82
  | some v1 =>
    refine r_topi (b := nI v1) rfl ?_
    have hv1 := figK_in (by omega) hf1
    refine r_istore_n (pc := 10) (lo2 := [(3, .int (nI v1)), (0, .ref (G.2.1 + 134)), (1, .ref (G.2.1 + c)), (2, .int (nI 6))]) h rfl (by decide) rfl dX6_readOne_10 ?_
    refine r_iload_n (pc := 11) h 3 rfl rfl dX6_readOne_11 ?_
    refine r_bipush (pc := 12) (v := nI 6) h (by decide) dX6_readOne_12 ?_
    refine r_icmp_ne (pc := 14) (tgt := 29) h (by decide) dX6_readOne_14 (fun c14 => absurd c14 (by decide)) (fun _ => ?_)
    refine r_aload_n (pc := 17) h 1 rfl rfl dX6_readOne_17 ?_
    refine r_iload_n (pc := 18) h 0 rfl rfl dX6_readOne_18 ?_
    refine r_iconst (pc := 19) (v := nI 1) h (by decide) dX6_readOne_19 ?_
    refine r_iconst (pc := 20) (v := nI 1) h (by decide) dX6_readOne_20 ?_
    refine r_bipush (pc := 21) (v := nI 9) h (by decide) dX6_readOne_21 ?_
    refine r_cVi (pc := 23) (As := [.int (nI v1), .int (nI 1), .int (nI 1), .int (nI 9)]) (st := []) h lk_RX6_107 (c_fig x.2.1 G σ c hc s hh xx (upd m 11 (nI p1)) n tx ht ((pk_un (by decide)).trans hm2) p1 (by omega) pk_us v1 1 1 9 (by omega) (by omega) (by omega) (by omega)) rc_6 (by decide) rfl rfl (by first | decide | exact Nat.le_of_ble_eq_true rfl) (by decide) dX6_readOne_23 (fun r7 s8 q9 => ?_)
    obtain ⟨o2, p2, hf2⟩ : ∃ o p, fig tx n 1 9 (usK 1) 0 p1 = (o, p) := ⟨_, _, rfl⟩
    have hb2 := figK_le (by omega) hf2
    rw [q9.1, q9.2, upd_2, hf2]
    refine V.sg (show _ = mB σ c s hh xx (upd m 11 (nI p2)) from rfl) ?_
    refine r_topi (b := oI o2) rfl ?_
    cases o2 with
    | none =>
      refine r_topi (b := (-1)) rfl ?_
      refine r_goto (pc := 26) (tgt := 30) h (by decide) dX6_readOne_26 ?_
      refine r_istore (pc := 30) (lo2 := [(4, .int (-1)), (3, .int (nI v1)), (0, .ref (G.2.1 + 134)), (1, .ref (G.2.1 + c)), (2, .int (nI 6))]) h (by decide) rfl dX6_readOne_30 ?_
      refine r_iload (pc := 32) h 0 rfl dX6_readOne_32 ?_
      refine r_iconst (pc := 34) (v := (-1)) h (by decide) dX6_readOne_34 ?_
      refine r_icmp_eq (pc := 35) (tgt := 81) h (by decide) dX6_readOne_35 (fun _ => ?_) (fun c35 => absurd c35 (by decide))
      refine r_iconst (pc := 81) (v := nI 0) h (by decide) dX6_readOne_81 ?_
      exact hret _ _ (cmr_bad (by simp only [fone, ftwo, fthr, hf1, hf2] : ftwo (fig tx n 0 11 (usK 2) 0 a) (fun p => fig tx n 1 9 (usK 1) 0 p) = (none, p2)) (by omega)) 82 _ dX6_readOne_82
    | some v2 =>
      refine r_topi (b := nI v2) rfl ?_
      have hv2 := figK_in (by omega) hf2
      refine r_goto (pc := 26) (tgt := 30) h (by decide) dX6_readOne_26 ?_
      refine r_istore (pc := 30) (lo2 := [(4, .int (nI v2)), (3, .int (nI v1)), (0, .ref (G.2.1 + 134)), (1, .ref (G.2.1 + c)), (2, .int (nI 6))]) h (by decide) rfl dX6_readOne_30 ?_
      refine r_iload (pc := 32) h 0 rfl dX6_readOne_32 ?_
      refine r_iconst (pc := 34) (v := (-1)) h (by decide) dX6_readOne_34 ?_
      refine r_icmp_eq (pc := 35) (tgt := 81) h (by decide) dX6_readOne_35 (fun c35 => ?_) (fun c35 => ?_)
      · skip
        exact absurd c35 (nI_ne (by omega))
      · skip
        refine r_aload_n (pc := 38) h 2 rfl rfl dX6_readOne_38 ?_
        refine r_aload_n (pc := 39) h 3 rfl rfl dX6_readOne_39 ?_
        refine r_iload_n (pc := 40) h 1 rfl rfl dX6_readOne_40 ?_
        refine r_cSi (pc := 41) (As := [.ref (G.2.1 + c), .int (nI v1)]) (st := [.ref (G.2.1 + 134)]) h lk_RX6_123 (c_isListM x.2.1 G (mB σ c s hh xx (upd m 11 (nI p2))) c hc A (by rw [mB_sF]; exact hM) (by omega) (nI v1)) (by decide) rfl rfl (by first | decide | exact Nat.le_of_ble_eq_true rfl) (by decide) dX6_readOne_41 (fun r10 s11 q12 => ?_)
        rw [q12.1, q12.2]
        refine r_if_eq (pc := 44) (tgt := 70) h (by decide) dX6_readOne_44 (fun c44 => ?_) (fun c44 => ?_)
        · skip
          replace c44 := zB_0.mp c44
          refine r_iconst (pc := 70) (v := nI 0) h (by decide) dX6_readOne_70 ?_
          refine r_cVi (pc := 71) (As := [.int (nI 0)]) (st := []) h lk_RX6_119 (c_doneF x.2.1 G σ c hc s hh xx (upd m 11 (nI p2)) sk ((pk_un (by decide)).trans hm12)) rc_6 (by decide) rfl rfl (by first | decide | exact Nat.le_of_ble_eq_true rfl) (by decide) dX6_readOne_71 (fun r13 s14 q15 => ?_)
          rw [q15.1, q15.2]
          refine r_if_eq (pc := 74) (tgt := 81) h (by decide) dX6_readOne_74 (fun c74 => absurd c74 (by decide)) (fun _ => ?_)
          refine r_iconst (pc := 77) (v := nI 1) h (by decide) dX6_readOne_77 ?_
          refine r_goto (pc := 78) (tgt := 82) h (by decide) dX6_readOne_78 ?_
          exact hret _ _ (cmr_sk (by simp only [fone, ftwo, fthr, hf1, hf2] : ftwo (fig tx n 0 11 (usK 2) 0 a) (fun p => fig tx n 1 9 (usK 1) 0 p) = (some (v1, v2, 0), p2)) (by omega) (fst3_n1 c44) hM) 82 _ dX6_readOne_82
        · skip
          replace c44 := zB_n0.mp c44
          refine r_aload_n (pc := 47) h 3 rfl rfl dX6_readOne_47 ?_
          refine r_cSi (pc := 48) (As := [.ref (G.2.1 + c)]) (st := [.ref (G.2.1 + 134)]) h lk_RX6_111 (c_hasRoomM x.2.1 G (mB σ c s hh xx (upd m 11 (nI p2))) c hc A (by rw [mB_sF]; exact hM) (by omega)) (by decide) rfl rfl (by first | decide | exact Nat.le_of_ble_eq_true rfl) (by decide) dX6_readOne_48 (fun r16 s17 q18 => ?_)
          rw [q18.1, q18.2]
          refine r_if_eq (pc := 51) (tgt := 70) h (by decide) dX6_readOne_51 (fun c51 => ?_) (fun c51 => ?_)
          · skip
            replace c51 := zB_0.mp c51
            refine r_iconst (pc := 70) (v := nI 0) h (by decide) dX6_readOne_70 ?_
            refine r_cVi (pc := 71) (As := [.int (nI 0)]) (st := []) h lk_RX6_119 (c_doneF x.2.1 G σ c hc s hh xx (upd m 11 (nI p2)) sk ((pk_un (by decide)).trans hm12)) rc_6 (by decide) rfl rfl (by first | decide | exact Nat.le_of_ble_eq_true rfl) (by decide) dX6_readOne_71 (fun r19 s20 q21 => ?_)
            rw [q21.1, q21.2]
            refine r_if_eq (pc := 74) (tgt := 81) h (by decide) dX6_readOne_74 (fun c74 => absurd c74 (by decide)) (fun _ => ?_)
            refine r_iconst (pc := 77) (v := nI 1) h (by decide) dX6_readOne_77 ?_
            refine r_goto (pc := 78) (tgt := 82) h (by decide) dX6_readOne_78 ?_
            exact hret _ _ (cmr_sk (by simp only [fone, ftwo, fthr, hf1, hf2] : ftwo (fig tx n 0 11 (usK 2) 0 a) (fun p => fig tx n 1 9 (usK 1) 0 p) = (some (v1, v2, 0), p2)) (by omega) (fst3_n3 c51) hM) 82 _ dX6_readOne_82
          · skip
            replace c51 := zB_n0.mp c51
            refine r_aload_n (pc := 54) h 3 rfl rfl dX6_readOne_54 ?_
            refine r_iload_n (pc := 55) h 4 rfl rfl dX6_readOne_55 ?_
            refine r_iload_n (pc := 56) h 1 rfl rfl dX6_readOne_56 ?_
            refine r_iload (pc := 57) h 0 rfl dX6_readOne_57 ?_
            refine r_iconst (pc := 59) (v := nI 0) h (by decide) dX6_readOne_59 ?_
            refine r_cSi (pc := 60) (As := [.ref (G.2.1 + c), .int (nI 6), .int (nI v1), .int (nI v2), .int (nI 0)]) (st := [.ref (G.2.1 + 134)]) h lk_RX6_115 (c_makeM x.2.1 G σ c hc s hh xx (upd m 11 (nI p2)) A hA hM (6, v1, v2, 0) (nI v2) (nI 0) (of_decide_eq_true c51) (fun _ _ => rfl) (fun q => by cases q)) (by decide) rfl rfl (by first | decide | exact Nat.le_of_ble_eq_true rfl) (by decide) dX6_readOne_60 (fun r22 s23 q24 => ?_)
            obtain ⟨e9, s2, es, hs2⟩ := q24
            rw [e9]
            subst es
            refine r_if_lt (pc := 63) (tgt := 70) h (by decide) dX6_readOne_63 (fun c63 => ?_) (fun c63 => ?_)
            · skip
              rw [zI0, nI_ltI (by omega) (by omega)] at c63
              exact absurd c63 (by omega)
            · skip
              rw [zI0, nI_ltI (by omega) (by omega)] at c63
              refine r_iconst (pc := 66) (v := nI 1) h (by decide) dX6_readOne_66 ?_
              refine r_goto (pc := 67) (tgt := 71) h (by decide) dX6_readOne_67 ?_
              refine r_cVi (pc := 71) (As := [.int (nI 1)]) (st := []) h lk_RX6_119 (c_doneT x.2.1 G σ c hc s2 hh xx (upd m 11 (nI p2)) sk ((pk_un (by decide)).trans hm12)) rc_6 (by decide) rfl rfl (by first | decide | exact Nat.le_of_ble_eq_true rfl) (by decide) dX6_readOne_71 (fun r25 s26 q27 => ?_)
              rw [q27.1, q27.2]
              refine r_if_eq (pc := 74) (tgt := 81) h (by decide) dX6_readOne_74 (fun c74 => absurd c74 (by decide)) (fun _ => ?_)
              refine r_iconst (pc := 77) (v := nI 1) h (by decide) dX6_readOne_77 ?_
              refine r_goto (pc := 78) (tgt := 82) h (by decide) dX6_readOne_78 ?_
              exact hret _ _ (cmr_ok (by simp only [fone, ftwo, fthr, hf1, hf2] : ftwo (fig tx n 0 11 (usK 2) 0 a) (fun p => fig tx n 1 9 (usK 1) 0 p) = (some (v1, v2, 0), p2)) (by omega) (fst3_y c44 (inB_of (by omega) (by omega) (by omega)) c51) (by show RelM (mkA A (6, toN (nI v1), toN (nI v2), 0)) _; rw [toN_nI (show v1 < 2 ^ 31 by omega), toN_nI (show v2 < 2 ^ 31 by omega)]; exact hs2)) 82 _ dX6_readOne_82

set_option maxRecDepth 100000 in
set_option maxHeartbeats 800000 in
theorem c_readOne7 (l : Launch) (G : Gl) (σ : Sg) (c : Nat) (hc : Rc c) (s hh xx m : Nat → Int32) (A : Ab) (hA : okA A) (hM : RelM A s) (n : Nat) (tx : Nat → Nat) (ht : TxM n tx σ) (hm2 : m 2 = nI n) (a : Nat) (ha : a ≤ n) (hm11 : m 11 = nI a) (sk : Nat) (hm12 : m 12 = nI sk) : Ci l yX6_readOne cX6_readOne 5 .boolean ({ frames := 2, cells := 0, slots := 0, locals := 53 } : Room) G [.ref (G.2.1 + 134), .ref (G.2.1 + c), .int (nI 7)] (mB σ c s hh xx m) (fun r σ2 => CmR σ c m A sk 117 n a (fone (fig tx n 0 11 (usK 2) 0 a)) r σ2) := by
  refine Ci_of (own := RX6) rfl (by decide +kernel) (lo := [(0, .ref (G.2.1 + 134)), (1, .ref (G.2.1 + c)), (2, .int (nI 7))]) rfl (Nat.le_of_ble_eq_true rfl) (fun r s hp => CmR_nar hp) ?_
  intro x Q hxl h hret
  subst hxl
  have h12 := hA.1
  have h4 := hA.2.1
  have hn9 := ht.1
  refine V.sg (show mB σ c s hh xx m = mB σ c s hh xx (upd m 11 (nI a)) from congrArg (mB σ c s hh xx) (upd_id hm11).symm) ?_
  refine r_aload_n (pc := 0) h 0 rfl rfl dX6_readOne_0 ?_
  refine r_iconst (pc := 1) (v := nI 0) h (by decide) dX6_readOne_1 ?_
  refine r_bipush (pc := 2) (v := nI 10) h (by decide) dX6_readOne_2 ?_
  refine r_iconst (pc := 4) (v := nI 0) h (by decide) dX6_readOne_4 ?_
  refine r_bipush (pc := 5) (v := nI 11) h (by decide) dX6_readOne_5 ?_
  refine r_cVi (pc := 7) (As := [.int (nI 0), .int (nI 10), .int (nI 0), .int (nI 11)]) (st := []) h lk_RX6_107 (c_fig x.2.1 G σ c hc s hh xx (upd m 11 (nI a)) n tx ht ((pk_un (by decide)).trans hm2) a (by omega) pk_us 0 2 0 11 (by omega) (by omega) (by omega) (by omega)) rc_6 (by decide) rfl rfl (by first | decide | exact Nat.le_of_ble_eq_true rfl) (by decide) dX6_readOne_7 (fun r1 s2 q3 => ?_)
  obtain ⟨o1, p1, hf1⟩ : ∃ o p, fig tx n 0 11 (usK 2) 0 a = (o, p) := ⟨_, _, rfl⟩
  have hb1 := figK_le (by omega) hf1
  rw [q3.1, q3.2, upd_2, hf1]
  refine V.sg (show _ = mB σ c s hh xx (upd m 11 (nI p1)) from rfl) ?_
  refine r_topi (b := oI o1) rfl ?_
  cases o1 with
  | none =>
    refine r_topi (b := (-1)) rfl ?_
    refine r_istore_n (pc := 10) (lo2 := [(3, .int (-1)), (0, .ref (G.2.1 + 134)), (1, .ref (G.2.1 + c)), (2, .int (nI 7))]) h rfl (by decide) rfl dX6_readOne_10 ?_
    refine r_iload_n (pc := 11) h 3 rfl rfl dX6_readOne_11 ?_
    refine r_bipush (pc := 12) (v := nI 6) h (by decide) dX6_readOne_12 ?_
    refine r_icmp_ne (pc := 14) (tgt := 29) h (by decide) dX6_readOne_14 (fun _ => ?_) (fun c14 => absurd c14 (by decide))
    refine r_iload_n (pc := 29) h 0 rfl rfl dX6_readOne_29 ?_
    refine r_istore (pc := 30) (lo2 := [(4, .int (-1)), (3, .int (-1)), (0, .ref (G.2.1 + 134)), (1, .ref (G.2.1 + c)), (2, .int (nI 7))]) h (by decide) rfl dX6_readOne_30 ?_
    refine r_iload (pc := 32) h 0 rfl dX6_readOne_32 ?_
    refine r_iconst (pc := 34) (v := (-1)) h (by decide) dX6_readOne_34 ?_
    refine r_icmp_eq (pc := 35) (tgt := 81) h (by decide) dX6_readOne_35 (fun _ => ?_) (fun c35 => absurd c35 (by decide))
    refine r_iconst (pc := 81) (v := nI 0) h (by decide) dX6_readOne_81 ?_
    exact hret _ _ (cmr_bad (by simp only [fone, ftwo, fthr, hf1] : fone (fig tx n 0 11 (usK 2) 0 a) = (none, p1)) (by omega)) 82 _ dX6_readOne_82
  | some v1 =>
    refine r_topi (b := nI v1) rfl ?_
    have hv1 := figK_in (by omega) hf1
    refine r_istore_n (pc := 10) (lo2 := [(3, .int (nI v1)), (0, .ref (G.2.1 + 134)), (1, .ref (G.2.1 + c)), (2, .int (nI 7))]) h rfl (by decide) rfl dX6_readOne_10 ?_
    refine r_iload_n (pc := 11) h 3 rfl rfl dX6_readOne_11 ?_
    refine r_bipush (pc := 12) (v := nI 6) h (by decide) dX6_readOne_12 ?_
    refine r_icmp_ne (pc := 14) (tgt := 29) h (by decide) dX6_readOne_14 (fun _ => ?_) (fun c14 => absurd c14 (by decide))
    refine r_iload_n (pc := 29) h 0 rfl rfl dX6_readOne_29 ?_
    refine r_istore (pc := 30) (lo2 := [(4, .int (nI v1)), (3, .int (nI v1)), (0, .ref (G.2.1 + 134)), (1, .ref (G.2.1 + c)), (2, .int (nI 7))]) h (by decide) rfl dX6_readOne_30 ?_
    refine r_iload (pc := 32) h 0 rfl dX6_readOne_32 ?_
    refine r_iconst (pc := 34) (v := (-1)) h (by decide) dX6_readOne_34 ?_
    refine r_icmp_eq (pc := 35) (tgt := 81) h (by decide) dX6_readOne_35 (fun c35 => ?_) (fun c35 => ?_)
    · skip
      exact absurd c35 (nI_ne (by omega))
    · skip
      refine r_aload_n (pc := 38) h 2 rfl rfl dX6_readOne_38 ?_
      refine r_aload_n (pc := 39) h 3 rfl rfl dX6_readOne_39 ?_
      refine r_iload_n (pc := 40) h 1 rfl rfl dX6_readOne_40 ?_
      refine r_cSi (pc := 41) (As := [.ref (G.2.1 + c), .int (nI v1)]) (st := [.ref (G.2.1 + 134)]) h lk_RX6_123 (c_isListM x.2.1 G (mB σ c s hh xx (upd m 11 (nI p1))) c hc A (by rw [mB_sF]; exact hM) (by omega) (nI v1)) (by decide) rfl rfl (by first | decide | exact Nat.le_of_ble_eq_true rfl) (by decide) dX6_readOne_41 (fun r4 s5 q6 => ?_)
      rw [q6.1, q6.2]
      refine r_if_eq (pc := 44) (tgt := 70) h (by decide) dX6_readOne_44 (fun c44 => ?_) (fun c44 => ?_)
      · skip
        replace c44 := zB_0.mp c44
        refine r_iconst (pc := 70) (v := nI 0) h (by decide) dX6_readOne_70 ?_
        refine r_cVi (pc := 71) (As := [.int (nI 0)]) (st := []) h lk_RX6_119 (c_doneF x.2.1 G σ c hc s hh xx (upd m 11 (nI p1)) sk ((pk_un (by decide)).trans hm12)) rc_6 (by decide) rfl rfl (by first | decide | exact Nat.le_of_ble_eq_true rfl) (by decide) dX6_readOne_71 (fun r7 s8 q9 => ?_)
        rw [q9.1, q9.2]
        refine r_if_eq (pc := 74) (tgt := 81) h (by decide) dX6_readOne_74 (fun c74 => absurd c74 (by decide)) (fun _ => ?_)
        refine r_iconst (pc := 77) (v := nI 1) h (by decide) dX6_readOne_77 ?_
        refine r_goto (pc := 78) (tgt := 82) h (by decide) dX6_readOne_78 ?_
        exact hret _ _ (cmr_sk (by simp only [fone, ftwo, fthr, hf1] : fone (fig tx n 0 11 (usK 2) 0 a) = (some (v1, 0, 0), p1)) (by omega) (fst3_n1 c44) hM) 82 _ dX6_readOne_82
      · skip
        replace c44 := zB_n0.mp c44
        refine r_aload_n (pc := 47) h 3 rfl rfl dX6_readOne_47 ?_
        refine r_cSi (pc := 48) (As := [.ref (G.2.1 + c)]) (st := [.ref (G.2.1 + 134)]) h lk_RX6_111 (c_hasRoomM x.2.1 G (mB σ c s hh xx (upd m 11 (nI p1))) c hc A (by rw [mB_sF]; exact hM) (by omega)) (by decide) rfl rfl (by first | decide | exact Nat.le_of_ble_eq_true rfl) (by decide) dX6_readOne_48 (fun r10 s11 q12 => ?_)
        rw [q12.1, q12.2]
        refine r_if_eq (pc := 51) (tgt := 70) h (by decide) dX6_readOne_51 (fun c51 => ?_) (fun c51 => ?_)
        · skip
          replace c51 := zB_0.mp c51
          refine r_iconst (pc := 70) (v := nI 0) h (by decide) dX6_readOne_70 ?_
          refine r_cVi (pc := 71) (As := [.int (nI 0)]) (st := []) h lk_RX6_119 (c_doneF x.2.1 G σ c hc s hh xx (upd m 11 (nI p1)) sk ((pk_un (by decide)).trans hm12)) rc_6 (by decide) rfl rfl (by first | decide | exact Nat.le_of_ble_eq_true rfl) (by decide) dX6_readOne_71 (fun r13 s14 q15 => ?_)
          rw [q15.1, q15.2]
          refine r_if_eq (pc := 74) (tgt := 81) h (by decide) dX6_readOne_74 (fun c74 => absurd c74 (by decide)) (fun _ => ?_)
          refine r_iconst (pc := 77) (v := nI 1) h (by decide) dX6_readOne_77 ?_
          refine r_goto (pc := 78) (tgt := 82) h (by decide) dX6_readOne_78 ?_
          exact hret _ _ (cmr_sk (by simp only [fone, ftwo, fthr, hf1] : fone (fig tx n 0 11 (usK 2) 0 a) = (some (v1, 0, 0), p1)) (by omega) (fst3_n3 c51) hM) 82 _ dX6_readOne_82
        · skip
          replace c51 := zB_n0.mp c51
          refine r_aload_n (pc := 54) h 3 rfl rfl dX6_readOne_54 ?_
          refine r_iload_n (pc := 55) h 4 rfl rfl dX6_readOne_55 ?_
          refine r_iload_n (pc := 56) h 1 rfl rfl dX6_readOne_56 ?_
          refine r_iload (pc := 57) h 0 rfl dX6_readOne_57 ?_
          refine r_iconst (pc := 59) (v := nI 0) h (by decide) dX6_readOne_59 ?_
          refine r_cSi (pc := 60) (As := [.ref (G.2.1 + c), .int (nI 7), .int (nI v1), .int (nI v1), .int (nI 0)]) (st := [.ref (G.2.1 + 134)]) h lk_RX6_115 (c_makeM x.2.1 G σ c hc s hh xx (upd m 11 (nI p1)) A hA hM (7, v1, 0, 0) (nI v1) (nI 0) (of_decide_eq_true c51) (fun _ q => absurd rfl q) (fun q => by cases q)) (by decide) rfl rfl (by first | decide | exact Nat.le_of_ble_eq_true rfl) (by decide) dX6_readOne_60 (fun r16 s17 q18 => ?_)
          obtain ⟨e9, s2, es, hs2⟩ := q18
          rw [e9]
          subst es
          refine r_if_lt (pc := 63) (tgt := 70) h (by decide) dX6_readOne_63 (fun c63 => ?_) (fun c63 => ?_)
          · skip
            rw [zI0, nI_ltI (by omega) (by omega)] at c63
            exact absurd c63 (by omega)
          · skip
            rw [zI0, nI_ltI (by omega) (by omega)] at c63
            refine r_iconst (pc := 66) (v := nI 1) h (by decide) dX6_readOne_66 ?_
            refine r_goto (pc := 67) (tgt := 71) h (by decide) dX6_readOne_67 ?_
            refine r_cVi (pc := 71) (As := [.int (nI 1)]) (st := []) h lk_RX6_119 (c_doneT x.2.1 G σ c hc s2 hh xx (upd m 11 (nI p1)) sk ((pk_un (by decide)).trans hm12)) rc_6 (by decide) rfl rfl (by first | decide | exact Nat.le_of_ble_eq_true rfl) (by decide) dX6_readOne_71 (fun r19 s20 q21 => ?_)
            rw [q21.1, q21.2]
            refine r_if_eq (pc := 74) (tgt := 81) h (by decide) dX6_readOne_74 (fun c74 => absurd c74 (by decide)) (fun _ => ?_)
            refine r_iconst (pc := 77) (v := nI 1) h (by decide) dX6_readOne_77 ?_
            refine r_goto (pc := 78) (tgt := 82) h (by decide) dX6_readOne_78 ?_
            exact hret _ _ (cmr_ok (by simp only [fone, ftwo, fthr, hf1] : fone (fig tx n 0 11 (usK 2) 0 a) = (some (v1, 0, 0), p1)) (by omega) (fst3_y c44 rfl c51) (by show RelM (mkA A (7, toN (nI v1), 0, 0)) _; rw [toN_nI (show v1 < 2 ^ 31 by omega)]; exact hs2)) 82 _ dX6_readOne_82

set_option maxRecDepth 100000 in
set_option maxHeartbeats 800000 in
theorem c_readNext (l : Launch) (G : Gl) (σ : Sg) (c : Nat) (hc : Rc c) (s hh xx m : Nat → Int32) (A : Ab) (hA : okA A) (hM : RelM A s) (n : Nat) (tx : Nat → Nat) (ht : TxM n tx σ) (hm2 : m 2 = nI n) (a : Nat) (ha : a ≤ n) (hm11 : m 11 = nI a) (sk : Nat) (hm12 : m 12 = nI sk) : Ci l yX6_readReader cX6_readReader 5 .boolean ({ frames := 4, cells := 0, slots := 0, locals := 91 } : Room) G [.ref (G.2.1 + 134), .ref (G.2.1 + c), .int (nI 110)] (mB σ c s hh xx m) (fun r σ2 => CmR σ c m A sk 110 n a (fone (fig tx n 0 3 (usK 1) 0 a)) r σ2) := by
  refine Ci_of (own := RX6) rfl (by decide +kernel) (lo := [(0, .ref (G.2.1 + 134)), (1, .ref (G.2.1 + c)), (2, .int (nI 110))]) rfl (Nat.le_of_ble_eq_true rfl) (fun r s hp => CmR_nar hp) ?_
  intro x Q hxl h hret
  subst hxl
  have h12 := hA.1
  have h4 := hA.2.1
  have hn9 := ht.1
  refine V.sg (show mB σ c s hh xx m = mB σ c s hh xx (upd m 11 (nI a)) from congrArg (mB σ c s hh xx) (upd_id hm11).symm) ?_
  refine r_aload_n (pc := 0) h 0 rfl rfl dX6_readReader_0 ?_
  refine r_iconst (pc := 1) (v := nI 0) h (by decide) dX6_readReader_1 ?_
  refine r_iconst (pc := 2) (v := nI 1) h (by decide) dX6_readReader_2 ?_
  refine r_iconst (pc := 3) (v := nI 0) h (by decide) dX6_readReader_3 ?_
  refine r_iconst (pc := 4) (v := nI 3) h (by decide) dX6_readReader_4 ?_
  refine r_cVi (pc := 5) (As := [.int (nI 0), .int (nI 1), .int (nI 0), .int (nI 3)]) (st := []) h lk_RX6_107 (c_fig x.2.1 G σ c hc s hh xx (upd m 11 (nI a)) n tx ht ((pk_un (by decide)).trans hm2) a (by omega) pk_us 0 1 0 3 (by omega) (by omega) (by omega) (by omega)) rc_6 (by decide) rfl rfl (by first | decide | exact Nat.le_of_ble_eq_true rfl) (by decide) dX6_readReader_5 (fun r1 s2 q3 => ?_)
  obtain ⟨o1, p1, hf1⟩ : ∃ o p, fig tx n 0 3 (usK 1) 0 a = (o, p) := ⟨_, _, rfl⟩
  have hb1 := figK_le (by omega) hf1
  rw [q3.1, q3.2, upd_2, hf1]
  refine V.sg (show _ = mB σ c s hh xx (upd m 11 (nI p1)) from rfl) ?_
  refine r_topi (b := oI o1) rfl ?_
  cases o1 with
  | none =>
    refine r_topi (b := (-1)) rfl ?_
    refine r_istore_n (pc := 8) (lo2 := [(3, .int (-1)), (0, .ref (G.2.1 + 134)), (1, .ref (G.2.1 + c)), (2, .int (nI 110))]) h rfl (by decide) rfl dX6_readReader_8 ?_
    refine r_iload_n (pc := 9) h 3 rfl rfl dX6_readReader_9 ?_
    refine r_bipush (pc := 10) (v := nI 107) h (by decide) dX6_readReader_10 ?_
    refine r_icmp_ne (pc := 12) (tgt := 28) h (by decide) dX6_readReader_12 (fun _ => ?_) (fun c12 => absurd c12 (by decide))
    refine r_iload_n (pc := 28) h 0 rfl rfl dX6_readReader_28 ?_
    refine r_istore (pc := 29) (lo2 := [(4, .int (-1)), (3, .int (-1)), (0, .ref (G.2.1 + 134)), (1, .ref (G.2.1 + c)), (2, .int (nI 110))]) h (by decide) rfl dX6_readReader_29 ?_
    refine r_iload (pc := 31) h 0 rfl dX6_readReader_31 ?_
    refine r_iconst (pc := 33) (v := (-1)) h (by decide) dX6_readReader_33 ?_
    refine r_icmp_ne (pc := 34) (tgt := 39) h (by decide) dX6_readReader_34 (fun c34 => absurd c34 (by decide)) (fun _ => ?_)
    refine r_iconst (pc := 37) (v := nI 0) h (by decide) dX6_readReader_37 ?_
    exact hret _ _ (cmr_bad (by simp only [fone, ftwo, fthr, hf1] : fone (fig tx n 0 3 (usK 1) 0 a) = (none, p1)) (by omega)) 38 _ dX6_readReader_38
  | some v1 =>
    refine r_topi (b := nI v1) rfl ?_
    have hv1 := figK_in (by omega) hf1
    refine r_istore_n (pc := 8) (lo2 := [(3, .int (nI v1)), (0, .ref (G.2.1 + 134)), (1, .ref (G.2.1 + c)), (2, .int (nI 110))]) h rfl (by decide) rfl dX6_readReader_8 ?_
    refine r_iload_n (pc := 9) h 3 rfl rfl dX6_readReader_9 ?_
    refine r_bipush (pc := 10) (v := nI 107) h (by decide) dX6_readReader_10 ?_
    refine r_icmp_ne (pc := 12) (tgt := 28) h (by decide) dX6_readReader_12 (fun _ => ?_) (fun c12 => absurd c12 (by decide))
    refine r_iload_n (pc := 28) h 0 rfl rfl dX6_readReader_28 ?_
    refine r_istore (pc := 29) (lo2 := [(4, .int (nI v1)), (3, .int (nI v1)), (0, .ref (G.2.1 + 134)), (1, .ref (G.2.1 + c)), (2, .int (nI 110))]) h (by decide) rfl dX6_readReader_29 ?_
    refine r_iload (pc := 31) h 0 rfl dX6_readReader_31 ?_
    refine r_iconst (pc := 33) (v := (-1)) h (by decide) dX6_readReader_33 ?_
    refine r_icmp_ne (pc := 34) (tgt := 39) h (by decide) dX6_readReader_34 (fun c34 => ?_) (fun c34 => ?_)
    · skip
      refine r_aload_n (pc := 39) h 2 rfl rfl dX6_readReader_39 ?_
      refine r_aload_n (pc := 40) h 3 rfl rfl dX6_readReader_40 ?_
      refine r_cVv (pc := 41) (As := [.ref (G.2.1 + c)]) (st := []) h lk_RX6_127 (c_finds x.2.1 G σ c hc s hh xx (upd m 11 (nI p1)) A hA hM) rc_6 (by decide) rfl rfl (by first | decide | exact Nat.le_of_ble_eq_true rfl) (by decide) dX6_readReader_41 (fun s5 q6 => ?_)
      obtain ⟨h2, x2, e8, hH⟩ := q6
      subst e8
      refine r_iload_n (pc := 44) h 4 rfl rfl dX6_readReader_44 ?_
      refine r_lookup (pc := 45) (off := 35) (tgt := 80) h (by decide) (by decide) (by decide) dX6_readReader_45 ?_
      refine r_aload_n (pc := 80) h 2 rfl rfl dX6_readReader_80 ?_
      refine r_aload_n (pc := 81) h 3 rfl rfl dX6_readReader_81 ?_
      refine r_iload_n (pc := 82) h 1 rfl rfl dX6_readReader_82 ?_
      refine r_cSi (pc := 83) (As := [.ref (G.2.1 + c), .int (nI v1)]) (st := [.ref (G.2.1 + 134)]) h lk_RX6_130 (c_isReaderM x.2.1 G (mB σ c s h2 x2 (upd m 11 (nI p1))) c hc A (by rw [mB_sF]; exact hM) (by omega) (nI v1)) (by decide) rfl rfl (by first | decide | exact Nat.le_of_ble_eq_true rfl) (by decide) dX6_readReader_83 (fun r7 s8 q9 => ?_)
      rw [q9.1, q9.2]
      refine r_if_eq (pc := 86) (tgt := 112) h (by decide) dX6_readReader_86 (fun c86 => ?_) (fun c86 => ?_)
      · skip
        replace c86 := zB_0.mp c86
        refine r_iconst (pc := 112) (v := nI 0) h (by decide) dX6_readReader_112 ?_
        refine r_cVi (pc := 113) (As := [.int (nI 0)]) (st := []) h lk_RX6_119 (c_doneF x.2.1 G σ c hc s h2 x2 (upd m 11 (nI p1)) sk ((pk_un (by decide)).trans hm12)) rc_6 (by decide) rfl rfl (by first | decide | exact Nat.le_of_ble_eq_true rfl) (by decide) dX6_readReader_113 (fun r10 s11 q12 => ?_)
        rw [q12.1, q12.2]
        exact hret _ _ (cmr_sk (by simp only [fone, ftwo, fthr, hf1] : fone (fig tx n 0 3 (usK 1) 0 a) = (some (v1, 0, 0), p1)) (by omega) (fst3_n1 c86) hM) 116 _ dX6_readReader_116
      · skip
        replace c86 := zB_n0.mp c86
        obtain ⟨i9, ei9, hi9⟩ := rdB_nI h4 c86
        have hv1r : v1 < A.2.1 := by rw [nI_eq (by omega) (by omega)] at ei9; omega
        refine r_aload_n (pc := 89) h 2 rfl rfl dX6_readReader_89 ?_
        refine r_aload_n (pc := 90) h 3 rfl rfl dX6_readReader_90 ?_
        refine r_iload_n (pc := 91) h 1 rfl rfl dX6_readReader_91 ?_
        refine r_cVi (pc := 92) (As := [.ref (G.2.1 + c), .int (nI v1)]) (st := [.ref (G.2.1 + 134)]) h lk_RX6_84 (c_next x.2.1 G (mB σ c s h2 x2 (upd m 11 (nI p1))) c hc A (by rw [mB_sF]; exact hM) hA v1 (by omega) (fun L hL v hv => (mB_h hc _).trans (hH L hL v hv))) rc_6 (by decide) rfl rfl (by first | decide | exact Nat.le_of_ble_eq_true rfl) (by decide) dX6_readReader_92 (fun r13 s14 q15 => ?_)
        rw [q15.1, q15.2]
        refine r_iconst (pc := 95) (v := (-1)) h (by decide) dX6_readReader_95 ?_
        refine r_icmp_eq (pc := 96) (tgt := 112) h (by decide) dX6_readReader_96 (fun c96 => ?_) (fun c96 => ?_)
        · skip
          rw [oI_nextO] at c96
          refine r_iconst (pc := 112) (v := nI 0) h (by decide) dX6_readReader_112 ?_
          refine r_cVi (pc := 113) (As := [.int (nI 0)]) (st := []) h lk_RX6_119 (c_doneF x.2.1 G σ c hc s h2 x2 (upd m 11 (nI p1)) sk ((pk_un (by decide)).trans hm12)) rc_6 (by decide) rfl rfl (by first | decide | exact Nat.le_of_ble_eq_true rfl) (by decide) dX6_readReader_113 (fun r16 s17 q18 => ?_)
          rw [q18.1, q18.2]
          exact hret _ _ (cmr_sk (by simp only [fone, ftwo, fthr, hf1] : fone (fig tx n 0 3 (usK 1) 0 a) = (some (v1, 0, 0), p1)) (by omega) (fst3_n3 (by rw [toN_nI (show v1 < 2 ^ 31 by omega)]; exact isSome_f c96)) hM) 116 _ dX6_readReader_116
        · skip
          rw [oI_nextO] at c96
          refine r_aload_n (pc := 99) h 2 rfl rfl dX6_readReader_99 ?_
          refine r_aload_n (pc := 100) h 3 rfl rfl dX6_readReader_100 ?_
          refine r_iload_n (pc := 101) h 1 rfl rfl dX6_readReader_101 ?_
          refine r_cVi (pc := 102) (As := [.ref (G.2.1 + c), .int (nI v1)]) (st := [.ref (G.2.1 + 134)]) h lk_RX6_133 (c_readOn x.2.1 G σ c hc s h2 x2 (upd m 11 (nI p1)) A hA hM v1 (by omega) hH) rc_6 (by decide) rfl rfl (by first | decide | exact Nat.le_of_ble_eq_true rfl) (by decide) dX6_readReader_102 (fun r19 s20 q21 => ?_)
          obtain ⟨e9, s2, es, hs2⟩ := q21
          rw [e9]
          subst es
          refine r_if_lt (pc := 105) (tgt := 112) h (by decide) dX6_readReader_105 (fun c105 => ?_) (fun c105 => ?_)
          · skip
            obtain ⟨v9, hv9⟩ := Option.isSome_iff_exists.mp (isSome_t c96)
            have hl9 := (ath_spec hv9).1
            rw [hv9] at c105
            exact absurd c105 (by show ¬ nI v9 < nI 0; rw [nI_ltI (by omega) (by omega)]; omega)
          · skip
            refine r_iconst (pc := 108) (v := nI 1) h (by decide) dX6_readReader_108 ?_
            refine r_goto (pc := 109) (tgt := 113) h (by decide) dX6_readReader_109 ?_
            refine r_cVi (pc := 113) (As := [.int (nI 1)]) (st := []) h lk_RX6_119 (c_doneT x.2.1 G σ c hc s2 h2 x2 (upd m 11 (nI p1)) sk ((pk_un (by decide)).trans hm12)) rc_6 (by decide) rfl rfl (by first | decide | exact Nat.le_of_ble_eq_true rfl) (by decide) dX6_readReader_113 (fun r22 s23 q24 => ?_)
            rw [q24.1, q24.2]
            exact hret _ _ (cmr_ok (by simp only [fone, ftwo, fthr, hf1] : fone (fig tx n 0 3 (usK 1) 0 a) = (some (v1, 0, 0), p1)) (by omega) (fst3_y c86 rfl (by rw [toN_nI (show v1 < 2 ^ 31 by omega)]; exact isSome_t c96)) (by show RelM (A.1, A.2.1, A.2.2.1 + 1, aU A, aL A, va_up (aP A) (toN (nI v1)) (aP A (toN (nI v1)) + 1)) _; rw [toN_nI (show v1 < 2 ^ 31 by omega)]; exact hs2)) 116 _ dX6_readReader_116
    · skip
      exact absurd c34 (nI_ne (by omega))

set_option maxRecDepth 100000 in
set_option maxHeartbeats 800000 in
theorem c_readSkip (l : Launch) (G : Gl) (σ : Sg) (c : Nat) (hc : Rc c) (s hh xx m : Nat → Int32) (A : Ab) (hA : okA A) (hM : RelM A s) (n : Nat) (tx : Nat → Nat) (ht : TxM n tx σ) (hm2 : m 2 = nI n) (a : Nat) (ha : a ≤ n) (hm11 : m 11 = nI a) (sk : Nat) (hm12 : m 12 = nI sk) : Ci l yX6_readReader cX6_readReader 5 .boolean ({ frames := 3, cells := 0, slots := 0, locals := 72 } : Room) G [.ref (G.2.1 + 134), .ref (G.2.1 + c), .int (nI 107)] (mB σ c s hh xx m) (fun r σ2 => CmR σ c m A sk 107 n a (ftwo (fig tx n 0 3 (usK 1) 0 a) (fun p => fig tx n 1 99 (usK 2) 0 p)) r σ2) := by
  refine Ci_of (own := RX6) rfl (by decide +kernel) (lo := [(0, .ref (G.2.1 + 134)), (1, .ref (G.2.1 + c)), (2, .int (nI 107))]) rfl (Nat.le_of_ble_eq_true rfl) (fun r s hp => CmR_nar hp) ?_
  intro x Q hxl h hret
  subst hxl
  have h12 := hA.1
  have h4 := hA.2.1
  have hn9 := ht.1
  refine V.sg (show mB σ c s hh xx m = mB σ c s hh xx (upd m 11 (nI a)) from congrArg (mB σ c s hh xx) (upd_id hm11).symm) ?_
  refine r_aload_n (pc := 0) h 0 rfl rfl dX6_readReader_0 ?_
  refine r_iconst (pc := 1) (v := nI 0) h (by decide) dX6_readReader_1 ?_
  refine r_iconst (pc := 2) (v := nI 1) h (by decide) dX6_readReader_2 ?_
  refine r_iconst (pc := 3) (v := nI 0) h (by decide) dX6_readReader_3 ?_
  refine r_iconst (pc := 4) (v := nI 3) h (by decide) dX6_readReader_4 ?_
  refine r_cVi (pc := 5) (As := [.int (nI 0), .int (nI 1), .int (nI 0), .int (nI 3)]) (st := []) h lk_RX6_107 (c_fig x.2.1 G σ c hc s hh xx (upd m 11 (nI a)) n tx ht ((pk_un (by decide)).trans hm2) a (by omega) pk_us 0 1 0 3 (by omega) (by omega) (by omega) (by omega)) rc_6 (by decide) rfl rfl (by first | decide | exact Nat.le_of_ble_eq_true rfl) (by decide) dX6_readReader_5 (fun r1 s2 q3 => ?_)
  obtain ⟨o1, p1, hf1⟩ : ∃ o p, fig tx n 0 3 (usK 1) 0 a = (o, p) := ⟨_, _, rfl⟩
  have hb1 := figK_le (by omega) hf1
  rw [q3.1, q3.2, upd_2, hf1]
  refine V.sg (show _ = mB σ c s hh xx (upd m 11 (nI p1)) from rfl) ?_
  refine r_topi (b := oI o1) rfl ?_
  cases o1 with
  | none =>
    refine r_topi (b := (-1)) rfl ?_
    refine r_istore_n (pc := 8) (lo2 := [(3, .int (-1)), (0, .ref (G.2.1 + 134)), (1, .ref (G.2.1 + c)), (2, .int (nI 107))]) h rfl (by decide) rfl dX6_readReader_8 ?_
    refine r_iload_n (pc := 9) h 3 rfl rfl dX6_readReader_9 ?_
    refine r_bipush (pc := 10) (v := nI 107) h (by decide) dX6_readReader_10 ?_
    refine r_icmp_ne (pc := 12) (tgt := 28) h (by decide) dX6_readReader_12 (fun c12 => absurd c12 (by decide)) (fun _ => ?_)
    refine r_aload_n (pc := 15) h 1 rfl rfl dX6_readReader_15 ?_
    refine r_iload_n (pc := 16) h 0 rfl rfl dX6_readReader_16 ?_
    refine r_bipush (pc := 17) (v := nI 10) h (by decide) dX6_readReader_17 ?_
    refine r_iconst (pc := 19) (v := nI 1) h (by decide) dX6_readReader_19 ?_
    refine r_bipush (pc := 20) (v := nI 99) h (by decide) dX6_readReader_20 ?_
    refine r_cVi (pc := 22) (As := [.int (-1), .int (nI 10), .int (nI 1), .int (nI 99)]) (st := []) h lk_RX6_107 (c_figN x.2.1 G σ c hc s hh xx (upd m 11 (nI p1)) 2 1 99 (by omega)) rc_6 (by decide) rfl rfl (by first | decide | exact Nat.le_of_ble_eq_true rfl) (by decide) dX6_readReader_22 (fun r4 s5 q6 => ?_)
    rw [q6.1, q6.2]
    refine r_goto (pc := 25) (tgt := 29) h (by decide) dX6_readReader_25 ?_
    refine r_istore (pc := 29) (lo2 := [(4, .int (-1)), (3, .int (-1)), (0, .ref (G.2.1 + 134)), (1, .ref (G.2.1 + c)), (2, .int (nI 107))]) h (by decide) rfl dX6_readReader_29 ?_
    refine r_iload (pc := 31) h 0 rfl dX6_readReader_31 ?_
    refine r_iconst (pc := 33) (v := (-1)) h (by decide) dX6_readReader_33 ?_
    refine r_icmp_ne (pc := 34) (tgt := 39) h (by decide) dX6_readReader_34 (fun c34 => absurd c34 (by decide)) (fun _ => ?_)
    refine r_iconst (pc := 37) (v := nI 0) h (by decide) dX6_readReader_37 ?_
    exact hret _ _ (cmr_bad (by simp only [fone, ftwo, fthr, hf1] : ftwo (fig tx n 0 3 (usK 1) 0 a) (fun p => fig tx n 1 99 (usK 2) 0 p) = (none, p1)) (by omega)) 38 _ dX6_readReader_38
  | some v1 =>
    refine r_topi (b := nI v1) rfl ?_
    have hv1 := figK_in (by omega) hf1
    refine r_istore_n (pc := 8) (lo2 := [(3, .int (nI v1)), (0, .ref (G.2.1 + 134)), (1, .ref (G.2.1 + c)), (2, .int (nI 107))]) h rfl (by decide) rfl dX6_readReader_8 ?_
    refine r_iload_n (pc := 9) h 3 rfl rfl dX6_readReader_9 ?_
    refine r_bipush (pc := 10) (v := nI 107) h (by decide) dX6_readReader_10 ?_
    refine r_icmp_ne (pc := 12) (tgt := 28) h (by decide) dX6_readReader_12 (fun c12 => absurd c12 (by decide)) (fun _ => ?_)
    refine r_aload_n (pc := 15) h 1 rfl rfl dX6_readReader_15 ?_
    refine r_iload_n (pc := 16) h 0 rfl rfl dX6_readReader_16 ?_
    refine r_bipush (pc := 17) (v := nI 10) h (by decide) dX6_readReader_17 ?_
    refine r_iconst (pc := 19) (v := nI 1) h (by decide) dX6_readReader_19 ?_
    refine r_bipush (pc := 20) (v := nI 99) h (by decide) dX6_readReader_20 ?_
    refine r_cVi (pc := 22) (As := [.int (nI v1), .int (nI 10), .int (nI 1), .int (nI 99)]) (st := []) h lk_RX6_107 (c_fig x.2.1 G σ c hc s hh xx (upd m 11 (nI p1)) n tx ht ((pk_un (by decide)).trans hm2) p1 (by omega) pk_us v1 2 1 99 (by omega) (by omega) (by omega) (by omega)) rc_6 (by decide) rfl rfl (by first | decide | exact Nat.le_of_ble_eq_true rfl) (by decide) dX6_readReader_22 (fun r7 s8 q9 => ?_)
    obtain ⟨o2, p2, hf2⟩ : ∃ o p, fig tx n 1 99 (usK 2) 0 p1 = (o, p) := ⟨_, _, rfl⟩
    have hb2 := figK_le (by omega) hf2
    rw [q9.1, q9.2, upd_2, hf2]
    refine V.sg (show _ = mB σ c s hh xx (upd m 11 (nI p2)) from rfl) ?_
    refine r_topi (b := oI o2) rfl ?_
    cases o2 with
    | none =>
      refine r_topi (b := (-1)) rfl ?_
      refine r_goto (pc := 25) (tgt := 29) h (by decide) dX6_readReader_25 ?_
      refine r_istore (pc := 29) (lo2 := [(4, .int (-1)), (3, .int (nI v1)), (0, .ref (G.2.1 + 134)), (1, .ref (G.2.1 + c)), (2, .int (nI 107))]) h (by decide) rfl dX6_readReader_29 ?_
      refine r_iload (pc := 31) h 0 rfl dX6_readReader_31 ?_
      refine r_iconst (pc := 33) (v := (-1)) h (by decide) dX6_readReader_33 ?_
      refine r_icmp_ne (pc := 34) (tgt := 39) h (by decide) dX6_readReader_34 (fun c34 => absurd c34 (by decide)) (fun _ => ?_)
      refine r_iconst (pc := 37) (v := nI 0) h (by decide) dX6_readReader_37 ?_
      exact hret _ _ (cmr_bad (by simp only [fone, ftwo, fthr, hf1, hf2] : ftwo (fig tx n 0 3 (usK 1) 0 a) (fun p => fig tx n 1 99 (usK 2) 0 p) = (none, p2)) (by omega)) 38 _ dX6_readReader_38
    | some v2 =>
      refine r_topi (b := nI v2) rfl ?_
      have hv2 := figK_in (by omega) hf2
      refine r_goto (pc := 25) (tgt := 29) h (by decide) dX6_readReader_25 ?_
      refine r_istore (pc := 29) (lo2 := [(4, .int (nI v2)), (3, .int (nI v1)), (0, .ref (G.2.1 + 134)), (1, .ref (G.2.1 + c)), (2, .int (nI 107))]) h (by decide) rfl dX6_readReader_29 ?_
      refine r_iload (pc := 31) h 0 rfl dX6_readReader_31 ?_
      refine r_iconst (pc := 33) (v := (-1)) h (by decide) dX6_readReader_33 ?_
      refine r_icmp_ne (pc := 34) (tgt := 39) h (by decide) dX6_readReader_34 (fun c34 => ?_) (fun c34 => ?_)
      · skip
        refine r_aload_n (pc := 39) h 2 rfl rfl dX6_readReader_39 ?_
        refine r_aload_n (pc := 40) h 3 rfl rfl dX6_readReader_40 ?_
        refine r_cVv (pc := 41) (As := [.ref (G.2.1 + c)]) (st := []) h lk_RX6_127 (c_finds x.2.1 G σ c hc s hh xx (upd m 11 (nI p2)) A hA hM) rc_6 (by decide) rfl rfl (by first | decide | exact Nat.le_of_ble_eq_true rfl) (by decide) dX6_readReader_41 (fun s11 q12 => ?_)
        obtain ⟨h2, x2, e8, hH⟩ := q12
        subst e8
        refine r_iload_n (pc := 44) h 4 rfl rfl dX6_readReader_44 ?_
        refine r_lookup (pc := 45) (off := 72) (tgt := 117) h (by decide) (by decide) (by decide) dX6_readReader_45 ?_
        refine r_aload_n (pc := 117) h 2 rfl rfl dX6_readReader_117 ?_
        refine r_aload_n (pc := 118) h 3 rfl rfl dX6_readReader_118 ?_
        refine r_iload_n (pc := 119) h 1 rfl rfl dX6_readReader_119 ?_
        refine r_cSi (pc := 120) (As := [.ref (G.2.1 + c), .int (nI v1)]) (st := [.ref (G.2.1 + 134)]) h lk_RX6_130 (c_isReaderM x.2.1 G (mB σ c s h2 x2 (upd m 11 (nI p2))) c hc A (by rw [mB_sF]; exact hM) (by omega) (nI v1)) (by decide) rfl rfl (by first | decide | exact Nat.le_of_ble_eq_true rfl) (by decide) dX6_readReader_120 (fun r13 s14 q15 => ?_)
        rw [q15.1, q15.2]
        refine r_if_eq (pc := 123) (tgt := 141) h (by decide) dX6_readReader_123 (fun c123 => ?_) (fun c123 => ?_)
        · skip
          replace c123 := zB_0.mp c123
          refine r_iconst (pc := 141) (v := nI 0) h (by decide) dX6_readReader_141 ?_
          refine r_cVi (pc := 142) (As := [.int (nI 0)]) (st := []) h lk_RX6_119 (c_doneF x.2.1 G σ c hc s h2 x2 (upd m 11 (nI p2)) sk ((pk_un (by decide)).trans hm12)) rc_6 (by decide) rfl rfl (by first | decide | exact Nat.le_of_ble_eq_true rfl) (by decide) dX6_readReader_142 (fun r16 s17 q18 => ?_)
          rw [q18.1, q18.2]
          exact hret _ _ (cmr_sk (by simp only [fone, ftwo, fthr, hf1, hf2] : ftwo (fig tx n 0 3 (usK 1) 0 a) (fun p => fig tx n 1 99 (usK 2) 0 p) = (some (v1, v2, 0), p2)) (by omega) (fst3_n1 c123) hM) 145 _ dX6_readReader_145
        · skip
          replace c123 := zB_n0.mp c123
          obtain ⟨i9, ei9, hi9⟩ := rdB_nI h4 c123
          have hv1r : v1 < A.2.1 := by rw [nI_eq (by omega) (by omega)] at ei9; omega
          have hq9 : skN A v1 v2 ≤ v2 := by unfold skN; omega
          refine r_aload_n (pc := 126) h 2 rfl rfl dX6_readReader_126 ?_
          refine r_aload_n (pc := 127) h 3 rfl rfl dX6_readReader_127 ?_
          refine r_iload_n (pc := 128) h 1 rfl rfl dX6_readReader_128 ?_
          refine r_iload (pc := 129) h 0 rfl dX6_readReader_129 ?_
          refine r_cVi (pc := 131) (As := [.ref (G.2.1 + c), .int (nI v1), .int (nI v2)]) (st := [.ref (G.2.1 + 134)]) h lk_RX6_136 (c_skipOn x.2.1 G σ c hc s h2 x2 (upd m 11 (nI p2)) A hA hM v1 v2 (by omega) (by omega) hH) rc_6 (by decide) rfl rfl (by first | decide | exact Nat.le_of_ble_eq_true rfl) (by decide) dX6_readReader_131 (fun r19 s20 q21 => ?_)
          obtain ⟨e9, s2, es, hs2⟩ := q21
          rw [e9]
          subst es
          refine r_if_lt (pc := 134) (tgt := 141) h (by decide) dX6_readReader_134 (fun c134 => ?_) (fun c134 => ?_)
          · skip
            rw [zI0, nI_ltI (by omega) (by omega)] at c134
            exact absurd c134 (by omega)
          · skip
            rw [zI0, nI_ltI (by omega) (by omega)] at c134
            refine r_iconst (pc := 137) (v := nI 1) h (by decide) dX6_readReader_137 ?_
            refine r_goto (pc := 138) (tgt := 142) h (by decide) dX6_readReader_138 ?_
            refine r_cVi (pc := 142) (As := [.int (nI 1)]) (st := []) h lk_RX6_119 (c_doneT x.2.1 G σ c hc s2 h2 x2 (upd m 11 (nI p2)) sk ((pk_un (by decide)).trans hm12)) rc_6 (by decide) rfl rfl (by first | decide | exact Nat.le_of_ble_eq_true rfl) (by decide) dX6_readReader_142 (fun r22 s23 q24 => ?_)
            rw [q24.1, q24.2]
            exact hret _ _ (cmr_ok (by simp only [fone, ftwo, fthr, hf1, hf2] : ftwo (fig tx n 0 3 (usK 1) 0 a) (fun p => fig tx n 1 99 (usK 2) 0 p) = (some (v1, v2, 0), p2)) (by omega) (fst3_y c123 (inB_of (by omega) (by omega) (by omega)) rfl) (by show RelM (A.1, A.2.1, A.2.2.1, aU A, aL A, va_up (aP A) (toN (nI v1)) (aP A (toN (nI v1)) + skN A (toN (nI v1)) (toN (nI v2)))) _; rw [toN_nI (show v1 < 2 ^ 31 by omega), toN_nI (show v2 < 2 ^ 31 by omega)]; exact hs2)) 145 _ dX6_readReader_145
      · skip
        exact absurd c34 (nI_ne (by omega))

set_option maxRecDepth 100000 in
set_option maxHeartbeats 800000 in
theorem c_readBack (l : Launch) (G : Gl) (σ : Sg) (c : Nat) (hc : Rc c) (s hh xx m : Nat → Int32) (A : Ab) (hA : okA A) (hM : RelM A s) (n : Nat) (tx : Nat → Nat) (ht : TxM n tx σ) (hm2 : m 2 = nI n) (a : Nat) (ha : a ≤ n) (hm11 : m 11 = nI a) (sk : Nat) (hm12 : m 12 = nI sk) : Ci l yX6_readReader cX6_readReader 5 .boolean ({ frames := 3, cells := 0, slots := 0, locals := 72 } : Room) G [.ref (G.2.1 + 134), .ref (G.2.1 + c), .int (nI 122)] (mB σ c s hh xx m) (fun r σ2 => CmR σ c m A sk 122 n a (fone (fig tx n 0 3 (usK 1) 0 a)) r σ2) := by
  refine Ci_of (own := RX6) rfl (by decide +kernel) (lo := [(0, .ref (G.2.1 + 134)), (1, .ref (G.2.1 + c)), (2, .int (nI 122))]) rfl (Nat.le_of_ble_eq_true rfl) (fun r s hp => CmR_nar hp) ?_
  intro x Q hxl h hret
  subst hxl
  have h12 := hA.1
  have h4 := hA.2.1
  have hn9 := ht.1
  refine V.sg (show mB σ c s hh xx m = mB σ c s hh xx (upd m 11 (nI a)) from congrArg (mB σ c s hh xx) (upd_id hm11).symm) ?_
  refine r_aload_n (pc := 0) h 0 rfl rfl dX6_readReader_0 ?_
  refine r_iconst (pc := 1) (v := nI 0) h (by decide) dX6_readReader_1 ?_
  refine r_iconst (pc := 2) (v := nI 1) h (by decide) dX6_readReader_2 ?_
  refine r_iconst (pc := 3) (v := nI 0) h (by decide) dX6_readReader_3 ?_
  refine r_iconst (pc := 4) (v := nI 3) h (by decide) dX6_readReader_4 ?_
  refine r_cVi (pc := 5) (As := [.int (nI 0), .int (nI 1), .int (nI 0), .int (nI 3)]) (st := []) h lk_RX6_107 (c_fig x.2.1 G σ c hc s hh xx (upd m 11 (nI a)) n tx ht ((pk_un (by decide)).trans hm2) a (by omega) pk_us 0 1 0 3 (by omega) (by omega) (by omega) (by omega)) rc_6 (by decide) rfl rfl (by first | decide | exact Nat.le_of_ble_eq_true rfl) (by decide) dX6_readReader_5 (fun r1 s2 q3 => ?_)
  obtain ⟨o1, p1, hf1⟩ : ∃ o p, fig tx n 0 3 (usK 1) 0 a = (o, p) := ⟨_, _, rfl⟩
  have hb1 := figK_le (by omega) hf1
  rw [q3.1, q3.2, upd_2, hf1]
  refine V.sg (show _ = mB σ c s hh xx (upd m 11 (nI p1)) from rfl) ?_
  refine r_topi (b := oI o1) rfl ?_
  cases o1 with
  | none =>
    refine r_topi (b := (-1)) rfl ?_
    refine r_istore_n (pc := 8) (lo2 := [(3, .int (-1)), (0, .ref (G.2.1 + 134)), (1, .ref (G.2.1 + c)), (2, .int (nI 122))]) h rfl (by decide) rfl dX6_readReader_8 ?_
    refine r_iload_n (pc := 9) h 3 rfl rfl dX6_readReader_9 ?_
    refine r_bipush (pc := 10) (v := nI 107) h (by decide) dX6_readReader_10 ?_
    refine r_icmp_ne (pc := 12) (tgt := 28) h (by decide) dX6_readReader_12 (fun _ => ?_) (fun c12 => absurd c12 (by decide))
    refine r_iload_n (pc := 28) h 0 rfl rfl dX6_readReader_28 ?_
    refine r_istore (pc := 29) (lo2 := [(4, .int (-1)), (3, .int (-1)), (0, .ref (G.2.1 + 134)), (1, .ref (G.2.1 + c)), (2, .int (nI 122))]) h (by decide) rfl dX6_readReader_29 ?_
    refine r_iload (pc := 31) h 0 rfl dX6_readReader_31 ?_
    refine r_iconst (pc := 33) (v := (-1)) h (by decide) dX6_readReader_33 ?_
    refine r_icmp_ne (pc := 34) (tgt := 39) h (by decide) dX6_readReader_34 (fun c34 => absurd c34 (by decide)) (fun _ => ?_)
    refine r_iconst (pc := 37) (v := nI 0) h (by decide) dX6_readReader_37 ?_
    exact hret _ _ (cmr_bad (by simp only [fone, ftwo, fthr, hf1] : fone (fig tx n 0 3 (usK 1) 0 a) = (none, p1)) (by omega)) 38 _ dX6_readReader_38
  | some v1 =>
    refine r_topi (b := nI v1) rfl ?_
    have hv1 := figK_in (by omega) hf1
    refine r_istore_n (pc := 8) (lo2 := [(3, .int (nI v1)), (0, .ref (G.2.1 + 134)), (1, .ref (G.2.1 + c)), (2, .int (nI 122))]) h rfl (by decide) rfl dX6_readReader_8 ?_
    refine r_iload_n (pc := 9) h 3 rfl rfl dX6_readReader_9 ?_
    refine r_bipush (pc := 10) (v := nI 107) h (by decide) dX6_readReader_10 ?_
    refine r_icmp_ne (pc := 12) (tgt := 28) h (by decide) dX6_readReader_12 (fun _ => ?_) (fun c12 => absurd c12 (by decide))
    refine r_iload_n (pc := 28) h 0 rfl rfl dX6_readReader_28 ?_
    refine r_istore (pc := 29) (lo2 := [(4, .int (nI v1)), (3, .int (nI v1)), (0, .ref (G.2.1 + 134)), (1, .ref (G.2.1 + c)), (2, .int (nI 122))]) h (by decide) rfl dX6_readReader_29 ?_
    refine r_iload (pc := 31) h 0 rfl dX6_readReader_31 ?_
    refine r_iconst (pc := 33) (v := (-1)) h (by decide) dX6_readReader_33 ?_
    refine r_icmp_ne (pc := 34) (tgt := 39) h (by decide) dX6_readReader_34 (fun c34 => ?_) (fun c34 => ?_)
    · skip
      refine r_aload_n (pc := 39) h 2 rfl rfl dX6_readReader_39 ?_
      refine r_aload_n (pc := 40) h 3 rfl rfl dX6_readReader_40 ?_
      refine r_cVv (pc := 41) (As := [.ref (G.2.1 + c)]) (st := []) h lk_RX6_127 (c_finds x.2.1 G σ c hc s hh xx (upd m 11 (nI p1)) A hA hM) rc_6 (by decide) rfl rfl (by first | decide | exact Nat.le_of_ble_eq_true rfl) (by decide) dX6_readReader_41 (fun s5 q6 => ?_)
      obtain ⟨h2, x2, e8, hH⟩ := q6
      subst e8
      refine r_iload_n (pc := 44) h 4 rfl rfl dX6_readReader_44 ?_
      refine r_lookup (pc := 45) (off := 101) (tgt := 146) h (by decide) (by decide) (by decide) dX6_readReader_45 ?_
      refine r_aload_n (pc := 146) h 2 rfl rfl dX6_readReader_146 ?_
      refine r_aload_n (pc := 147) h 3 rfl rfl dX6_readReader_147 ?_
      refine r_iload_n (pc := 148) h 1 rfl rfl dX6_readReader_148 ?_
      refine r_cSi (pc := 149) (As := [.ref (G.2.1 + c), .int (nI v1)]) (st := [.ref (G.2.1 + 134)]) h lk_RX6_130 (c_isReaderM x.2.1 G (mB σ c s h2 x2 (upd m 11 (nI p1))) c hc A (by rw [mB_sF]; exact hM) (by omega) (nI v1)) (by decide) rfl rfl (by first | decide | exact Nat.le_of_ble_eq_true rfl) (by decide) dX6_readReader_149 (fun r7 s8 q9 => ?_)
      rw [q9.1, q9.2]
      refine r_if_eq (pc := 152) (tgt := 167) h (by decide) dX6_readReader_152 (fun c152 => ?_) (fun c152 => ?_)
      · skip
        replace c152 := zB_0.mp c152
        refine r_iconst (pc := 167) (v := nI 0) h (by decide) dX6_readReader_167 ?_
        refine r_cVi (pc := 168) (As := [.int (nI 0)]) (st := []) h lk_RX6_119 (c_doneF x.2.1 G σ c hc s h2 x2 (upd m 11 (nI p1)) sk ((pk_un (by decide)).trans hm12)) rc_6 (by decide) rfl rfl (by first | decide | exact Nat.le_of_ble_eq_true rfl) (by decide) dX6_readReader_168 (fun r10 s11 q12 => ?_)
        rw [q12.1, q12.2]
        exact hret _ _ (cmr_sk (by simp only [fone, ftwo, fthr, hf1] : fone (fig tx n 0 3 (usK 1) 0 a) = (some (v1, 0, 0), p1)) (by omega) (fst3_n1 c152) hM) 171 _ dX6_readReader_171
      · skip
        replace c152 := zB_n0.mp c152
        obtain ⟨i9, ei9, hi9⟩ := rdB_nI h4 c152
        have hv1r : v1 < A.2.1 := by rw [nI_eq (by omega) (by omega)] at ei9; omega
        have hq8 := (hA.2.2.2 v1 hv1r).2
        have hq9 := cS_le (mem (aU A) (aL A v1)) 1000
        refine r_aload_n (pc := 155) h 3 rfl rfl dX6_readReader_155 ?_
        refine r_iload_n (pc := 156) h 1 rfl rfl dX6_readReader_156 ?_
        refine r_cSi (pc := 157) (As := [.ref (G.2.1 + c), .int (nI v1)]) (st := [.ref (G.2.1 + 134)]) h lk_RX6_139 (c_backOn x.2.1 G σ c hc s h2 x2 (upd m 11 (nI p1)) A hA hM v1 (by omega)) (by decide) rfl rfl (by first | decide | exact Nat.le_of_ble_eq_true rfl) (by decide) dX6_readReader_157 (fun r13 s14 q15 => ?_)
        obtain ⟨e9, s2, es, hs2⟩ := q15
        rw [e9]
        subst es
        refine r_if_lt (pc := 160) (tgt := 167) h (by decide) dX6_readReader_160 (fun c160 => ?_) (fun c160 => ?_)
        · skip
          rw [zI0, nI_ltI (by omega) (by omega)] at c160
          exact absurd c160 (by omega)
        · skip
          rw [zI0, nI_ltI (by omega) (by omega)] at c160
          refine r_iconst (pc := 163) (v := nI 1) h (by decide) dX6_readReader_163 ?_
          refine r_goto (pc := 164) (tgt := 168) h (by decide) dX6_readReader_164 ?_
          refine r_cVi (pc := 168) (As := [.int (nI 1)]) (st := []) h lk_RX6_119 (c_doneT x.2.1 G σ c hc s2 h2 x2 (upd m 11 (nI p1)) sk ((pk_un (by decide)).trans hm12)) rc_6 (by decide) rfl rfl (by first | decide | exact Nat.le_of_ble_eq_true rfl) (by decide) dX6_readReader_168 (fun r16 s17 q18 => ?_)
          rw [q18.1, q18.2]
          exact hret _ _ (cmr_ok (by simp only [fone, ftwo, fthr, hf1] : fone (fig tx n 0 3 (usK 1) 0 a) = (some (v1, 0, 0), p1)) (by omega) (fst3_y c152 rfl rfl) (by show RelM (A.1, A.2.1, A.2.2.1, aU A, aL A, va_up (aP A) (toN (nI v1)) 0) _; rw [toN_nI (show v1 < 2 ^ 31 by omega)]; exact hs2)) 171 _ dX6_readReader_171
    · skip
      exact absurd c34 (nI_ne (by omega))

set_option maxRecDepth 100000 in
set_option maxHeartbeats 800000 in
theorem c_readStop (l : Launch) (G : Gl) (σ : Sg) (c : Nat) (hc : Rc c) (s hh xx m : Nat → Int32) (A : Ab) (hA : okA A) (hM : RelM A s) (n : Nat) (tx : Nat → Nat) (ht : TxM n tx σ) (hm2 : m 2 = nI n) (a : Nat) (ha : a ≤ n) (hm11 : m 11 = nI a) (sk : Nat) (hm12 : m 12 = nI sk) : Ci l yX6_readReader cX6_readReader 5 .boolean ({ frames := 3, cells := 0, slots := 0, locals := 72 } : Room) G [.ref (G.2.1 + 134), .ref (G.2.1 + c), .int (nI 113)] (mB σ c s hh xx m) (fun r σ2 => CmR σ c m A sk 113 n a (fone (fig tx n 0 3 (usK 1) 0 a)) r σ2) := by
  refine Ci_of (own := RX6) rfl (by decide +kernel) (lo := [(0, .ref (G.2.1 + 134)), (1, .ref (G.2.1 + c)), (2, .int (nI 113))]) rfl (Nat.le_of_ble_eq_true rfl) (fun r s hp => CmR_nar hp) ?_
  intro x Q hxl h hret
  subst hxl
  have h12 := hA.1
  have h4 := hA.2.1
  have hn9 := ht.1
  refine V.sg (show mB σ c s hh xx m = mB σ c s hh xx (upd m 11 (nI a)) from congrArg (mB σ c s hh xx) (upd_id hm11).symm) ?_
  refine r_aload_n (pc := 0) h 0 rfl rfl dX6_readReader_0 ?_
  refine r_iconst (pc := 1) (v := nI 0) h (by decide) dX6_readReader_1 ?_
  refine r_iconst (pc := 2) (v := nI 1) h (by decide) dX6_readReader_2 ?_
  refine r_iconst (pc := 3) (v := nI 0) h (by decide) dX6_readReader_3 ?_
  refine r_iconst (pc := 4) (v := nI 3) h (by decide) dX6_readReader_4 ?_
  refine r_cVi (pc := 5) (As := [.int (nI 0), .int (nI 1), .int (nI 0), .int (nI 3)]) (st := []) h lk_RX6_107 (c_fig x.2.1 G σ c hc s hh xx (upd m 11 (nI a)) n tx ht ((pk_un (by decide)).trans hm2) a (by omega) pk_us 0 1 0 3 (by omega) (by omega) (by omega) (by omega)) rc_6 (by decide) rfl rfl (by first | decide | exact Nat.le_of_ble_eq_true rfl) (by decide) dX6_readReader_5 (fun r1 s2 q3 => ?_)
  obtain ⟨o1, p1, hf1⟩ : ∃ o p, fig tx n 0 3 (usK 1) 0 a = (o, p) := ⟨_, _, rfl⟩
  have hb1 := figK_le (by omega) hf1
  rw [q3.1, q3.2, upd_2, hf1]
  refine V.sg (show _ = mB σ c s hh xx (upd m 11 (nI p1)) from rfl) ?_
  refine r_topi (b := oI o1) rfl ?_
  cases o1 with
  | none =>
    refine r_topi (b := (-1)) rfl ?_
    refine r_istore_n (pc := 8) (lo2 := [(3, .int (-1)), (0, .ref (G.2.1 + 134)), (1, .ref (G.2.1 + c)), (2, .int (nI 113))]) h rfl (by decide) rfl dX6_readReader_8 ?_
    refine r_iload_n (pc := 9) h 3 rfl rfl dX6_readReader_9 ?_
    refine r_bipush (pc := 10) (v := nI 107) h (by decide) dX6_readReader_10 ?_
    refine r_icmp_ne (pc := 12) (tgt := 28) h (by decide) dX6_readReader_12 (fun _ => ?_) (fun c12 => absurd c12 (by decide))
    refine r_iload_n (pc := 28) h 0 rfl rfl dX6_readReader_28 ?_
    refine r_istore (pc := 29) (lo2 := [(4, .int (-1)), (3, .int (-1)), (0, .ref (G.2.1 + 134)), (1, .ref (G.2.1 + c)), (2, .int (nI 113))]) h (by decide) rfl dX6_readReader_29 ?_
    refine r_iload (pc := 31) h 0 rfl dX6_readReader_31 ?_
    refine r_iconst (pc := 33) (v := (-1)) h (by decide) dX6_readReader_33 ?_
    refine r_icmp_ne (pc := 34) (tgt := 39) h (by decide) dX6_readReader_34 (fun c34 => absurd c34 (by decide)) (fun _ => ?_)
    refine r_iconst (pc := 37) (v := nI 0) h (by decide) dX6_readReader_37 ?_
    exact hret _ _ (cmr_bad (by simp only [fone, ftwo, fthr, hf1] : fone (fig tx n 0 3 (usK 1) 0 a) = (none, p1)) (by omega)) 38 _ dX6_readReader_38
  | some v1 =>
    refine r_topi (b := nI v1) rfl ?_
    have hv1 := figK_in (by omega) hf1
    refine r_istore_n (pc := 8) (lo2 := [(3, .int (nI v1)), (0, .ref (G.2.1 + 134)), (1, .ref (G.2.1 + c)), (2, .int (nI 113))]) h rfl (by decide) rfl dX6_readReader_8 ?_
    refine r_iload_n (pc := 9) h 3 rfl rfl dX6_readReader_9 ?_
    refine r_bipush (pc := 10) (v := nI 107) h (by decide) dX6_readReader_10 ?_
    refine r_icmp_ne (pc := 12) (tgt := 28) h (by decide) dX6_readReader_12 (fun _ => ?_) (fun c12 => absurd c12 (by decide))
    refine r_iload_n (pc := 28) h 0 rfl rfl dX6_readReader_28 ?_
    refine r_istore (pc := 29) (lo2 := [(4, .int (nI v1)), (3, .int (nI v1)), (0, .ref (G.2.1 + 134)), (1, .ref (G.2.1 + c)), (2, .int (nI 113))]) h (by decide) rfl dX6_readReader_29 ?_
    refine r_iload (pc := 31) h 0 rfl dX6_readReader_31 ?_
    refine r_iconst (pc := 33) (v := (-1)) h (by decide) dX6_readReader_33 ?_
    refine r_icmp_ne (pc := 34) (tgt := 39) h (by decide) dX6_readReader_34 (fun c34 => ?_) (fun c34 => ?_)
    · skip
      refine r_aload_n (pc := 39) h 2 rfl rfl dX6_readReader_39 ?_
      refine r_aload_n (pc := 40) h 3 rfl rfl dX6_readReader_40 ?_
      refine r_cVv (pc := 41) (As := [.ref (G.2.1 + c)]) (st := []) h lk_RX6_127 (c_finds x.2.1 G σ c hc s hh xx (upd m 11 (nI p1)) A hA hM) rc_6 (by decide) rfl rfl (by first | decide | exact Nat.le_of_ble_eq_true rfl) (by decide) dX6_readReader_41 (fun s5 q6 => ?_)
      obtain ⟨h2, x2, e8, hH⟩ := q6
      subst e8
      refine r_iload_n (pc := 44) h 4 rfl rfl dX6_readReader_44 ?_
      refine r_lookup (pc := 45) (off := 127) (tgt := 172) h (by decide) (by decide) (by decide) dX6_readReader_45 ?_
      refine r_aload_n (pc := 172) h 2 rfl rfl dX6_readReader_172 ?_
      refine r_aload_n (pc := 173) h 3 rfl rfl dX6_readReader_173 ?_
      refine r_iload_n (pc := 174) h 1 rfl rfl dX6_readReader_174 ?_
      refine r_cSi (pc := 175) (As := [.ref (G.2.1 + c), .int (nI v1)]) (st := [.ref (G.2.1 + 134)]) h lk_RX6_130 (c_isReaderM x.2.1 G (mB σ c s h2 x2 (upd m 11 (nI p1))) c hc A (by rw [mB_sF]; exact hM) (by omega) (nI v1)) (by decide) rfl rfl (by first | decide | exact Nat.le_of_ble_eq_true rfl) (by decide) dX6_readReader_175 (fun r7 s8 q9 => ?_)
      rw [q9.1, q9.2]
      refine r_if_eq (pc := 178) (tgt := 193) h (by decide) dX6_readReader_178 (fun c178 => ?_) (fun c178 => ?_)
      · skip
        replace c178 := zB_0.mp c178
        refine r_iconst (pc := 193) (v := nI 0) h (by decide) dX6_readReader_193 ?_
        refine r_cVi (pc := 194) (As := [.int (nI 0)]) (st := []) h lk_RX6_119 (c_doneF x.2.1 G σ c hc s h2 x2 (upd m 11 (nI p1)) sk ((pk_un (by decide)).trans hm12)) rc_6 (by decide) rfl rfl (by first | decide | exact Nat.le_of_ble_eq_true rfl) (by decide) dX6_readReader_194 (fun r10 s11 q12 => ?_)
        rw [q12.1, q12.2]
        exact hret _ _ (cmr_sk (by simp only [fone, ftwo, fthr, hf1] : fone (fig tx n 0 3 (usK 1) 0 a) = (some (v1, 0, 0), p1)) (by omega) (fst3_n1 c178) hM) 197 _ dX6_readReader_197
      · skip
        replace c178 := zB_n0.mp c178
        obtain ⟨i9, ei9, hi9⟩ := rdB_nI h4 c178
        have hv1r : v1 < A.2.1 := by rw [nI_eq (by omega) (by omega)] at ei9; omega
        refine r_aload_n (pc := 181) h 3 rfl rfl dX6_readReader_181 ?_
        refine r_iload_n (pc := 182) h 1 rfl rfl dX6_readReader_182 ?_
        refine r_cSi (pc := 183) (As := [.ref (G.2.1 + c), .int (nI v1)]) (st := [.ref (G.2.1 + 134)]) h lk_RX6_142 (c_stopOn x.2.1 G σ c hc s h2 x2 (upd m 11 (nI p1)) A hA hM v1 (by omega)) (by decide) rfl rfl (by first | decide | exact Nat.le_of_ble_eq_true rfl) (by decide) dX6_readReader_183 (fun r13 s14 q15 => ?_)
        obtain ⟨e9, s2, es, hs2⟩ := q15
        rw [e9]
        subst es
        refine r_if_lt (pc := 186) (tgt := 193) h (by decide) dX6_readReader_186 (fun c186 => ?_) (fun c186 => ?_)
        · skip
          rw [zI0, nI_ltI (by omega) (by omega)] at c186
          exact absurd c186 (by omega)
        · skip
          rw [zI0, nI_ltI (by omega) (by omega)] at c186
          refine r_iconst (pc := 189) (v := nI 1) h (by decide) dX6_readReader_189 ?_
          refine r_goto (pc := 190) (tgt := 194) h (by decide) dX6_readReader_190 ?_
          refine r_cVi (pc := 194) (As := [.int (nI 1)]) (st := []) h lk_RX6_119 (c_doneT x.2.1 G σ c hc s2 h2 x2 (upd m 11 (nI p1)) sk ((pk_un (by decide)).trans hm12)) rc_6 (by decide) rfl rfl (by first | decide | exact Nat.le_of_ble_eq_true rfl) (by decide) dX6_readReader_194 (fun r16 s17 q18 => ?_)
          rw [q18.1, q18.2]
          exact hret _ _ (cmr_ok (by simp only [fone, ftwo, fthr, hf1] : fone (fig tx n 0 3 (usK 1) 0 a) = (some (v1, 0, 0), p1)) (by omega) (fst3_y c178 rfl rfl) (by show RelM (A.1, A.2.1 - 1, A.2.2.1, aU A, (fun j => if toN (nI v1) ≤ j then aL A (j + 1) else aL A j), (fun j => if toN (nI v1) ≤ j then aP A (j + 1) else aP A j)) _; rw [toN_nI (show v1 < 2 ^ 31 by omega)]; exact hs2)) 197 _ dX6_readReader_197
    · skip
      exact absurd c34 (nI_ne (by omega))

