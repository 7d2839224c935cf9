/-! THE LAW: reads -/
/-- T is S with a reader more: it reads the list i, has passed p; the readings are d -/
def RSt (S T : Cs) (i p : Nat) (d : Int32) : Prop := nLi T = nLi S ∧ nRd T = nRd S + 1 ∧ (sA T).2.2.1 = d ∧ aU (sA T) = aU (sA S) ∧ aL (sA T) (nRd S) = i ∧ aP (sA T) (nRd S) = p
theorem RSt.b {S : Cs} {i : Nat} {a b : Int32} (hi : i < 2 ^ 31) : RSt S (nK_11 S (nI i) a b) i 0 (sA S).2.2.1 :=
  ⟨rfl, rfl, rfl, rfl, (by show va_up (aL (sA S)) (sA S).2.1 (toN (nI i)) (sA S).2.1 = i; rw [va_s, toN_nI hi]), va_s _ _ _⟩
theorem RSt.r {S T : Cs} {i p : Nat} {d : Int32} {a b : Int32} (h : RSt S T i p d) (hR : nRd S ≤ 4) : RSt S (nK_12 T (nI (nRd S)) a b) i (p + 1) (d + nI 1) := by
  obtain ⟨h1, h2, h3, h4, h5, h6⟩ := h
  refine ⟨h1, h2, ?_, h4, h5, ?_⟩
  · show (sA T).2.2.1 + 1 = _
    rw [h3]; rfl
  · show va_up (aP (sA T)) (toN (nI (nRd S))) (aP (sA T) (toN (nI (nRd S))) + 1) (nRd S) = p + 1
    rw [toN_nI (by omega), va_s, h6]
theorem RSt.kv {S T : Cs} {i p k : Nat} {d : Int32} (h : RSt S T i p d) (hR : nRd S ≤ 4) (hk : k < 100) (hp : p + k ≤ cS (mS S i) 1000) : skN (sA T) (toN (nI (nRd S))) (toN (nI k)) = k := by
  obtain ⟨h1, h2, h3, h4, h5, h6⟩ := h
  have hp : p + k ≤ cS (mem (aU (sA S)) i) 1000 := hp
  unfold skN cntL
  rw [toN_nI (show nRd S < 2 ^ 31 by omega), toN_nI (show k < 2 ^ 31 by omega), h5, h6, h4]
  omega
theorem RSt.k {S T : Cs} {i p k : Nat} {d : Int32} {b : Int32} (h : RSt S T i p d) (hR : nRd S ≤ 4) (hk : k < 100) (hp : p + k ≤ cS (mS S i) 1000) : RSt S (nK_13 T (nI (nRd S)) (nI k) b) i (p + k) d := by
  have hv := h.kv hR hk hp
  obtain ⟨h1, h2, h3, h4, h5, h6⟩ := h
  refine ⟨h1, h2, h3, h4, h5, ?_⟩
  show va_up (aP (sA T)) (toN (nI (nRd S))) (aP (sA T) (toN (nI (nRd S))) + skN (sA T) (toN (nI (nRd S))) (toN (nI k))) (nRd S) = p + k
  rw [hv, toN_nI (by omega), va_s, h6]
theorem RSt.nx {S T : Cs} {i p : Nat} {d : Int32} (h : RSt S T i p d) : nextO (sA T) (nRd S) = ath (mS S i) p := by
  obtain ⟨h1, h2, h3, h4, h5, h6⟩ := h
  unfold nextO
  rw [h5, h6, h4]
theorem RSt.nv {S T : Cs} {i p : Nat} {d : Int32} {a b : Int32} (h : RSt S T i p d) (hR : nRd S ≤ 4) : vK_26 T (nI (nRd S)) a b = oI (ath (mS S i) p) := by
  show oI (nextO (sA T) (toN (nI (nRd S)))) = _
  rw [toN_nI (by omega), h.nx]
theorem RSt.rv {S T : Cs} {i p : Nat} {d : Int32} {a b : Int32} (h : RSt S T i p d) (hR : nRd S ≤ 4) : vK_12 T (nI (nRd S)) a b = oI (ath (mS S i) p) := by
  show oI (nextO (sA T) (toN (nI (nRd S)))) = _
  rw [toN_nI (by omega), h.nx]
theorem RSt.svn {S T : Cs} {i p v : Nat} {d : Int32} {b : Int32} (h : RSt S T i p d) (hR : nRd S ≤ 4) (hv : v < 1000) (e : ath (mS S i) (max (cS (mS S i) v) p) = none) : vK_31 T (nI (nRd S)) (nI v) b = -1 := by
  obtain ⟨h1, h2, h3, h4, h5, h6⟩ := h
  show skU (sA T) (toN (nI (nRd S))) (toN (nI v)) = _
  unfold skU
  rw [toN_nI (show nRd S < 2 ^ 31 by omega), toN_nI (show v < 2 ^ 31 by omega), h5, h6, h4, e]
theorem RSt.svs {S T : Cs} {i p v w : Nat} {d : Int32} {b : Int32} (h : RSt S T i p d) (hR : nRd S ≤ 4) (hv : v < 1000) (e : ath (mS S i) (max (cS (mS S i) v) p) = some w) : vK_31 T (nI (nRd S)) (nI v) b = nI (max (cS (mS S i) v) p - p) := by
  obtain ⟨h1, h2, h3, h4, h5, h6⟩ := h
  show skU (sA T) (toN (nI (nRd S))) (toN (nI v)) = _
  unfold skU
  rw [toN_nI (show nRd S < 2 ^ 31 by omega), toN_nI (show v < 2 ^ 31 by omega), h5, h6, h4, e]
theorem RSt.mS {S T : Cs} {i p : Nat} {d : Int32} (h : RSt S T i p d) (j : Nat) : mem (aU (sA T)) j = mem (aU (sA S)) j := by rw [h.2.2.2.1]
theorem at17 {S T : Cs} {i p : Nat} {c : Int32} (hU : mem (aU (sA T)) i = mem (aU (sA S)) i) (hi : i < 2 ^ 31) (hp : p < 2 ^ 31) : vK_17 T (nI i) (nI p) c = oI (ath (mem (aU (sA S)) i) p) := by
  show oI (ath (mem (aU (sA T)) (toN (nI i))) (toN (nI p))) = _
  rw [toN_nI hi, toN_nI hp, hU]
theorem last21 {S T : Cs} {i : Nat} {b c : Int32} (hU : mem (aU (sA T)) i = mem (aU (sA S)) i) (hi : i < 2 ^ 31) : vK_21 T (nI i) b c = oI (lstB (mem (aU (sA S)) i) 1000) := by
  show oI (lstB (mem (aU (sA T)) (toN (nI i))) 1000) = _
  rw [toN_nI hi, hU]
theorem li_s {S : Cs} {i : Nat} (hi : i < nLi S) (hN : nLi S ≤ 12) : liB (sA S) (nI i) = true := li_t hi hN
theorem rd_s {S : Cs} {i : Nat} (hi : i < nRd S) (hN : nRd S ≤ 4) : rdB (sA S) (nI i) = true := rd_t hi hN
theorem oc_114 {S : Cs} {i : Nat} {b c : Int32} (hi : i < nLi S) (hN : nLi S ≤ 12) (hR : nRd S < 4) : ob (sA S) 114 (nI i) b c = 0 := by
  show fst3 (liB _ _) true (roomR _) = 0
  rw [li_s hi hN, show roomR (sA S) = true from decide_eq_true hR]
  rfl
theorem oc_110 {S : Cs} {r v : Nat} {b c : Int32} (hr : r < nRd S) (hR : nRd S ≤ 4) (hv : nextO (sA S) r = some v) : ob (sA S) 110 (nI r) b c = 0 := by
  show fst3 (rdB _ _) true (nextO (sA S) (toN (nI r))).isSome = 0
  rw [rd_s hr hR, toN_nI (by omega), hv]
  rfl
theorem oc_107 {S : Cs} {r k : Nat} {c : Int32} (hr : r < nRd S) (hR : nRd S ≤ 4) (h1 : 1 ≤ k) (h2 : k ≤ 99) : ob (sA S) 107 (nI r) (nI k) c = 0 := by
  show fst3 (rdB _ _) (inB _ _ _) true = 0
  rw [rd_s hr hR, in_t h1 h2 (by omega)]
  rfl
theorem lst_lt {M : Nat → Bool} {v : Nat} : ∀ {n : Nat}, lstB M n = some v → v < n ∧ M v = true
  | 0, h => by cases h
  | n + 1, h => by
    rw [lstB] at h
    by_cases e : M n = true
    · rw [if_pos e] at h; cases h; exact ⟨by omega, e⟩
    · rw [if_neg e] at h
      have := lst_lt h
      exact ⟨by omega, this.2⟩
theorem lst_no {M : Nat → Bool} : ∀ {n : Nat}, lstB M n = none → ∀ v, v < n → M v = false
  | 0, _, v, h => absurd h (Nat.not_lt_zero v)
  | n + 1, h, v, hv => by
    rw [lstB] at h
    by_cases e : M n = true
    · rw [if_pos e] at h; cases h
    · rw [if_neg e] at h
      by_cases q : v = n
      · subst q; simpa using e
      · exact lst_no h v (by omega)
/-- the last member is not below v: then there are members from v on -/
theorem lst_ge {M : Nat → Bool} {v : Nat} (hv : v < 1000) (h : ¬ oI (lstB M 1000) < nI v) : cS M v < cS M 1000 := by
  cases e : lstB M 1000 with
  | none =>
    rw [e] at h
    exact absurd (show (-1 : Int32) < nI v from Int32.lt_of_lt_of_le (by decide) (nI_pos' (by omega))) h
  | some w =>
    rw [e] at h
    obtain ⟨h1, h2⟩ := lst_lt e
    have h3 : ¬ nI w < nI v := h
    rw [nI_ltI (by omega) (by omega)] at h3
    have h4 := cS_mono M (show v ≤ w by omega)
    have h5 := cS_mono M (show w + 1 ≤ 1000 by omega)
    rw [cS, if_pos h2] at h5
    omega
/-- the member ahead of those from v on is below v -/
theorem ath_lt {M : Nat → Bool} {v : Nat} (hv : v < 1000) (h : 0 < cS M v) : ∃ w, ath M (cS M v - 1) = some w ∧ w < v := by
  cases e : ath M (cS M v - 1) with
  | none =>
    have h1 := ath_specN e
    have h2 := cS_mono M (show v ≤ 1000 by omega)
    omega
  | some w =>
    obtain ⟨h1, h2, h3⟩ := ath_spec e
    refine ⟨w, rfl, ?_⟩
    rcases Nat.lt_or_ge w v with q | q
    · exact q
    · have := cS_mono M q
      omega
theorem ath_ge {M : Nat → Bool} {v w c : Nat} (h : ath M c = some w) (hc : cS M v ≤ c) : v ≤ w := by
  obtain ⟨h1, h2, h3⟩ := ath_spec h
  rcases Nat.lt_or_ge w v with q | q
  · have h4 := cS_mono M (show w + 1 ≤ v by omega)
    rw [cS, if_pos h2] at h4
    omega
  · exact q
theorem pn_ge {m j : Nat} (h : j ≤ m) (hj : j < 14) (hm : m ≤ 14) : j + 1 ≤ pushN m := by unfold pushN; split <;> omega
/-- the state behind it -/
noncomputable def rdT (S : Cs) (n : Nat) : Cs :=
  if nRd S = 4 then S else match ath (mS S (n % nLi S)) 0 with
  | none => poN (nK_11 S (nI (n % nLi S)) (nI 0) (nI 0)) 1
  | some _ => if (ath (mS S (n % nLi S)) (max (cS (mS S (n % nLi S)) (n / 12 % 1000)) 1)).isSome = true ∧ 0 < max (cS (mS S (n % nLi S)) (n / 12 % 1000)) 1 - 1 ∧ max (cS (mS S (n % nLi S)) (n / 12 % 1000)) 1 - 1 < 100 then poN (nK_13 (nK_12 (nK_11 S (nI (n % nLi S)) (nI 0) (nI 0)) (nI (nRd S)) (nI 0) (nI 0)) (nI (nRd S)) (nI (max (cS (mS S (n % nLi S)) (n / 12 % 1000)) 1 - 1)) (nI 0)) (1 + 1 + 1) else poN (nK_12 (nK_11 S (nI (n % nLi S)) (nI 0) (nI 0)) (nI (nRd S)) (nI 0) (nI 0)) (1 + 1)
set_option maxRecDepth 100000 in
set_option maxHeartbeats 4000000 in
theorem n_reads (l : Launch) (hst : l.stackTraces = false) (G K : Gl) (h2 : Two G K) (S : Cs) (n : Nat) (hn : n < 2 ^ 31) (h1 : 1 ≤ nLi S) : K2 l yL_reads cL_reads 13 .boolean ({ frames := 11, cells := 100, slots := 600, locals := 216 } : Room) G K [.ref (G.2.1 + 0), .ref (K.2.1 + 0), .int (nI n)] S (nI 1) (rdT S n) := by
  refine K2_of rfl (by decide +kernel) (lo := [(0, .ref (G.2.1 + 0)), (1, .ref (K.2.1 + 0)), (2, .int (nI n))]) rfl (Nat.le_of_ble_eq_true rfl) rfl (rfl) ?_
  intro x Q hxl h hE hE2 hX hret
  subst hxl
  refine vl_fact (fun H hH => W1.ok hH.1) (fun ok => ?_)
  have hN := ok_N ok
  have hR := ok_R ok
  have hm14 := ok_m ok
  refine vl_aload_n (pc := 0) h 0 rfl rfl dL_reads_0 ?_
  refine wVo (pc := 1) (As := []) (st := []) (r2 := nI (nLi S)) (u2 := 0) h2 h hE lk_RL_242 (kv_lists (S := S)) rfl rfl rfl (by decide) rfl (Nat.le_of_ble_eq_true rfl) (by decide) dL_reads_1 ?_
  refine vl_istore_n (pc := 4) (lo2 := [(3, .int (nI (nLi S))), (0, .ref (G.2.1 + 0)), (1, .ref (K.2.1 + 0)), (2, .int (nI n))]) h rfl (by decide) rfl dL_reads_4 ?_
  refine vl_aload_n (pc := 5) h 1 rfl rfl dL_reads_5 ?_
  refine wVo (pc := 6) (As := []) (st := []) (r2 := nI (nRd S)) (u2 := 0) h2 h hE lk_RL_245 (kv_readers (S := S)) rfl rfl rfl (by decide) rfl (Nat.le_of_ble_eq_true rfl) (by decide) dL_reads_6 ?_
  refine vl_istore (pc := 9) (lo2 := [(4, .int (nI (nRd S))), (3, .int (nI (nLi S))), (0, .ref (G.2.1 + 0)), (1, .ref (K.2.1 + 0)), (2, .int (nI n))]) h (by decide) rfl dL_reads_9 ?_
  refine vl_iload (pc := 11) h 0 rfl dL_reads_11 ?_
  refine vl_iconst (pc := 13) (v := nI 4) h (by decide) dL_reads_13 ?_
  refine vl_icmp_ne (pc := 14) (tgt := 39) h (by decide) dL_reads_14 (fun c14 => ?_) (fun c14 => ?_)
  · skip
    rw [nI_eq (by omega) (by omega)] at c14
    have hR4 : nRd S < 4 := by omega
    have hiN := Nat.mod_lt n (show 0 < nLi S by omega)
    refine vl_iload_n (pc := 39) h 4 rfl rfl dL_reads_39 ?_
    refine vl_iload_n (pc := 40) h 1 rfl rfl dL_reads_40 ?_
    refine vl_irem (pc := 41) (v := nI (n % (nLi S))) h (nI_ne0 (by omega) (by omega)) (pk_rem (by omega) (by omega) (by omega)) dL_reads_41 ?_
    refine vl_istore (pc := 42) (lo2 := [(5, .int (nI (n % (nLi S)))), (4, .int (nI (nRd S))), (3, .int (nI (nLi S))), (0, .ref (G.2.1 + 0)), (1, .ref (K.2.1 + 0)), (2, .int (nI n))]) h (by decide) rfl dL_reads_42 ?_
    refine vl_aload_n (pc := 44) h 3 rfl rfl dL_reads_44 ?_
    refine wVo (pc := 45) (As := []) (st := []) (r2 := (sA S).2.2.1) (u2 := 0) h2 h hE lk_RL_269 (kv_readings (S := S)) rfl rfl rfl (by decide) rfl (Nat.le_of_ble_eq_true rfl) (by decide) dL_reads_45 ?_
    refine vl_istore (pc := 48) (lo2 := [(6, .int ((sA S).2.2.1)), (5, .int (nI (n % (nLi S)))), (4, .int (nI (nRd S))), (3, .int (nI (nLi S))), (0, .ref (G.2.1 + 0)), (1, .ref (K.2.1 + 0)), (2, .int (nI n))]) h (by decide) rfl dL_reads_48 ?_
    refine vl_aload_n (pc := 50) h 4 rfl rfl dL_reads_50 ?_
    refine vl_bipush (pc := 51) (v := nI 17) h (by decide) dL_reads_51 ?_
    refine vl_iload (pc := 53) h 1 rfl dL_reads_53 ?_
    refine vl_iconst (pc := 55) (v := nI 0) h (by decide) dL_reads_55 ?_
    refine vl_iconst (pc := 56) (v := nI 0) h (by decide) dL_reads_56 ?_
    refine wSo (pc := 57) (As := [.ref (G.2.1 + 0), .int (nI 17), .int (nI (n % (nLi S))), .int (nI 0), .int (nI 0)]) (st := []) (r2 := oI (ath (mS S (n % nLi S)) 0)) (u2 := 2) h2 h hE hX lk_RL_248 (kc_17 hst G S (nI (n % (nLi S))) (nI 0) (nI 0) (sc0 (li_s (S := S) (i := n % nLi S) hiN hN) (pl_t (by omega)))) (at17 rfl (by omega) (by omega)) rfl rfl (by decide) rfl (Nat.le_of_ble_eq_true rfl) (by decide) dL_reads_57 ?_
    refine vl_istore (pc := 60) (lo2 := [(7, .int (oI (ath (mS S (n % nLi S)) 0))), (6, .int ((sA S).2.2.1)), (5, .int (nI (n % (nLi S)))), (4, .int (nI (nRd S))), (3, .int (nI (nLi S))), (0, .ref (G.2.1 + 0)), (1, .ref (K.2.1 + 0)), (2, .int (nI n))]) h (by decide) rfl dL_reads_60 ?_
    refine vl_aload_n (pc := 62) h 5 rfl rfl dL_reads_62 ?_
    refine vl_bipush (pc := 63) (v := nI 11) h (by decide) dL_reads_63 ?_
    refine vl_iload (pc := 65) h 2 rfl dL_reads_65 ?_
    refine vl_iconst (pc := 67) (v := nI 0) h (by decide) dL_reads_67 ?_
    refine vl_iconst (pc := 68) (v := nI 0) h (by decide) dL_reads_68 ?_
    obtain ⟨S1, hS1⟩ : ∃ T, T = nK_11 S (nI (n % nLi S)) (nI 0) (nI 0) := ⟨_, rfl⟩
    have r1 : RSt S S1 (n % nLi S) 0 (sA S).2.2.1 := by rw [hS1]; exact RSt.b (by omega)
    have m1 : sM S1 = pushN (sM S) := by rw [hS1]; rfl
    refine wSo (pc := 69) (As := [.ref (G.2.1 + 0), .int (nI 11), .int (nI (n % (nLi S))), .int (nI 0), .int (nI 0)]) (st := []) (r2 := nI (nRd S)) (u2 := 3) h2 h hE hX lk_RL_248 (KL.eqs rfl hS1.symm (kc_11 hst G S (nI (n % (nLi S))) (nI 0) (nI 0) (oc_114 hiN hN hR4))) rfl rfl rfl (by decide) rfl (Nat.le_of_ble_eq_true rfl) (by decide) dL_reads_69 ?_
    refine vl_iload (pc := 72) h 3 rfl dL_reads_72 ?_
    refine vl_icmp_ne_f (pc := 74) (tgt := 111) h rfl (by decide) dL_reads_74 ?_
    refine vl_aload_n (pc := 77) h 6 rfl rfl dL_reads_77 ?_
    refine vl_bipush (pc := 78) (v := nI 11) h (by decide) dL_reads_78 ?_
    refine vl_iload (pc := 80) h 2 rfl dL_reads_80 ?_
    refine vl_iconst (pc := 82) (v := nI 0) h (by decide) dL_reads_82 ?_
    refine vl_iconst (pc := 83) (v := nI 0) h (by decide) dL_reads_83 ?_
    refine wSq (pc := 84) (As := [.ref (K.2.1 + 0), .int (nI 11), .int (nI (n % (nLi S))), .int (nI 0), .int (nI 0)]) (st := []) (r2 := nI (nRd S)) (u2 := 4) h2 h hE2 hX lk_RL_248 (KL.eqs rfl hS1.symm (kc_11 hst K S (nI (n % (nLi S))) (nI 0) (nI 0) (oc_114 hiN hN hR4))) rfl rfl rfl (by decide) rfl (Nat.le_of_ble_eq_true rfl) (by decide) dL_reads_84 ?_
    refine vl_iload (pc := 87) h 3 rfl dL_reads_87 ?_
    refine vl_icmp_ne_f (pc := 89) (tgt := 111) h rfl (by decide) dL_reads_89 ?_
    refine vl_aload_n (pc := 92) h 5 rfl rfl dL_reads_92 ?_
    refine vl_bipush (pc := 93) (v := nI 26) h (by decide) dL_reads_93 ?_
    refine vl_iload (pc := 95) h 3 rfl dL_reads_95 ?_
    refine vl_iconst (pc := 97) (v := nI 0) h (by decide) dL_reads_97 ?_
    refine vl_iconst (pc := 98) (v := nI 0) h (by decide) dL_reads_98 ?_
    refine wSo (pc := 99) (As := [.ref (G.2.1 + 0), .int (nI 26), .int (nI (nRd S)), .int (nI 0), .int (nI 0)]) (st := []) (r2 := oI (ath (mS S (n % nLi S)) 0)) (u2 := 5) h2 h hE hX lk_RL_248 (kc_26 hst G S1 (nI (nRd S)) (nI 0) (nI 0) (cB_t (rd_s (S := S1) (i := nRd S) (by have := r1.2.1; omega) (by have := r1.2.1; omega)))) (r1.nv hR) rfl rfl (by decide) rfl (Nat.le_of_ble_eq_true rfl) (by decide) dL_reads_99 ?_
    refine vl_iload (pc := 102) h 0 rfl dL_reads_102 ?_
    refine vl_icmp_ne_f (pc := 104) (tgt := 111) h rfl (by decide) dL_reads_104 ?_
    refine vl_iconst (pc := 107) (v := nI 1) h (by decide) dL_reads_107 ?_
    refine vl_goto (pc := 108) (tgt := 112) h (by decide) dL_reads_108 ?_
    refine vl_istore (pc := 112) (lo2 := [(8, .int (nI 1)), (7, .int (oI (ath (mS S (n % nLi S)) 0))), (6, .int ((sA S).2.2.1)), (5, .int (nI (n % (nLi S)))), (4, .int (nI (nRd S))), (3, .int (nI (nLi S))), (0, .ref (G.2.1 + 0)), (1, .ref (K.2.1 + 0)), (2, .int (nI n))]) h (by decide) rfl dL_reads_112 ?_
    refine vl_iconst (pc := 114) (v := nI 1) h (by decide) dL_reads_114 ?_
    refine vl_istore (pc := 115) (lo2 := [(9, .int (nI 1)), (8, .int (nI 1)), (7, .int (oI (ath (mS S (n % nLi S)) 0))), (6, .int ((sA S).2.2.1)), (5, .int (nI (n % (nLi S)))), (4, .int (nI (nRd S))), (3, .int (nI (nLi S))), (0, .ref (G.2.1 + 0)), (1, .ref (K.2.1 + 0)), (2, .int (nI n))]) h (by decide) rfl dL_reads_115 ?_
    refine vl_iload (pc := 117) h 2 rfl dL_reads_117 ?_
    refine vl_iconst (pc := 119) (v := (-1)) h (by decide) dL_reads_119 ?_
    rcases e7 : ath (mS S (n % nLi S)) 0 with _ | v7
    · skip
      refine vl_icmp_eq_t (pc := 120) (tgt := 202) h rfl (by decide) dL_reads_120 ?_
      refine vl_iload_n (pc := 202) h 9 rfl rfl dL_reads_202 ?_
      refine vl_bipush (pc := 203) (v := nI 12) h (by decide) dL_reads_203 ?_
      refine vl_idiv (pc := 205) (v := nI (n / 12)) h (by decide) (pk_div (by omega) (by omega) (by omega)) dL_reads_205 ?_
      refine vl_sipush (pc := 206) (v := nI 1000) h (by decide) dL_reads_206 ?_
      refine vl_irem (pc := 209) (v := nI ((n / 12) % 1000)) h (by decide) (pk_rem (by omega) (by omega) (by omega)) dL_reads_209 ?_
      refine vl_istore (pc := 210) (lo2 := [(10, .int (nI ((n / 12) % 1000))), (9, .int (nI 1)), (8, .int (nI 1)), (7, .int (-1)), (6, .int ((sA S).2.2.1)), (5, .int (nI (n % (nLi S)))), (4, .int (nI (nRd S))), (3, .int (nI (nLi S))), (0, .ref (G.2.1 + 0)), (1, .ref (K.2.1 + 0)), (2, .int (nI n))]) h (by decide) rfl dL_reads_210 ?_
      refine vl_aload_n (pc := 212) h 8 rfl rfl dL_reads_212 ?_
      refine vl_bipush (pc := 213) (v := nI 31) h (by decide) dL_reads_213 ?_
      refine vl_iload (pc := 215) h 6 rfl dL_reads_215 ?_
      refine vl_iload (pc := 217) h 0 rfl dL_reads_217 ?_
      refine vl_iconst (pc := 219) (v := nI 0) h (by decide) dL_reads_219 ?_
      rcases e11 : ath (mS S (n % nLi S)) (max (cS (mS S (n % nLi S)) (n / 12 % 1000)) 0) with _ | w11
      · skip
        refine wSo (pc := 220) (As := [.ref (G.2.1 + 0), .int (nI 31), .int (nI (nRd S)), .int (nI ((n / 12) % 1000)), .int (nI 0)]) (st := []) (r2 := (-1)) (u2 := 7) h2 h hE hX lk_RL_248 (kc_31 hst G S1 (nI (nRd S)) (nI ((n / 12) % 1000)) (nI 0) (sc0 (rd_s (S := S1) (i := nRd S) (by have := r1.2.1; omega) (by have := r1.2.1; omega)) (in_t (by omega) (by omega) (by omega)))) (r1.svn hR (by omega) e11) rfl rfl (by decide) rfl (Nat.le_of_ble_eq_true rfl) (by decide) dL_reads_220 ?_
        refine vl_istore (pc := 223) (lo2 := [(11, .int (-1)), (10, .int (nI ((n / 12) % 1000))), (9, .int (nI 1)), (8, .int (nI 1)), (7, .int (-1)), (6, .int ((sA S).2.2.1)), (5, .int (nI (n % (nLi S)))), (4, .int (nI (nRd S))), (3, .int (nI (nLi S))), (0, .ref (G.2.1 + 0)), (1, .ref (K.2.1 + 0)), (2, .int (nI n))]) h (by decide) rfl dL_reads_223 ?_
        refine vl_iload (pc := 225) h 0 rfl dL_reads_225 ?_
        refine vl_if_le_t (pc := 227) (tgt := 345) h (by decide) (by decide) dL_reads_227 ?_
        refine vl_iload (pc := 345) h 3 rfl dL_reads_345 ?_
        refine vl_if_eq_f (pc := 347) (tgt := 389) h (by decide) (by decide) dL_reads_347 ?_
        refine vl_iload (pc := 350) h 0 rfl dL_reads_350 ?_
        refine vl_iconst (pc := 352) (v := (-1)) h (by decide) dL_reads_352 ?_
        refine vl_icmp_ne_f (pc := 353) (tgt := 385) h rfl (by decide) dL_reads_353 ?_
        refine vl_aload_n (pc := 356) h 9 rfl rfl dL_reads_356 ?_
        refine vl_bipush (pc := 357) (v := nI 21) h (by decide) dL_reads_357 ?_
        refine vl_iload (pc := 359) h 6 rfl dL_reads_359 ?_
        refine vl_iconst (pc := 361) (v := nI 0) h (by decide) dL_reads_361 ?_
        refine vl_iconst (pc := 362) (v := nI 0) h (by decide) dL_reads_362 ?_
        refine wSo (pc := 363) (As := [.ref (G.2.1 + 0), .int (nI 21), .int (nI (n % (nLi S))), .int (nI 0), .int (nI 0)]) (st := []) (r2 := oI (lstB (mS S (n % nLi S)) 1000)) (u2 := 8) h2 h hE hX lk_RL_248 (kc_21 hst G S1 (nI (n % (nLi S))) (nI 0) (nI 0) (cB_t (li_s (S := S1) (i := n % nLi S) (by have := r1.1; omega) (by have := r1.1; omega)))) (last21 (r1.mS _) (by omega)) rfl rfl (by decide) rfl (Nat.le_of_ble_eq_true rfl) (by decide) dL_reads_363 ?_
        refine vl_iload (pc := 366) h 1 rfl dL_reads_366 ?_
        refine vl_icmp_lt (pc := 368) (tgt := 385) h (by decide) dL_reads_368 (fun c368 => ?_) (fun c368 => ?_)
        · skip
          refine vl_iconst (pc := 385) (v := nI 1) h (by decide) dL_reads_385 ?_
          refine vl_goto (pc := 386) (tgt := 390) h (by decide) dL_reads_386 ?_
          refine vl_istore (pc := 390) (lo2 := [(8, .int (nI 1)), (11, .int (-1)), (10, .int (nI ((n / 12) % 1000))), (9, .int (nI 1)), (7, .int (-1)), (6, .int ((sA S).2.2.1)), (5, .int (nI (n % (nLi S)))), (4, .int (nI (nRd S))), (3, .int (nI (nLi S))), (0, .ref (G.2.1 + 0)), (1, .ref (K.2.1 + 0)), (2, .int (nI n))]) h (by decide) rfl dL_reads_390 ?_
          refine vl_iload (pc := 392) h 0 rfl dL_reads_392 ?_
          refine vl_if_eq_f (pc := 394) (tgt := 429) h (by decide) (by decide) dL_reads_394 ?_
          refine vl_aload_n (pc := 397) h 9 rfl rfl dL_reads_397 ?_
          refine vl_aload_n (pc := 398) h 10 rfl rfl dL_reads_398 ?_
          refine vl_iload (pc := 399) h 3 rfl dL_reads_399 ?_
          have g1 := pn_ge (j := 0) (Nat.zero_le _) (by omega) hm14
          have b1 := pn_b hm14
          rw [← m1] at g1 b1
          have hA : sA (poN S1 1) = sA S := by
            rw [show poN S1 1 = poN S1 (0 + 1) from rfl, poN_A, hS1]
            exact rem_0 hm14
          refine vl_k2 (pc := 401) (As := [.ref (G.2.1 + 0), .ref (K.2.1 + 0), .int (nI 1)]) (st := []) (r2 := nI 1) (u2 := 38) h hE hE2 hX lk_RL_302 (n_undoes x.2.1 hst G K h2 S1 1 (by omega) b1.2.1) rfl rfl rfl (by decide) rfl (Nat.le_of_ble_eq_true rfl) (by decide) dL_reads_401 ?_
          refine vl_if_eq_f (pc := 404) (tgt := 429) h (by decide) (by decide) dL_reads_404 ?_
          refine vl_aload_n (pc := 407) h 9 rfl rfl dL_reads_407 ?_
          refine wVo (pc := 408) (As := []) (st := []) (r2 := nI (nRd S)) (u2 := 38) h2 h hE lk_RL_245 (kv_readers (S := (poN S1 1))) (congrArg (fun A : Ab => nI A.2.1) hA) rfl rfl (by decide) rfl (Nat.le_of_ble_eq_true rfl) (by decide) dL_reads_408 ?_
          refine vl_iload (pc := 411) h 7 rfl dL_reads_411 ?_
          refine vl_icmp_ne_f (pc := 413) (tgt := 429) h rfl (by decide) dL_reads_413 ?_
          refine vl_aload_n (pc := 416) h 9 rfl rfl dL_reads_416 ?_
          refine wVo (pc := 417) (As := []) (st := []) (r2 := (sA S).2.2.1) (u2 := 38) h2 h hE lk_RL_269 (kv_readings (S := (poN S1 1))) (congrArg (fun A : Ab => A.2.2.1) hA) rfl rfl (by decide) rfl (Nat.le_of_ble_eq_true rfl) (by decide) dL_reads_417 ?_
          refine vl_iload (pc := 420) h 5 rfl dL_reads_420 ?_
          refine vl_icmp_ne_f (pc := 422) (tgt := 429) h rfl (by decide) dL_reads_422 ?_
          refine vl_iconst (pc := 425) (v := nI 1) h (by decide) dL_reads_425 ?_
          refine vl_goto (pc := 426) (tgt := 430) h (by decide) dL_reads_426 ?_
          have e9 : rdT S n = (poN S1 1) := by
            unfold rdT
            rw [if_neg c14, e7, hS1]
          rw [e9] at hret
          exact vl_wd (by decide) (hret 430 _ dL_reads_430)
        · skip
          have g1 := lst_ge (M := (mS S (n % nLi S))) (v := (n / 12 % 1000)) (by omega) c368
          have g2 := ath_specN e11
          have e13 : ath (mS S (n % nLi S)) 0 = none := ath_none (by omega)
          refine vl_aload_n (pc := 371) h 9 rfl rfl dL_reads_371 ?_
          refine vl_bipush (pc := 372) (v := nI 26) h (by decide) dL_reads_372 ?_
          refine vl_iload (pc := 374) h 7 rfl dL_reads_374 ?_
          refine vl_iconst (pc := 376) (v := nI 0) h (by decide) dL_reads_376 ?_
          refine vl_iconst (pc := 377) (v := nI 0) h (by decide) dL_reads_377 ?_
          refine wSo (pc := 378) (As := [.ref (G.2.1 + 0), .int (nI 26), .int (nI (nRd S)), .int (nI 0), .int (nI 0)]) (st := []) (r2 := (-1)) (u2 := 9) h2 h hE hX lk_RL_248 (kc_26 hst G S1 (nI (nRd S)) (nI 0) (nI 0) (cB_t (rd_s (S := S1) (i := nRd S) (by have := r1.2.1; omega) (by have := r1.2.1; omega)))) ((r1.nv hR).trans (by rw [e13]; rfl)) rfl rfl (by decide) rfl (Nat.le_of_ble_eq_true rfl) (by decide) dL_reads_378 ?_
          refine vl_iconst (pc := 381) (v := (-1)) h (by decide) dL_reads_381 ?_
          refine vl_icmp_ne_f (pc := 382) (tgt := 389) h rfl (by decide) dL_reads_382 ?_
          refine vl_iconst (pc := 385) (v := nI 1) h (by decide) dL_reads_385 ?_
          refine vl_goto (pc := 386) (tgt := 390) h (by decide) dL_reads_386 ?_
          refine vl_istore (pc := 390) (lo2 := [(8, .int (nI 1)), (11, .int (-1)), (10, .int (nI ((n / 12) % 1000))), (9, .int (nI 1)), (7, .int (-1)), (6, .int ((sA S).2.2.1)), (5, .int (nI (n % (nLi S)))), (4, .int (nI (nRd S))), (3, .int (nI (nLi S))), (0, .ref (G.2.1 + 0)), (1, .ref (K.2.1 + 0)), (2, .int (nI n))]) h (by decide) rfl dL_reads_390 ?_
          refine vl_iload (pc := 392) h 0 rfl dL_reads_392 ?_
          refine vl_if_eq_f (pc := 394) (tgt := 429) h (by decide) (by decide) dL_reads_394 ?_
          refine vl_aload_n (pc := 397) h 9 rfl rfl dL_reads_397 ?_
          refine vl_aload_n (pc := 398) h 10 rfl rfl dL_reads_398 ?_
          refine vl_iload (pc := 399) h 3 rfl dL_reads_399 ?_
          have g1 := pn_ge (j := 0) (Nat.zero_le _) (by omega) hm14
          have b1 := pn_b hm14
          rw [← m1] at g1 b1
          have hA : sA (poN S1 1) = sA S := by
            rw [show poN S1 1 = poN S1 (0 + 1) from rfl, poN_A, hS1]
            exact rem_0 hm14
          refine vl_k2 (pc := 401) (As := [.ref (G.2.1 + 0), .ref (K.2.1 + 0), .int (nI 1)]) (st := []) (r2 := nI 1) (u2 := 39) h hE hE2 hX lk_RL_302 (n_undoes x.2.1 hst G K h2 S1 1 (by omega) b1.2.1) rfl rfl rfl (by decide) rfl (Nat.le_of_ble_eq_true rfl) (by decide) dL_reads_401 ?_
          refine vl_if_eq_f (pc := 404) (tgt := 429) h (by decide) (by decide) dL_reads_404 ?_
          refine vl_aload_n (pc := 407) h 9 rfl rfl dL_reads_407 ?_
          refine wVo (pc := 408) (As := []) (st := []) (r2 := nI (nRd S)) (u2 := 39) h2 h hE lk_RL_245 (kv_readers (S := (poN S1 1))) (congrArg (fun A : Ab => nI A.2.1) hA) rfl rfl (by decide) rfl (Nat.le_of_ble_eq_true rfl) (by decide) dL_reads_408 ?_
          refine vl_iload (pc := 411) h 7 rfl dL_reads_411 ?_
          refine vl_icmp_ne_f (pc := 413) (tgt := 429) h rfl (by decide) dL_reads_413 ?_
          refine vl_aload_n (pc := 416) h 9 rfl rfl dL_reads_416 ?_
          refine wVo (pc := 417) (As := []) (st := []) (r2 := (sA S).2.2.1) (u2 := 39) h2 h hE lk_RL_269 (kv_readings (S := (poN S1 1))) (congrArg (fun A : Ab => A.2.2.1) hA) rfl rfl (by decide) rfl (Nat.le_of_ble_eq_true rfl) (by decide) dL_reads_417 ?_
          refine vl_iload (pc := 420) h 5 rfl dL_reads_420 ?_
          refine vl_icmp_ne_f (pc := 422) (tgt := 429) h rfl (by decide) dL_reads_422 ?_
          refine vl_iconst (pc := 425) (v := nI 1) h (by decide) dL_reads_425 ?_
          refine vl_goto (pc := 426) (tgt := 430) h (by decide) dL_reads_426 ?_
          have e9 : rdT S n = (poN S1 1) := by
            unfold rdT
            rw [if_neg c14, e7, hS1]
          rw [e9] at hret
          exact vl_wd (by decide) (hret 430 _ dL_reads_430)
      · skip
        have h8 := ath_specN e7
        have h9 := (ath_spec e11).2.2
        have h7 := (ath_spec e11).1
        have h6 := (ath_spec e11).2.1
        have h5 := cS_mono (mS S (n % nLi S)) (show w11 + 1 ≤ 1000 by omega)
        rw [cS, if_pos h6] at h5
        omega
    · skip
      have hv7 := (ath_spec e7).1
      refine vl_icmp_eq_f (pc := 120) (tgt := 202) h (nI_neg (by omega) (by decide)) (by decide) dL_reads_120 ?_
      refine vl_iload (pc := 123) h 1 rfl dL_reads_123 ?_
      refine vl_if_eq_f (pc := 125) (tgt := 202) h (by decide) (by decide) dL_reads_125 ?_
      refine vl_aload_n (pc := 128) h 7 rfl rfl dL_reads_128 ?_
      refine vl_bipush (pc := 129) (v := nI 12) h (by decide) dL_reads_129 ?_
      refine vl_iload (pc := 131) h 5 rfl dL_reads_131 ?_
      refine vl_iconst (pc := 133) (v := nI 0) h (by decide) dL_reads_133 ?_
      refine vl_iconst (pc := 134) (v := nI 0) h (by decide) dL_reads_134 ?_
      obtain ⟨S2, hS2⟩ : ∃ T, T = nK_12 S1 (nI (nRd S)) (nI 0) (nI 0) := ⟨_, rfl⟩
      have r2 : RSt S S2 (n % nLi S) 1 ((sA S).2.2.1 + nI 1) := by rw [hS2]; exact r1.r hR
      have m2 : sM S2 = pushN (sM S1) := by rw [hS2]; rfl
      refine wSo (pc := 135) (As := [.ref (G.2.1 + 0), .int (nI 12), .int (nI (nRd S)), .int (nI 0), .int (nI 0)]) (st := []) (r2 := nI v7) (u2 := 6) h2 h hE hX lk_RL_248 (KL.eqs rfl hS2.symm (kc_12 hst G S1 (nI (nRd S)) (nI 0) (nI 0) (oc_110 (by have := r1.2.1; omega) (by have := r1.2.1; omega) (r1.nx.trans e7)))) ((r1.rv hR).trans (by rw [e7]; rfl)) rfl rfl (by decide) rfl (Nat.le_of_ble_eq_true rfl) (by decide) dL_reads_135 ?_
      refine vl_iload (pc := 138) h 2 rfl dL_reads_138 ?_
      refine vl_icmp_ne_f (pc := 140) (tgt := 196) h rfl (by decide) dL_reads_140 ?_
      refine vl_aload_n (pc := 143) h 8 rfl rfl dL_reads_143 ?_
      refine vl_bipush (pc := 144) (v := nI 12) h (by decide) dL_reads_144 ?_
      refine vl_iload (pc := 146) h 5 rfl dL_reads_146 ?_
      refine vl_iconst (pc := 148) (v := nI 0) h (by decide) dL_reads_148 ?_
      refine vl_iconst (pc := 149) (v := nI 0) h (by decide) dL_reads_149 ?_
      refine wSq (pc := 150) (As := [.ref (K.2.1 + 0), .int (nI 12), .int (nI (nRd S)), .int (nI 0), .int (nI 0)]) (st := []) (r2 := nI v7) (u2 := 7) h2 h hE2 hX lk_RL_248 (KL.eqs rfl hS2.symm (kc_12 hst K S1 (nI (nRd S)) (nI 0) (nI 0) (oc_110 (by have := r1.2.1; omega) (by have := r1.2.1; omega) (r1.nx.trans e7)))) ((r1.rv hR).trans (by rw [e7]; rfl)) rfl rfl (by decide) rfl (Nat.le_of_ble_eq_true rfl) (by decide) dL_reads_150 ?_
      refine vl_iload (pc := 153) h 2 rfl dL_reads_153 ?_
      refine vl_icmp_ne_f (pc := 155) (tgt := 196) h rfl (by decide) dL_reads_155 ?_
      refine vl_aload_n (pc := 158) h 7 rfl rfl dL_reads_158 ?_
      refine wVo (pc := 159) (As := []) (st := []) (r2 := (sA S).2.2.1 + nI 1) (u2 := 7) h2 h hE lk_RL_269 (kv_readings (S := S2)) r2.2.2.1 rfl rfl (by decide) rfl (Nat.le_of_ble_eq_true rfl) (by decide) dL_reads_159 ?_
      refine vl_iload (pc := 162) h 3 rfl dL_reads_162 ?_
      refine vl_iconst (pc := 164) (v := nI 1) h (by decide) dL_reads_164 ?_
      refine vl_iadd (pc := 165) (v := (sA S).2.2.1 + nI 1) h rfl dL_reads_165 ?_
      refine vl_icmp_ne_f (pc := 166) (tgt := 196) h rfl (by decide) dL_reads_166 ?_
      refine vl_aload_n (pc := 169) h 7 rfl rfl dL_reads_169 ?_
      refine vl_bipush (pc := 170) (v := nI 26) h (by decide) dL_reads_170 ?_
      refine vl_iload (pc := 172) h 5 rfl dL_reads_172 ?_
      refine vl_iconst (pc := 174) (v := nI 0) h (by decide) dL_reads_174 ?_
      refine vl_iconst (pc := 175) (v := nI 0) h (by decide) dL_reads_175 ?_
      refine wSo (pc := 176) (As := [.ref (G.2.1 + 0), .int (nI 26), .int (nI (nRd S)), .int (nI 0), .int (nI 0)]) (st := []) (r2 := oI (ath (mS S (n % nLi S)) 1)) (u2 := 8) h2 h hE hX lk_RL_248 (kc_26 hst G S2 (nI (nRd S)) (nI 0) (nI 0) (cB_t (rd_s (S := S2) (i := nRd S) (by have := r2.2.1; omega) (by have := r2.2.1; omega)))) (r2.nv hR) rfl rfl (by decide) rfl (Nat.le_of_ble_eq_true rfl) (by decide) dL_reads_176 ?_
      refine vl_aload_n (pc := 179) h 7 rfl rfl dL_reads_179 ?_
      refine vl_bipush (pc := 180) (v := nI 17) h (by decide) dL_reads_180 ?_
      refine vl_iload (pc := 182) h 4 rfl dL_reads_182 ?_
      refine vl_iconst (pc := 184) (v := nI 1) h (by decide) dL_reads_184 ?_
      refine vl_iconst (pc := 185) (v := nI 0) h (by decide) dL_reads_185 ?_
      refine wSo (pc := 186) (As := [.ref (G.2.1 + 0), .int (nI 17), .int (nI (n % (nLi S))), .int (nI 1), .int (nI 0)]) (st := [.int (oI (ath (mS S (n % nLi S)) 1))]) (r2 := oI (ath (mS S (n % nLi S)) 1)) (u2 := 10) h2 h hE hX lk_RL_248 (kc_17 hst G S2 (nI (n % (nLi S))) (nI 1) (nI 0) (sc0 (li_s (S := S2) (i := n % nLi S) (by have := r2.1; omega) (by have := r2.1; omega)) (pl_t (by omega)))) (at17 (r2.mS _) (by omega) (by omega)) rfl rfl (by decide) rfl (Nat.le_of_ble_eq_true rfl) (by decide) dL_reads_186 ?_
      refine vl_icmp_ne_f (pc := 189) (tgt := 196) h rfl (by decide) dL_reads_189 ?_
      refine vl_iconst (pc := 192) (v := nI 1) h (by decide) dL_reads_192 ?_
      refine vl_goto (pc := 193) (tgt := 197) h (by decide) dL_reads_193 ?_
      refine vl_istore (pc := 197) (lo2 := [(8, .int (nI 1)), (9, .int (nI 1)), (7, .int (nI v7)), (6, .int ((sA S).2.2.1)), (5, .int (nI (n % (nLi S)))), (4, .int (nI (nRd S))), (3, .int (nI (nLi S))), (0, .ref (G.2.1 + 0)), (1, .ref (K.2.1 + 0)), (2, .int (nI n))]) h (by decide) rfl dL_reads_197 ?_
      refine vl_iinc (pc := 199) (v := nI (1 + 1)) (lo2 := [(9, .int (nI (1 + 1))), (8, .int (nI 1)), (7, .int (nI v7)), (6, .int ((sA S).2.2.1)), (5, .int (nI (n % (nLi S)))), (4, .int (nI (nRd S))), (3, .int (nI (nLi S))), (0, .ref (G.2.1 + 0)), (1, .ref (K.2.1 + 0)), (2, .int (nI n))]) h 1 rfl (iinc1 _) (by decide) rfl dL_reads_199 ?_
      refine vl_iload_n (pc := 202) h 9 rfl rfl dL_reads_202 ?_
      refine vl_bipush (pc := 203) (v := nI 12) h (by decide) dL_reads_203 ?_
      refine vl_idiv (pc := 205) (v := nI (n / 12)) h (by decide) (pk_div (by omega) (by omega) (by omega)) dL_reads_205 ?_
      refine vl_sipush (pc := 206) (v := nI 1000) h (by decide) dL_reads_206 ?_
      refine vl_irem (pc := 209) (v := nI ((n / 12) % 1000)) h (by decide) (pk_rem (by omega) (by omega) (by omega)) dL_reads_209 ?_
      refine vl_istore (pc := 210) (lo2 := [(10, .int (nI ((n / 12) % 1000))), (9, .int (nI (1 + 1))), (8, .int (nI 1)), (7, .int (nI v7)), (6, .int ((sA S).2.2.1)), (5, .int (nI (n % (nLi S)))), (4, .int (nI (nRd S))), (3, .int (nI (nLi S))), (0, .ref (G.2.1 + 0)), (1, .ref (K.2.1 + 0)), (2, .int (nI n))]) h (by decide) rfl dL_reads_210 ?_
      refine vl_aload_n (pc := 212) h 8 rfl rfl dL_reads_212 ?_
      refine vl_bipush (pc := 213) (v := nI 31) h (by decide) dL_reads_213 ?_
      refine vl_iload (pc := 215) h 6 rfl dL_reads_215 ?_
      refine vl_iload (pc := 217) h 0 rfl dL_reads_217 ?_
      refine vl_iconst (pc := 219) (v := nI 0) h (by decide) dL_reads_219 ?_
      rcases e11 : ath (mS S (n % nLi S)) (max (cS (mS S (n % nLi S)) (n / 12 % 1000)) 1) with _ | w11
      · skip
        refine wSo (pc := 220) (As := [.ref (G.2.1 + 0), .int (nI 31), .int (nI (nRd S)), .int (nI ((n / 12) % 1000)), .int (nI 0)]) (st := []) (r2 := (-1)) (u2 := 12) h2 h hE hX lk_RL_248 (kc_31 hst G S2 (nI (nRd S)) (nI ((n / 12) % 1000)) (nI 0) (sc0 (rd_s (S := S2) (i := nRd S) (by have := r2.2.1; omega) (by have := r2.2.1; omega)) (in_t (by omega) (by omega) (by omega)))) (r2.svn hR (by omega) e11) rfl rfl (by decide) rfl (Nat.le_of_ble_eq_true rfl) (by decide) dL_reads_220 ?_
        refine vl_istore (pc := 223) (lo2 := [(11, .int (-1)), (10, .int (nI ((n / 12) % 1000))), (9, .int (nI (1 + 1))), (8, .int (nI 1)), (7, .int (nI v7)), (6, .int ((sA S).2.2.1)), (5, .int (nI (n % (nLi S)))), (4, .int (nI (nRd S))), (3, .int (nI (nLi S))), (0, .ref (G.2.1 + 0)), (1, .ref (K.2.1 + 0)), (2, .int (nI n))]) h (by decide) rfl dL_reads_223 ?_
        refine vl_iload (pc := 225) h 0 rfl dL_reads_225 ?_
        refine vl_if_le_t (pc := 227) (tgt := 345) h (by decide) (by decide) dL_reads_227 ?_
        refine vl_iload (pc := 345) h 3 rfl dL_reads_345 ?_
        refine vl_if_eq_f (pc := 347) (tgt := 389) h (by decide) (by decide) dL_reads_347 ?_
        refine vl_iload (pc := 350) h 0 rfl dL_reads_350 ?_
        refine vl_iconst (pc := 352) (v := (-1)) h (by decide) dL_reads_352 ?_
        refine vl_icmp_ne_f (pc := 353) (tgt := 385) h rfl (by decide) dL_reads_353 ?_
        refine vl_aload_n (pc := 356) h 9 rfl rfl dL_reads_356 ?_
        refine vl_bipush (pc := 357) (v := nI 21) h (by decide) dL_reads_357 ?_
        refine vl_iload (pc := 359) h 6 rfl dL_reads_359 ?_
        refine vl_iconst (pc := 361) (v := nI 0) h (by decide) dL_reads_361 ?_
        refine vl_iconst (pc := 362) (v := nI 0) h (by decide) dL_reads_362 ?_
        refine wSo (pc := 363) (As := [.ref (G.2.1 + 0), .int (nI 21), .int (nI (n % (nLi S))), .int (nI 0), .int (nI 0)]) (st := []) (r2 := oI (lstB (mS S (n % nLi S)) 1000)) (u2 := 13) h2 h hE hX lk_RL_248 (kc_21 hst G S2 (nI (n % (nLi S))) (nI 0) (nI 0) (cB_t (li_s (S := S2) (i := n % nLi S) (by have := r2.1; omega) (by have := r2.1; omega)))) (last21 (r2.mS _) (by omega)) rfl rfl (by decide) rfl (Nat.le_of_ble_eq_true rfl) (by decide) dL_reads_363 ?_
        refine vl_iload (pc := 366) h 1 rfl dL_reads_366 ?_
        refine vl_icmp_lt (pc := 368) (tgt := 385) h (by decide) dL_reads_368 (fun c368 => ?_) (fun c368 => ?_)
        · skip
          refine vl_iconst (pc := 385) (v := nI 1) h (by decide) dL_reads_385 ?_
          refine vl_goto (pc := 386) (tgt := 390) h (by decide) dL_reads_386 ?_
          refine vl_istore (pc := 390) (lo2 := [(8, .int (nI 1)), (11, .int (-1)), (10, .int (nI ((n / 12) % 1000))), (9, .int (nI (1 + 1))), (7, .int (nI v7)), (6, .int ((sA S).2.2.1)), (5, .int (nI (n % (nLi S)))), (4, .int (nI (nRd S))), (3, .int (nI (nLi S))), (0, .ref (G.2.1 + 0)), (1, .ref (K.2.1 + 0)), (2, .int (nI n))]) h (by decide) rfl dL_reads_390 ?_
          refine vl_iload (pc := 392) h 0 rfl dL_reads_392 ?_
          refine vl_if_eq_f (pc := 394) (tgt := 429) h (by decide) (by decide) dL_reads_394 ?_
          refine vl_aload_n (pc := 397) h 9 rfl rfl dL_reads_397 ?_
          refine vl_aload_n (pc := 398) h 10 rfl rfl dL_reads_398 ?_
          refine vl_iload (pc := 399) h 3 rfl dL_reads_399 ?_
          have g1 := pn_ge (j := 0) (Nat.zero_le _) (by omega) hm14
          have b1 := pn_b hm14
          rw [← m1] at g1 b1
          have g2 := pn_ge (j := 1) g1 (by omega) b1.2.1
          have b2 := pn_b b1.2.1
          rw [← m2] at g2 b2
          have hA : sA (poN S2 (1 + 1)) = sA S := by
            rw [show poN S2 (1 + 1) = poN S2 (1 + 1) from rfl, poN_A, hS2]
            refine (rem_s b1.2.1 (by omega) (by omega)).trans ?_
            rw [hS1]
            exact rem_0 hm14
          refine vl_k2 (pc := 401) (As := [.ref (G.2.1 + 0), .ref (K.2.1 + 0), .int (nI (1 + 1))]) (st := []) (r2 := nI 1) (u2 := 43) h hE hE2 hX lk_RL_302 (n_undoes x.2.1 hst G K h2 S2 (1 + 1) (by omega) b2.2.1) rfl rfl rfl (by decide) rfl (Nat.le_of_ble_eq_true rfl) (by decide) dL_reads_401 ?_
          refine vl_if_eq_f (pc := 404) (tgt := 429) h (by decide) (by decide) dL_reads_404 ?_
          refine vl_aload_n (pc := 407) h 9 rfl rfl dL_reads_407 ?_
          refine wVo (pc := 408) (As := []) (st := []) (r2 := nI (nRd S)) (u2 := 43) h2 h hE lk_RL_245 (kv_readers (S := (poN S2 (1 + 1)))) (congrArg (fun A : Ab => nI A.2.1) hA) rfl rfl (by decide) rfl (Nat.le_of_ble_eq_true rfl) (by decide) dL_reads_408 ?_
          refine vl_iload (pc := 411) h 7 rfl dL_reads_411 ?_
          refine vl_icmp_ne_f (pc := 413) (tgt := 429) h rfl (by decide) dL_reads_413 ?_
          refine vl_aload_n (pc := 416) h 9 rfl rfl dL_reads_416 ?_
          refine wVo (pc := 417) (As := []) (st := []) (r2 := (sA S).2.2.1) (u2 := 43) h2 h hE lk_RL_269 (kv_readings (S := (poN S2 (1 + 1)))) (congrArg (fun A : Ab => A.2.2.1) hA) rfl rfl (by decide) rfl (Nat.le_of_ble_eq_true rfl) (by decide) dL_reads_417 ?_
          refine vl_iload (pc := 420) h 5 rfl dL_reads_420 ?_
          refine vl_icmp_ne_f (pc := 422) (tgt := 429) h rfl (by decide) dL_reads_422 ?_
          refine vl_iconst (pc := 425) (v := nI 1) h (by decide) dL_reads_425 ?_
          refine vl_goto (pc := 426) (tgt := 430) h (by decide) dL_reads_426 ?_
          have e9 : rdT S n = (poN S2 (1 + 1)) := by
            unfold rdT
            rw [if_neg c14, e7]
            dsimp only
            rw [if_neg (fun q => by rw [e11] at q; exact absurd q.1 (by decide))]
            rw [hS2, hS1]
          rw [e9] at hret
          exact vl_wd (by decide) (hret 430 _ dL_reads_430)
        · skip
          have g1 := lst_ge (M := (mS S (n % nLi S))) (v := (n / 12 % 1000)) (by omega) c368
          have g2 := ath_specN e11
          have e13 : ath (mS S (n % nLi S)) 1 = none := ath_none (by omega)
          refine vl_aload_n (pc := 371) h 9 rfl rfl dL_reads_371 ?_
          refine vl_bipush (pc := 372) (v := nI 26) h (by decide) dL_reads_372 ?_
          refine vl_iload (pc := 374) h 7 rfl dL_reads_374 ?_
          refine vl_iconst (pc := 376) (v := nI 0) h (by decide) dL_reads_376 ?_
          refine vl_iconst (pc := 377) (v := nI 0) h (by decide) dL_reads_377 ?_
          refine wSo (pc := 378) (As := [.ref (G.2.1 + 0), .int (nI 26), .int (nI (nRd S)), .int (nI 0), .int (nI 0)]) (st := []) (r2 := (-1)) (u2 := 14) h2 h hE hX lk_RL_248 (kc_26 hst G S2 (nI (nRd S)) (nI 0) (nI 0) (cB_t (rd_s (S := S2) (i := nRd S) (by have := r2.2.1; omega) (by have := r2.2.1; omega)))) ((r2.nv hR).trans (by rw [e13]; rfl)) rfl rfl (by decide) rfl (Nat.le_of_ble_eq_true rfl) (by decide) dL_reads_378 ?_
          refine vl_iconst (pc := 381) (v := (-1)) h (by decide) dL_reads_381 ?_
          refine vl_icmp_ne_f (pc := 382) (tgt := 389) h rfl (by decide) dL_reads_382 ?_
          refine vl_iconst (pc := 385) (v := nI 1) h (by decide) dL_reads_385 ?_
          refine vl_goto (pc := 386) (tgt := 390) h (by decide) dL_reads_386 ?_
          refine vl_istore (pc := 390) (lo2 := [(8, .int (nI 1)), (11, .int (-1)), (10, .int (nI ((n / 12) % 1000))), (9, .int (nI (1 + 1))), (7, .int (nI v7)), (6, .int ((sA S).2.2.1)), (5, .int (nI (n % (nLi S)))), (4, .int (nI (nRd S))), (3, .int (nI (nLi S))), (0, .ref (G.2.1 + 0)), (1, .ref (K.2.1 + 0)), (2, .int (nI n))]) h (by decide) rfl dL_reads_390 ?_
          refine vl_iload (pc := 392) h 0 rfl dL_reads_392 ?_
          refine vl_if_eq_f (pc := 394) (tgt := 429) h (by decide) (by decide) dL_reads_394 ?_
          refine vl_aload_n (pc := 397) h 9 rfl rfl dL_reads_397 ?_
          refine vl_aload_n (pc := 398) h 10 rfl rfl dL_reads_398 ?_
          refine vl_iload (pc := 399) h 3 rfl dL_reads_399 ?_
          have g1 := pn_ge (j := 0) (Nat.zero_le _) (by omega) hm14
          have b1 := pn_b hm14
          rw [← m1] at g1 b1
          have g2 := pn_ge (j := 1) g1 (by omega) b1.2.1
          have b2 := pn_b b1.2.1
          rw [← m2] at g2 b2
          have hA : sA (poN S2 (1 + 1)) = sA S := by
            rw [show poN S2 (1 + 1) = poN S2 (1 + 1) from rfl, poN_A, hS2]
            refine (rem_s b1.2.1 (by omega) (by omega)).trans ?_
            rw [hS1]
            exact rem_0 hm14
          refine vl_k2 (pc := 401) (As := [.ref (G.2.1 + 0), .ref (K.2.1 + 0), .int (nI (1 + 1))]) (st := []) (r2 := nI 1) (u2 := 44) h hE hE2 hX lk_RL_302 (n_undoes x.2.1 hst G K h2 S2 (1 + 1) (by omega) b2.2.1) rfl rfl rfl (by decide) rfl (Nat.le_of_ble_eq_true rfl) (by decide) dL_reads_401 ?_
          refine vl_if_eq_f (pc := 404) (tgt := 429) h (by decide) (by decide) dL_reads_404 ?_
          refine vl_aload_n (pc := 407) h 9 rfl rfl dL_reads_407 ?_
          refine wVo (pc := 408) (As := []) (st := []) (r2 := nI (nRd S)) (u2 := 44) h2 h hE lk_RL_245 (kv_readers (S := (poN S2 (1 + 1)))) (congrArg (fun A : Ab => nI A.2.1) hA) rfl rfl (by decide) rfl (Nat.le_of_ble_eq_true rfl) (by decide) dL_reads_408 ?_
          refine vl_iload (pc := 411) h 7 rfl dL_reads_411 ?_
          refine vl_icmp_ne_f (pc := 413) (tgt := 429) h rfl (by decide) dL_reads_413 ?_
          refine vl_aload_n (pc := 416) h 9 rfl rfl dL_reads_416 ?_
          refine wVo (pc := 417) (As := []) (st := []) (r2 := (sA S).2.2.1) (u2 := 44) h2 h hE lk_RL_269 (kv_readings (S := (poN S2 (1 + 1)))) (congrArg (fun A : Ab => A.2.2.1) hA) rfl rfl (by decide) rfl (Nat.le_of_ble_eq_true rfl) (by decide) dL_reads_417 ?_
          refine vl_iload (pc := 420) h 5 rfl dL_reads_420 ?_
          refine vl_icmp_ne_f (pc := 422) (tgt := 429) h rfl (by decide) dL_reads_422 ?_
          refine vl_iconst (pc := 425) (v := nI 1) h (by decide) dL_reads_425 ?_
          refine vl_goto (pc := 426) (tgt := 430) h (by decide) dL_reads_426 ?_
          have e9 : rdT S n = (poN S2 (1 + 1)) := by
            unfold rdT
            rw [if_neg c14, e7]
            dsimp only
            rw [if_neg (fun q => by rw [e11] at q; exact absurd q.1 (by decide))]
            rw [hS2, hS1]
          rw [e9] at hret
          exact vl_wd (by decide) (hret 430 _ dL_reads_430)
      · skip
        obtain ⟨k, hk⟩ : ∃ k, k = (max (cS (mS S (n % nLi S)) (n / 12 % 1000)) 1) - 1 := ⟨_, rfl⟩
        refine wSo (pc := 220) (As := [.ref (G.2.1 + 0), .int (nI 31), .int (nI (nRd S)), .int (nI ((n / 12) % 1000)), .int (nI 0)]) (st := []) (r2 := nI k) (u2 := 12) h2 h hE hX lk_RL_248 (kc_31 hst G S2 (nI (nRd S)) (nI ((n / 12) % 1000)) (nI 0) (sc0 (rd_s (S := S2) (i := nRd S) (by have := r2.2.1; omega) (by have := r2.2.1; omega)) (in_t (by omega) (by omega) (by omega)))) ((r2.svs hR (by omega) e11).trans (by rw [hk])) rfl rfl (by decide) rfl (Nat.le_of_ble_eq_true rfl) (by decide) dL_reads_220 ?_
        refine vl_istore (pc := 223) (lo2 := [(11, .int (nI k)), (10, .int (nI ((n / 12) % 1000))), (9, .int (nI (1 + 1))), (8, .int (nI 1)), (7, .int (nI v7)), (6, .int ((sA S).2.2.1)), (5, .int (nI (n % (nLi S)))), (4, .int (nI (nRd S))), (3, .int (nI (nLi S))), (0, .ref (G.2.1 + 0)), (1, .ref (K.2.1 + 0)), (2, .int (nI n))]) h (by decide) rfl dL_reads_223 ?_
        refine vl_iload (pc := 225) h 0 rfl dL_reads_225 ?_
        refine vl_if_le (pc := 227) (tgt := 345) h (by decide) dL_reads_227 (fun c227 => ?_) (fun c227 => ?_)
        · skip
          have hw11 := (ath_spec e11).1
          have hk9 := cS_le (mS S (n % nLi S)) (n / 12 % 1000)
          rw [zI0, nI_leI (by omega) (by omega)] at c227
          refine vl_iload (pc := 345) h 3 rfl dL_reads_345 ?_
          refine vl_if_eq_f (pc := 347) (tgt := 389) h (by decide) (by decide) dL_reads_347 ?_
          refine vl_iload (pc := 350) h 0 rfl dL_reads_350 ?_
          refine vl_iconst (pc := 352) (v := (-1)) h (by decide) dL_reads_352 ?_
          refine vl_icmp_ne_t (pc := 353) (tgt := 385) h (nI_neg (by omega) (by decide)) (by decide) dL_reads_353 ?_
          refine vl_iconst (pc := 385) (v := nI 1) h (by decide) dL_reads_385 ?_
          refine vl_goto (pc := 386) (tgt := 390) h (by decide) dL_reads_386 ?_
          refine vl_istore (pc := 390) (lo2 := [(8, .int (nI 1)), (11, .int (nI k)), (10, .int (nI ((n / 12) % 1000))), (9, .int (nI (1 + 1))), (7, .int (nI v7)), (6, .int ((sA S).2.2.1)), (5, .int (nI (n % (nLi S)))), (4, .int (nI (nRd S))), (3, .int (nI (nLi S))), (0, .ref (G.2.1 + 0)), (1, .ref (K.2.1 + 0)), (2, .int (nI n))]) h (by decide) rfl dL_reads_390 ?_
          refine vl_iload (pc := 392) h 0 rfl dL_reads_392 ?_
          refine vl_if_eq_f (pc := 394) (tgt := 429) h (by decide) (by decide) dL_reads_394 ?_
          refine vl_aload_n (pc := 397) h 9 rfl rfl dL_reads_397 ?_
          refine vl_aload_n (pc := 398) h 10 rfl rfl dL_reads_398 ?_
          refine vl_iload (pc := 399) h 3 rfl dL_reads_399 ?_
          have g1 := pn_ge (j := 0) (Nat.zero_le _) (by omega) hm14
          have b1 := pn_b hm14
          rw [← m1] at g1 b1
          have g2 := pn_ge (j := 1) g1 (by omega) b1.2.1
          have b2 := pn_b b1.2.1
          rw [← m2] at g2 b2
          have hA : sA (poN S2 (1 + 1)) = sA S := by
            rw [show poN S2 (1 + 1) = poN S2 (1 + 1) from rfl, poN_A, hS2]
            refine (rem_s b1.2.1 (by omega) (by omega)).trans ?_
            rw [hS1]
            exact rem_0 hm14
          refine vl_k2 (pc := 401) (As := [.ref (G.2.1 + 0), .ref (K.2.1 + 0), .int (nI (1 + 1))]) (st := []) (r2 := nI 1) (u2 := 42) h hE hE2 hX lk_RL_302 (n_undoes x.2.1 hst G K h2 S2 (1 + 1) (by omega) b2.2.1) rfl rfl rfl (by decide) rfl (Nat.le_of_ble_eq_true rfl) (by decide) dL_reads_401 ?_
          refine vl_if_eq_f (pc := 404) (tgt := 429) h (by decide) (by decide) dL_reads_404 ?_
          refine vl_aload_n (pc := 407) h 9 rfl rfl dL_reads_407 ?_
          refine wVo (pc := 408) (As := []) (st := []) (r2 := nI (nRd S)) (u2 := 42) h2 h hE lk_RL_245 (kv_readers (S := (poN S2 (1 + 1)))) (congrArg (fun A : Ab => nI A.2.1) hA) rfl rfl (by decide) rfl (Nat.le_of_ble_eq_true rfl) (by decide) dL_reads_408 ?_
          refine vl_iload (pc := 411) h 7 rfl dL_reads_411 ?_
          refine vl_icmp_ne_f (pc := 413) (tgt := 429) h rfl (by decide) dL_reads_413 ?_
          refine vl_aload_n (pc := 416) h 9 rfl rfl dL_reads_416 ?_
          refine wVo (pc := 417) (As := []) (st := []) (r2 := (sA S).2.2.1) (u2 := 42) h2 h hE lk_RL_269 (kv_readings (S := (poN S2 (1 + 1)))) (congrArg (fun A : Ab => A.2.2.1) hA) rfl rfl (by decide) rfl (Nat.le_of_ble_eq_true rfl) (by decide) dL_reads_417 ?_
          refine vl_iload (pc := 420) h 5 rfl dL_reads_420 ?_
          refine vl_icmp_ne_f (pc := 422) (tgt := 429) h rfl (by decide) dL_reads_422 ?_
          refine vl_iconst (pc := 425) (v := nI 1) h (by decide) dL_reads_425 ?_
          refine vl_goto (pc := 426) (tgt := 430) h (by decide) dL_reads_426 ?_
          have e9 : rdT S n = (poN S2 (1 + 1)) := by
            unfold rdT
            rw [if_neg c14, e7]
            dsimp only
            rw [if_neg (fun q => by omega)]
            rw [hS2, hS1]
          rw [e9] at hret
          exact vl_wd (by decide) (hret 430 _ dL_reads_430)
        · skip
          have hw11 := (ath_spec e11).1
          have hk9 := cS_le (mS S (n % nLi S)) (n / 12 % 1000)
          rw [zI0, nI_leI (by omega) (by omega)] at c227
          refine vl_iload (pc := 230) h 0 rfl dL_reads_230 ?_
          refine vl_bipush (pc := 232) (v := nI 100) h (by decide) dL_reads_232 ?_
          refine vl_icmp_ge (pc := 234) (tgt := 345) h (by decide) dL_reads_234 (fun c234 => ?_) (fun c234 => ?_)
          · skip
            rw [nI_leI (by omega) (by omega)] at c234
            refine vl_iload (pc := 345) h 3 rfl dL_reads_345 ?_
            refine vl_if_eq_f (pc := 347) (tgt := 389) h (by decide) (by decide) dL_reads_347 ?_
            refine vl_iload (pc := 350) h 0 rfl dL_reads_350 ?_
            refine vl_iconst (pc := 352) (v := (-1)) h (by decide) dL_reads_352 ?_
            refine vl_icmp_ne_t (pc := 353) (tgt := 385) h (nI_neg (by omega) (by decide)) (by decide) dL_reads_353 ?_
            refine vl_iconst (pc := 385) (v := nI 1) h (by decide) dL_reads_385 ?_
            refine vl_goto (pc := 386) (tgt := 390) h (by decide) dL_reads_386 ?_
            refine vl_istore (pc := 390) (lo2 := [(8, .int (nI 1)), (11, .int (nI k)), (10, .int (nI ((n / 12) % 1000))), (9, .int (nI (1 + 1))), (7, .int (nI v7)), (6, .int ((sA S).2.2.1)), (5, .int (nI (n % (nLi S)))), (4, .int (nI (nRd S))), (3, .int (nI (nLi S))), (0, .ref (G.2.1 + 0)), (1, .ref (K.2.1 + 0)), (2, .int (nI n))]) h (by decide) rfl dL_reads_390 ?_
            refine vl_iload (pc := 392) h 0 rfl dL_reads_392 ?_
            refine vl_if_eq_f (pc := 394) (tgt := 429) h (by decide) (by decide) dL_reads_394 ?_
            refine vl_aload_n (pc := 397) h 9 rfl rfl dL_reads_397 ?_
            refine vl_aload_n (pc := 398) h 10 rfl rfl dL_reads_398 ?_
            refine vl_iload (pc := 399) h 3 rfl dL_reads_399 ?_
            have g1 := pn_ge (j := 0) (Nat.zero_le _) (by omega) hm14
            have b1 := pn_b hm14
            rw [← m1] at g1 b1
            have g2 := pn_ge (j := 1) g1 (by omega) b1.2.1
            have b2 := pn_b b1.2.1
            rw [← m2] at g2 b2
            have hA : sA (poN S2 (1 + 1)) = sA S := by
              rw [show poN S2 (1 + 1) = poN S2 (1 + 1) from rfl, poN_A, hS2]
              refine (rem_s b1.2.1 (by omega) (by omega)).trans ?_
              rw [hS1]
              exact rem_0 hm14
            refine vl_k2 (pc := 401) (As := [.ref (G.2.1 + 0), .ref (K.2.1 + 0), .int (nI (1 + 1))]) (st := []) (r2 := nI 1) (u2 := 42) h hE hE2 hX lk_RL_302 (n_undoes x.2.1 hst G K h2 S2 (1 + 1) (by omega) b2.2.1) rfl rfl rfl (by decide) rfl (Nat.le_of_ble_eq_true rfl) (by decide) dL_reads_401 ?_
            refine vl_if_eq_f (pc := 404) (tgt := 429) h (by decide) (by decide) dL_reads_404 ?_
            refine vl_aload_n (pc := 407) h 9 rfl rfl dL_reads_407 ?_
            refine wVo (pc := 408) (As := []) (st := []) (r2 := nI (nRd S)) (u2 := 42) h2 h hE lk_RL_245 (kv_readers (S := (poN S2 (1 + 1)))) (congrArg (fun A : Ab => nI A.2.1) hA) rfl rfl (by decide) rfl (Nat.le_of_ble_eq_true rfl) (by decide) dL_reads_408 ?_
            refine vl_iload (pc := 411) h 7 rfl dL_reads_411 ?_
            refine vl_icmp_ne_f (pc := 413) (tgt := 429) h rfl (by decide) dL_reads_413 ?_
            refine vl_aload_n (pc := 416) h 9 rfl rfl dL_reads_416 ?_
            refine wVo (pc := 417) (As := []) (st := []) (r2 := (sA S).2.2.1) (u2 := 42) h2 h hE lk_RL_269 (kv_readings (S := (poN S2 (1 + 1)))) (congrArg (fun A : Ab => A.2.2.1) hA) rfl rfl (by decide) rfl (Nat.le_of_ble_eq_true rfl) (by decide) dL_reads_417 ?_
            refine vl_iload (pc := 420) h 5 rfl dL_reads_420 ?_
            refine vl_icmp_ne_f (pc := 422) (tgt := 429) h rfl (by decide) dL_reads_422 ?_
            refine vl_iconst (pc := 425) (v := nI 1) h (by decide) dL_reads_425 ?_
            refine vl_goto (pc := 426) (tgt := 430) h (by decide) dL_reads_426 ?_
            have e9 : rdT S n = (poN S2 (1 + 1)) := by
              unfold rdT
              rw [if_neg c14, e7]
              dsimp only
              rw [if_neg (fun q => by omega)]
              rw [hS2, hS1]
            rw [e9] at hret
            exact vl_wd (by decide) (hret 430 _ dL_reads_430)
          · skip
            rw [nI_leI (by omega) (by omega)] at c234
            refine vl_iload (pc := 237) h 3 rfl dL_reads_237 ?_
            refine vl_if_eq_f (pc := 239) (tgt := 345) h (by decide) (by decide) dL_reads_239 ?_
            refine vl_aload_n (pc := 242) h 9 rfl rfl dL_reads_242 ?_
            refine vl_bipush (pc := 243) (v := nI 17) h (by decide) dL_reads_243 ?_
            refine vl_iload (pc := 245) h 6 rfl dL_reads_245 ?_
            refine vl_iload (pc := 247) h 0 rfl dL_reads_247 ?_
            refine vl_iload (pc := 249) h 2 rfl dL_reads_249 ?_
            refine vl_iadd (pc := 251) (v := nI (k + (1 + 1))) h (nI_add _ _) dL_reads_251 ?_
            refine vl_iconst (pc := 252) (v := nI 2) h (by decide) dL_reads_252 ?_
            refine vl_isub (pc := 253) (v := nI (k + (1 + 1) - 2)) h (pk_sub (by omega)) dL_reads_253 ?_
            refine vl_iconst (pc := 254) (v := nI 0) h (by decide) dL_reads_254 ?_
            obtain ⟨v12, e12, hv12⟩ := ath_lt (M := (mS S (n % nLi S))) (v := (n / 12 % 1000)) (by omega) (by omega)
            have hpl : k + (1 + 1) - 2 = cS (mS S (n % nLi S)) (n / 12 % 1000) - 1 := by omega
            refine wSo (pc := 255) (As := [.ref (G.2.1 + 0), .int (nI 17), .int (nI (n % (nLi S))), .int (nI (k + (1 + 1) - 2)), .int (nI 0)]) (st := []) (r2 := nI v12) (u2 := 14) h2 h hE hX lk_RL_248 (kc_17 hst G S2 (nI (n % (nLi S))) (nI (k + (1 + 1) - 2)) (nI 0) (sc0 (li_s (S := S2) (i := n % nLi S) (by have := r2.1; omega) (by have := r2.1; omega)) (pl_t (by omega)))) ((at17 (r2.mS _) (by omega) (by omega)).trans (by rw [hpl, e12]; rfl)) rfl rfl (by decide) rfl (Nat.le_of_ble_eq_true rfl) (by decide) dL_reads_255 ?_
            refine vl_istore (pc := 258) (lo2 := [(12, .int (nI v12)), (11, .int (nI k)), (10, .int (nI ((n / 12) % 1000))), (9, .int (nI (1 + 1))), (8, .int (nI 1)), (7, .int (nI v7)), (6, .int ((sA S).2.2.1)), (5, .int (nI (n % (nLi S)))), (4, .int (nI (nRd S))), (3, .int (nI (nLi S))), (0, .ref (G.2.1 + 0)), (1, .ref (K.2.1 + 0)), (2, .int (nI n))]) h (by decide) rfl dL_reads_258 ?_
            refine vl_iload (pc := 260) h 0 rfl dL_reads_260 ?_
            refine vl_iload (pc := 262) h 2 rfl dL_reads_262 ?_
            refine vl_icmp_ge_f (pc := 264) (tgt := 339) h (by rw [nI_leI (by omega) (by omega)]; omega) (by decide) dL_reads_264 ?_
            refine vl_aload_n (pc := 267) h 10 rfl rfl dL_reads_267 ?_
            refine vl_bipush (pc := 268) (v := nI 13) h (by decide) dL_reads_268 ?_
            refine vl_iload (pc := 270) h 8 rfl dL_reads_270 ?_
            refine vl_iload (pc := 272) h 1 rfl dL_reads_272 ?_
            refine vl_iconst (pc := 274) (v := nI 0) h (by decide) dL_reads_274 ?_
            have hpk : 1 + k ≤ cS (mS S (n % nLi S)) 1000 := by
              obtain ⟨g1, g2, g3⟩ := ath_spec e11
              have g4 := cS_mono (mS S (n % nLi S)) (show w11 + 1 ≤ 1000 by omega)
              rw [cS, if_pos g2] at g4
              omega
            obtain ⟨S3, hS3⟩ : ∃ T, T = nK_13 S2 (nI (nRd S)) (nI k) (nI 0) := ⟨_, rfl⟩
            have r3 : RSt S S3 (n % nLi S) (1 + k) ((sA S).2.2.1 + nI 1) := by rw [hS3]; exact r2.k hR (by omega) hpk
            have m3 : sM S3 = pushN (sM S2) := by rw [hS3]; rfl
            refine wSo (pc := 275) (As := [.ref (G.2.1 + 0), .int (nI 13), .int (nI (nRd S)), .int (nI k), .int (nI 0)]) (st := []) (r2 := nI k) (u2 := 15) h2 h hE hX lk_RL_248 (KL.eqs rfl hS3.symm (kc_13 hst G S2 (nI (nRd S)) (nI k) (nI 0) (oc_107 (by have := r2.2.1; omega) (by have := r2.2.1; omega) (by omega) (by omega)))) (congrArg nI (r2.kv hR (by omega) hpk)) rfl rfl (by decide) rfl (Nat.le_of_ble_eq_true rfl) (by decide) dL_reads_275 ?_
            refine vl_iload (pc := 278) h 1 rfl dL_reads_278 ?_
            refine vl_icmp_ne_f (pc := 280) (tgt := 339) h rfl (by decide) dL_reads_280 ?_
            refine vl_aload_n (pc := 283) h 11 rfl rfl dL_reads_283 ?_
            refine vl_bipush (pc := 284) (v := nI 13) h (by decide) dL_reads_284 ?_
            refine vl_iload (pc := 286) h 8 rfl dL_reads_286 ?_
            refine vl_iload (pc := 288) h 1 rfl dL_reads_288 ?_
            refine vl_iconst (pc := 290) (v := nI 0) h (by decide) dL_reads_290 ?_
            refine wSq (pc := 291) (As := [.ref (K.2.1 + 0), .int (nI 13), .int (nI (nRd S)), .int (nI k), .int (nI 0)]) (st := []) (r2 := nI k) (u2 := 16) h2 h hE2 hX lk_RL_248 (KL.eqs rfl hS3.symm (kc_13 hst K S2 (nI (nRd S)) (nI k) (nI 0) (oc_107 (by have := r2.2.1; omega) (by have := r2.2.1; omega) (by omega) (by omega)))) (congrArg nI (r2.kv hR (by omega) hpk)) rfl rfl (by decide) rfl (Nat.le_of_ble_eq_true rfl) (by decide) dL_reads_291 ?_
            refine vl_iload (pc := 294) h 1 rfl dL_reads_294 ?_
            refine vl_icmp_ne_f (pc := 296) (tgt := 339) h rfl (by decide) dL_reads_296 ?_
            refine vl_aload_n (pc := 299) h 10 rfl rfl dL_reads_299 ?_
            refine vl_bipush (pc := 300) (v := nI 26) h (by decide) dL_reads_300 ?_
            refine vl_iload (pc := 302) h 8 rfl dL_reads_302 ?_
            refine vl_iconst (pc := 304) (v := nI 0) h (by decide) dL_reads_304 ?_
            refine vl_iconst (pc := 305) (v := nI 0) h (by decide) dL_reads_305 ?_
            refine wSo (pc := 306) (As := [.ref (G.2.1 + 0), .int (nI 26), .int (nI (nRd S)), .int (nI 0), .int (nI 0)]) (st := []) (r2 := nI w11) (u2 := 17) h2 h hE hX lk_RL_248 (kc_26 hst G S3 (nI (nRd S)) (nI 0) (nI 0) (cB_t (rd_s (S := S3) (i := nRd S) (by have := r3.2.1; omega) (by have := r3.2.1; omega)))) ((r3.nv hR).trans (by rw [show 1 + k = max (cS (mS S (n % nLi S)) (n / 12 % 1000)) 1 by omega, e11]; rfl)) rfl rfl (by decide) rfl (Nat.le_of_ble_eq_true rfl) (by decide) dL_reads_306 ?_
            refine vl_iload (pc := 309) h 2 rfl dL_reads_309 ?_
            refine vl_icmp_lt_f (pc := 311) (tgt := 339) h (by rw [nI_ltI (by omega) (by omega)]; have := ath_ge (v := (n / 12 % 1000)) e11 (by omega); omega) (by decide) dL_reads_311 ?_
            refine vl_aload_n (pc := 314) h 10 rfl rfl dL_reads_314 ?_
            refine wVo (pc := 315) (As := []) (st := []) (r2 := (sA S).2.2.1 + nI 1) (u2 := 17) h2 h hE lk_RL_269 (kv_readings (S := S3)) r3.2.2.1 rfl rfl (by decide) rfl (Nat.le_of_ble_eq_true rfl) (by decide) dL_reads_315 ?_
            refine vl_iload (pc := 318) h 6 rfl dL_reads_318 ?_
            refine vl_iload (pc := 320) h 5 rfl dL_reads_320 ?_
            refine vl_iconst (pc := 322) (v := (-1)) h (by decide) dL_reads_322 ?_
            refine vl_icmp_ne_t (pc := 323) (tgt := 330) h (nI_neg (by omega) (by decide)) (by decide) dL_reads_323 ?_
            refine vl_iconst (pc := 330) (v := nI 1) h (by decide) dL_reads_330 ?_
            refine vl_iadd (pc := 331) (v := (sA S).2.2.1 + nI 1) h rfl dL_reads_331 ?_
            refine vl_icmp_ne_f (pc := 332) (tgt := 339) h rfl (by decide) dL_reads_332 ?_
            refine vl_iconst (pc := 335) (v := nI 1) h (by decide) dL_reads_335 ?_
            refine vl_goto (pc := 336) (tgt := 340) h (by decide) dL_reads_336 ?_
            refine vl_istore (pc := 340) (lo2 := [(8, .int (nI 1)), (12, .int (nI v12)), (11, .int (nI k)), (10, .int (nI ((n / 12) % 1000))), (9, .int (nI (1 + 1))), (7, .int (nI v7)), (6, .int ((sA S).2.2.1)), (5, .int (nI (n % (nLi S)))), (4, .int (nI (nRd S))), (3, .int (nI (nLi S))), (0, .ref (G.2.1 + 0)), (1, .ref (K.2.1 + 0)), (2, .int (nI n))]) h (by decide) rfl dL_reads_340 ?_
            refine vl_iinc (pc := 342) (v := nI ((1 + 1) + 1)) (lo2 := [(9, .int (nI ((1 + 1) + 1))), (8, .int (nI 1)), (12, .int (nI v12)), (11, .int (nI k)), (10, .int (nI ((n / 12) % 1000))), (7, .int (nI v7)), (6, .int ((sA S).2.2.1)), (5, .int (nI (n % (nLi S)))), (4, .int (nI (nRd S))), (3, .int (nI (nLi S))), (0, .ref (G.2.1 + 0)), (1, .ref (K.2.1 + 0)), (2, .int (nI n))]) h 4 rfl (iinc1 _) (by decide) rfl dL_reads_342 ?_
            refine vl_iload (pc := 345) h 1 rfl dL_reads_345 ?_
            refine vl_if_eq_f (pc := 347) (tgt := 389) h (by decide) (by decide) dL_reads_347 ?_
            refine vl_iload (pc := 350) h 3 rfl dL_reads_350 ?_
            refine vl_iconst (pc := 352) (v := (-1)) h (by decide) dL_reads_352 ?_
            refine vl_icmp_ne_t (pc := 353) (tgt := 385) h (nI_neg (by omega) (by decide)) (by decide) dL_reads_353 ?_
            refine vl_iconst (pc := 385) (v := nI 1) h (by decide) dL_reads_385 ?_
            refine vl_goto (pc := 386) (tgt := 390) h (by decide) dL_reads_386 ?_
            refine vl_istore (pc := 390) (lo2 := [(8, .int (nI 1)), (9, .int (nI ((1 + 1) + 1))), (12, .int (nI v12)), (11, .int (nI k)), (10, .int (nI ((n / 12) % 1000))), (7, .int (nI v7)), (6, .int ((sA S).2.2.1)), (5, .int (nI (n % (nLi S)))), (4, .int (nI (nRd S))), (3, .int (nI (nLi S))), (0, .ref (G.2.1 + 0)), (1, .ref (K.2.1 + 0)), (2, .int (nI n))]) h (by decide) rfl dL_reads_390 ?_
            refine vl_iload (pc := 392) h 0 rfl dL_reads_392 ?_
            refine vl_if_eq_f (pc := 394) (tgt := 429) h (by decide) (by decide) dL_reads_394 ?_
            refine vl_aload_n (pc := 397) h 10 rfl rfl dL_reads_397 ?_
            refine vl_aload_n (pc := 398) h 11 rfl rfl dL_reads_398 ?_
            refine vl_iload (pc := 399) h 1 rfl dL_reads_399 ?_
            have g1 := pn_ge (j := 0) (Nat.zero_le _) (by omega) hm14
            have b1 := pn_b hm14
            rw [← m1] at g1 b1
            have g2 := pn_ge (j := 1) g1 (by omega) b1.2.1
            have b2 := pn_b b1.2.1
            rw [← m2] at g2 b2
            have g3 := pn_ge (j := 2) g2 (by omega) b2.2.1
            have b3 := pn_b b2.2.1
            rw [← m3] at g3 b3
            have hA : sA (poN S3 ((1 + 1) + 1)) = sA S := by
              rw [poN_A, hS3]
              refine (rem_s (k := 1) b2.2.1 (by omega) (by omega)).trans ?_
              rw [hS2]
              refine (rem_s (k := 0) b1.2.1 (by omega) (by omega)).trans ?_
              rw [hS1]
              exact rem_0 hm14
            refine vl_k2 (pc := 401) (As := [.ref (G.2.1 + 0), .ref (K.2.1 + 0), .int (nI ((1 + 1) + 1))]) (st := []) (r2 := nI 1) (u2 := 47) h hE hE2 hX lk_RL_302 (n_undoes x.2.1 hst G K h2 S3 ((1 + 1) + 1) (by omega) b3.2.1) rfl rfl rfl (by decide) rfl (Nat.le_of_ble_eq_true rfl) (by decide) dL_reads_401 ?_
            refine vl_if_eq_f (pc := 404) (tgt := 429) h (by decide) (by decide) dL_reads_404 ?_
            refine vl_aload_n (pc := 407) h 10 rfl rfl dL_reads_407 ?_
            refine wVo (pc := 408) (As := []) (st := []) (r2 := nI (nRd S)) (u2 := 47) h2 h hE lk_RL_245 (kv_readers (S := (poN S3 ((1 + 1) + 1)))) (congrArg (fun A : Ab => nI A.2.1) hA) rfl rfl (by decide) rfl (Nat.le_of_ble_eq_true rfl) (by decide) dL_reads_408 ?_
            refine vl_iload (pc := 411) h 8 rfl dL_reads_411 ?_
            refine vl_icmp_ne_f (pc := 413) (tgt := 429) h rfl (by decide) dL_reads_413 ?_
            refine vl_aload_n (pc := 416) h 10 rfl rfl dL_reads_416 ?_
            refine wVo (pc := 417) (As := []) (st := []) (r2 := (sA S).2.2.1) (u2 := 47) h2 h hE lk_RL_269 (kv_readings (S := (poN S3 ((1 + 1) + 1)))) (congrArg (fun A : Ab => A.2.2.1) hA) rfl rfl (by decide) rfl (Nat.le_of_ble_eq_true rfl) (by decide) dL_reads_417 ?_
            refine vl_iload (pc := 420) h 6 rfl dL_reads_420 ?_
            refine vl_icmp_ne_f (pc := 422) (tgt := 429) h rfl (by decide) dL_reads_422 ?_
            refine vl_iconst (pc := 425) (v := nI 1) h (by decide) dL_reads_425 ?_
            refine vl_goto (pc := 426) (tgt := 430) h (by decide) dL_reads_426 ?_
            have e9 : rdT S n = (poN S3 ((1 + 1) + 1)) := by
              unfold rdT
              rw [if_neg c14, e7]
              dsimp only
              rw [if_pos ⟨by rw [e11]; rfl, by omega, by omega⟩]
              rw [hS3, hS2, hS1, hk]
            rw [e9] at hret
            exact vl_wd (by decide) (hret 430 _ dL_reads_430)
  · skip
    rw [nI_eq (by omega) (by omega)] at c14
    have hiN := Nat.mod_lt n (show 0 < nLi S by omega)
    have hrr : roomR (sA S) = false := decide_eq_false (by show ¬ nRd S < 4; omega)
    refine vl_aload_n (pc := 17) h 2 rfl rfl dL_reads_17 ?_
    refine vl_bipush (pc := 18) (v := nI 11) h (by decide) dL_reads_18 ?_
    refine vl_iload_n (pc := 20) h 4 rfl rfl dL_reads_20 ?_
    refine vl_iload_n (pc := 21) h 1 rfl rfl dL_reads_21 ?_
    refine vl_irem (pc := 22) (v := nI (n % (nLi S))) h (nI_ne0 (by omega) (by omega)) (pk_rem (by omega) (by omega) (by omega)) dL_reads_22 ?_
    refine vl_iconst (pc := 23) (v := nI 0) h (by decide) dL_reads_23 ?_
    refine vl_iconst (pc := 24) (v := nI 0) h (by decide) dL_reads_24 ?_
    refine wSo (pc := 25) (As := [.ref (G.2.1 + 0), .int (nI 11), .int (nI (n % (nLi S))), .int (nI 0), .int (nI 0)]) (st := []) (r2 := (-9999003)) (u2 := 1) h2 h hE hX lk_RL_248 (kb_11 hst G S (nI (n % (nLi S))) (nI 0) (nI 0) (c0 := 3) (by show fst3 (liB _ _) _ (roomR _) = _; rw [li_s (S := S) (i := n % nLi S) hiN hN, hrr]; rfl) (by decide)) rfl rfl rfl (by decide) rfl (Nat.le_of_ble_eq_true rfl) (by decide) dL_reads_25 ?_
    refine vl_ldc (pc := 28) (v := (-9999003)) h mw_4_4 dL_reads_28 ?_
    refine vl_icmp_ne_f (pc := 30) (tgt := 37) h rfl (by decide) dL_reads_30 ?_
    refine vl_iconst (pc := 33) (v := nI 1) h (by decide) dL_reads_33 ?_
    refine vl_goto (pc := 34) (tgt := 38) h (by decide) dL_reads_34 ?_
    have e9 : rdT S n = S := by
      unfold rdT
      exact if_pos c14
    rw [e9] at hret
    exact vl_wd (by decide) (hret 38 _ dL_reads_38)

