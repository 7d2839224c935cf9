/-! THE LAW: its cases, on -/
set_option maxRecDepth 100000 in
set_option maxHeartbeats 1600000 in
theorem law_c34 {x : Cx} {G : Gl} {Q : State → Prop} {b L : Nat} {xs : Nat → Int32} (LAh : LA x G b L xs) (j : Nat) (hj : 4 * j + 4 ≤ L) (σ : Sg) (n : Nat) (tx : Nat → Nat) (A : Ab) (m : Nat) (H : Nat → Ab) (sv : Nat → Bool) (sl : Nat → Ab) (hC : InvC n tx A m H sv sl σ) (hM : InvM n tx A m H sv sl σ) (kk : NX x G Q b j) : V x G 7 (144 + 2 * j) (18188 + 12 * j) Q σ 2009 [(0, .ref b), (1, .ref (G.2.1 + 0)), (2, .ref (G.2.1 + 134)), (3, .ref (G.2.1 + 143)), (4, .int (nI (4 * j)))] [] := by
  obtain ⟨h, hX, hst, hS0, hbl, hbA, hL⟩ := LAh
  refine r_aload_n (pc := 2009) h 1 rfl rfl dL_law_2009 ?_
  refine r_aload_n (pc := 2010) h 0 rfl rfl dL_law_2010 ?_
  refine r_iload (pc := 2011) h 4 rfl dL_law_2011 ?_
  refine r_iconst (pc := 2013) (v := nI 1) h (by decide) dL_law_2013 ?_
  refine r_iadd (pc := 2014) (v := nI (4 * j + 1)) h (nI_add _ _) dL_law_2014 ?_
  refine r_sld (pc := 2015) (j := 4 * j + 1) h hS0 hbl hbA rfl (by omega) (by omega) dL_law_2015 ?_
  refine r_aload_n (pc := 2016) h 3 rfl rfl dL_law_2016 ?_
  refine r_LS (pc := 2017) (n := 3) (As := [.ref (G.2.1 + 0), .int (xs (4 * j + 1)), .ref (G.2.1 + 143)]) (st := []) h hX ⟨mw_38_18, mw_4_9, mw_38_20, ⟨by decide +kernel, by decide +kernel⟩, by decide +kernel, mw_38_19⟩ (l_firstOfPairByWalking x.2.1 hst G σ n tx A m H sv sl hC (xs (4 * j + 1))) rfl rfl (by decide) (by first | decide | exact Nat.le_of_ble_eq_true rfl) ⟨(by show 144 + 2 * j + 1 ≤ 601024; omega), (by show 18188 + 12 * j + 6 ≤ 7293034; omega)⟩ dL_law_2017 (fun r1 s1 q1 => ?_)
  obtain ⟨e1, hk, hI0, hI1⟩ := q1
  refine r_istore (pc := 2020) (lo2 := [(5, .int r1), (0, .ref b), (1, .ref (G.2.1 + 0)), (2, .ref (G.2.1 + 134)), (3, .ref (G.2.1 + 143)), (4, .int (nI (4 * j)))]) h (by decide) rfl dL_law_2020 ?_
  refine r_aload_n (pc := 2022) h 3 rfl rfl dL_law_2022 ?_
  refine r_aload_n (pc := 2023) h 1 rfl rfl dL_law_2023 ?_
  refine r_iload (pc := 2024) h 5 rfl dL_law_2024 ?_
  refine r_iconst (pc := 2026) (v := nI 1) h (by decide) dL_law_2026 ?_
  refine r_iadd (pc := 2027) (v := nI (4 * j + 1)) h (nI_add _ _) dL_law_2027 ?_
  refine r_sld (pc := 2028) (j := 4 * j + 1) h hS0 hbl hbA rfl (by omega) (by omega) dL_law_2028 ?_
  refine r_cVi (pc := 2029) (As := [.int (xs (4 * j + 1))]) (st := []) h lk_RL_252 (c_m_firstOfPairByWalking x.2.1 G s1 n tx A m H sv sl (keepM hM hk) (xs (4 * j + 1))) rc_6 (by decide) rfl rfl (by first | decide | exact Nat.le_of_ble_eq_true rfl) ⟨(by show 144 + 2 * j + 1 + 0 ≤ 601024; omega), (by show 18188 + 12 * j + 6 + 0 ≤ 7293034; omega)⟩ dL_law_2029 (fun r2 s2 q2 => ?_)
  obtain ⟨g1, g2, g3, g4⟩ := q2
  refine r_istore (pc := 2032) (lo2 := [(6, .int r2), (5, .int r1), (0, .ref b), (1, .ref (G.2.1 + 0)), (2, .ref (G.2.1 + 134)), (3, .ref (G.2.1 + 143)), (4, .int (nI (4 * j)))]) h (by decide) rfl dL_law_2032 ?_
  refine r_aload_n (pc := 2034) h 4 rfl rfl dL_law_2034 ?_
  refine r_cVi (pc := 2035) (As := []) (st := []) h lk_RL_139 (c_thrown x.2.1 G s2) rc_6 (by decide) rfl rfl (by first | decide | exact Nat.le_of_ble_eq_true rfl) ⟨(by show 144 + 2 * j + 1 + 0 + 0 ≤ 601024; omega), (by show 18188 + 12 * j + 6 + 0 + 0 ≤ 7293034; omega)⟩ dL_law_2035 (fun r3 s3 q3 => ?_)
  rw [q3.1, q3.2, g1]
  refine r_iload (pc := 2038) h 1 rfl dL_law_2038 ?_
  refine r_icmp_eq (pc := 2040) (tgt := 2045) h (by decide) dL_law_2040 (fun _ => ?_) (fun c9 => absurd e1.symm c9)
  refine r_iload (pc := 2045) h 1 rfl dL_law_2045 ?_
  refine r_if_ne (pc := 2047) (tgt := 2062) h (by decide) dL_law_2047 (fun c9 => ?_) (fun c9 => ?_)
  · have hC0 : cB (inB (nI 0) (nI 99999) (xs (4 * j + 1))) 2 ≠ 0 := fun q => c9 (by rw [e1, q, kq_0]; rfl)
    refine r_goto (pc := 2062) (tgt := 2550) h (by decide) dL_law_2062 ?_
    exact V.wd (by show 144 + 2 * j + 1 + 0 + 0 ≤ 144 + 2 * (j + 1); omega) (by show 18188 + 12 * j + 6 + 0 + 0 ≤ 18188 + 12 * (j + 1); omega) (r_sub [2, 3, 4, 5, 6] rfl (kk _ _ _ _ _ _ _ _ ((hI0 hC0).o g2 (Or.inl (by decide))) (g3 hC0)))
  · have hC0 : cB (inB (nI 0) (nI 99999) (xs (4 * j + 1))) 2 = 0 := (kq_z (by decide)).mp (e1.symm.trans c9)
    have ho := (g2.l 143 0 (by omega)).trans (hI1 hC0).1
    have hr := (g4 hC0).1
    refine r_aload_n (pc := 2050) h 5 rfl rfl dL_law_2050 ?_
    refine r_iconst (pc := 2051) (v := nI 0) h (by decide) dL_law_2051 ?_
    refine r_lald (pc := 2052) h a_out 0 rfl (by decide) dL_law_2052 ?_
    refine r_iload (pc := 2053) h 0 rfl dL_law_2053 ?_
    refine r_i2l (pc := 2055) (v := r2.toInt64) h rfl dL_law_2055 ?_
    refine r_lcmp (pc := 2056) (v := lg_cmp (s2.2 143 0) r2.toInt64) h rfl dL_law_2056 ?_
    refine r_if_eq (pc := 2057) (tgt := 2062) h (by decide) dL_law_2057 (fun _ => ?_) (fun c7 => absurd (lg_self _ (ho.trans (by rw [hr]))) c7)
    refine r_goto (pc := 2062) (tgt := 2550) h (by decide) dL_law_2062 ?_
    exact V.wd (by show 144 + 2 * j + 1 + 0 + 0 ≤ 144 + 2 * (j + 1); omega) (by show 18188 + 12 * j + 6 + 0 + 0 ≤ 18188 + 12 * (j + 1); omega) (r_sub [2, 3, 4, 5, 6] rfl (kk _ _ _ _ _ _ _ _ ((hI1 hC0).2.o g2 (Or.inl (by decide))) ((g4 hC0).2)))

set_option maxRecDepth 100000 in
set_option maxHeartbeats 1600000 in
theorem law_c35 {x : Cx} {G : Gl} {Q : State → Prop} {b L : Nat} {xs : Nat → Int32} (LAh : LA x G b L xs) (j : Nat) (hj : 4 * j + 4 ≤ L) (σ : Sg) (n : Nat) (tx : Nat → Nat) (A : Ab) (m : Nat) (H : Nat → Ab) (sv : Nat → Bool) (sl : Nat → Ab) (hC : InvC n tx A m H sv sl σ) (hM : InvM n tx A m H sv sl σ) (kk : NX x G Q b j) : V x G 7 (144 + 2 * j) (18188 + 12 * j) Q σ 2065 [(0, .ref b), (1, .ref (G.2.1 + 0)), (2, .ref (G.2.1 + 134)), (3, .ref (G.2.1 + 143)), (4, .int (nI (4 * j)))] [] := by
  obtain ⟨h, hX, hst, hS0, hbl, hbA, hL⟩ := LAh
  refine r_aload_n (pc := 2065) h 1 rfl rfl dL_law_2065 ?_
  refine r_aload_n (pc := 2066) h 0 rfl rfl dL_law_2066 ?_
  refine r_iload (pc := 2067) h 4 rfl dL_law_2067 ?_
  refine r_iconst (pc := 2069) (v := nI 1) h (by decide) dL_law_2069 ?_
  refine r_iadd (pc := 2070) (v := nI (4 * j + 1)) h (nI_add _ _) dL_law_2070 ?_
  refine r_sld (pc := 2071) (j := 4 * j + 1) h hS0 hbl hbA rfl (by omega) (by omega) dL_law_2071 ?_
  refine r_aload_n (pc := 2072) h 3 rfl rfl dL_law_2072 ?_
  refine r_LS (pc := 2073) (n := 3) (As := [.ref (G.2.1 + 0), .int (xs (4 * j + 1)), .ref (G.2.1 + 143)]) (st := []) h hX ⟨mw_39_11, mw_4_9, mw_39_13, ⟨by decide +kernel, by decide +kernel⟩, by decide +kernel, mw_39_12⟩ (l_firstOfPairByCounting x.2.1 hst G σ n tx A m H sv sl hC (xs (4 * j + 1))) rfl rfl (by decide) (by first | decide | exact Nat.le_of_ble_eq_true rfl) ⟨(by show 144 + 2 * j + 1 ≤ 601024; omega), (by show 18188 + 12 * j + 6 ≤ 7293034; omega)⟩ dL_law_2073 (fun r1 s1 q1 => ?_)
  obtain ⟨e1, hk, hI0, hI1⟩ := q1
  refine r_istore (pc := 2076) (lo2 := [(5, .int r1), (0, .ref b), (1, .ref (G.2.1 + 0)), (2, .ref (G.2.1 + 134)), (3, .ref (G.2.1 + 143)), (4, .int (nI (4 * j)))]) h (by decide) rfl dL_law_2076 ?_
  refine r_aload_n (pc := 2078) h 3 rfl rfl dL_law_2078 ?_
  refine r_aload_n (pc := 2079) h 1 rfl rfl dL_law_2079 ?_
  refine r_iload (pc := 2080) h 5 rfl dL_law_2080 ?_
  refine r_iconst (pc := 2082) (v := nI 1) h (by decide) dL_law_2082 ?_
  refine r_iadd (pc := 2083) (v := nI (4 * j + 1)) h (nI_add _ _) dL_law_2083 ?_
  refine r_sld (pc := 2084) (j := 4 * j + 1) h hS0 hbl hbA rfl (by omega) (by omega) dL_law_2084 ?_
  refine r_cVi (pc := 2085) (As := [.int (xs (4 * j + 1))]) (st := []) h lk_RL_255 (c_m_firstOfPairByCounting x.2.1 G s1 n tx A m H sv sl (keepM hM hk) (xs (4 * j + 1))) rc_6 (by decide) rfl rfl (by first | decide | exact Nat.le_of_ble_eq_true rfl) ⟨(by show 144 + 2 * j + 1 + 0 ≤ 601024; omega), (by show 18188 + 12 * j + 6 + 0 ≤ 7293034; omega)⟩ dL_law_2085 (fun r2 s2 q2 => ?_)
  obtain ⟨g1, g2, g3, g4⟩ := q2
  refine r_istore (pc := 2088) (lo2 := [(6, .int r2), (5, .int r1), (0, .ref b), (1, .ref (G.2.1 + 0)), (2, .ref (G.2.1 + 134)), (3, .ref (G.2.1 + 143)), (4, .int (nI (4 * j)))]) h (by decide) rfl dL_law_2088 ?_
  refine r_aload_n (pc := 2090) h 4 rfl rfl dL_law_2090 ?_
  refine r_cVi (pc := 2091) (As := []) (st := []) h lk_RL_139 (c_thrown x.2.1 G s2) rc_6 (by decide) rfl rfl (by first | decide | exact Nat.le_of_ble_eq_true rfl) ⟨(by show 144 + 2 * j + 1 + 0 + 0 ≤ 601024; omega), (by show 18188 + 12 * j + 6 + 0 + 0 ≤ 7293034; omega)⟩ dL_law_2091 (fun r3 s3 q3 => ?_)
  rw [q3.1, q3.2, g1]
  refine r_iload (pc := 2094) h 1 rfl dL_law_2094 ?_
  refine r_icmp_eq (pc := 2096) (tgt := 2101) h (by decide) dL_law_2096 (fun _ => ?_) (fun c9 => absurd e1.symm c9)
  refine r_iload (pc := 2101) h 1 rfl dL_law_2101 ?_
  refine r_if_ne (pc := 2103) (tgt := 2118) h (by decide) dL_law_2103 (fun c9 => ?_) (fun c9 => ?_)
  · have hC0 : cB (inB (nI 0) (nI 99999) (xs (4 * j + 1))) 2 ≠ 0 := fun q => c9 (by rw [e1, q, kq_0]; rfl)
    refine r_goto (pc := 2118) (tgt := 2550) h (by decide) dL_law_2118 ?_
    exact V.wd (by show 144 + 2 * j + 1 + 0 + 0 ≤ 144 + 2 * (j + 1); omega) (by show 18188 + 12 * j + 6 + 0 + 0 ≤ 18188 + 12 * (j + 1); omega) (r_sub [2, 3, 4, 5, 6] rfl (kk _ _ _ _ _ _ _ _ ((hI0 hC0).o g2 (Or.inl (by decide))) (g3 hC0)))
  · have hC0 : cB (inB (nI 0) (nI 99999) (xs (4 * j + 1))) 2 = 0 := (kq_z (by decide)).mp (e1.symm.trans c9)
    have ho := (g2.l 143 0 (by omega)).trans (hI1 hC0).1
    have hr := (g4 hC0).1
    refine r_aload_n (pc := 2106) h 5 rfl rfl dL_law_2106 ?_
    refine r_iconst (pc := 2107) (v := nI 0) h (by decide) dL_law_2107 ?_
    refine r_lald (pc := 2108) h a_out 0 rfl (by decide) dL_law_2108 ?_
    refine r_iload (pc := 2109) h 0 rfl dL_law_2109 ?_
    refine r_i2l (pc := 2111) (v := r2.toInt64) h rfl dL_law_2111 ?_
    refine r_lcmp (pc := 2112) (v := lg_cmp (s2.2 143 0) r2.toInt64) h rfl dL_law_2112 ?_
    refine r_if_eq (pc := 2113) (tgt := 2118) h (by decide) dL_law_2113 (fun _ => ?_) (fun c7 => absurd (lg_self _ (ho.trans (by rw [hr]))) c7)
    refine r_goto (pc := 2118) (tgt := 2550) h (by decide) dL_law_2118 ?_
    exact V.wd (by show 144 + 2 * j + 1 + 0 + 0 ≤ 144 + 2 * (j + 1); omega) (by show 18188 + 12 * j + 6 + 0 + 0 ≤ 18188 + 12 * (j + 1); omega) (r_sub [2, 3, 4, 5, 6] rfl (kk _ _ _ _ _ _ _ _ ((hI1 hC0).2.o g2 (Or.inl (by decide))) ((g4 hC0).2)))

set_option maxRecDepth 100000 in
set_option maxHeartbeats 1600000 in
theorem law_c36 {x : Cx} {G : Gl} {Q : State → Prop} {b L : Nat} {xs : Nat → Int32} (LAh : LA x G b L xs) (j : Nat) (hj : 4 * j + 4 ≤ L) (σ : Sg) (n : Nat) (tx : Nat → Nat) (A : Ab) (m : Nat) (H : Nat → Ab) (sv : Nat → Bool) (sl : Nat → Ab) (hC : InvC n tx A m H sv sl σ) (hM : InvM n tx A m H sv sl σ) (kk : NX x G Q b j) : V x G 7 (144 + 2 * j) (18188 + 12 * j) Q σ 2121 [(0, .ref b), (1, .ref (G.2.1 + 0)), (2, .ref (G.2.1 + 134)), (3, .ref (G.2.1 + 143)), (4, .int (nI (4 * j)))] [] := by
  obtain ⟨h, hX, hst, hS0, hbl, hbA, hL⟩ := LAh
  refine r_aload_n (pc := 2121) h 1 rfl rfl dL_law_2121 ?_
  refine r_aload_n (pc := 2122) h 0 rfl rfl dL_law_2122 ?_
  refine r_iload (pc := 2123) h 4 rfl dL_law_2123 ?_
  refine r_iconst (pc := 2125) (v := nI 1) h (by decide) dL_law_2125 ?_
  refine r_iadd (pc := 2126) (v := nI (4 * j + 1)) h (nI_add _ _) dL_law_2126 ?_
  refine r_sld (pc := 2127) (j := 4 * j + 1) h hS0 hbl hbA rfl (by omega) (by omega) dL_law_2127 ?_
  refine r_aload_n (pc := 2128) h 0 rfl rfl dL_law_2128 ?_
  refine r_iload (pc := 2129) h 4 rfl dL_law_2129 ?_
  refine r_iconst (pc := 2131) (v := nI 2) h (by decide) dL_law_2131 ?_
  refine r_iadd (pc := 2132) (v := nI (4 * j + 2)) h (nI_add _ _) dL_law_2132 ?_
  refine r_sld (pc := 2133) (j := 4 * j + 2) h hS0 hbl hbA rfl (by omega) (by omega) dL_law_2133 ?_
  refine r_aload_n (pc := 2134) h 3 rfl rfl dL_law_2134 ?_
  refine r_LS (pc := 2135) (n := 4) (As := [.ref (G.2.1 + 0), .int (xs (4 * j + 1)), .int (xs (4 * j + 2)), .ref (G.2.1 + 143)]) (st := []) h hX ⟨mw_40_1, mw_4_9, mw_40_3, ⟨by decide +kernel, by decide +kernel⟩, by decide +kernel, mw_40_2⟩ (l_numberOfPair x.2.1 hst G σ n tx A m H sv sl hC (xs (4 * j + 1)) (xs (4 * j + 2))) rfl rfl (by decide) (by first | decide | exact Nat.le_of_ble_eq_true rfl) ⟨(by show 144 + 2 * j + 2 ≤ 601024; omega), (by show 18188 + 12 * j + 12 ≤ 7293034; omega)⟩ dL_law_2135 (fun r1 s1 q1 => ?_)
  obtain ⟨e1, hk, hI0, hI1⟩ := q1
  refine r_istore (pc := 2138) (lo2 := [(5, .int r1), (0, .ref b), (1, .ref (G.2.1 + 0)), (2, .ref (G.2.1 + 134)), (3, .ref (G.2.1 + 143)), (4, .int (nI (4 * j)))]) h (by decide) rfl dL_law_2138 ?_
  refine r_aload_n (pc := 2140) h 3 rfl rfl dL_law_2140 ?_
  refine r_aload_n (pc := 2141) h 1 rfl rfl dL_law_2141 ?_
  refine r_iload (pc := 2142) h 5 rfl dL_law_2142 ?_
  refine r_iconst (pc := 2144) (v := nI 1) h (by decide) dL_law_2144 ?_
  refine r_iadd (pc := 2145) (v := nI (4 * j + 1)) h (nI_add _ _) dL_law_2145 ?_
  refine r_sld (pc := 2146) (j := 4 * j + 1) h hS0 hbl hbA rfl (by omega) (by omega) dL_law_2146 ?_
  refine r_aload_n (pc := 2147) h 1 rfl rfl dL_law_2147 ?_
  refine r_iload (pc := 2148) h 5 rfl dL_law_2148 ?_
  refine r_iconst (pc := 2150) (v := nI 2) h (by decide) dL_law_2150 ?_
  refine r_iadd (pc := 2151) (v := nI (4 * j + 2)) h (nI_add _ _) dL_law_2151 ?_
  refine r_sld (pc := 2152) (j := 4 * j + 2) h hS0 hbl hbA rfl (by omega) (by omega) dL_law_2152 ?_
  refine r_cVi (pc := 2153) (As := [.int (xs (4 * j + 1)), .int (xs (4 * j + 2))]) (st := []) h lk_RL_258 (c_m_numberOfPair x.2.1 G s1 n tx A m H sv sl (keepM hM hk) (xs (4 * j + 1)) (xs (4 * j + 2))) rc_6 (by decide) rfl rfl (by first | decide | exact Nat.le_of_ble_eq_true rfl) ⟨(by show 144 + 2 * j + 2 + 0 ≤ 601024; omega), (by show 18188 + 12 * j + 12 + 0 ≤ 7293034; omega)⟩ dL_law_2153 (fun r2 s2 q2 => ?_)
  obtain ⟨g1, g2, g3, g4⟩ := q2
  refine r_istore (pc := 2156) (lo2 := [(6, .int r2), (5, .int r1), (0, .ref b), (1, .ref (G.2.1 + 0)), (2, .ref (G.2.1 + 134)), (3, .ref (G.2.1 + 143)), (4, .int (nI (4 * j)))]) h (by decide) rfl dL_law_2156 ?_
  refine r_aload_n (pc := 2158) h 4 rfl rfl dL_law_2158 ?_
  refine r_cVi (pc := 2159) (As := []) (st := []) h lk_RL_139 (c_thrown x.2.1 G s2) rc_6 (by decide) rfl rfl (by first | decide | exact Nat.le_of_ble_eq_true rfl) ⟨(by show 144 + 2 * j + 2 + 0 + 0 ≤ 601024; omega), (by show 18188 + 12 * j + 12 + 0 + 0 ≤ 7293034; omega)⟩ dL_law_2159 (fun r3 s3 q3 => ?_)
  rw [q3.1, q3.2, g1]
  refine r_iload (pc := 2162) h 1 rfl dL_law_2162 ?_
  refine r_icmp_eq (pc := 2164) (tgt := 2169) h (by decide) dL_law_2164 (fun _ => ?_) (fun c9 => absurd e1.symm c9)
  refine r_iload (pc := 2169) h 1 rfl dL_law_2169 ?_
  refine r_if_ne (pc := 2171) (tgt := 2186) h (by decide) dL_law_2171 (fun c9 => ?_) (fun c9 => ?_)
  · have hC0 : seqC (cB (inB (nI 0) (nI 200) (xs (4 * j + 1))) 2) (cB (inB (nI 0) (nI 200) (xs (4 * j + 2))) 2) ≠ 0 := fun q => c9 (by rw [e1, q, kq_0]; rfl)
    refine r_goto (pc := 2186) (tgt := 2550) h (by decide) dL_law_2186 ?_
    exact V.wd (by show 144 + 2 * j + 2 + 0 + 0 ≤ 144 + 2 * (j + 1); omega) (by show 18188 + 12 * j + 12 + 0 + 0 ≤ 18188 + 12 * (j + 1); omega) (r_sub [2, 3, 4, 5, 6] rfl (kk _ _ _ _ _ _ _ _ ((hI0 hC0).o g2 (Or.inl (by decide))) (g3 hC0)))
  · have hC0 : seqC (cB (inB (nI 0) (nI 200) (xs (4 * j + 1))) 2) (cB (inB (nI 0) (nI 200) (xs (4 * j + 2))) 2) = 0 := (kq_z (by decide)).mp (e1.symm.trans c9)
    have ho := (g2.l 143 0 (by omega)).trans (hI1 hC0).1
    have hr := (g4 hC0).1
    refine r_aload_n (pc := 2174) h 5 rfl rfl dL_law_2174 ?_
    refine r_iconst (pc := 2175) (v := nI 0) h (by decide) dL_law_2175 ?_
    refine r_lald (pc := 2176) h a_out 0 rfl (by decide) dL_law_2176 ?_
    refine r_iload (pc := 2177) h 0 rfl dL_law_2177 ?_
    refine r_i2l (pc := 2179) (v := r2.toInt64) h rfl dL_law_2179 ?_
    refine r_lcmp (pc := 2180) (v := lg_cmp (s2.2 143 0) r2.toInt64) h rfl dL_law_2180 ?_
    refine r_if_eq (pc := 2181) (tgt := 2186) h (by decide) dL_law_2181 (fun _ => ?_) (fun c7 => absurd (lg_self _ (ho.trans (by rw [hr]))) c7)
    refine r_goto (pc := 2186) (tgt := 2550) h (by decide) dL_law_2186 ?_
    exact V.wd (by show 144 + 2 * j + 2 + 0 + 0 ≤ 144 + 2 * (j + 1); omega) (by show 18188 + 12 * j + 12 + 0 + 0 ≤ 18188 + 12 * (j + 1); omega) (r_sub [2, 3, 4, 5, 6] rfl (kk _ _ _ _ _ _ _ _ ((hI1 hC0).2.o g2 (Or.inl (by decide))) ((g4 hC0).2)))

set_option maxRecDepth 100000 in
set_option maxHeartbeats 1600000 in
theorem law_c37 {x : Cx} {G : Gl} {Q : State → Prop} {b L : Nat} {xs : Nat → Int32} (LAh : LA x G b L xs) (j : Nat) (hj : 4 * j + 4 ≤ L) (σ : Sg) (n : Nat) (tx : Nat → Nat) (A : Ab) (m : Nat) (H : Nat → Ab) (sv : Nat → Bool) (sl : Nat → Ab) (hC : InvC n tx A m H sv sl σ) (hM : InvM n tx A m H sv sl σ) (kk : NX x G Q b j) : V x G 7 (144 + 2 * j) (18188 + 12 * j) Q σ 2189 [(0, .ref b), (1, .ref (G.2.1 + 0)), (2, .ref (G.2.1 + 134)), (3, .ref (G.2.1 + 143)), (4, .int (nI (4 * j)))] [] := by
  obtain ⟨h, hX, hst, hS0, hbl, hbA, hL⟩ := LAh
  refine r_aload_n (pc := 2189) h 1 rfl rfl dL_law_2189 ?_
  refine r_cVi (pc := 2190) (As := []) (st := []) h lk_RL_259 (c_x_whyNoDrop x.2.1 G σ A hC.2.1) rc_5 (by decide) rfl rfl (by first | decide | exact Nat.le_of_ble_eq_true rfl) ⟨(by show 144 + 2 * j + 0 ≤ 601024; omega), (by show 18188 + 12 * j + 0 ≤ 7293034; omega)⟩ dL_law_2190 (fun r1 s1 q1 => ?_)
  obtain ⟨e1, e2⟩ := q1
  have k1 : ∀ q, 134 ≤ q → q < 143 → s1.1 q = σ.1 q := fun q _ _ => by rw [e2]
  have k2 : InvC n tx A m H sv sl s1 := by rw [e2]; exact hC
  refine r_aload_n (pc := 2193) h 2 rfl rfl dL_law_2193 ?_
  refine r_cVi (pc := 2194) (As := []) (st := [.int r1]) h lk_RL_262 (c_m_whyNoDrop x.2.1 G s1 n tx A m H sv sl (keepM hM k1)) rc_6 (by decide) rfl rfl (by first | decide | exact Nat.le_of_ble_eq_true rfl) ⟨(by show 144 + 2 * j + 0 + 0 ≤ 601024; omega), (by show 18188 + 12 * j + 0 + 0 ≤ 7293034; omega)⟩ dL_law_2194 (fun r2 s2 q2 => ?_)
  obtain ⟨g1, g2, g3⟩ := q2
  refine r_icmp_eq (pc := 2197) (tgt := 2550) h (by decide) dL_law_2197 (fun _ => ?_) (fun c9 => absurd (e1.trans g1.symm) c9)
  exact V.wd (by show 144 + 2 * j + 0 + 0 ≤ 144 + 2 * (j + 1); omega) (by show 18188 + 12 * j + 0 + 0 ≤ 18188 + 12 * (j + 1); omega) (r_sub [0, 1, 2, 3, 4] rfl (kk _ _ _ _ _ _ _ _ (k2.o g3 (Or.inl (by decide))) g2))

set_option maxRecDepth 100000 in
set_option maxHeartbeats 1600000 in
theorem law_c38 {x : Cx} {G : Gl} {Q : State → Prop} {b L : Nat} {xs : Nat → Int32} (LAh : LA x G b L xs) (j : Nat) (hj : 4 * j + 4 ≤ L) (σ : Sg) (n : Nat) (tx : Nat → Nat) (A : Ab) (m : Nat) (H : Nat → Ab) (sv : Nat → Bool) (sl : Nat → Ab) (hC : InvC n tx A m H sv sl σ) (hM : InvM n tx A m H sv sl σ) (kk : NX x G Q b j) : V x G 7 (144 + 2 * j) (18188 + 12 * j) Q σ 2202 [(0, .ref b), (1, .ref (G.2.1 + 0)), (2, .ref (G.2.1 + 134)), (3, .ref (G.2.1 + 143)), (4, .int (nI (4 * j)))] [] := by
  obtain ⟨h, hX, hst, hS0, hbl, hbA, hL⟩ := LAh
  refine r_aload_n (pc := 2202) h 1 rfl rfl dL_law_2202 ?_
  refine r_aload_n (pc := 2203) h 0 rfl rfl dL_law_2203 ?_
  refine r_iload (pc := 2204) h 4 rfl dL_law_2204 ?_
  refine r_iconst (pc := 2206) (v := nI 1) h (by decide) dL_law_2206 ?_
  refine r_iadd (pc := 2207) (v := nI (4 * j + 1)) h (nI_add _ _) dL_law_2207 ?_
  refine r_sld (pc := 2208) (j := 4 * j + 1) h hS0 hbl hbA rfl (by omega) (by omega) dL_law_2208 ?_
  refine r_aload_n (pc := 2209) h 0 rfl rfl dL_law_2209 ?_
  refine r_iload (pc := 2210) h 4 rfl dL_law_2210 ?_
  refine r_iconst (pc := 2212) (v := nI 2) h (by decide) dL_law_2212 ?_
  refine r_iadd (pc := 2213) (v := nI (4 * j + 2)) h (nI_add _ _) dL_law_2213 ?_
  refine r_sld (pc := 2214) (j := 4 * j + 2) h hS0 hbl hbA rfl (by omega) (by omega) dL_law_2214 ?_
  refine r_aload_n (pc := 2215) h 3 rfl rfl dL_law_2215 ?_
  refine r_LS (pc := 2216) (n := 4) (As := [.ref (G.2.1 + 0), .int (xs (4 * j + 1)), .int (xs (4 * j + 2)), .ref (G.2.1 + 143)]) (st := []) h hX ⟨mw_40_22, mw_4_9, mw_41_0, ⟨by decide +kernel, by decide +kernel⟩, by decide +kernel, mw_40_23⟩ (l_membersIfJoined x.2.1 hst G σ n tx A m H sv sl hC (xs (4 * j + 1)) (xs (4 * j + 2))) rfl rfl (by decide) (by first | decide | exact Nat.le_of_ble_eq_true rfl) ⟨(by show 144 + 2 * j + 2 ≤ 601024; omega), (by show 18188 + 12 * j + 12 ≤ 7293034; omega)⟩ dL_law_2216 (fun r1 s1 q1 => ?_)
  obtain ⟨e1, hk, hI0, hI1⟩ := q1
  refine r_istore (pc := 2219) (lo2 := [(5, .int r1), (0, .ref b), (1, .ref (G.2.1 + 0)), (2, .ref (G.2.1 + 134)), (3, .ref (G.2.1 + 143)), (4, .int (nI (4 * j)))]) h (by decide) rfl dL_law_2219 ?_
  refine r_aload_n (pc := 2221) h 3 rfl rfl dL_law_2221 ?_
  refine r_aload_n (pc := 2222) h 1 rfl rfl dL_law_2222 ?_
  refine r_iload (pc := 2223) h 5 rfl dL_law_2223 ?_
  refine r_iconst (pc := 2225) (v := nI 1) h (by decide) dL_law_2225 ?_
  refine r_iadd (pc := 2226) (v := nI (4 * j + 1)) h (nI_add _ _) dL_law_2226 ?_
  refine r_sld (pc := 2227) (j := 4 * j + 1) h hS0 hbl hbA rfl (by omega) (by omega) dL_law_2227 ?_
  refine r_aload_n (pc := 2228) h 1 rfl rfl dL_law_2228 ?_
  refine r_iload (pc := 2229) h 5 rfl dL_law_2229 ?_
  refine r_iconst (pc := 2231) (v := nI 2) h (by decide) dL_law_2231 ?_
  refine r_iadd (pc := 2232) (v := nI (4 * j + 2)) h (nI_add _ _) dL_law_2232 ?_
  refine r_sld (pc := 2233) (j := 4 * j + 2) h hS0 hbl hbA rfl (by omega) (by omega) dL_law_2233 ?_
  refine r_cVi (pc := 2234) (As := [.int (xs (4 * j + 1)), .int (xs (4 * j + 2))]) (st := []) h lk_RL_265 (c_m_membersIfJoined x.2.1 G s1 n tx A m H sv sl (keepM hM hk) (xs (4 * j + 1)) (xs (4 * j + 2))) rc_6 (by decide) rfl rfl (by first | decide | exact Nat.le_of_ble_eq_true rfl) ⟨(by show 144 + 2 * j + 2 + 0 ≤ 601024; omega), (by show 18188 + 12 * j + 12 + 0 ≤ 7293034; omega)⟩ dL_law_2234 (fun r2 s2 q2 => ?_)
  obtain ⟨g1, g2, g3, g4⟩ := q2
  refine r_istore (pc := 2237) (lo2 := [(6, .int r2), (5, .int r1), (0, .ref b), (1, .ref (G.2.1 + 0)), (2, .ref (G.2.1 + 134)), (3, .ref (G.2.1 + 143)), (4, .int (nI (4 * j)))]) h (by decide) rfl dL_law_2237 ?_
  refine r_aload_n (pc := 2239) h 4 rfl rfl dL_law_2239 ?_
  refine r_cVi (pc := 2240) (As := []) (st := []) h lk_RL_139 (c_thrown x.2.1 G s2) rc_6 (by decide) rfl rfl (by first | decide | exact Nat.le_of_ble_eq_true rfl) ⟨(by show 144 + 2 * j + 2 + 0 + 0 ≤ 601024; omega), (by show 18188 + 12 * j + 12 + 0 + 0 ≤ 7293034; omega)⟩ dL_law_2240 (fun r3 s3 q3 => ?_)
  rw [q3.1, q3.2, g1]
  refine r_iload (pc := 2243) h 1 rfl dL_law_2243 ?_
  refine r_icmp_eq (pc := 2245) (tgt := 2250) h (by decide) dL_law_2245 (fun _ => ?_) (fun c9 => absurd e1.symm c9)
  refine r_iload (pc := 2250) h 1 rfl dL_law_2250 ?_
  refine r_if_ne (pc := 2252) (tgt := 2267) h (by decide) dL_law_2252 (fun c9 => ?_) (fun c9 => ?_)
  · have hC0 : seqC (cB (liB A (xs (4 * j + 1))) 1) (cB (liB A (xs (4 * j + 2))) 1) ≠ 0 := fun q => c9 (by rw [e1, q, kq_0]; rfl)
    refine r_goto (pc := 2267) (tgt := 2550) h (by decide) dL_law_2267 ?_
    exact V.wd (by show 144 + 2 * j + 2 + 0 + 0 ≤ 144 + 2 * (j + 1); omega) (by show 18188 + 12 * j + 12 + 0 + 0 ≤ 18188 + 12 * (j + 1); omega) (r_sub [2, 3, 4, 5, 6] rfl (kk _ _ _ _ _ _ _ _ ((hI0 hC0).o g2 (Or.inl (by decide))) (g3 hC0)))
  · have hC0 : seqC (cB (liB A (xs (4 * j + 1))) 1) (cB (liB A (xs (4 * j + 2))) 1) = 0 := (kq_z (by decide)).mp (e1.symm.trans c9)
    have ho := (g2.l 143 0 (by omega)).trans (hI1 hC0).1
    have hr := (g4 hC0).1
    refine r_aload_n (pc := 2255) h 5 rfl rfl dL_law_2255 ?_
    refine r_iconst (pc := 2256) (v := nI 0) h (by decide) dL_law_2256 ?_
    refine r_lald (pc := 2257) h a_out 0 rfl (by decide) dL_law_2257 ?_
    refine r_iload (pc := 2258) h 0 rfl dL_law_2258 ?_
    refine r_i2l (pc := 2260) (v := r2.toInt64) h rfl dL_law_2260 ?_
    refine r_lcmp (pc := 2261) (v := lg_cmp (s2.2 143 0) r2.toInt64) h rfl dL_law_2261 ?_
    refine r_if_eq (pc := 2262) (tgt := 2267) h (by decide) dL_law_2262 (fun _ => ?_) (fun c7 => absurd (lg_self _ (ho.trans (by rw [hr]))) c7)
    refine r_goto (pc := 2267) (tgt := 2550) h (by decide) dL_law_2267 ?_
    exact V.wd (by show 144 + 2 * j + 2 + 0 + 0 ≤ 144 + 2 * (j + 1); omega) (by show 18188 + 12 * j + 12 + 0 + 0 ≤ 18188 + 12 * (j + 1); omega) (r_sub [2, 3, 4, 5, 6] rfl (kk _ _ _ _ _ _ _ _ ((hI1 hC0).2.o g2 (Or.inl (by decide))) ((g4 hC0).2)))

set_option maxRecDepth 100000 in
set_option maxHeartbeats 1600000 in
theorem law_c39 {x : Cx} {G : Gl} {Q : State → Prop} {b L : Nat} {xs : Nat → Int32} (LAh : LA x G b L xs) (j : Nat) (hj : 4 * j + 4 ≤ L) (σ : Sg) (n : Nat) (tx : Nat → Nat) (A : Ab) (m : Nat) (H : Nat → Ab) (sv : Nat → Bool) (sl : Nat → Ab) (hC : InvC n tx A m H sv sl σ) (hM : InvM n tx A m H sv sl σ) (kk : NX x G Q b j) : V x G 7 (144 + 2 * j) (18188 + 12 * j) Q σ 2270 [(0, .ref b), (1, .ref (G.2.1 + 0)), (2, .ref (G.2.1 + 134)), (3, .ref (G.2.1 + 143)), (4, .int (nI (4 * j)))] [] := by
  obtain ⟨h, hX, hst, hS0, hbl, hbA, hL⟩ := LAh
  refine r_aload_n (pc := 2270) h 1 rfl rfl dL_law_2270 ?_
  refine r_aload_n (pc := 2271) h 0 rfl rfl dL_law_2271 ?_
  refine r_iload (pc := 2272) h 4 rfl dL_law_2272 ?_
  refine r_iconst (pc := 2274) (v := nI 1) h (by decide) dL_law_2274 ?_
  refine r_iadd (pc := 2275) (v := nI (4 * j + 1)) h (nI_add _ _) dL_law_2275 ?_
  refine r_sld (pc := 2276) (j := 4 * j + 1) h hS0 hbl hbA rfl (by omega) (by omega) dL_law_2276 ?_
  refine r_aload_n (pc := 2277) h 0 rfl rfl dL_law_2277 ?_
  refine r_iload (pc := 2278) h 4 rfl dL_law_2278 ?_
  refine r_iconst (pc := 2280) (v := nI 2) h (by decide) dL_law_2280 ?_
  refine r_iadd (pc := 2281) (v := nI (4 * j + 2)) h (nI_add _ _) dL_law_2281 ?_
  refine r_sld (pc := 2282) (j := 4 * j + 2) h hS0 hbl hbA rfl (by omega) (by omega) dL_law_2282 ?_
  refine r_aload_n (pc := 2283) h 3 rfl rfl dL_law_2283 ?_
  refine r_LS (pc := 2284) (n := 4) (As := [.ref (G.2.1 + 0), .int (xs (4 * j + 1)), .int (xs (4 * j + 2)), .ref (G.2.1 + 143)]) (st := []) h hX ⟨mw_41_13, mw_4_9, mw_41_15, ⟨by decide +kernel, by decide +kernel⟩, by decide +kernel, mw_41_14⟩ (l_skipsTo x.2.1 hst G σ n tx A m H sv sl hC (xs (4 * j + 1)) (xs (4 * j + 2))) rfl rfl (by decide) (by first | decide | exact Nat.le_of_ble_eq_true rfl) ⟨(by show 144 + 2 * j + 2 ≤ 601024; omega), (by show 18188 + 12 * j + 12 ≤ 7293034; omega)⟩ dL_law_2284 (fun r1 s1 q1 => ?_)
  obtain ⟨e1, hk, hI0, hI1⟩ := q1
  refine r_istore (pc := 2287) (lo2 := [(5, .int r1), (0, .ref b), (1, .ref (G.2.1 + 0)), (2, .ref (G.2.1 + 134)), (3, .ref (G.2.1 + 143)), (4, .int (nI (4 * j)))]) h (by decide) rfl dL_law_2287 ?_
  refine r_aload_n (pc := 2289) h 3 rfl rfl dL_law_2289 ?_
  refine r_aload_n (pc := 2290) h 1 rfl rfl dL_law_2290 ?_
  refine r_iload (pc := 2291) h 5 rfl dL_law_2291 ?_
  refine r_iconst (pc := 2293) (v := nI 1) h (by decide) dL_law_2293 ?_
  refine r_iadd (pc := 2294) (v := nI (4 * j + 1)) h (nI_add _ _) dL_law_2294 ?_
  refine r_sld (pc := 2295) (j := 4 * j + 1) h hS0 hbl hbA rfl (by omega) (by omega) dL_law_2295 ?_
  refine r_aload_n (pc := 2296) h 1 rfl rfl dL_law_2296 ?_
  refine r_iload (pc := 2297) h 5 rfl dL_law_2297 ?_
  refine r_iconst (pc := 2299) (v := nI 2) h (by decide) dL_law_2299 ?_
  refine r_iadd (pc := 2300) (v := nI (4 * j + 2)) h (nI_add _ _) dL_law_2300 ?_
  refine r_sld (pc := 2301) (j := 4 * j + 2) h hS0 hbl hbA rfl (by omega) (by omega) dL_law_2301 ?_
  refine r_cVi (pc := 2302) (As := [.int (xs (4 * j + 1)), .int (xs (4 * j + 2))]) (st := []) h lk_RL_268 (c_m_skipsTo x.2.1 G s1 n tx A m H sv sl (keepM hM hk) (xs (4 * j + 1)) (xs (4 * j + 2))) rc_6 (by decide) rfl rfl (by first | decide | exact Nat.le_of_ble_eq_true rfl) ⟨(by show 144 + 2 * j + 2 + 0 ≤ 601024; omega), (by show 18188 + 12 * j + 12 + 0 ≤ 7293034; omega)⟩ dL_law_2302 (fun r2 s2 q2 => ?_)
  obtain ⟨g1, g2, g3, g4⟩ := q2
  refine r_istore (pc := 2305) (lo2 := [(6, .int r2), (5, .int r1), (0, .ref b), (1, .ref (G.2.1 + 0)), (2, .ref (G.2.1 + 134)), (3, .ref (G.2.1 + 143)), (4, .int (nI (4 * j)))]) h (by decide) rfl dL_law_2305 ?_
  refine r_aload_n (pc := 2307) h 4 rfl rfl dL_law_2307 ?_
  refine r_cVi (pc := 2308) (As := []) (st := []) h lk_RL_139 (c_thrown x.2.1 G s2) rc_6 (by decide) rfl rfl (by first | decide | exact Nat.le_of_ble_eq_true rfl) ⟨(by show 144 + 2 * j + 2 + 0 + 0 ≤ 601024; omega), (by show 18188 + 12 * j + 12 + 0 + 0 ≤ 7293034; omega)⟩ dL_law_2308 (fun r3 s3 q3 => ?_)
  rw [q3.1, q3.2, g1]
  refine r_iload (pc := 2311) h 1 rfl dL_law_2311 ?_
  refine r_icmp_eq (pc := 2313) (tgt := 2318) h (by decide) dL_law_2313 (fun _ => ?_) (fun c9 => absurd e1.symm c9)
  refine r_iload (pc := 2318) h 1 rfl dL_law_2318 ?_
  refine r_if_ne (pc := 2320) (tgt := 2335) h (by decide) dL_law_2320 (fun c9 => ?_) (fun c9 => ?_)
  · have hC0 : seqC (cB (rdB A (xs (4 * j + 1))) 1) (cB (inB (nI 0) (nI 999) (xs (4 * j + 2))) 2) ≠ 0 := fun q => c9 (by rw [e1, q, kq_0]; rfl)
    refine r_goto (pc := 2335) (tgt := 2550) h (by decide) dL_law_2335 ?_
    exact V.wd (by show 144 + 2 * j + 2 + 0 + 0 ≤ 144 + 2 * (j + 1); omega) (by show 18188 + 12 * j + 12 + 0 + 0 ≤ 18188 + 12 * (j + 1); omega) (r_sub [2, 3, 4, 5, 6] rfl (kk _ _ _ _ _ _ _ _ ((hI0 hC0).o g2 (Or.inl (by decide))) (g3 hC0)))
  · have hC0 : seqC (cB (rdB A (xs (4 * j + 1))) 1) (cB (inB (nI 0) (nI 999) (xs (4 * j + 2))) 2) = 0 := (kq_z (by decide)).mp (e1.symm.trans c9)
    have ho := (g2.l 143 0 (by omega)).trans (hI1 hC0).1
    have hr := (g4 hC0).1
    refine r_aload_n (pc := 2323) h 5 rfl rfl dL_law_2323 ?_
    refine r_iconst (pc := 2324) (v := nI 0) h (by decide) dL_law_2324 ?_
    refine r_lald (pc := 2325) h a_out 0 rfl (by decide) dL_law_2325 ?_
    refine r_iload (pc := 2326) h 0 rfl dL_law_2326 ?_
    refine r_i2l (pc := 2328) (v := r2.toInt64) h rfl dL_law_2328 ?_
    refine r_lcmp (pc := 2329) (v := lg_cmp (s2.2 143 0) r2.toInt64) h rfl dL_law_2329 ?_
    refine r_if_eq (pc := 2330) (tgt := 2335) h (by decide) dL_law_2330 (fun _ => ?_) (fun c7 => absurd (lg_self _ (ho.trans (by rw [hr]))) c7)
    refine r_goto (pc := 2335) (tgt := 2550) h (by decide) dL_law_2335 ?_
    exact V.wd (by show 144 + 2 * j + 2 + 0 + 0 ≤ 144 + 2 * (j + 1); omega) (by show 18188 + 12 * j + 12 + 0 + 0 ≤ 18188 + 12 * (j + 1); omega) (r_sub [2, 3, 4, 5, 6] rfl (kk _ _ _ _ _ _ _ _ ((hI1 hC0).2.o g2 (Or.inl (by decide))) ((g4 hC0).2)))

set_option maxRecDepth 100000 in
set_option maxHeartbeats 1600000 in
theorem law_c40 {x : Cx} {G : Gl} {Q : State → Prop} {b L : Nat} {xs : Nat → Int32} (LAh : LA x G b L xs) (j : Nat) (hj : 4 * j + 4 ≤ L) (σ : Sg) (n : Nat) (tx : Nat → Nat) (A : Ab) (m : Nat) (H : Nat → Ab) (sv : Nat → Bool) (sl : Nat → Ab) (hC : InvC n tx A m H sv sl σ) (hM : InvM n tx A m H sv sl σ) (kk : NX x G Q b j) : V x G 7 (144 + 2 * j) (18188 + 12 * j) Q σ 2338 [(0, .ref b), (1, .ref (G.2.1 + 0)), (2, .ref (G.2.1 + 134)), (3, .ref (G.2.1 + 143)), (4, .int (nI (4 * j)))] [] := by
  obtain ⟨h, hX, hst, hS0, hbl, hbA, hL⟩ := LAh
  refine r_aload_n (pc := 2338) h 1 rfl rfl dL_law_2338 ?_
  refine r_aload_n (pc := 2339) h 0 rfl rfl dL_law_2339 ?_
  refine r_iload (pc := 2340) h 4 rfl dL_law_2340 ?_
  refine r_iconst (pc := 2342) (v := nI 1) h (by decide) dL_law_2342 ?_
  refine r_iadd (pc := 2343) (v := nI (4 * j + 1)) h (nI_add _ _) dL_law_2343 ?_
  refine r_sld (pc := 2344) (j := 4 * j + 1) h hS0 hbl hbA rfl (by omega) (by omega) dL_law_2344 ?_
  refine r_i2l (pc := 2345) (v := (xs (4 * j + 1)).toInt64) h rfl dL_law_2345 ?_
  refine r_bipush (pc := 2346) (v := nI 32) h (by decide) dL_law_2346 ?_
  refine r_lshl (pc := 2348) (v := ((xs (4 * j + 1)).toInt64) <<< ((nI 32).toInt64 &&& 63)) h rfl dL_law_2348 ?_
  refine r_aload_n (pc := 2349) h 0 rfl rfl dL_law_2349 ?_
  refine r_iload (pc := 2350) h 4 rfl dL_law_2350 ?_
  refine r_iconst (pc := 2352) (v := nI 2) h (by decide) dL_law_2352 ?_
  refine r_iadd (pc := 2353) (v := nI (4 * j + 2)) h (nI_add _ _) dL_law_2353 ?_
  refine r_sld (pc := 2354) (j := 4 * j + 2) h hS0 hbl hbA rfl (by omega) (by omega) dL_law_2354 ?_
  refine r_i2l (pc := 2355) (v := (xs (4 * j + 2)).toInt64) h rfl dL_law_2355 ?_
  refine r_ldc2 (pc := 2356) (v := 4294967295) h mw_1_7 dL_law_2356 ?_
  refine r_land (pc := 2359) (v := ((xs (4 * j + 2)).toInt64) &&& 4294967295) h rfl dL_law_2359 ?_
  refine r_lor (pc := 2360) (v := (((xs (4 * j + 1)).toInt64) <<< ((nI 32).toInt64 &&& 63)) ||| (((xs (4 * j + 2)).toInt64) &&& 4294967295)) h rfl dL_law_2360 ?_
  refine r_aload_n (pc := 2361) h 0 rfl rfl dL_law_2361 ?_
  refine r_iload (pc := 2362) h 4 rfl dL_law_2362 ?_
  refine r_iconst (pc := 2364) (v := nI 3) h (by decide) dL_law_2364 ?_
  refine r_iadd (pc := 2365) (v := nI (4 * j + 3)) h (nI_add _ _) dL_law_2365 ?_
  refine r_sld (pc := 2366) (j := 4 * j + 3) h hS0 hbl hbA rfl (by omega) (by omega) dL_law_2366 ?_
  refine r_aload_n (pc := 2367) h 3 rfl rfl dL_law_2367 ?_
  refine r_LS (pc := 2368) (n := 4) (As := [.ref (G.2.1 + 0), .long ((((xs (4 * j + 1)).toInt64) <<< ((nI 32).toInt64 &&& 63)) ||| (((xs (4 * j + 2)).toInt64) &&& 4294967295)), .int (xs (4 * j + 3)), .ref (G.2.1 + 143)]) (st := []) h hX ⟨mw_42_4, mw_4_9, mw_42_6, ⟨by decide +kernel, by decide +kernel⟩, by decide +kernel, mw_42_5⟩ (l_simulate x.2.1 hst G σ n tx A m H sv sl hC ((((xs (4 * j + 1)).toInt64) <<< ((nI 32).toInt64 &&& 63)) ||| (((xs (4 * j + 2)).toInt64) &&& 4294967295)) (xs (4 * j + 3))) rfl rfl (by decide) (by first | decide | exact Nat.le_of_ble_eq_true rfl) ⟨(by show 144 + 2 * j + 1 ≤ 601024; omega), (by show 18188 + 12 * j + 6 ≤ 7293034; omega)⟩ dL_law_2368 (fun r1 s1 q1 => ?_)
  obtain ⟨e1, hk, hI0, hI1⟩ := q1
  refine r_istore (pc := 2371) (lo2 := [(5, .int r1), (0, .ref b), (1, .ref (G.2.1 + 0)), (2, .ref (G.2.1 + 134)), (3, .ref (G.2.1 + 143)), (4, .int (nI (4 * j)))]) h (by decide) rfl dL_law_2371 ?_
  refine r_aload_n (pc := 2373) h 3 rfl rfl dL_law_2373 ?_
  refine r_aload_n (pc := 2374) h 1 rfl rfl dL_law_2374 ?_
  refine r_iload (pc := 2375) h 5 rfl dL_law_2375 ?_
  refine r_iconst (pc := 2377) (v := nI 1) h (by decide) dL_law_2377 ?_
  refine r_iadd (pc := 2378) (v := nI (4 * j + 1)) h (nI_add _ _) dL_law_2378 ?_
  refine r_sld (pc := 2379) (j := 4 * j + 1) h hS0 hbl hbA rfl (by omega) (by omega) dL_law_2379 ?_
  refine r_i2l (pc := 2380) (v := (xs (4 * j + 1)).toInt64) h rfl dL_law_2380 ?_
  refine r_bipush (pc := 2381) (v := nI 32) h (by decide) dL_law_2381 ?_
  refine r_lshl (pc := 2383) (v := ((xs (4 * j + 1)).toInt64) <<< ((nI 32).toInt64 &&& 63)) h rfl dL_law_2383 ?_
  refine r_aload_n (pc := 2384) h 1 rfl rfl dL_law_2384 ?_
  refine r_iload (pc := 2385) h 5 rfl dL_law_2385 ?_
  refine r_iconst (pc := 2387) (v := nI 2) h (by decide) dL_law_2387 ?_
  refine r_iadd (pc := 2388) (v := nI (4 * j + 2)) h (nI_add _ _) dL_law_2388 ?_
  refine r_sld (pc := 2389) (j := 4 * j + 2) h hS0 hbl hbA rfl (by omega) (by omega) dL_law_2389 ?_
  refine r_i2l (pc := 2390) (v := (xs (4 * j + 2)).toInt64) h rfl dL_law_2390 ?_
  refine r_ldc2 (pc := 2391) (v := 4294967295) h mw_1_7 dL_law_2391 ?_
  refine r_land (pc := 2394) (v := ((xs (4 * j + 2)).toInt64) &&& 4294967295) h rfl dL_law_2394 ?_
  refine r_lor (pc := 2395) (v := (((xs (4 * j + 1)).toInt64) <<< ((nI 32).toInt64 &&& 63)) ||| (((xs (4 * j + 2)).toInt64) &&& 4294967295)) h rfl dL_law_2395 ?_
  refine r_aload_n (pc := 2396) h 1 rfl rfl dL_law_2396 ?_
  refine r_iload (pc := 2397) h 5 rfl dL_law_2397 ?_
  refine r_iconst (pc := 2399) (v := nI 3) h (by decide) dL_law_2399 ?_
  refine r_iadd (pc := 2400) (v := nI (4 * j + 3)) h (nI_add _ _) dL_law_2400 ?_
  refine r_sld (pc := 2401) (j := 4 * j + 3) h hS0 hbl hbA rfl (by omega) (by omega) dL_law_2401 ?_
  refine r_cVi (pc := 2402) (As := [.long ((((xs (4 * j + 1)).toInt64) <<< ((nI 32).toInt64 &&& 63)) ||| (((xs (4 * j + 2)).toInt64) &&& 4294967295)), .int (xs (4 * j + 3))]) (st := []) h lk_RL_274 (c_m_simulate x.2.1 G s1 n tx A m H sv sl (keepM hM hk) ((((xs (4 * j + 1)).toInt64) <<< ((nI 32).toInt64 &&& 63)) ||| (((xs (4 * j + 2)).toInt64) &&& 4294967295)) (xs (4 * j + 3))) rc_6 (by decide) rfl rfl (by first | decide | exact Nat.le_of_ble_eq_true rfl) ⟨(by show 144 + 2 * j + 1 + 0 ≤ 601024; omega), (by show 18188 + 12 * j + 6 + 0 ≤ 7293034; omega)⟩ dL_law_2402 (fun r2 s2 q2 => ?_)
  obtain ⟨g1, g2, g3, g4⟩ := q2
  refine r_istore (pc := 2405) (lo2 := [(6, .int r2), (5, .int r1), (0, .ref b), (1, .ref (G.2.1 + 0)), (2, .ref (G.2.1 + 134)), (3, .ref (G.2.1 + 143)), (4, .int (nI (4 * j)))]) h (by decide) rfl dL_law_2405 ?_
  refine r_aload_n (pc := 2407) h 4 rfl rfl dL_law_2407 ?_
  refine r_cVi (pc := 2408) (As := []) (st := []) h lk_RL_139 (c_thrown x.2.1 G s2) rc_6 (by decide) rfl rfl (by first | decide | exact Nat.le_of_ble_eq_true rfl) ⟨(by show 144 + 2 * j + 1 + 0 + 0 ≤ 601024; omega), (by show 18188 + 12 * j + 6 + 0 + 0 ≤ 7293034; omega)⟩ dL_law_2408 (fun r3 s3 q3 => ?_)
  rw [q3.1, q3.2, g1]
  refine r_iload (pc := 2411) h 1 rfl dL_law_2411 ?_
  refine r_icmp_eq (pc := 2413) (tgt := 2418) h (by decide) dL_law_2413 (fun _ => ?_) (fun c9 => absurd e1.symm c9)
  refine r_iload (pc := 2418) h 1 rfl dL_law_2418 ?_
  refine r_if_ne (pc := 2420) (tgt := 2435) h (by decide) dL_law_2420 (fun c9 => ?_) (fun c9 => ?_)
  · have hC0 : cB (inB (nI 1) (nI 60) (xs (4 * j + 3))) 2 ≠ 0 := fun q => c9 (by rw [e1, q, kq_0]; rfl)
    refine r_goto (pc := 2435) (tgt := 2550) h (by decide) dL_law_2435 ?_
    exact V.wd (by show 144 + 2 * j + 1 + 0 + 0 ≤ 144 + 2 * (j + 1); omega) (by show 18188 + 12 * j + 6 + 0 + 0 ≤ 18188 + 12 * (j + 1); omega) (r_sub [2, 3, 4, 5, 6] rfl (kk _ _ _ _ _ _ _ _ ((hI0 hC0).o g2 (Or.inl (by decide))) (g3 hC0)))
  · have hC0 : cB (inB (nI 1) (nI 60) (xs (4 * j + 3))) 2 = 0 := (kq_z (by decide)).mp (e1.symm.trans c9)
    have ho := (g2.l 143 0 (by omega)).trans (hI1 hC0).1
    have hr := (g4 hC0).1
    refine r_aload_n (pc := 2423) h 5 rfl rfl dL_law_2423 ?_
    refine r_iconst (pc := 2424) (v := nI 0) h (by decide) dL_law_2424 ?_
    refine r_lald (pc := 2425) h a_out 0 rfl (by decide) dL_law_2425 ?_
    refine r_iload (pc := 2426) h 0 rfl dL_law_2426 ?_
    refine r_i2l (pc := 2428) (v := r2.toInt64) h rfl dL_law_2428 ?_
    refine r_lcmp (pc := 2429) (v := lg_cmp (s2.2 143 0) r2.toInt64) h rfl dL_law_2429 ?_
    refine r_if_eq (pc := 2430) (tgt := 2435) h (by decide) dL_law_2430 (fun _ => ?_) (fun c7 => absurd (lg_self _ (ho.trans (by rw [hr]))) c7)
    refine r_goto (pc := 2435) (tgt := 2550) h (by decide) dL_law_2435 ?_
    exact V.wd (by show 144 + 2 * j + 1 + 0 + 0 ≤ 144 + 2 * (j + 1); omega) (by show 18188 + 12 * j + 6 + 0 + 0 ≤ 18188 + 12 * (j + 1); omega) (r_sub [2, 3, 4, 5, 6] rfl (kk _ _ _ _ _ _ _ _ ((hI1 hC0).2.o g2 (Or.inl (by decide))) ((g4 hC0).2)))

set_option maxRecDepth 100000 in
set_option maxHeartbeats 1600000 in
theorem law_c41 {x : Cx} {G : Gl} {Q : State → Prop} {b L : Nat} {xs : Nat → Int32} (LAh : LA x G b L xs) (j : Nat) (hj : 4 * j + 4 ≤ L) (σ : Sg) (n : Nat) (tx : Nat → Nat) (A : Ab) (m : Nat) (H : Nat → Ab) (sv : Nat → Bool) (sl : Nat → Ab) (hC : InvC n tx A m H sv sl σ) (hM : InvM n tx A m H sv sl σ) (kk : NX x G Q b j) : V x G 7 (144 + 2 * j) (18188 + 12 * j) Q σ 2438 [(0, .ref b), (1, .ref (G.2.1 + 0)), (2, .ref (G.2.1 + 134)), (3, .ref (G.2.1 + 143)), (4, .int (nI (4 * j)))] [] := by
  obtain ⟨h, hX, hst, hS0, hbl, hbA, hL⟩ := LAh
  refine r_aload_n (pc := 2438) h 1 rfl rfl dL_law_2438 ?_
  refine r_aload_n (pc := 2439) h 0 rfl rfl dL_law_2439 ?_
  refine r_iload (pc := 2440) h 4 rfl dL_law_2440 ?_
  refine r_iconst (pc := 2442) (v := nI 1) h (by decide) dL_law_2442 ?_
  refine r_iadd (pc := 2443) (v := nI (4 * j + 1)) h (nI_add _ _) dL_law_2443 ?_
  refine r_sld (pc := 2444) (j := 4 * j + 1) h hS0 hbl hbA rfl (by omega) (by omega) dL_law_2444 ?_
  refine r_aload_n (pc := 2445) h 3 rfl rfl dL_law_2445 ?_
  refine r_LS (pc := 2446) (n := 3) (As := [.ref (G.2.1 + 0), .int (xs (4 * j + 1)), .ref (G.2.1 + 143)]) (st := []) h hX ⟨mw_43_9, mw_4_9, mw_43_11, ⟨by decide +kernel, by decide +kernel⟩, by decide +kernel, mw_43_10⟩ (l_save x.2.1 hst G σ n tx A m H sv sl hC (xs (4 * j + 1))) rfl rfl (by decide) (by first | decide | exact Nat.le_of_ble_eq_true rfl) ⟨(by show 144 + 2 * j + 1 ≤ 601024; omega), (by show 18188 + 12 * j + 6 ≤ 7293034; omega)⟩ dL_law_2446 (fun r1 s1 q1 => ?_)
  obtain ⟨e1, hk, hI0, hI1⟩ := q1
  refine r_istore (pc := 2449) (lo2 := [(5, .int r1), (0, .ref b), (1, .ref (G.2.1 + 0)), (2, .ref (G.2.1 + 134)), (3, .ref (G.2.1 + 143)), (4, .int (nI (4 * j)))]) h (by decide) rfl dL_law_2449 ?_
  refine r_aload_n (pc := 2451) h 3 rfl rfl dL_law_2451 ?_
  refine r_aload_n (pc := 2452) h 1 rfl rfl dL_law_2452 ?_
  refine r_iload (pc := 2453) h 5 rfl dL_law_2453 ?_
  refine r_iconst (pc := 2455) (v := nI 1) h (by decide) dL_law_2455 ?_
  refine r_iadd (pc := 2456) (v := nI (4 * j + 1)) h (nI_add _ _) dL_law_2456 ?_
  refine r_sld (pc := 2457) (j := 4 * j + 1) h hS0 hbl hbA rfl (by omega) (by omega) dL_law_2457 ?_
  refine r_cVi (pc := 2458) (As := [.int (xs (4 * j + 1))]) (st := []) h lk_RL_277 (c_m_save x.2.1 G s1 n tx A m H sv sl (keepM hM hk) (xs (4 * j + 1))) rc_6 (by decide) rfl rfl (by first | decide | exact Nat.le_of_ble_eq_true rfl) ⟨(by show 144 + 2 * j + 1 + 0 ≤ 601024; omega), (by show 18188 + 12 * j + 6 + 0 ≤ 7293034; omega)⟩ dL_law_2458 (fun r2 s2 q2 => ?_)
  obtain ⟨g1, g2, g3, g4⟩ := q2
  refine r_istore (pc := 2461) (lo2 := [(6, .int r2), (5, .int r1), (0, .ref b), (1, .ref (G.2.1 + 0)), (2, .ref (G.2.1 + 134)), (3, .ref (G.2.1 + 143)), (4, .int (nI (4 * j)))]) h (by decide) rfl dL_law_2461 ?_
  refine r_aload_n (pc := 2463) h 4 rfl rfl dL_law_2463 ?_
  refine r_cVi (pc := 2464) (As := []) (st := []) h lk_RL_139 (c_thrown x.2.1 G s2) rc_6 (by decide) rfl rfl (by first | decide | exact Nat.le_of_ble_eq_true rfl) ⟨(by show 144 + 2 * j + 1 + 0 + 0 ≤ 601024; omega), (by show 18188 + 12 * j + 6 + 0 + 0 ≤ 7293034; omega)⟩ dL_law_2464 (fun r3 s3 q3 => ?_)
  rw [q3.1, q3.2, g1]
  refine r_iload (pc := 2467) h 1 rfl dL_law_2467 ?_
  refine r_icmp_eq (pc := 2469) (tgt := 2474) h (by decide) dL_law_2469 (fun _ => ?_) (fun c9 => absurd e1.symm c9)
  refine r_iload (pc := 2474) h 1 rfl dL_law_2474 ?_
  refine r_if_ne (pc := 2476) (tgt := 2491) h (by decide) dL_law_2476 (fun c9 => ?_) (fun c9 => ?_)
  · have hC0 : cB (inB (nI 0) (nI 1) (xs (4 * j + 1))) 1 ≠ 0 := fun q => c9 (by rw [e1, q, kq_0]; rfl)
    refine r_goto (pc := 2491) (tgt := 2550) h (by decide) dL_law_2491 ?_
    exact V.wd (by show 144 + 2 * j + 1 + 0 + 0 ≤ 144 + 2 * (j + 1); omega) (by show 18188 + 12 * j + 6 + 0 + 0 ≤ 18188 + 12 * (j + 1); omega) (r_sub [2, 3, 4, 5, 6] rfl (kk _ _ _ _ _ _ _ _ ((hI0 hC0).o g2 (Or.inl (by decide))) (g3 hC0)))
  · have hC0 : cB (inB (nI 0) (nI 1) (xs (4 * j + 1))) 1 = 0 := (kq_z (by decide)).mp (e1.symm.trans c9)
    have ho := (g2.l 143 0 (by omega)).trans (hI1 hC0).1
    have hr := (g4 hC0).1
    refine r_aload_n (pc := 2479) h 5 rfl rfl dL_law_2479 ?_
    refine r_iconst (pc := 2480) (v := nI 0) h (by decide) dL_law_2480 ?_
    refine r_lald (pc := 2481) h a_out 0 rfl (by decide) dL_law_2481 ?_
    refine r_iload (pc := 2482) h 0 rfl dL_law_2482 ?_
    refine r_i2l (pc := 2484) (v := r2.toInt64) h rfl dL_law_2484 ?_
    refine r_lcmp (pc := 2485) (v := lg_cmp (s2.2 143 0) r2.toInt64) h rfl dL_law_2485 ?_
    refine r_if_eq (pc := 2486) (tgt := 2491) h (by decide) dL_law_2486 (fun _ => ?_) (fun c7 => absurd (lg_self _ (ho.trans (by rw [hr]))) c7)
    refine r_goto (pc := 2491) (tgt := 2550) h (by decide) dL_law_2491 ?_
    exact V.wd (by show 144 + 2 * j + 1 + 0 + 0 ≤ 144 + 2 * (j + 1); omega) (by show 18188 + 12 * j + 6 + 0 + 0 ≤ 18188 + 12 * (j + 1); omega) (r_sub [2, 3, 4, 5, 6] rfl (kk _ _ _ _ _ _ _ _ ((hI1 hC0).2.o g2 (Or.inl (by decide))) ((g4 hC0).2)))

set_option maxRecDepth 100000 in
set_option maxHeartbeats 1600000 in
theorem law_c42 {x : Cx} {G : Gl} {Q : State → Prop} {b L : Nat} {xs : Nat → Int32} (LAh : LA x G b L xs) (j : Nat) (hj : 4 * j + 4 ≤ L) (σ : Sg) (n : Nat) (tx : Nat → Nat) (A : Ab) (m : Nat) (H : Nat → Ab) (sv : Nat → Bool) (sl : Nat → Ab) (hC : InvC n tx A m H sv sl σ) (hM : InvM n tx A m H sv sl σ) (kk : NX x G Q b j) : V x G 7 (144 + 2 * j) (18188 + 12 * j) Q σ 2494 [(0, .ref b), (1, .ref (G.2.1 + 0)), (2, .ref (G.2.1 + 134)), (3, .ref (G.2.1 + 143)), (4, .int (nI (4 * j)))] [] := by
  obtain ⟨h, hX, hst, hS0, hbl, hbA, hL⟩ := LAh
  refine r_aload_n (pc := 2494) h 1 rfl rfl dL_law_2494 ?_
  refine r_aload_n (pc := 2495) h 0 rfl rfl dL_law_2495 ?_
  refine r_iload (pc := 2496) h 4 rfl dL_law_2496 ?_
  refine r_iconst (pc := 2498) (v := nI 1) h (by decide) dL_law_2498 ?_
  refine r_iadd (pc := 2499) (v := nI (4 * j + 1)) h (nI_add _ _) dL_law_2499 ?_
  refine r_sld (pc := 2500) (j := 4 * j + 1) h hS0 hbl hbA rfl (by omega) (by omega) dL_law_2500 ?_
  refine r_aload_n (pc := 2501) h 3 rfl rfl dL_law_2501 ?_
  refine r_LS (pc := 2502) (n := 3) (As := [.ref (G.2.1 + 0), .int (xs (4 * j + 1)), .ref (G.2.1 + 143)]) (st := []) h hX ⟨mw_43_23, mw_4_9, mw_44_1, ⟨by decide +kernel, by decide +kernel⟩, by decide +kernel, mw_44_0⟩ (l_restore x.2.1 hst G σ n tx A m H sv sl hC (xs (4 * j + 1))) rfl rfl (by decide) (by first | decide | exact Nat.le_of_ble_eq_true rfl) ⟨(by show 144 + 2 * j + 2 ≤ 601024; omega), (by show 18188 + 12 * j + 12 ≤ 7293034; omega)⟩ dL_law_2502 (fun r1 s1 q1 => ?_)
  obtain ⟨e1, hk, hI0, hI1⟩ := q1
  refine r_istore (pc := 2505) (lo2 := [(5, .int r1), (0, .ref b), (1, .ref (G.2.1 + 0)), (2, .ref (G.2.1 + 134)), (3, .ref (G.2.1 + 143)), (4, .int (nI (4 * j)))]) h (by decide) rfl dL_law_2505 ?_
  refine r_aload_n (pc := 2507) h 3 rfl rfl dL_law_2507 ?_
  refine r_aload_n (pc := 2508) h 1 rfl rfl dL_law_2508 ?_
  refine r_iload (pc := 2509) h 5 rfl dL_law_2509 ?_
  refine r_iconst (pc := 2511) (v := nI 1) h (by decide) dL_law_2511 ?_
  refine r_iadd (pc := 2512) (v := nI (4 * j + 1)) h (nI_add _ _) dL_law_2512 ?_
  refine r_sld (pc := 2513) (j := 4 * j + 1) h hS0 hbl hbA rfl (by omega) (by omega) dL_law_2513 ?_
  refine r_cVi (pc := 2514) (As := [.int (xs (4 * j + 1))]) (st := []) h lk_RL_280 (c_m_restore x.2.1 G s1 n tx A m H sv sl (keepM hM hk) (xs (4 * j + 1))) rc_6 (by decide) rfl rfl (by first | decide | exact Nat.le_of_ble_eq_true rfl) ⟨(by show 144 + 2 * j + 2 + 0 ≤ 601024; omega), (by show 18188 + 12 * j + 12 + 0 ≤ 7293034; omega)⟩ dL_law_2514 (fun r2 s2 q2 => ?_)
  obtain ⟨g1, g2, g3, g4⟩ := q2
  refine r_istore (pc := 2517) (lo2 := [(6, .int r2), (5, .int r1), (0, .ref b), (1, .ref (G.2.1 + 0)), (2, .ref (G.2.1 + 134)), (3, .ref (G.2.1 + 143)), (4, .int (nI (4 * j)))]) h (by decide) rfl dL_law_2517 ?_
  refine r_aload_n (pc := 2519) h 4 rfl rfl dL_law_2519 ?_
  refine r_cVi (pc := 2520) (As := []) (st := []) h lk_RL_139 (c_thrown x.2.1 G s2) rc_6 (by decide) rfl rfl (by first | decide | exact Nat.le_of_ble_eq_true rfl) ⟨(by show 144 + 2 * j + 2 + 0 + 0 ≤ 601024; omega), (by show 18188 + 12 * j + 12 + 0 + 0 ≤ 7293034; omega)⟩ dL_law_2520 (fun r3 s3 q3 => ?_)
  rw [q3.1, q3.2, g1]
  refine r_iload (pc := 2523) h 1 rfl dL_law_2523 ?_
  refine r_icmp_eq (pc := 2525) (tgt := 2530) h (by decide) dL_law_2525 (fun _ => ?_) (fun c9 => absurd e1.symm c9)
  refine r_iload (pc := 2530) h 1 rfl dL_law_2530 ?_
  refine r_if_ne (pc := 2532) (tgt := 2547) h (by decide) dL_law_2532 (fun c9 => ?_) (fun c9 => ?_)
  · have hC0 : seqC (cB (inB (nI 0) (nI 1) (xs (4 * j + 1))) 1) (cB (sv (toN (xs (4 * j + 1)))) 3) ≠ 0 := fun q => c9 (by rw [e1, q, kq_0]; rfl)
    refine r_goto (pc := 2547) (tgt := 2550) h (by decide) dL_law_2547 ?_
    exact V.wd (by show 144 + 2 * j + 2 + 0 + 0 ≤ 144 + 2 * (j + 1); omega) (by show 18188 + 12 * j + 12 + 0 + 0 ≤ 18188 + 12 * (j + 1); omega) (r_sub [2, 3, 4, 5, 6] rfl (kk _ _ _ _ _ _ _ _ ((hI0 hC0).o g2 (Or.inl (by decide))) (g3 hC0)))
  · have hC0 : seqC (cB (inB (nI 0) (nI 1) (xs (4 * j + 1))) 1) (cB (sv (toN (xs (4 * j + 1)))) 3) = 0 := (kq_z (by decide)).mp (e1.symm.trans c9)
    have ho := (g2.l 143 0 (by omega)).trans (hI1 hC0).1
    have hr := (g4 hC0).1
    refine r_aload_n (pc := 2535) h 5 rfl rfl dL_law_2535 ?_
    refine r_iconst (pc := 2536) (v := nI 0) h (by decide) dL_law_2536 ?_
    refine r_lald (pc := 2537) h a_out 0 rfl (by decide) dL_law_2537 ?_
    refine r_iload (pc := 2538) h 0 rfl dL_law_2538 ?_
    refine r_i2l (pc := 2540) (v := r2.toInt64) h rfl dL_law_2540 ?_
    refine r_lcmp (pc := 2541) (v := lg_cmp (s2.2 143 0) r2.toInt64) h rfl dL_law_2541 ?_
    refine r_if_eq (pc := 2542) (tgt := 2547) h (by decide) dL_law_2542 (fun _ => ?_) (fun c7 => absurd (lg_self _ (ho.trans (by rw [hr]))) c7)
    refine r_goto (pc := 2547) (tgt := 2550) h (by decide) dL_law_2547 ?_
    exact V.wd (by show 144 + 2 * j + 2 + 0 + 0 ≤ 144 + 2 * (j + 1); omega) (by show 18188 + 12 * j + 12 + 0 + 0 ≤ 18188 + 12 * (j + 1); omega) (r_sub [2, 3, 4, 5, 6] rfl (kk _ _ _ _ _ _ _ _ ((hI1 hC0).2.o g2 (Or.inl (by decide))) ((g4 hC0).2)))

