/-! THE REFERENCE: it reads the text -/
theorem cmr_up {σ : Sg} {c : Nat} {m : Nat → Int32} {A : Ab} {sk K n a : Nat} {f : Fr} {r : Int32} {σ2 : Sg} {v : Int32} (h : CmR σ c (upd m 11 v) A sk K n a f r σ2) : CmR σ c m A sk K n a f r σ2 := by
  obtain ⟨o, e⟩ := f
  cases o with
  | none =>
    obtain ⟨h1, s2, h2, x2, m2, e1, e2, e3, e4⟩ := h
    exact ⟨h1, s2, h2, x2, m2, e1, e2, e3, fun j q1 q2 => (e4 j q1 q2).trans (pk_un q1)⟩
  | some w =>
    obtain ⟨x, y, z⟩ := w
    obtain ⟨h1, s2, h2, x2, m2, e1, e2, e3, e4, e5, e6, e7⟩ := h
    exact ⟨h1, s2, h2, x2, m2, e1, e2, e3, e4, e5, e6, fun j q1 q2 => (e7 j q1 q2).trans (pk_un q1)⟩
theorem why_0 {A : Ab} (h : whyN A = 0) : 1 ≤ A.1 := by
  by_cases e : A.1 = 0
  · rw [whyN_1 e] at h; cases h
  · omega
set_option maxRecDepth 100000 in
set_option maxHeartbeats 800000 in
theorem c_readCommand (l : Launch) (G : Gl) (σ : Sg) (c : Nat) (hc : Rc c) (s hh xx m : Nat → Int32) (A : Ab) (hA : okA A) (hM : RelM A s) (n : Nat) (tx : Nat → Nat) (ht : TxM n tx σ) (hm2 : m 2 = nI n) (a : Nat) (hal : a < n) (hm11 : m 11 = nI a) (sk : Nat) (hm12 : m 12 = nI sk) : Ci l yX6_readCommand cX6_readCommand 4 .boolean ({ frames := 5, cells := 0, slots := 0, locals := 115 } : Room) G [.ref (G.2.1 + 134), .ref (G.2.1 + c)] (mB σ c s hh xx m) (fun r σ2 => CmR σ c m A sk (tx a) n (a + 1) (cmd tx n a) r σ2) := by
  refine Ci_of (own := RX6) rfl (by decide +kernel) (lo := [(0, .ref (G.2.1 + 134)), (1, .ref (G.2.1 + c))]) rfl (Nat.le_of_ble_eq_true rfl) (fun r s hp => CmR_nar hp) ?_
  intro x Q hxl h hret
  subst hxl
  have h12 := hA.1
  have h4 := hA.2.1
  have hn9 := ht.1
  have t33 := (ht.2 a hal).2
  have ha : a ≤ n := by omega
  have hwy := whyN_le A
  refine r_aload_n (pc := 0) h 0 rfl rfl dX6_readCommand_0 ?_
  refine g_6_text (pc := 1) h mw_3_20 dX6_readCommand_1 ?_
  refine r_aload_n (pc := 4) h 0 rfl rfl dX6_readCommand_4 ?_
  refine g_6_spot (pc := 5) h mw_8_11 dX6_readCommand_5 ?_
  refine r_topi (b := m 11) (mB_m hc _) ?_
  refine r_topi (b := nI a) hm11 ?_
  refine r_iald (pc := 8) h a_mt a rfl (by omega) dX6_readCommand_8 ?_
  refine r_topi (b := nI (tx a)) ((mB_t hc _).trans (ht.2 a hal).1) ?_
  refine r_istore_n (pc := 9) (lo2 := [(2, .int (nI (tx a))), (0, .ref (G.2.1 + 134)), (1, .ref (G.2.1 + c))]) h rfl (by decide) rfl dX6_readCommand_9 ?_
  refine r_aload_n (pc := 10) h 1 rfl rfl dX6_readCommand_10 ?_
  refine r_dup (pc := 11) h rfl dX6_readCommand_11 ?_
  refine g_6_spot (pc := 12) h mw_8_11 dX6_readCommand_12 ?_
  refine r_topi (b := m 11) (mB_m hc _) ?_
  refine r_topi (b := nI a) hm11 ?_
  refine r_iconst (pc := 15) (v := nI 1) h (by decide) dX6_readCommand_15 ?_
  refine r_iadd (pc := 16) (v := nI (a + 1)) h (nI_add _ _) dX6_readCommand_16 ?_
  refine p_6_spot (pc := 17) h mw_8_11 dX6_readCommand_17 ?_
  refine V.sg (mB_sm hc _ _) ?_
  refine r_iload_n (pc := 20) h 0 rfl rfl dX6_readCommand_20 ?_
  rcases k_cases (tx a) t33 with hK | hK | hK
  · skip
    rcases hK with hK | hK | hK | hK | hK | hK | hK | hK | hK | hK | hK | hK | hK | hK
    · skip
      refine r_topi (b := nI 115) (congrArg nI hK) ?_
      rw [hK]
      refine r_tabIn (pc := 21) (off := 107) (tgt := 128) h (by decide) (by decide) (by decide) (by decide) dX6_readCommand_21 ?_
      refine r_aload_n (pc := 128) h 1 rfl rfl dX6_readCommand_128 ?_
      refine r_aload_n (pc := 129) h 2 rfl rfl dX6_readCommand_129 ?_
      refine r_cVi (pc := 130) (As := [.ref (G.2.1 + c)]) (st := []) h lk_RX6_145 (c_readSteps x.2.1 G σ c hc s hh xx (upd m 11 (nI (a + 1))) A hA hM n tx ht ((pk_un (by decide)).trans hm2) (a + 1) (by omega) pk_us sk ((pk_un (by decide)).trans hm12)) rc_6 (by decide) rfl rfl (by first | decide | exact Nat.le_of_ble_eq_true rfl) (by decide) dX6_readCommand_130 (fun r1 s2 q3 => ?_)
      exact hret _ _ ((by rw [hK]; unfold cmd; rw [hK]; exact cmr_up q3)) 133 _ dX6_readCommand_133
    · skip
      refine r_topi (b := nI 120) (congrArg nI hK) ?_
      rw [hK]
      refine r_tabIn (pc := 21) (off := 113) (tgt := 134) h (by decide) (by decide) (by decide) (by decide) dX6_readCommand_21 ?_
      refine r_aload_n (pc := 134) h 1 rfl rfl dX6_readCommand_134 ?_
      refine r_aload_n (pc := 135) h 2 rfl rfl dX6_readCommand_135 ?_
      refine r_cVi (pc := 136) (As := [.ref (G.2.1 + c)]) (st := []) h lk_RX6_148 (c_readScaled x.2.1 G σ c hc s hh xx (upd m 11 (nI (a + 1))) A hA hM n tx ht ((pk_un (by decide)).trans hm2) (a + 1) (by omega) pk_us sk ((pk_un (by decide)).trans hm12)) rc_6 (by decide) rfl rfl (by first | decide | exact Nat.le_of_ble_eq_true rfl) (by decide) dX6_readCommand_136 (fun r4 s5 q6 => ?_)
      exact hret _ _ ((by rw [hK]; unfold cmd; rw [hK]; exact cmr_up q6)) 139 _ dX6_readCommand_139
    · skip
      refine r_topi (b := nI 106) (congrArg nI hK) ?_
      rw [hK]
      refine r_tabIn (pc := 21) (off := 119) (tgt := 140) h (by decide) (by decide) (by decide) (by decide) dX6_readCommand_21 ?_
      refine r_aload_n (pc := 140) h 1 rfl rfl dX6_readCommand_140 ?_
      refine r_aload_n (pc := 141) h 2 rfl rfl dX6_readCommand_141 ?_
      refine r_iconst (pc := 142) (v := nI 2) h (by decide) dX6_readCommand_142 ?_
      refine r_cVi (pc := 143) (As := [.ref (G.2.1 + c), .int (nI 2)]) (st := []) h lk_RX6_151 (c_readJoined2 x.2.1 G σ c hc s hh xx (upd m 11 (nI (a + 1))) A hA hM n tx ht ((pk_un (by decide)).trans hm2) (a + 1) (by omega) pk_us sk ((pk_un (by decide)).trans hm12)) rc_6 (by decide) rfl rfl (by first | decide | exact Nat.le_of_ble_eq_true rfl) (by decide) dX6_readCommand_143 (fun r7 s8 q9 => ?_)
      exact hret _ _ ((by rw [hK]; unfold cmd; rw [hK]; exact cmr_up q9)) 146 _ dX6_readCommand_146
    · skip
      refine r_topi (b := nI 104) (congrArg nI hK) ?_
      rw [hK]
      refine r_tabIn (pc := 21) (off := 126) (tgt := 147) h (by decide) (by decide) (by decide) (by decide) dX6_readCommand_21 ?_
      refine r_aload_n (pc := 147) h 1 rfl rfl dX6_readCommand_147 ?_
      refine r_aload_n (pc := 148) h 2 rfl rfl dX6_readCommand_148 ?_
      refine r_iconst (pc := 149) (v := nI 3) h (by decide) dX6_readCommand_149 ?_
      refine r_cVi (pc := 150) (As := [.ref (G.2.1 + c), .int (nI 3)]) (st := []) h lk_RX6_151 (c_readJoined3 x.2.1 G σ c hc s hh xx (upd m 11 (nI (a + 1))) A hA hM n tx ht ((pk_un (by decide)).trans hm2) (a + 1) (by omega) pk_us sk ((pk_un (by decide)).trans hm12)) rc_6 (by decide) rfl rfl (by first | decide | exact Nat.le_of_ble_eq_true rfl) (by decide) dX6_readCommand_150 (fun r10 s11 q12 => ?_)
      exact hret _ _ ((by rw [hK]; unfold cmd; rw [hK]; exact cmr_up q12)) 153 _ dX6_readCommand_153
    · skip
      refine r_topi (b := nI 119) (congrArg nI hK) ?_
      rw [hK]
      refine r_tabIn (pc := 21) (off := 133) (tgt := 154) h (by decide) (by decide) (by decide) (by decide) dX6_readCommand_21 ?_
      refine r_aload_n (pc := 154) h 1 rfl rfl dX6_readCommand_154 ?_
      refine r_aload_n (pc := 155) h 2 rfl rfl dX6_readCommand_155 ?_
      refine r_iconst (pc := 156) (v := nI 4) h (by decide) dX6_readCommand_156 ?_
      refine r_cVi (pc := 157) (As := [.ref (G.2.1 + c), .int (nI 4)]) (st := []) h lk_RX6_151 (c_readJoined4 x.2.1 G σ c hc s hh xx (upd m 11 (nI (a + 1))) A hA hM n tx ht ((pk_un (by decide)).trans hm2) (a + 1) (by omega) pk_us sk ((pk_un (by decide)).trans hm12)) rc_6 (by decide) rfl rfl (by first | decide | exact Nat.le_of_ble_eq_true rfl) (by decide) dX6_readCommand_157 (fun r13 s14 q15 => ?_)
      exact hret _ _ ((by rw [hK]; unfold cmd; rw [hK]; exact cmr_up q15)) 160 _ dX6_readCommand_160
    · skip
      refine r_topi (b := nI 118) (congrArg nI hK) ?_
      rw [hK]
      refine r_tabIn (pc := 21) (off := 140) (tgt := 161) h (by decide) (by decide) (by decide) (by decide) dX6_readCommand_21 ?_
      refine r_aload_n (pc := 161) h 1 rfl rfl dX6_readCommand_161 ?_
      refine r_aload_n (pc := 162) h 2 rfl rfl dX6_readCommand_162 ?_
      refine r_iconst (pc := 163) (v := nI 5) h (by decide) dX6_readCommand_163 ?_
      refine r_cVi (pc := 164) (As := [.ref (G.2.1 + c), .int (nI 5)]) (st := []) h lk_RX6_154 (c_readOne5 x.2.1 G σ c hc s hh xx (upd m 11 (nI (a + 1))) A hA hM n tx ht ((pk_un (by decide)).trans hm2) (a + 1) (by omega) pk_us sk ((pk_un (by decide)).trans hm12)) rc_6 (by decide) rfl rfl (by first | decide | exact Nat.le_of_ble_eq_true rfl) (by decide) dX6_readCommand_164 (fun r16 s17 q18 => ?_)
      exact hret _ _ ((by rw [hK]; unfold cmd; rw [hK]; exact cmr_up q18)) 167 _ dX6_readCommand_167
    · skip
      refine r_topi (b := nI 117) (congrArg nI hK) ?_
      rw [hK]
      refine r_tabIn (pc := 21) (off := 155) (tgt := 176) h (by decide) (by decide) (by decide) (by decide) dX6_readCommand_21 ?_
      refine r_aload_n (pc := 176) h 1 rfl rfl dX6_readCommand_176 ?_
      refine r_aload_n (pc := 177) h 2 rfl rfl dX6_readCommand_177 ?_
      refine r_bipush (pc := 178) (v := nI 7) h (by decide) dX6_readCommand_178 ?_
      refine r_cVi (pc := 180) (As := [.ref (G.2.1 + c), .int (nI 7)]) (st := []) h lk_RX6_154 (c_readOne7 x.2.1 G σ c hc s hh xx (upd m 11 (nI (a + 1))) A hA hM n tx ht ((pk_un (by decide)).trans hm2) (a + 1) (by omega) pk_us sk ((pk_un (by decide)).trans hm12)) rc_6 (by decide) rfl rfl (by first | decide | exact Nat.le_of_ble_eq_true rfl) (by decide) dX6_readCommand_180 (fun r19 s20 q21 => ?_)
      exact hret _ _ ((by rw [hK]; unfold cmd; rw [hK]; exact cmr_up q21)) 183 _ dX6_readCommand_183
    · skip
      refine r_topi (b := nI 101) (congrArg nI hK) ?_
      rw [hK]
      refine r_tabIn (pc := 21) (off := 147) (tgt := 168) h (by decide) (by decide) (by decide) (by decide) dX6_readCommand_21 ?_
      refine r_aload_n (pc := 168) h 1 rfl rfl dX6_readCommand_168 ?_
      refine r_aload_n (pc := 169) h 2 rfl rfl dX6_readCommand_169 ?_
      refine r_bipush (pc := 170) (v := nI 6) h (by decide) dX6_readCommand_170 ?_
      refine r_cVi (pc := 172) (As := [.ref (G.2.1 + c), .int (nI 6)]) (st := []) h lk_RX6_154 (c_readOne6 x.2.1 G σ c hc s hh xx (upd m 11 (nI (a + 1))) A hA hM n tx ht ((pk_un (by decide)).trans hm2) (a + 1) (by omega) pk_us sk ((pk_un (by decide)).trans hm12)) rc_6 (by decide) rfl rfl (by first | decide | exact Nat.le_of_ble_eq_true rfl) (by decide) dX6_readCommand_172 (fun r22 s23 q24 => ?_)
      exact hret _ _ ((by rw [hK]; unfold cmd; rw [hK]; exact cmr_up q24)) 175 _ dX6_readCommand_175
    · skip
      refine r_topi (b := nI 100) (congrArg nI hK) ?_
      rw [hK]
      refine r_tabIn (pc := 21) (off := 227) (tgt := 248) h (by decide) (by decide) (by decide) (by decide) dX6_readCommand_21 ?_
      refine r_aload_n (pc := 248) h 1 rfl rfl dX6_readCommand_248 ?_
      refine r_aload_n (pc := 249) h 2 rfl rfl dX6_readCommand_249 ?_
      refine r_cSi (pc := 250) (As := [.ref (G.2.1 + c)]) (st := [.ref (G.2.1 + 134)]) h lk_RX6_163 (c_reasonM x.2.1 G (mB σ c s hh xx (upd m 11 (nI (a + 1)))) c hc A (by rw [mB_sF]; exact hM) hA) (by decide) rfl rfl (by first | decide | exact Nat.le_of_ble_eq_true rfl) (by decide) dX6_readCommand_250 (fun r25 s26 q27 => ?_)
      rw [q27.1, q27.2]
      refine r_if_ne (pc := 253) (tgt := 267) h (by decide) dX6_readCommand_253 (fun c253 => ?_) (fun c253 => ?_)
      · skip
        rw [zI0, nI_eq (by omega) (by omega)] at c253
        refine r_iconst (pc := 267) (v := nI 0) h (by decide) dX6_readCommand_267 ?_
        refine r_cVi (pc := 268) (As := [.int (nI 0)]) (st := []) h lk_RX6_119 (c_doneF x.2.1 G σ c hc s hh xx (upd m 11 (nI (a + 1))) sk ((pk_un (by decide)).trans hm12)) rc_6 (by decide) rfl rfl (by first | decide | exact Nat.le_of_ble_eq_true rfl) (by decide) dX6_readCommand_268 (fun r28 s29 q30 => ?_)
        rw [q30.1, q30.2]
        exact hret _ _ ((by rw [show cmd tx n a = (some (0, 0, 0), a + 1) from by unfold cmd; rw [hK]; rfl]; rw [hK]; exact cmr_sk rfl (by omega) (fst3_n3 (decide_eq_false c253)) hM)) 271 _ dX6_readCommand_271
      · skip
        rw [zI0, nI_eq (by omega) (by omega)] at c253
        have hw1 := why_0 c253
        refine r_aload_n (pc := 256) h 2 rfl rfl dX6_readCommand_256 ?_
        refine r_cSi (pc := 257) (As := [.ref (G.2.1 + c)]) (st := [.ref (G.2.1 + 134)]) h lk_RX6_167 (c_dropM x.2.1 G σ c hc s hh xx (upd m 11 (nI (a + 1))) A hA hM (by omega)) (by decide) rfl rfl (by first | decide | exact Nat.le_of_ble_eq_true rfl) (by decide) dX6_readCommand_257 (fun r31 s32 q33 => ?_)
        obtain ⟨e9, s2, es, hs2⟩ := q33
        rw [e9]
        subst es
        refine r_if_lt (pc := 260) (tgt := 267) h (by decide) dX6_readCommand_260 (fun c260 => ?_) (fun c260 => ?_)
        · skip
          rw [zI0, nI_ltI (by omega) (by omega)] at c260
          exact absurd c260 (by omega)
        · skip
          rw [zI0, nI_ltI (by omega) (by omega)] at c260
          refine r_iconst (pc := 263) (v := nI 1) h (by decide) dX6_readCommand_263 ?_
          refine r_goto (pc := 264) (tgt := 268) h (by decide) dX6_readCommand_264 ?_
          refine r_cVi (pc := 268) (As := [.int (nI 1)]) (st := []) h lk_RX6_119 (c_doneT x.2.1 G σ c hc s2 hh xx (upd m 11 (nI (a + 1))) sk ((pk_un (by decide)).trans hm12)) rc_6 (by decide) rfl rfl (by first | decide | exact Nat.le_of_ble_eq_true rfl) (by decide) dX6_readCommand_268 (fun r34 s35 q36 => ?_)
          rw [q36.1, q36.2]
          exact hret _ _ ((by rw [show cmd tx n a = (some (0, 0, 0), a + 1) from by unfold cmd; rw [hK]; rfl]; rw [hK]; exact cmr_ok rfl (by omega) (fst3_y rfl rfl (decide_eq_true c253)) hs2)) 271 _ dX6_readCommand_271
    · skip
      refine r_topi (b := nI 114) (congrArg nI hK) ?_
      rw [hK]
      refine r_tabIn (pc := 21) (off := 163) (tgt := 184) h (by decide) (by decide) (by decide) (by decide) dX6_readCommand_21 ?_
      refine r_aload_n (pc := 184) h 1 rfl rfl dX6_readCommand_184 ?_
      refine r_iconst (pc := 185) (v := nI 0) h (by decide) dX6_readCommand_185 ?_
      refine r_bipush (pc := 186) (v := nI 10) h (by decide) dX6_readCommand_186 ?_
      refine r_iconst (pc := 188) (v := nI 0) h (by decide) dX6_readCommand_188 ?_
      refine r_bipush (pc := 189) (v := nI 11) h (by decide) dX6_readCommand_189 ?_
      refine r_cVi (pc := 191) (As := [.int (nI 0), .int (nI 10), .int (nI 0), .int (nI 11)]) (st := []) h lk_RX6_107 (c_fig x.2.1 G σ c hc s hh xx (upd m 11 (nI (a + 1))) n tx ht ((pk_un (by decide)).trans hm2) (a + 1) (by omega) pk_us 0 2 0 11 (by omega) (by omega) (by omega) (by omega)) rc_6 (by decide) rfl rfl (by first | decide | exact Nat.le_of_ble_eq_true rfl) (by decide) dX6_readCommand_191 (fun r37 s38 q39 => ?_)
      obtain ⟨o1, p1, hf1⟩ : ∃ o p, fig tx n 0 11 (usK 2) 0 (a + 1) = (o, p) := ⟨_, _, rfl⟩
      have hb1 := figK_le (by omega) hf1
      rw [q39.1, q39.2, upd_2, hf1]
      refine V.sg (show _ = mB σ c s hh xx (upd m 11 (nI p1)) from rfl) ?_
      refine r_topi (b := oI o1) rfl ?_
      cases o1 with
      | none =>
        refine r_topi (b := (-1)) rfl ?_
        refine r_istore_n (pc := 194) (lo2 := [(3, .int (-1)), (2, .int (nI 114)), (0, .ref (G.2.1 + 134)), (1, .ref (G.2.1 + c))]) h rfl (by decide) rfl dX6_readCommand_194 ?_
        refine r_iload_n (pc := 195) h 0 rfl rfl dX6_readCommand_195 ?_
        refine r_iconst (pc := 196) (v := (-1)) h (by decide) dX6_readCommand_196 ?_
        refine r_icmp_eq (pc := 197) (tgt := 239) h (by decide) dX6_readCommand_197 (fun _ => ?_) (fun c197 => absurd c197 (by decide))
        refine r_iconst (pc := 239) (v := nI 0) h (by decide) dX6_readCommand_239 ?_
        exact hret _ _ ((by rw [show cmd tx n a = fone (fig tx n 0 11 (usK 2) 0 (a + 1)) from by unfold cmd; rw [hK]; rfl]; rw [hK]; exact cmr_bad (by simp only [fone, ftwo, fthr, hf1] : fone (fig tx n 0 11 (usK 2) 0 (a + 1)) = (none, p1)) (by omega))) 240 _ dX6_readCommand_240
      | some v1 =>
        refine r_topi (b := nI v1) rfl ?_
        have hv1 := figK_in (by omega) hf1
        refine r_istore_n (pc := 194) (lo2 := [(3, .int (nI v1)), (2, .int (nI 114)), (0, .ref (G.2.1 + 134)), (1, .ref (G.2.1 + c))]) h rfl (by decide) rfl dX6_readCommand_194 ?_
        refine r_iload_n (pc := 195) h 0 rfl rfl dX6_readCommand_195 ?_
        refine r_iconst (pc := 196) (v := (-1)) h (by decide) dX6_readCommand_196 ?_
        refine r_icmp_eq (pc := 197) (tgt := 239) h (by decide) dX6_readCommand_197 (fun c197 => ?_) (fun c197 => ?_)
        · skip
          exact absurd c197 (nI_ne (by omega))
        · skip
          refine r_aload_n (pc := 200) h 2 rfl rfl dX6_readCommand_200 ?_
          refine r_aload_n (pc := 201) h 3 rfl rfl dX6_readCommand_201 ?_
          refine r_iload_n (pc := 202) h 0 rfl rfl dX6_readCommand_202 ?_
          refine r_cSi (pc := 203) (As := [.ref (G.2.1 + c), .int (nI v1)]) (st := [.ref (G.2.1 + 134)]) h lk_RX6_123 (c_isListM x.2.1 G (mB σ c s hh xx (upd m 11 (nI p1))) c hc A (by rw [mB_sF]; exact hM) (by omega) (nI v1)) (by decide) rfl rfl (by first | decide | exact Nat.le_of_ble_eq_true rfl) (by decide) dX6_readCommand_203 (fun r40 s41 q42 => ?_)
          rw [q42.1, q42.2]
          refine r_if_eq (pc := 206) (tgt := 228) h (by decide) dX6_readCommand_206 (fun c206 => ?_) (fun c206 => ?_)
          · skip
            replace c206 := zB_0.mp c206
            refine r_iconst (pc := 228) (v := nI 0) h (by decide) dX6_readCommand_228 ?_
            refine r_cVi (pc := 229) (As := [.int (nI 0)]) (st := []) h lk_RX6_119 (c_doneF x.2.1 G σ c hc s hh xx (upd m 11 (nI p1)) sk ((pk_un (by decide)).trans hm12)) rc_6 (by decide) rfl rfl (by first | decide | exact Nat.le_of_ble_eq_true rfl) (by decide) dX6_readCommand_229 (fun r43 s44 q45 => ?_)
            rw [q45.1, q45.2]
            refine r_if_eq (pc := 232) (tgt := 239) h (by decide) dX6_readCommand_232 (fun c232 => absurd c232 (by decide)) (fun _ => ?_)
            refine r_iconst (pc := 235) (v := nI 1) h (by decide) dX6_readCommand_235 ?_
            refine r_goto (pc := 236) (tgt := 240) h (by decide) dX6_readCommand_236 ?_
            exact hret _ _ ((by rw [show cmd tx n a = fone (fig tx n 0 11 (usK 2) 0 (a + 1)) from by unfold cmd; rw [hK]; rfl]; rw [hK]; exact cmr_sk (by simp only [fone, ftwo, fthr, hf1] : fone (fig tx n 0 11 (usK 2) 0 (a + 1)) = (some (v1, 0, 0), p1)) (by omega) (fst3_n1 c206) hM)) 240 _ dX6_readCommand_240
          · skip
            replace c206 := zB_n0.mp c206
            refine r_aload_n (pc := 209) h 3 rfl rfl dX6_readCommand_209 ?_
            refine r_iconst (pc := 210) (v := nI 1) h (by decide) dX6_readCommand_210 ?_
            refine r_iald (pc := 211) h (a_rc hc) 1 rfl (by omega) dX6_readCommand_211 ?_
            refine r_topi (b := s 1) (mB_s _) ?_
            refine r_topi (b := nI A.2.1) hM.2.1 ?_
            refine r_iconst (pc := 212) (v := nI 4) h (by decide) dX6_readCommand_212 ?_
            refine r_icmp_ge (pc := 213) (tgt := 228) h (by decide) dX6_readCommand_213 (fun c213 => ?_) (fun c213 => ?_)
            · skip
              rw [nI_leI (by omega) (by omega)] at c213
              refine r_iconst (pc := 228) (v := nI 0) h (by decide) dX6_readCommand_228 ?_
              refine r_cVi (pc := 229) (As := [.int (nI 0)]) (st := []) h lk_RX6_119 (c_doneF x.2.1 G σ c hc s hh xx (upd m 11 (nI p1)) sk ((pk_un (by decide)).trans hm12)) rc_6 (by decide) rfl rfl (by first | decide | exact Nat.le_of_ble_eq_true rfl) (by decide) dX6_readCommand_229 (fun r46 s47 q48 => ?_)
              rw [q48.1, q48.2]
              refine r_if_eq (pc := 232) (tgt := 239) h (by decide) dX6_readCommand_232 (fun c232 => absurd c232 (by decide)) (fun _ => ?_)
              refine r_iconst (pc := 235) (v := nI 1) h (by decide) dX6_readCommand_235 ?_
              refine r_goto (pc := 236) (tgt := 240) h (by decide) dX6_readCommand_236 ?_
              exact hret _ _ ((by rw [show cmd tx n a = fone (fig tx n 0 11 (usK 2) 0 (a + 1)) from by unfold cmd; rw [hK]; rfl]; rw [hK]; exact cmr_sk (by simp only [fone, ftwo, fthr, hf1] : fone (fig tx n 0 11 (usK 2) 0 (a + 1)) = (some (v1, 0, 0), p1)) (by omega) (fst3_n3 (decide_eq_false (by omega))) hM)) 240 _ dX6_readCommand_240
            · skip
              rw [nI_leI (by omega) (by omega)] at c213
              have c213 : A.2.1 < 4 := by omega
              refine r_aload_n (pc := 216) h 3 rfl rfl dX6_readCommand_216 ?_
              refine r_iload_n (pc := 217) h 0 rfl rfl dX6_readCommand_217 ?_
              refine r_cSi (pc := 218) (As := [.ref (G.2.1 + c), .int (nI v1)]) (st := [.ref (G.2.1 + 134)]) h lk_RX6_157 (c_beginM x.2.1 G σ c hc s hh xx (upd m 11 (nI p1)) A hA hM v1 (by omega)) (by decide) rfl rfl (by first | decide | exact Nat.le_of_ble_eq_true rfl) (by decide) dX6_readCommand_218 (fun r49 s50 q51 => ?_)
              obtain ⟨e9, s2, es, hs2⟩ := q51
              rw [e9]
              subst es
              refine r_if_lt (pc := 221) (tgt := 228) h (by decide) dX6_readCommand_221 (fun c221 => ?_) (fun c221 => ?_)
              · skip
                rw [zI0, nI_ltI (by omega) (by omega)] at c221
                exact absurd c221 (by omega)
              · skip
                rw [zI0, nI_ltI (by omega) (by omega)] at c221
                refine r_iconst (pc := 224) (v := nI 1) h (by decide) dX6_readCommand_224 ?_
                refine r_goto (pc := 225) (tgt := 229) h (by decide) dX6_readCommand_225 ?_
                refine r_cVi (pc := 229) (As := [.int (nI 1)]) (st := []) h lk_RX6_119 (c_doneT x.2.1 G σ c hc s2 hh xx (upd m 11 (nI p1)) sk ((pk_un (by decide)).trans hm12)) rc_6 (by decide) rfl rfl (by first | decide | exact Nat.le_of_ble_eq_true rfl) (by decide) dX6_readCommand_229 (fun r52 s53 q54 => ?_)
                rw [q54.1, q54.2]
                refine r_if_eq (pc := 232) (tgt := 239) h (by decide) dX6_readCommand_232 (fun c232 => absurd c232 (by decide)) (fun _ => ?_)
                refine r_iconst (pc := 235) (v := nI 1) h (by decide) dX6_readCommand_235 ?_
                refine r_goto (pc := 236) (tgt := 240) h (by decide) dX6_readCommand_236 ?_
                exact hret _ _ ((by rw [show cmd tx n a = fone (fig tx n 0 11 (usK 2) 0 (a + 1)) from by unfold cmd; rw [hK]; rfl]; rw [hK]; exact cmr_ok (by simp only [fone, ftwo, fthr, hf1] : fone (fig tx n 0 11 (usK 2) 0 (a + 1)) = (some (v1, 0, 0), p1)) (by omega) (fst3_y c206 rfl (decide_eq_true c213)) (by show RelM (A.1, A.2.1 + 1, A.2.2.1, aU A, va_up (aL A) A.2.1 (toN (nI v1)), va_up (aP A) A.2.1 0) _; rw [toN_nI (show v1 < 2 ^ 31 by omega)]; exact hs2))) 240 _ dX6_readCommand_240
    · skip
      refine r_topi (b := nI 110) (congrArg nI hK) ?_
      rw [hK]
      refine r_tabIn (pc := 21) (off := 220) (tgt := 241) h (by decide) (by decide) (by decide) (by decide) dX6_readCommand_21 ?_
      refine r_aload_n (pc := 241) h 1 rfl rfl dX6_readCommand_241 ?_
      refine r_aload_n (pc := 242) h 2 rfl rfl dX6_readCommand_242 ?_
      refine r_iload_n (pc := 243) h 0 rfl rfl dX6_readCommand_243 ?_
      refine r_cVi (pc := 244) (As := [.ref (G.2.1 + c), .int (nI 110)]) (st := []) h lk_RX6_160 (c_readNext x.2.1 G σ c hc s hh xx (upd m 11 (nI (a + 1))) A hA hM n tx ht ((pk_un (by decide)).trans hm2) (a + 1) (by omega) pk_us sk ((pk_un (by decide)).trans hm12)) rc_6 (by decide) rfl rfl (by first | decide | exact Nat.le_of_ble_eq_true rfl) (by decide) dX6_readCommand_244 (fun r55 s56 q57 => ?_)
      exact hret _ _ ((by rw [hK]; unfold cmd; rw [hK]; exact cmr_up q57)) 247 _ dX6_readCommand_247
    · skip
      refine r_topi (b := nI 107) (congrArg nI hK) ?_
      rw [hK]
      refine r_tabIn (pc := 21) (off := 220) (tgt := 241) h (by decide) (by decide) (by decide) (by decide) dX6_readCommand_21 ?_
      refine r_aload_n (pc := 241) h 1 rfl rfl dX6_readCommand_241 ?_
      refine r_aload_n (pc := 242) h 2 rfl rfl dX6_readCommand_242 ?_
      refine r_iload_n (pc := 243) h 0 rfl rfl dX6_readCommand_243 ?_
      refine r_cVi (pc := 244) (As := [.ref (G.2.1 + c), .int (nI 107)]) (st := []) h lk_RX6_160 (c_readSkip x.2.1 G σ c hc s hh xx (upd m 11 (nI (a + 1))) A hA hM n tx ht ((pk_un (by decide)).trans hm2) (a + 1) (by omega) pk_us sk ((pk_un (by decide)).trans hm12)) rc_6 (by decide) rfl rfl (by first | decide | exact Nat.le_of_ble_eq_true rfl) (by decide) dX6_readCommand_244 (fun r58 s59 q60 => ?_)
      exact hret _ _ ((by rw [hK]; unfold cmd; rw [hK]; exact cmr_up q60)) 247 _ dX6_readCommand_247
    · skip
      refine r_topi (b := nI 122) (congrArg nI hK) ?_
      rw [hK]
      refine r_tabIn (pc := 21) (off := 220) (tgt := 241) h (by decide) (by decide) (by decide) (by decide) dX6_readCommand_21 ?_
      refine r_aload_n (pc := 241) h 1 rfl rfl dX6_readCommand_241 ?_
      refine r_aload_n (pc := 242) h 2 rfl rfl dX6_readCommand_242 ?_
      refine r_iload_n (pc := 243) h 0 rfl rfl dX6_readCommand_243 ?_
      refine r_cVi (pc := 244) (As := [.ref (G.2.1 + c), .int (nI 122)]) (st := []) h lk_RX6_160 (c_readBack x.2.1 G σ c hc s hh xx (upd m 11 (nI (a + 1))) A hA hM n tx ht ((pk_un (by decide)).trans hm2) (a + 1) (by omega) pk_us sk ((pk_un (by decide)).trans hm12)) rc_6 (by decide) rfl rfl (by first | decide | exact Nat.le_of_ble_eq_true rfl) (by decide) dX6_readCommand_244 (fun r61 s62 q63 => ?_)
      exact hret _ _ ((by rw [hK]; unfold cmd; rw [hK]; exact cmr_up q63)) 247 _ dX6_readCommand_247
    · skip
      refine r_topi (b := nI 113) (congrArg nI hK) ?_
      rw [hK]
      refine r_tabIn (pc := 21) (off := 220) (tgt := 241) h (by decide) (by decide) (by decide) (by decide) dX6_readCommand_21 ?_
      refine r_aload_n (pc := 241) h 1 rfl rfl dX6_readCommand_241 ?_
      refine r_aload_n (pc := 242) h 2 rfl rfl dX6_readCommand_242 ?_
      refine r_iload_n (pc := 243) h 0 rfl rfl dX6_readCommand_243 ?_
      refine r_cVi (pc := 244) (As := [.ref (G.2.1 + c), .int (nI 113)]) (st := []) h lk_RX6_160 (c_readStop x.2.1 G σ c hc s hh xx (upd m 11 (nI (a + 1))) A hA hM n tx ht ((pk_un (by decide)).trans hm2) (a + 1) (by omega) pk_us sk ((pk_un (by decide)).trans hm12)) rc_6 (by decide) rfl rfl (by first | decide | exact Nat.le_of_ble_eq_true rfl) (by decide) dX6_readCommand_244 (fun r64 s65 q66 => ?_)
      exact hret _ _ ((by rw [hK]; unfold cmd; rw [hK]; exact cmr_up q66)) 247 _ dX6_readCommand_247
  · skip
    refine r_tabOut (pc := 21) (tgt := 272) h (by rw [nI_toInt (by omega)]; omega) (by decide) dX6_readCommand_21 ?_
    refine r_aload_n (pc := 272) h 1 rfl rfl dX6_readCommand_272 ?_
    refine r_dup (pc := 273) h rfl dX6_readCommand_273 ?_
    refine g_6_spot (pc := 274) h mw_8_11 dX6_readCommand_274 ?_
    refine r_topi (b := (upd m 11 (nI (a + 1))) 11) (mB_m hc _) ?_
    refine r_topi (b := nI (a + 1)) pk_us ?_
    refine r_iconst (pc := 277) (v := nI 1) h (by decide) dX6_readCommand_277 ?_
    refine r_isub (pc := 278) (v := nI ((a + 1) - 1)) h (pk_sub (by omega)) dX6_readCommand_278 ?_
    refine p_6_spot (pc := 279) h mw_8_11 dX6_readCommand_279 ?_
    refine V.sg (mB_sm hc _ _) ?_
    refine V.sg (congrArg (mB σ c s hh xx) (upd_2 m 11 _ (nI a))) ?_
    refine r_iconst (pc := 282) (v := nI 0) h (by decide) dX6_readCommand_282 ?_
    have ec : cmd tx n a = (none, a) := cmd_out hK
    exact hret _ _ ((by rw [ec]; exact cmr_bad rfl (by omega))) 283 _ dX6_readCommand_283
  · skip
    rcases hK with hK | hK | hK | hK | hK | hK | hK | hK | hK
    · skip
      refine r_topi (b := nI 102) (congrArg nI hK) ?_
      rw [hK]
      refine r_tabIn (pc := 21) (off := 251) (tgt := 272) h (by decide) (by decide) (by decide) (by decide) dX6_readCommand_21 ?_
      refine r_aload_n (pc := 272) h 1 rfl rfl dX6_readCommand_272 ?_
      refine r_dup (pc := 273) h rfl dX6_readCommand_273 ?_
      refine g_6_spot (pc := 274) h mw_8_11 dX6_readCommand_274 ?_
      refine r_topi (b := (upd m 11 (nI (a + 1))) 11) (mB_m hc _) ?_
      refine r_topi (b := nI (a + 1)) pk_us ?_
      refine r_iconst (pc := 277) (v := nI 1) h (by decide) dX6_readCommand_277 ?_
      refine r_isub (pc := 278) (v := nI ((a + 1) - 1)) h (pk_sub (by omega)) dX6_readCommand_278 ?_
      refine p_6_spot (pc := 279) h mw_8_11 dX6_readCommand_279 ?_
      refine V.sg (mB_sm hc _ _) ?_
      refine V.sg (congrArg (mB σ c s hh xx) (upd_2 m 11 _ (nI a))) ?_
      refine r_iconst (pc := 282) (v := nI 0) h (by decide) dX6_readCommand_282 ?_
      have ec : cmd tx n a = (none, a) := (by unfold cmd; rw [hK]; rfl)
      exact hret _ _ ((by rw [ec]; exact cmr_bad rfl (by omega))) 283 _ dX6_readCommand_283
    · skip
      refine r_topi (b := nI 103) (congrArg nI hK) ?_
      rw [hK]
      refine r_tabIn (pc := 21) (off := 251) (tgt := 272) h (by decide) (by decide) (by decide) (by decide) dX6_readCommand_21 ?_
      refine r_aload_n (pc := 272) h 1 rfl rfl dX6_readCommand_272 ?_
      refine r_dup (pc := 273) h rfl dX6_readCommand_273 ?_
      refine g_6_spot (pc := 274) h mw_8_11 dX6_readCommand_274 ?_
      refine r_topi (b := (upd m 11 (nI (a + 1))) 11) (mB_m hc _) ?_
      refine r_topi (b := nI (a + 1)) pk_us ?_
      refine r_iconst (pc := 277) (v := nI 1) h (by decide) dX6_readCommand_277 ?_
      refine r_isub (pc := 278) (v := nI ((a + 1) - 1)) h (pk_sub (by omega)) dX6_readCommand_278 ?_
      refine p_6_spot (pc := 279) h mw_8_11 dX6_readCommand_279 ?_
      refine V.sg (mB_sm hc _ _) ?_
      refine V.sg (congrArg (mB σ c s hh xx) (upd_2 m 11 _ (nI a))) ?_
      refine r_iconst (pc := 282) (v := nI 0) h (by decide) dX6_readCommand_282 ?_
      have ec : cmd tx n a = (none, a) := (by unfold cmd; rw [hK]; rfl)
      exact hret _ _ ((by rw [ec]; exact cmr_bad rfl (by omega))) 283 _ dX6_readCommand_283
    · skip
      refine r_topi (b := nI 105) (congrArg nI hK) ?_
      rw [hK]
      refine r_tabIn (pc := 21) (off := 251) (tgt := 272) h (by decide) (by decide) (by decide) (by decide) dX6_readCommand_21 ?_
      refine r_aload_n (pc := 272) h 1 rfl rfl dX6_readCommand_272 ?_
      refine r_dup (pc := 273) h rfl dX6_readCommand_273 ?_
      refine g_6_spot (pc := 274) h mw_8_11 dX6_readCommand_274 ?_
      refine r_topi (b := (upd m 11 (nI (a + 1))) 11) (mB_m hc _) ?_
      refine r_topi (b := nI (a + 1)) pk_us ?_
      refine r_iconst (pc := 277) (v := nI 1) h (by decide) dX6_readCommand_277 ?_
      refine r_isub (pc := 278) (v := nI ((a + 1) - 1)) h (pk_sub (by omega)) dX6_readCommand_278 ?_
      refine p_6_spot (pc := 279) h mw_8_11 dX6_readCommand_279 ?_
      refine V.sg (mB_sm hc _ _) ?_
      refine V.sg (congrArg (mB σ c s hh xx) (upd_2 m 11 _ (nI a))) ?_
      refine r_iconst (pc := 282) (v := nI 0) h (by decide) dX6_readCommand_282 ?_
      have ec : cmd tx n a = (none, a) := (by unfold cmd; rw [hK]; rfl)
      exact hret _ _ ((by rw [ec]; exact cmr_bad rfl (by omega))) 283 _ dX6_readCommand_283
    · skip
      refine r_topi (b := nI 108) (congrArg nI hK) ?_
      rw [hK]
      refine r_tabIn (pc := 21) (off := 251) (tgt := 272) h (by decide) (by decide) (by decide) (by decide) dX6_readCommand_21 ?_
      refine r_aload_n (pc := 272) h 1 rfl rfl dX6_readCommand_272 ?_
      refine r_dup (pc := 273) h rfl dX6_readCommand_273 ?_
      refine g_6_spot (pc := 274) h mw_8_11 dX6_readCommand_274 ?_
      refine r_topi (b := (upd m 11 (nI (a + 1))) 11) (mB_m hc _) ?_
      refine r_topi (b := nI (a + 1)) pk_us ?_
      refine r_iconst (pc := 277) (v := nI 1) h (by decide) dX6_readCommand_277 ?_
      refine r_isub (pc := 278) (v := nI ((a + 1) - 1)) h (pk_sub (by omega)) dX6_readCommand_278 ?_
      refine p_6_spot (pc := 279) h mw_8_11 dX6_readCommand_279 ?_
      refine V.sg (mB_sm hc _ _) ?_
      refine V.sg (congrArg (mB σ c s hh xx) (upd_2 m 11 _ (nI a))) ?_
      refine r_iconst (pc := 282) (v := nI 0) h (by decide) dX6_readCommand_282 ?_
      have ec : cmd tx n a = (none, a) := (by unfold cmd; rw [hK]; rfl)
      exact hret _ _ ((by rw [ec]; exact cmr_bad rfl (by omega))) 283 _ dX6_readCommand_283
    · skip
      refine r_topi (b := nI 109) (congrArg nI hK) ?_
      rw [hK]
      refine r_tabIn (pc := 21) (off := 251) (tgt := 272) h (by decide) (by decide) (by decide) (by decide) dX6_readCommand_21 ?_
      refine r_aload_n (pc := 272) h 1 rfl rfl dX6_readCommand_272 ?_
      refine r_dup (pc := 273) h rfl dX6_readCommand_273 ?_
      refine g_6_spot (pc := 274) h mw_8_11 dX6_readCommand_274 ?_
      refine r_topi (b := (upd m 11 (nI (a + 1))) 11) (mB_m hc _) ?_
      refine r_topi (b := nI (a + 1)) pk_us ?_
      refine r_iconst (pc := 277) (v := nI 1) h (by decide) dX6_readCommand_277 ?_
      refine r_isub (pc := 278) (v := nI ((a + 1) - 1)) h (pk_sub (by omega)) dX6_readCommand_278 ?_
      refine p_6_spot (pc := 279) h mw_8_11 dX6_readCommand_279 ?_
      refine V.sg (mB_sm hc _ _) ?_
      refine V.sg (congrArg (mB σ c s hh xx) (upd_2 m 11 _ (nI a))) ?_
      refine r_iconst (pc := 282) (v := nI 0) h (by decide) dX6_readCommand_282 ?_
      have ec : cmd tx n a = (none, a) := (by unfold cmd; rw [hK]; rfl)
      exact hret _ _ ((by rw [ec]; exact cmr_bad rfl (by omega))) 283 _ dX6_readCommand_283
    · skip
      refine r_topi (b := nI 111) (congrArg nI hK) ?_
      rw [hK]
      refine r_tabIn (pc := 21) (off := 251) (tgt := 272) h (by decide) (by decide) (by decide) (by decide) dX6_readCommand_21 ?_
      refine r_aload_n (pc := 272) h 1 rfl rfl dX6_readCommand_272 ?_
      refine r_dup (pc := 273) h rfl dX6_readCommand_273 ?_
      refine g_6_spot (pc := 274) h mw_8_11 dX6_readCommand_274 ?_
      refine r_topi (b := (upd m 11 (nI (a + 1))) 11) (mB_m hc _) ?_
      refine r_topi (b := nI (a + 1)) pk_us ?_
      refine r_iconst (pc := 277) (v := nI 1) h (by decide) dX6_readCommand_277 ?_
      refine r_isub (pc := 278) (v := nI ((a + 1) - 1)) h (pk_sub (by omega)) dX6_readCommand_278 ?_
      refine p_6_spot (pc := 279) h mw_8_11 dX6_readCommand_279 ?_
      refine V.sg (mB_sm hc _ _) ?_
      refine V.sg (congrArg (mB σ c s hh xx) (upd_2 m 11 _ (nI a))) ?_
      refine r_iconst (pc := 282) (v := nI 0) h (by decide) dX6_readCommand_282 ?_
      have ec : cmd tx n a = (none, a) := (by unfold cmd; rw [hK]; rfl)
      exact hret _ _ ((by rw [ec]; exact cmr_bad rfl (by omega))) 283 _ dX6_readCommand_283
    · skip
      refine r_topi (b := nI 112) (congrArg nI hK) ?_
      rw [hK]
      refine r_tabIn (pc := 21) (off := 251) (tgt := 272) h (by decide) (by decide) (by decide) (by decide) dX6_readCommand_21 ?_
      refine r_aload_n (pc := 272) h 1 rfl rfl dX6_readCommand_272 ?_
      refine r_dup (pc := 273) h rfl dX6_readCommand_273 ?_
      refine g_6_spot (pc := 274) h mw_8_11 dX6_readCommand_274 ?_
      refine r_topi (b := (upd m 11 (nI (a + 1))) 11) (mB_m hc _) ?_
      refine r_topi (b := nI (a + 1)) pk_us ?_
      refine r_iconst (pc := 277) (v := nI 1) h (by decide) dX6_readCommand_277 ?_
      refine r_isub (pc := 278) (v := nI ((a + 1) - 1)) h (pk_sub (by omega)) dX6_readCommand_278 ?_
      refine p_6_spot (pc := 279) h mw_8_11 dX6_readCommand_279 ?_
      refine V.sg (mB_sm hc _ _) ?_
      refine V.sg (congrArg (mB σ c s hh xx) (upd_2 m 11 _ (nI a))) ?_
      refine r_iconst (pc := 282) (v := nI 0) h (by decide) dX6_readCommand_282 ?_
      have ec : cmd tx n a = (none, a) := (by unfold cmd; rw [hK]; rfl)
      exact hret _ _ ((by rw [ec]; exact cmr_bad rfl (by omega))) 283 _ dX6_readCommand_283
    · skip
      refine r_topi (b := nI 116) (congrArg nI hK) ?_
      rw [hK]
      refine r_tabIn (pc := 21) (off := 251) (tgt := 272) h (by decide) (by decide) (by decide) (by decide) dX6_readCommand_21 ?_
      refine r_aload_n (pc := 272) h 1 rfl rfl dX6_readCommand_272 ?_
      refine r_dup (pc := 273) h rfl dX6_readCommand_273 ?_
      refine g_6_spot (pc := 274) h mw_8_11 dX6_readCommand_274 ?_
      refine r_topi (b := (upd m 11 (nI (a + 1))) 11) (mB_m hc _) ?_
      refine r_topi (b := nI (a + 1)) pk_us ?_
      refine r_iconst (pc := 277) (v := nI 1) h (by decide) dX6_readCommand_277 ?_
      refine r_isub (pc := 278) (v := nI ((a + 1) - 1)) h (pk_sub (by omega)) dX6_readCommand_278 ?_
      refine p_6_spot (pc := 279) h mw_8_11 dX6_readCommand_279 ?_
      refine V.sg (mB_sm hc _ _) ?_
      refine V.sg (congrArg (mB σ c s hh xx) (upd_2 m 11 _ (nI a))) ?_
      refine r_iconst (pc := 282) (v := nI 0) h (by decide) dX6_readCommand_282 ?_
      have ec : cmd tx n a = (none, a) := (by unfold cmd; rw [hK]; rfl)
      exact hret _ _ ((by rw [ec]; exact cmr_bad rfl (by omega))) 283 _ dX6_readCommand_283
    · skip
      refine r_topi (b := nI 121) (congrArg nI hK) ?_
      rw [hK]
      refine r_tabIn (pc := 21) (off := 251) (tgt := 272) h (by decide) (by decide) (by decide) (by decide) dX6_readCommand_21 ?_
      refine r_aload_n (pc := 272) h 1 rfl rfl dX6_readCommand_272 ?_
      refine r_dup (pc := 273) h rfl dX6_readCommand_273 ?_
      refine g_6_spot (pc := 274) h mw_8_11 dX6_readCommand_274 ?_
      refine r_topi (b := (upd m 11 (nI (a + 1))) 11) (mB_m hc _) ?_
      refine r_topi (b := nI (a + 1)) pk_us ?_
      refine r_iconst (pc := 277) (v := nI 1) h (by decide) dX6_readCommand_277 ?_
      refine r_isub (pc := 278) (v := nI ((a + 1) - 1)) h (pk_sub (by omega)) dX6_readCommand_278 ?_
      refine p_6_spot (pc := 279) h mw_8_11 dX6_readCommand_279 ?_
      refine V.sg (mB_sm hc _ _) ?_
      refine V.sg (congrArg (mB σ c s hh xx) (upd_2 m 11 _ (nI a))) ?_
      refine r_iconst (pc := 282) (v := nI 0) h (by decide) dX6_readCommand_282 ?_
      have ec : cmd tx n a = (none, a) := (by unfold cmd; rw [hK]; rfl)
      exact hret _ _ ((by rw [ec]; exact cmr_bad rfl (by omega))) 283 _ dX6_readCommand_283

set_option maxRecDepth 100000 in
set_option maxHeartbeats 800000 in
theorem c_readText (l : Launch) (G : Gl) (σ : Sg) (c : Nat) (hc : Rc c) (s hh xx m : Nat → Int32) (n : Nat) (tx : Nat → Nat) (ht : TxM n tx σ) (hm2 : m 2 = nI n) : Ci l yX6_readText cX6_readText 2 .int ({ frames := 6, cells := 0, slots := 0, locals := 138 } : Room) G [.ref (G.2.1 + 134), .ref (G.2.1 + c)] (mB σ c s hh xx m) (fun r σ2 => r = oI (runA tx n).1 ∧ ∃ s2 h2 x2 m2, σ2 = mB σ c s2 h2 x2 m2 ∧ (∀ j, j ≠ 11 → j ≠ 12 → m2 j = m j) ∧ ((runA tx n).1 = none → RelM (runA tx n).2.1 s2 ∧ okA (runA tx n).2.1 ∧ m2 12 = nI (runA tx n).2.2)) := by
  refine Ci_of (own := RX6) rfl (by decide +kernel) (lo := [(0, .ref (G.2.1 + 134)), (1, .ref (G.2.1 + c))]) rfl (Nat.le_of_ble_eq_true rfl) (fun _ s hp => by obtain ⟨rfl, _⟩ := hp; rfl) ?_
  intro x Q hxl h hret
  subst hxl
  have hn9 := ht.1
  refine r_aload_n (pc := 0) h 1 rfl rfl dX6_readText_0 ?_
  refine r_cSv (pc := 1) (As := [.ref (G.2.1 + c)]) (st := []) h lk_RX6_35 (c_clearM x.2.1 G σ c hc s hh xx m) (by decide) rfl rfl (by first | decide | exact Nat.le_of_ble_eq_true rfl) (by decide) dX6_readText_1 (fun s2 q3 => ?_)
  obtain ⟨s0, es, hz⟩ := q3
  subst es
  refine r_aload_n (pc := 4) h 0 rfl rfl dX6_readText_4 ?_
  refine r_iconst (pc := 5) (v := nI 0) h (by decide) dX6_readText_5 ?_
  refine p_6_skipped (pc := 6) h mw_8_10 dX6_readText_6 ?_
  refine V.sg (mB_sm hc _ _) ?_
  refine r_aload_n (pc := 9) h 0 rfl rfl dX6_readText_9 ?_
  refine r_iconst (pc := 10) (v := nI 0) h (by decide) dX6_readText_10 ?_
  refine p_6_spot (pc := 11) h mw_8_11 dX6_readText_11 ?_
  refine V.sg (mB_sm hc _ _) ?_
  refine r_aload_n (pc := 14) h 0 rfl rfl dX6_readText_14 ?_
  refine g_6_size (pc := 15) h mw_5_14 dX6_readText_15 ?_
  refine r_topi (b := (upd (upd m 12 (nI 0)) 11 (nI 0)) 2) (mB_m hc _) ?_
  refine r_topi (b := nI n) ((pk_un (by decide)).trans ((pk_un (by decide)).trans hm2)) ?_
  refine r_if_eq (pc := 18) (tgt := 32) h (by decide) dX6_readText_18 (fun c18 => ?_) (fun c18 => ?_)
  · skip
    rw [zI0, nI_eq (by omega) (by omega)] at c18
    refine r_iconst (pc := 32) (v := nI 0) h (by decide) dX6_readText_32 ?_
    exact hret _ _ ((by rw [runA_N (show begB n tx = false from decide_eq_false (fun q => by omega))]; exact ⟨rfl, _, _, _, _, rfl, fun j q1 q2 => (pk_un q1).trans (pk_un q2), fun q => by cases q⟩)) 33 _ dX6_readText_33
  · skip
    rw [zI0, nI_eq (by omega) (by omega)] at c18
    have t0 := (ht.2 0 (by omega)).2
    refine r_aload_n (pc := 21) h 0 rfl rfl dX6_readText_21 ?_
    refine g_6_text (pc := 22) h mw_3_20 dX6_readText_22 ?_
    refine r_iconst (pc := 25) (v := nI 0) h (by decide) dX6_readText_25 ?_
    refine r_iald (pc := 26) h a_mt 0 rfl (by omega) dX6_readText_26 ?_
    refine r_topi (b := nI (tx 0)) ((mB_t hc _).trans (ht.2 0 (by omega)).1) ?_
    refine r_bipush (pc := 27) (v := nI 76) h (by decide) dX6_readText_27 ?_
    refine r_icmp_eq (pc := 29) (tgt := 34) h (by decide) dX6_readText_29 (fun c29 => ?_) (fun c29 => ?_)
    · skip
      rw [nI_eq (by omega) (by omega)] at c29
      have hbeg : begB n tx = true := decide_eq_true ⟨by omega, c29⟩
      refine r_aload_n (pc := 34) h 0 rfl rfl dX6_readText_34 ?_
      refine r_iconst (pc := 35) (v := nI 1) h (by decide) dX6_readText_35 ?_
      refine p_6_spot (pc := 36) h mw_8_11 dX6_readText_36 ?_
      refine V.sg (mB_sm hc _ _) ?_
      have lp39 : ∀ (fu : Nat) (i : Nat) (a : Nat) (sk : Nat) (A : Ab) (s1 : Nat → Int32) (h1 : Nat → Int32) (x1 : Nat → Int32) (m1 : Nat → Int32), i + 1 ≤ a → a ≤ n → runT tx n 120 1 emptyA 0 = runT tx n (120 - i) a A sk → okA A → RelM A s1 → m1 11 = nI a → m1 12 = nI sk → (∀ j, j ≠ 11 → j ≠ 12 → m1 j = m j) → n + 1 - a < fu → V x G 2 0 0 Q (mB σ c s1 h1 x1 m1) 39 [(0, .ref (G.2.1 + 134)), (1, .ref (G.2.1 + c))] [] := by
        intro fu
        induction fu with
        | zero => intro i a sk A s1 h1 x1 m1 hi ha hrun hA hM hm11 hm12 ho hfu; exact absurd hfu (Nat.not_lt_zero _)
        | succ fu ih39 =>
          intro i a sk A s1 h1 x1 m1 hi ha hrun hA hM hm11 hm12 ho hfu
          refine r_aload_n (pc := 39) h 0 rfl rfl dX6_readText_39 ?_
          refine g_6_spot (pc := 40) h mw_8_11 dX6_readText_40 ?_
          refine r_topi (b := m1 11) (mB_m hc _) ?_
          refine r_topi (b := nI a) hm11 ?_
          refine r_aload_n (pc := 43) h 0 rfl rfl dX6_readText_43 ?_
          refine g_6_size (pc := 44) h mw_5_14 dX6_readText_44 ?_
          refine r_topi (b := m1 2) (mB_m hc _) ?_
          refine r_topi (b := nI n) ((ho 2 (by decide) (by decide)).trans hm2) ?_
          refine r_icmp_ge (pc := 47) (tgt := 63) h (by decide) dX6_readText_47 (fun c47 => ?_) (fun c47 => ?_)
          · skip
            rw [nI_leI (by omega) (by omega)] at c47
            refine r_iconst (pc := 63) (v := (-1)) h (by decide) dX6_readText_63 ?_
            exact hret _ _ ((by rw [runA_L hbeg, hrun, runT_stop (by omega)]; exact ⟨rfl, _, _, _, _, rfl, ho, fun q => ⟨hM, hA, hm12⟩⟩)) 64 _ dX6_readText_64
          · skip
            rw [nI_leI (by omega) (by omega)] at c47
            have han : a < n := by omega
            refine r_aload_n (pc := 50) h 0 rfl rfl dX6_readText_50 ?_
            refine r_aload_n (pc := 51) h 1 rfl rfl dX6_readText_51 ?_
            refine r_cVi (pc := 52) (As := [.ref (G.2.1 + c)]) (st := []) h lk_RX6_170 (c_readCommand x.2.1 G σ c hc s1 h1 x1 m1 A hA hM n tx ht ((ho 2 (by decide) (by decide)).trans hm2) a han hm11 sk hm12) rc_6 (by decide) rfl rfl (by first | decide | exact Nat.le_of_ble_eq_true rfl) (by decide) dX6_readText_52 (fun r4 s5 q6 => ?_)
            obtain ⟨oc, ac, hoc⟩ : ∃ o p, cmd tx n a = (o, p) := ⟨_, _, rfl⟩
            rw [hoc] at q6
            cases oc with
            | none =>
              obtain ⟨e9, s5, h5, x5, m5, es5, k1, k2, k3⟩ := q6
              rw [e9]
              subst es5
              refine r_if_ne (pc := 55) (tgt := 39) h (by decide) dX6_readText_55 (fun c55 => absurd c55 (by decide)) (fun _ => ?_)
              refine r_aload_n (pc := 58) h 0 rfl rfl dX6_readText_58 ?_
              refine g_6_spot (pc := 59) h mw_8_11 dX6_readText_59 ?_
              refine r_topi (b := m5 11) (mB_m hc _) ?_
              refine r_topi (b := nI ac) k1 ?_
              exact hret _ _ ((by rw [runA_L hbeg, hrun, show 120 - i = (119 - i) + 1 by omega, runT_bad han hoc]; exact ⟨rfl, _, _, _, _, rfl, fun j q1 q2 => (k3 j q1 q2).trans (ho j q1 q2), fun q => by cases q⟩)) 62 _ dX6_readText_62
            | some w9 =>
              obtain ⟨x9, y9, z9⟩ := w9
              obtain ⟨e9, s5, h5, x5, m5, es5, k1, k2, k3, k4, k5, k6⟩ := q6
              rw [e9]
              subst es5
              have hst := cot_ok hrun (by omega) han hoc
              refine r_if_ne (pc := 55) (tgt := 39) h (by decide) dX6_readText_55 (fun _ => ?_) (fun c55 => absurd c55 (by decide))
              refine r_sub (lo2 := [(0, .ref (G.2.1 + 134)), (1, .ref (G.2.1 + c))]) [0, 1] rfl ?_
              exact ih39 (i + 1) ac _ _ s5 h5 x5 m5 (by omega) (by omega) hst (okA_att hA (cmd_kind hoc (ht.2 a han).2) _ _ _) k1 k4 k5 (fun j q1 q2 => (k6 j q1 q2).trans (ho j q1 q2)) (by omega)
      refine r_sub (lo2 := [(0, .ref (G.2.1 + 134)), (1, .ref (G.2.1 + c))]) [0, 1] rfl ?_
      exact lp39 _ 0 1 0 emptyA s0 hh xx _ (by omega) (by omega) rfl okA_empty (relM_empty (fun j hj => hz j (by omega))) pk_us ((pk_un (by decide)).trans ((pk_un (by decide)).trans pk_us)) (fun j q1 q2 => by rw [pk_un q1, pk_un q1, pk_un q2]) (Nat.lt_succ_self _)
    · skip
      rw [nI_eq (by omega) (by omega)] at c29
      refine r_iconst (pc := 32) (v := nI 0) h (by decide) dX6_readText_32 ?_
      exact hret _ _ ((by rw [runA_N (show begB n tx = false from decide_eq_false (fun q => by omega))]; exact ⟨rfl, _, _, _, _, rfl, fun j q1 q2 => (pk_un q1).trans (pk_un q2), fun q => by cases q⟩)) 33 _ dX6_readText_33

