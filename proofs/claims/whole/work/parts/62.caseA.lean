/-! THE LAW: its cases -/
/-- at the law: the machine, the script of L ints xs at the cell b -/
def LA (x : Cx) (G : Gl) (b L : Nat) (xs : Nat → Int32) : Prop := CX x G cL_law 7 RL room_1 ∧ XE x.2.2.2.2.1 ∧ x.2.1.stackTraces = false ∧ va_X b L xs x.2.2.2.2.1 x.2.2.2.2.1.heap ∧ b < x.2.2.2.2.1.heap.size ∧ ¬ bA G b ∧ L ≤ 2048
/-- behind a case, the law goes on -/
def NX (x : Cx) (G : Gl) (Q : State → Prop) (b j : Nat) : Prop := ∀ (σ2 : Sg) (n2 : Nat) (tx2 : Nat → Nat) (A2 : Ab) (m2 : Nat) (H2 : Nat → Ab) (sv2 : Nat → Bool) (sl2 : Nat → Ab), InvC n2 tx2 A2 m2 H2 sv2 sl2 σ2 → InvM n2 tx2 A2 m2 H2 sv2 sl2 σ2 → V x G 7 (144 + 2 * (j + 1)) (18188 + 12 * (j + 1)) Q σ2 2550 [(0, .ref b), (1, .ref (G.2.1 + 0)), (2, .ref (G.2.1 + 134)), (3, .ref (G.2.1 + 143)), (4, .int (nI (4 * j)))] []
theorem lg_self (a : Int64) {b : Int64} (h : a = b) : lg_cmp a b = 0 := (lg_cmp_eq a b).mpr h
theorem bL_t {b : Bool} (h : b = true) : bL b = 1 := by subst h; rfl
theorem bL_f {b : Bool} (h : b = false) : bL b = 0 := by subst h; rfl
set_option maxRecDepth 100000 in
set_option maxHeartbeats 1600000 in
theorem law_c0 {x : Cx} {G : Gl} {Q : State → Prop} {b L : Nat} {xs : Nat → Int32} (LAh : LA x G b L xs) (j : Nat) (hj : 4 * j + 4 ≤ L) (σ : Sg) (n : Nat) (tx : Nat → Nat) (A : Ab) (m : Nat) (H : Nat → Ab) (sv : Nat → Bool) (sl : Nat → Ab) (hC : InvC n tx A m H sv sl σ) (hM : InvM n tx A m H sv sl σ) (kk : NX x G Q b j) : V x G 7 (144 + 2 * j) (18188 + 12 * j) Q σ 224 [(0, .ref b), (1, .ref (G.2.1 + 0)), (2, .ref (G.2.1 + 134)), (3, .ref (G.2.1 + 143)), (4, .int (nI (4 * j)))] [] := by
  obtain ⟨h, hX, hst, hS0, hbl, hbA, hL⟩ := LAh
  refine r_aload_n (pc := 224) h 1 rfl rfl dL_law_224 ?_
  refine r_aload_n (pc := 225) h 0 rfl rfl dL_law_225 ?_
  refine r_iload (pc := 226) h 4 rfl dL_law_226 ?_
  refine r_iconst (pc := 228) (v := nI 1) h (by decide) dL_law_228 ?_
  refine r_iadd (pc := 229) (v := nI (4 * j + 1)) h (nI_add _ _) dL_law_229 ?_
  refine r_sld (pc := 230) (j := 4 * j + 1) h hS0 hbl hbA rfl (by omega) (by omega) dL_law_230 ?_
  refine r_aload_n (pc := 231) h 3 rfl rfl dL_law_231 ?_
  refine r_LS (pc := 232) (n := 3) (As := [.ref (G.2.1 + 0), .int (xs (4 * j + 1)), .ref (G.2.1 + 143)]) (st := []) h hX ⟨mw_4_7, mw_4_9, mw_4_10, ⟨by decide +kernel, by decide +kernel⟩, by decide +kernel, mw_4_8⟩ (l_append x.2.1 hst G σ n tx A m H sv sl hC (xs (4 * j + 1))) rfl rfl (by decide) (by first | decide | exact Nat.le_of_ble_eq_true rfl) ⟨(by show 144 + 2 * j + 2 ≤ 601024; omega), (by show 18188 + 12 * j + 12 ≤ 7293034; omega)⟩ dL_law_232 (fun r1 s1 q1 => ?_)
  obtain ⟨e1, hk, hI0, hI1⟩ := q1
  refine r_istore (pc := 235) (lo2 := [(5, .int r1), (0, .ref b), (1, .ref (G.2.1 + 0)), (2, .ref (G.2.1 + 134)), (3, .ref (G.2.1 + 143)), (4, .int (nI (4 * j)))]) h (by decide) rfl dL_law_235 ?_
  refine r_aload_n (pc := 237) h 3 rfl rfl dL_law_237 ?_
  refine r_aload_n (pc := 238) h 1 rfl rfl dL_law_238 ?_
  refine r_iload (pc := 239) h 5 rfl dL_law_239 ?_
  refine r_iconst (pc := 241) (v := nI 1) h (by decide) dL_law_241 ?_
  refine r_iadd (pc := 242) (v := nI (4 * j + 1)) h (nI_add _ _) dL_law_242 ?_
  refine r_sld (pc := 243) (j := 4 * j + 1) h hS0 hbl hbA rfl (by omega) (by omega) dL_law_243 ?_
  refine r_cVi (pc := 244) (As := [.int (xs (4 * j + 1))]) (st := []) h lk_RL_138 (c_m_append x.2.1 G s1 n tx A m H sv sl (keepM hM hk) (xs (4 * j + 1))) rc_6 (by decide) rfl rfl (by first | decide | exact Nat.le_of_ble_eq_true rfl) ⟨(by show 144 + 2 * j + 2 + 0 ≤ 601024; omega), (by show 18188 + 12 * j + 12 + 0 ≤ 7293034; omega)⟩ dL_law_244 (fun r2 s2 q2 => ?_)
  obtain ⟨g1, g2, g3, g4⟩ := q2
  refine r_istore (pc := 247) (lo2 := [(6, .int r2), (5, .int r1), (0, .ref b), (1, .ref (G.2.1 + 0)), (2, .ref (G.2.1 + 134)), (3, .ref (G.2.1 + 143)), (4, .int (nI (4 * j)))]) h (by decide) rfl dL_law_247 ?_
  refine r_aload_n (pc := 249) h 4 rfl rfl dL_law_249 ?_
  refine r_cVi (pc := 250) (As := []) (st := []) h lk_RL_139 (c_thrown x.2.1 G s2) rc_6 (by decide) rfl rfl (by first | decide | exact Nat.le_of_ble_eq_true rfl) ⟨(by show 144 + 2 * j + 2 + 0 + 0 ≤ 601024; omega), (by show 18188 + 12 * j + 12 + 0 + 0 ≤ 7293034; omega)⟩ dL_law_250 (fun r3 s3 q3 => ?_)
  rw [q3.1, q3.2, g1]
  refine r_iload (pc := 253) h 1 rfl dL_law_253 ?_
  refine r_icmp_eq (pc := 255) (tgt := 260) h (by decide) dL_law_255 (fun _ => ?_) (fun c9 => absurd e1.symm c9)
  refine r_iload (pc := 260) h 1 rfl dL_law_260 ?_
  refine r_if_ne (pc := 262) (tgt := 277) h (by decide) dL_law_262 (fun c9 => ?_) (fun c9 => ?_)
  · have hC0 : seqC (cB (inB (nI 0) (nI 255) (xs (4 * j + 1))) 2) (cB (decide (n < 120)) 3) ≠ 0 := fun q => c9 (by rw [e1, q, kq_0]; rfl)
    refine r_goto (pc := 277) (tgt := 2550) h (by decide) dL_law_277 ?_
    exact V.wd (by show 144 + 2 * j + 2 + 0 + 0 ≤ 144 + 2 * (j + 1); omega) (by show 18188 + 12 * j + 12 + 0 + 0 ≤ 18188 + 12 * (j + 1); omega) (r_sub [2, 3, 4, 5, 6] rfl (kk _ _ _ _ _ _ _ _ ((hI0 hC0).o g2 (Or.inl (by decide))) (g3 hC0)))
  · have hC0 : seqC (cB (inB (nI 0) (nI 255) (xs (4 * j + 1))) 2) (cB (decide (n < 120)) 3) = 0 := (kq_z (by decide)).mp (e1.symm.trans c9)
    have ho := (g2.l 143 0 (by omega)).trans (hI1 hC0).1
    have hr := (g4 hC0).1
    refine r_aload_n (pc := 265) h 5 rfl rfl dL_law_265 ?_
    refine r_iconst (pc := 266) (v := nI 0) h (by decide) dL_law_266 ?_
    refine r_lald (pc := 267) h a_out 0 rfl (by decide) dL_law_267 ?_
    refine r_iload (pc := 268) h 0 rfl dL_law_268 ?_
    refine r_i2l (pc := 270) (v := r2.toInt64) h rfl dL_law_270 ?_
    refine r_lcmp (pc := 271) (v := lg_cmp (s2.2 143 0) r2.toInt64) h rfl dL_law_271 ?_
    refine r_if_eq (pc := 272) (tgt := 277) h (by decide) dL_law_272 (fun _ => ?_) (fun c7 => absurd (lg_self _ (ho.trans (by rw [hr]))) c7)
    refine r_goto (pc := 277) (tgt := 2550) h (by decide) dL_law_277 ?_
    exact V.wd (by show 144 + 2 * j + 2 + 0 + 0 ≤ 144 + 2 * (j + 1); omega) (by show 18188 + 12 * j + 12 + 0 + 0 ≤ 18188 + 12 * (j + 1); omega) (r_sub [2, 3, 4, 5, 6] rfl (kk _ _ _ _ _ _ _ _ ((hI1 hC0).2.o g2 (Or.inl (by decide))) ((g4 hC0).2)))

set_option maxRecDepth 100000 in
set_option maxHeartbeats 1600000 in
theorem law_c1 {x : Cx} {G : Gl} {Q : State → Prop} {b L : Nat} {xs : Nat → Int32} (LAh : LA x G b L xs) (j : Nat) (hj : 4 * j + 4 ≤ L) (σ : Sg) (n : Nat) (tx : Nat → Nat) (A : Ab) (m : Nat) (H : Nat → Ab) (sv : Nat → Bool) (sl : Nat → Ab) (hC : InvC n tx A m H sv sl σ) (hM : InvM n tx A m H sv sl σ) (kk : NX x G Q b j) : V x G 7 (144 + 2 * j) (18188 + 12 * j) Q σ 280 [(0, .ref b), (1, .ref (G.2.1 + 0)), (2, .ref (G.2.1 + 134)), (3, .ref (G.2.1 + 143)), (4, .int (nI (4 * j)))] [] := by
  obtain ⟨h, hX, hst, hS0, hbl, hbA, hL⟩ := LAh
  refine r_aload_n (pc := 280) h 1 rfl rfl dL_law_280 ?_
  refine r_cVi (pc := 281) (As := []) (st := []) h lk_RL_142 (c_x_clearText x.2.1 G σ n tx A m H sv sl hC) rc_5 (by decide) rfl rfl (by first | decide | exact Nat.le_of_ble_eq_true rfl) ⟨(by show 144 + 2 * j + 0 ≤ 601024; omega), (by show 18188 + 12 * j + 0 ≤ 7293034; omega)⟩ dL_law_281 (fun r1 s1 q1 => ?_)
  obtain ⟨e1, k2, k3⟩ := q1
  have k1 := keepO k3 (by decide)
  refine r_aload_n (pc := 284) h 2 rfl rfl dL_law_284 ?_
  refine r_cVi (pc := 285) (As := []) (st := [.int r1]) h lk_RL_145 (c_m_clearText x.2.1 G s1 n tx A m H sv sl (keepM hM k1)) rc_6 (by decide) rfl rfl (by first | decide | exact Nat.le_of_ble_eq_true rfl) ⟨(by show 144 + 2 * j + 0 + 0 ≤ 601024; omega), (by show 18188 + 12 * j + 0 + 0 ≤ 7293034; omega)⟩ dL_law_285 (fun r2 s2 q2 => ?_)
  obtain ⟨g1, g2, g3⟩ := q2
  refine r_icmp_eq (pc := 288) (tgt := 2550) h (by decide) dL_law_288 (fun _ => ?_) (fun c9 => absurd (e1.trans g1.symm) c9)
  exact V.wd (by show 144 + 2 * j + 0 + 0 ≤ 144 + 2 * (j + 1); omega) (by show 18188 + 12 * j + 0 + 0 ≤ 18188 + 12 * (j + 1); omega) (r_sub [0, 1, 2, 3, 4] rfl (kk _ _ _ _ _ _ _ _ (k2.o g3 (Or.inl (by decide))) g2))

set_option maxRecDepth 100000 in
set_option maxHeartbeats 1600000 in
theorem law_c2 {x : Cx} {G : Gl} {Q : State → Prop} {b L : Nat} {xs : Nat → Int32} (LAh : LA x G b L xs) (j : Nat) (hj : 4 * j + 4 ≤ L) (σ : Sg) (n : Nat) (tx : Nat → Nat) (A : Ab) (m : Nat) (H : Nat → Ab) (sv : Nat → Bool) (sl : Nat → Ab) (hC : InvC n tx A m H sv sl σ) (hM : InvM n tx A m H sv sl σ) (kk : NX x G Q b j) : V x G 7 (144 + 2 * j) (18188 + 12 * j) Q σ 293 [(0, .ref b), (1, .ref (G.2.1 + 0)), (2, .ref (G.2.1 + 134)), (3, .ref (G.2.1 + 143)), (4, .int (nI (4 * j)))] [] := by
  obtain ⟨h, hX, hst, hS0, hbl, hbA, hL⟩ := LAh
  refine r_aload_n (pc := 293) h 1 rfl rfl dL_law_293 ?_
  refine r_cVi (pc := 294) (As := []) (st := []) h lk_RL_146 (c_x_errorPosition x.2.1 G σ n tx A m H sv sl hC) rc_5 (by decide) rfl rfl (by first | decide | exact Nat.le_of_ble_eq_true rfl) ⟨(by show 144 + 2 * j + 0 ≤ 601024; omega), (by show 18188 + 12 * j + 0 ≤ 7293034; omega)⟩ dL_law_294 (fun r1 s1 q1 => ?_)
  obtain ⟨e1, k2, k3⟩ := q1
  have k1 := keepO k3 (by decide)
  refine r_aload_n (pc := 297) h 2 rfl rfl dL_law_297 ?_
  refine r_cVi (pc := 298) (As := []) (st := [.int r1]) h lk_RL_149 (c_m_errorPosition x.2.1 G s1 n tx A m H sv sl (keepM hM k1)) rc_6 (by decide) rfl rfl (by first | decide | exact Nat.le_of_ble_eq_true rfl) ⟨(by show 144 + 2 * j + 0 + 0 ≤ 601024; omega), (by show 18188 + 12 * j + 0 + 0 ≤ 7293034; omega)⟩ dL_law_298 (fun r2 s2 q2 => ?_)
  obtain ⟨g1, g2, g3⟩ := q2
  refine r_icmp_eq (pc := 301) (tgt := 2550) h (by decide) dL_law_301 (fun _ => ?_) (fun c9 => absurd (e1.trans g1.symm) c9)
  exact V.wd (by show 144 + 2 * j + 0 + 0 ≤ 144 + 2 * (j + 1); omega) (by show 18188 + 12 * j + 0 + 0 ≤ 18188 + 12 * (j + 1); omega) (r_sub [0, 1, 2, 3, 4] rfl (kk _ _ _ _ _ _ _ _ (k2.o g3 (Or.inl (by decide))) g2))

set_option maxRecDepth 100000 in
set_option maxHeartbeats 1600000 in
theorem law_c3 {x : Cx} {G : Gl} {Q : State → Prop} {b L : Nat} {xs : Nat → Int32} (LAh : LA x G b L xs) (j : Nat) (hj : 4 * j + 4 ≤ L) (σ : Sg) (n : Nat) (tx : Nat → Nat) (A : Ab) (m : Nat) (H : Nat → Ab) (sv : Nat → Bool) (sl : Nat → Ab) (hC : InvC n tx A m H sv sl σ) (hM : InvM n tx A m H sv sl σ) (kk : NX x G Q b j) : V x G 7 (144 + 2 * j) (18188 + 12 * j) Q σ 306 [(0, .ref b), (1, .ref (G.2.1 + 0)), (2, .ref (G.2.1 + 134)), (3, .ref (G.2.1 + 143)), (4, .int (nI (4 * j)))] [] := by
  obtain ⟨h, hX, hst, hS0, hbl, hbA, hL⟩ := LAh
  refine r_aload_n (pc := 306) h 1 rfl rfl dL_law_306 ?_
  refine r_aload_n (pc := 307) h 3 rfl rfl dL_law_307 ?_
  refine r_LS (pc := 308) (n := 2) (As := [.ref (G.2.1 + 0), .ref (G.2.1 + 143)]) (st := []) h hX ⟨mw_13_7, mw_4_9, mw_13_9, ⟨by decide +kernel, by decide +kernel⟩, by decide +kernel, mw_13_8⟩ (l_load x.2.1 hst G σ n tx A m H sv sl hC ) rfl rfl (by decide) (by first | decide | exact Nat.le_of_ble_eq_true rfl) ⟨(by show 144 + 2 * j + 1 ≤ 601024; omega), (by show 18188 + 12 * j + 6 ≤ 7293034; omega)⟩ dL_law_308 (fun r1 s1 q1 => ?_)
  obtain ⟨e1, hk, hI0, hI1⟩ := q1
  refine r_istore (pc := 311) (lo2 := [(5, .int r1), (0, .ref b), (1, .ref (G.2.1 + 0)), (2, .ref (G.2.1 + 134)), (3, .ref (G.2.1 + 143)), (4, .int (nI (4 * j)))]) h (by decide) rfl dL_law_311 ?_
  refine r_aload_n (pc := 313) h 3 rfl rfl dL_law_313 ?_
  refine r_cVi (pc := 314) (As := []) (st := []) h lk_RL_153 (c_m_load x.2.1 G s1 n tx A m H sv sl (keepM hM hk) ) rc_6 (by decide) rfl rfl (by first | decide | exact Nat.le_of_ble_eq_true rfl) ⟨(by show 144 + 2 * j + 1 + 0 ≤ 601024; omega), (by show 18188 + 12 * j + 6 + 0 ≤ 7293034; omega)⟩ dL_law_314 (fun r2 s2 q2 => ?_)
  obtain ⟨g1, g2, g3, g4⟩ := q2
  refine r_istore (pc := 317) (lo2 := [(6, .int r2), (5, .int r1), (0, .ref b), (1, .ref (G.2.1 + 0)), (2, .ref (G.2.1 + 134)), (3, .ref (G.2.1 + 143)), (4, .int (nI (4 * j)))]) h (by decide) rfl dL_law_317 ?_
  refine r_aload_n (pc := 319) h 4 rfl rfl dL_law_319 ?_
  refine r_cVi (pc := 320) (As := []) (st := []) h lk_RL_139 (c_thrown x.2.1 G s2) rc_6 (by decide) rfl rfl (by first | decide | exact Nat.le_of_ble_eq_true rfl) ⟨(by show 144 + 2 * j + 1 + 0 + 0 ≤ 601024; omega), (by show 18188 + 12 * j + 6 + 0 + 0 ≤ 7293034; omega)⟩ dL_law_320 (fun r3 s3 q3 => ?_)
  rw [q3.1, q3.2, g1]
  refine r_iload (pc := 323) h 1 rfl dL_law_323 ?_
  refine r_icmp_eq (pc := 325) (tgt := 330) h (by decide) dL_law_325 (fun _ => ?_) (fun c9 => absurd e1.symm c9)
  refine r_iload (pc := 330) h 1 rfl dL_law_330 ?_
  refine r_if_ne (pc := 332) (tgt := 347) h (by decide) dL_law_332 (fun c9 => ?_) (fun c9 => ?_)
  · have hC0 : cB (decide ((runA tx n).1 = none)) 3 ≠ 0 := fun q => c9 (by rw [e1, q, kq_0]; rfl)
    refine r_goto (pc := 347) (tgt := 2550) h (by decide) dL_law_347 ?_
    exact V.wd (by show 144 + 2 * j + 1 + 0 + 0 ≤ 144 + 2 * (j + 1); omega) (by show 18188 + 12 * j + 6 + 0 + 0 ≤ 18188 + 12 * (j + 1); omega) (r_sub [2, 3, 4, 5, 6] rfl (kk _ _ _ _ _ _ _ _ ((hI0 hC0).o g2 (Or.inl (by decide))) (g3 hC0)))
  · have hC0 : cB (decide ((runA tx n).1 = none)) 3 = 0 := (kq_z (by decide)).mp (e1.symm.trans c9)
    have ho := (g2.l 143 0 (by omega)).trans (hI1 hC0).1
    have hr := (g4 hC0).1
    refine r_aload_n (pc := 335) h 5 rfl rfl dL_law_335 ?_
    refine r_iconst (pc := 336) (v := nI 0) h (by decide) dL_law_336 ?_
    refine r_lald (pc := 337) h a_out 0 rfl (by decide) dL_law_337 ?_
    refine r_iload (pc := 338) h 0 rfl dL_law_338 ?_
    refine r_i2l (pc := 340) (v := r2.toInt64) h rfl dL_law_340 ?_
    refine r_lcmp (pc := 341) (v := lg_cmp (s2.2 143 0) r2.toInt64) h rfl dL_law_341 ?_
    refine r_if_eq (pc := 342) (tgt := 347) h (by decide) dL_law_342 (fun _ => ?_) (fun c7 => absurd (lg_self _ (ho.trans (by rw [hr]))) c7)
    refine r_goto (pc := 347) (tgt := 2550) h (by decide) dL_law_347 ?_
    exact V.wd (by show 144 + 2 * j + 1 + 0 + 0 ≤ 144 + 2 * (j + 1); omega) (by show 18188 + 12 * j + 6 + 0 + 0 ≤ 18188 + 12 * (j + 1); omega) (r_sub [2, 3, 4, 5, 6] rfl (kk _ _ _ _ _ _ _ _ ((hI1 hC0).2.o g2 (Or.inl (by decide))) ((g4 hC0).2)))

set_option maxRecDepth 100000 in
set_option maxHeartbeats 1600000 in
theorem law_c4 {x : Cx} {G : Gl} {Q : State → Prop} {b L : Nat} {xs : Nat → Int32} (LAh : LA x G b L xs) (j : Nat) (hj : 4 * j + 4 ≤ L) (σ : Sg) (n : Nat) (tx : Nat → Nat) (A : Ab) (m : Nat) (H : Nat → Ab) (sv : Nat → Bool) (sl : Nat → Ab) (hC : InvC n tx A m H sv sl σ) (hM : InvM n tx A m H sv sl σ) (kk : NX x G Q b j) : V x G 7 (144 + 2 * j) (18188 + 12 * j) Q σ 350 [(0, .ref b), (1, .ref (G.2.1 + 0)), (2, .ref (G.2.1 + 134)), (3, .ref (G.2.1 + 143)), (4, .int (nI (4 * j)))] [] := by
  obtain ⟨h, hX, hst, hS0, hbl, hbA, hL⟩ := LAh
  refine r_aload_n (pc := 350) h 1 rfl rfl dL_law_350 ?_
  refine r_aload_n (pc := 351) h 0 rfl rfl dL_law_351 ?_
  refine r_iload (pc := 352) h 4 rfl dL_law_352 ?_
  refine r_iconst (pc := 354) (v := nI 1) h (by decide) dL_law_354 ?_
  refine r_iadd (pc := 355) (v := nI (4 * j + 1)) h (nI_add _ _) dL_law_355 ?_
  refine r_sld (pc := 356) (j := 4 * j + 1) h hS0 hbl hbA rfl (by omega) (by omega) dL_law_356 ?_
  refine r_aload_n (pc := 357) h 0 rfl rfl dL_law_357 ?_
  refine r_iload (pc := 358) h 4 rfl dL_law_358 ?_
  refine r_iconst (pc := 360) (v := nI 2) h (by decide) dL_law_360 ?_
  refine r_iadd (pc := 361) (v := nI (4 * j + 2)) h (nI_add _ _) dL_law_361 ?_
  refine r_sld (pc := 362) (j := 4 * j + 2) h hS0 hbl hbA rfl (by omega) (by omega) dL_law_362 ?_
  refine r_aload_n (pc := 363) h 3 rfl rfl dL_law_363 ?_
  refine r_LS (pc := 364) (n := 4) (As := [.ref (G.2.1 + 0), .int (xs (4 * j + 1)), .int (xs (4 * j + 2)), .ref (G.2.1 + 143)]) (st := []) h hX ⟨mw_20_10, mw_4_9, mw_20_12, ⟨by decide +kernel, by decide +kernel⟩, by decide +kernel, mw_20_11⟩ (l_makeSteps x.2.1 hst G σ n tx A m H sv sl hC (xs (4 * j + 1)) (xs (4 * j + 2))) rfl rfl (by decide) (by first | decide | exact Nat.le_of_ble_eq_true rfl) ⟨(by show 144 + 2 * j + 1 ≤ 601024; omega), (by show 18188 + 12 * j + 6 ≤ 7293034; omega)⟩ dL_law_364 (fun r1 s1 q1 => ?_)
  obtain ⟨e1, hk, hI0, hI1⟩ := q1
  refine r_istore (pc := 367) (lo2 := [(5, .int r1), (0, .ref b), (1, .ref (G.2.1 + 0)), (2, .ref (G.2.1 + 134)), (3, .ref (G.2.1 + 143)), (4, .int (nI (4 * j)))]) h (by decide) rfl dL_law_367 ?_
  refine r_aload_n (pc := 369) h 3 rfl rfl dL_law_369 ?_
  refine r_aload_n (pc := 370) h 1 rfl rfl dL_law_370 ?_
  refine r_iload (pc := 371) h 5 rfl dL_law_371 ?_
  refine r_iconst (pc := 373) (v := nI 1) h (by decide) dL_law_373 ?_
  refine r_iadd (pc := 374) (v := nI (4 * j + 1)) h (nI_add _ _) dL_law_374 ?_
  refine r_sld (pc := 375) (j := 4 * j + 1) h hS0 hbl hbA rfl (by omega) (by omega) dL_law_375 ?_
  refine r_aload_n (pc := 376) h 1 rfl rfl dL_law_376 ?_
  refine r_iload (pc := 377) h 5 rfl dL_law_377 ?_
  refine r_iconst (pc := 379) (v := nI 2) h (by decide) dL_law_379 ?_
  refine r_iadd (pc := 380) (v := nI (4 * j + 2)) h (nI_add _ _) dL_law_380 ?_
  refine r_sld (pc := 381) (j := 4 * j + 2) h hS0 hbl hbA rfl (by omega) (by omega) dL_law_381 ?_
  refine r_cVi (pc := 382) (As := [.int (xs (4 * j + 1)), .int (xs (4 * j + 2))]) (st := []) h lk_RL_157 (c_m_makeSteps x.2.1 G s1 n tx A m H sv sl (keepM hM hk) (xs (4 * j + 1)) (xs (4 * j + 2))) rc_6 (by decide) rfl rfl (by first | decide | exact Nat.le_of_ble_eq_true rfl) ⟨(by show 144 + 2 * j + 1 + 0 ≤ 601024; omega), (by show 18188 + 12 * j + 6 + 0 ≤ 7293034; omega)⟩ dL_law_382 (fun r2 s2 q2 => ?_)
  obtain ⟨g1, g2, g3, g4⟩ := q2
  refine r_istore (pc := 385) (lo2 := [(6, .int r2), (5, .int r1), (0, .ref b), (1, .ref (G.2.1 + 0)), (2, .ref (G.2.1 + 134)), (3, .ref (G.2.1 + 143)), (4, .int (nI (4 * j)))]) h (by decide) rfl dL_law_385 ?_
  refine r_aload_n (pc := 387) h 4 rfl rfl dL_law_387 ?_
  refine r_cVi (pc := 388) (As := []) (st := []) h lk_RL_139 (c_thrown x.2.1 G s2) rc_6 (by decide) rfl rfl (by first | decide | exact Nat.le_of_ble_eq_true rfl) ⟨(by show 144 + 2 * j + 1 + 0 + 0 ≤ 601024; omega), (by show 18188 + 12 * j + 6 + 0 + 0 ≤ 7293034; omega)⟩ dL_law_388 (fun r3 s3 q3 => ?_)
  rw [q3.1, q3.2, g1]
  refine r_iload (pc := 391) h 1 rfl dL_law_391 ?_
  refine r_icmp_eq (pc := 393) (tgt := 398) h (by decide) dL_law_393 (fun _ => ?_) (fun c9 => absurd e1.symm c9)
  refine r_iload (pc := 398) h 1 rfl dL_law_398 ?_
  refine r_if_ne (pc := 400) (tgt := 415) h (by decide) dL_law_400 (fun c9 => ?_) (fun c9 => ?_)
  · have hC0 : ob A 115 (xs (4 * j + 1)) (xs (4 * j + 2)) (nI 0) ≠ 0 := fun q => c9 (by rw [e1, q, kq_0]; rfl)
    refine r_goto (pc := 415) (tgt := 2550) h (by decide) dL_law_415 ?_
    exact V.wd (by show 144 + 2 * j + 1 + 0 + 0 ≤ 144 + 2 * (j + 1); omega) (by show 18188 + 12 * j + 6 + 0 + 0 ≤ 18188 + 12 * (j + 1); omega) (r_sub [2, 3, 4, 5, 6] rfl (kk _ _ _ _ _ _ _ _ ((hI0 hC0).o g2 (Or.inl (by decide))) (g3 hC0)))
  · have hC0 : ob A 115 (xs (4 * j + 1)) (xs (4 * j + 2)) (nI 0) = 0 := (kq_z (by decide)).mp (e1.symm.trans c9)
    have ho := (g2.l 143 0 (by omega)).trans (hI1 hC0).1
    have hr := (g4 hC0).1
    refine r_aload_n (pc := 403) h 5 rfl rfl dL_law_403 ?_
    refine r_iconst (pc := 404) (v := nI 0) h (by decide) dL_law_404 ?_
    refine r_lald (pc := 405) h a_out 0 rfl (by decide) dL_law_405 ?_
    refine r_iload (pc := 406) h 0 rfl dL_law_406 ?_
    refine r_i2l (pc := 408) (v := r2.toInt64) h rfl dL_law_408 ?_
    refine r_lcmp (pc := 409) (v := lg_cmp (s2.2 143 0) r2.toInt64) h rfl dL_law_409 ?_
    refine r_if_eq (pc := 410) (tgt := 415) h (by decide) dL_law_410 (fun _ => ?_) (fun c7 => absurd (lg_self _ (ho.trans (by rw [hr]))) c7)
    refine r_goto (pc := 415) (tgt := 2550) h (by decide) dL_law_415 ?_
    exact V.wd (by show 144 + 2 * j + 1 + 0 + 0 ≤ 144 + 2 * (j + 1); omega) (by show 18188 + 12 * j + 6 + 0 + 0 ≤ 18188 + 12 * (j + 1); omega) (r_sub [2, 3, 4, 5, 6] rfl (kk _ _ _ _ _ _ _ _ ((hI1 hC0).2.o g2 (Or.inl (by decide))) ((g4 hC0).2)))

set_option maxRecDepth 100000 in
set_option maxHeartbeats 1600000 in
theorem law_c5 {x : Cx} {G : Gl} {Q : State → Prop} {b L : Nat} {xs : Nat → Int32} (LAh : LA x G b L xs) (j : Nat) (hj : 4 * j + 4 ≤ L) (σ : Sg) (n : Nat) (tx : Nat → Nat) (A : Ab) (m : Nat) (H : Nat → Ab) (sv : Nat → Bool) (sl : Nat → Ab) (hC : InvC n tx A m H sv sl σ) (hM : InvM n tx A m H sv sl σ) (kk : NX x G Q b j) : V x G 7 (144 + 2 * j) (18188 + 12 * j) Q σ 418 [(0, .ref b), (1, .ref (G.2.1 + 0)), (2, .ref (G.2.1 + 134)), (3, .ref (G.2.1 + 143)), (4, .int (nI (4 * j)))] [] := by
  obtain ⟨h, hX, hst, hS0, hbl, hbA, hL⟩ := LAh
  refine r_aload_n (pc := 418) h 1 rfl rfl dL_law_418 ?_
  refine r_aload_n (pc := 419) h 0 rfl rfl dL_law_419 ?_
  refine r_iload (pc := 420) h 4 rfl dL_law_420 ?_
  refine r_iconst (pc := 422) (v := nI 1) h (by decide) dL_law_422 ?_
  refine r_iadd (pc := 423) (v := nI (4 * j + 1)) h (nI_add _ _) dL_law_423 ?_
  refine r_sld (pc := 424) (j := 4 * j + 1) h hS0 hbl hbA rfl (by omega) (by omega) dL_law_424 ?_
  refine r_aload_n (pc := 425) h 0 rfl rfl dL_law_425 ?_
  refine r_iload (pc := 426) h 4 rfl dL_law_426 ?_
  refine r_iconst (pc := 428) (v := nI 2) h (by decide) dL_law_428 ?_
  refine r_iadd (pc := 429) (v := nI (4 * j + 2)) h (nI_add _ _) dL_law_429 ?_
  refine r_sld (pc := 430) (j := 4 * j + 2) h hS0 hbl hbA rfl (by omega) (by omega) dL_law_430 ?_
  refine r_aload_n (pc := 431) h 0 rfl rfl dL_law_431 ?_
  refine r_iload (pc := 432) h 4 rfl dL_law_432 ?_
  refine r_iconst (pc := 434) (v := nI 3) h (by decide) dL_law_434 ?_
  refine r_iadd (pc := 435) (v := nI (4 * j + 3)) h (nI_add _ _) dL_law_435 ?_
  refine r_sld (pc := 436) (j := 4 * j + 3) h hS0 hbl hbA rfl (by omega) (by omega) dL_law_436 ?_
  refine r_aload_n (pc := 437) h 3 rfl rfl dL_law_437 ?_
  refine r_LS (pc := 438) (n := 5) (As := [.ref (G.2.1 + 0), .int (xs (4 * j + 1)), .int (xs (4 * j + 2)), .int (xs (4 * j + 3)), .ref (G.2.1 + 143)]) (st := []) h hX ⟨mw_22_16, mw_4_9, mw_22_18, ⟨by decide +kernel, by decide +kernel⟩, by decide +kernel, mw_22_17⟩ (l_makeScaled x.2.1 hst G σ n tx A m H sv sl hC (xs (4 * j + 1)) (xs (4 * j + 2)) (xs (4 * j + 3))) rfl rfl (by decide) (by first | decide | exact Nat.le_of_ble_eq_true rfl) ⟨(by show 144 + 2 * j + 1 ≤ 601024; omega), (by show 18188 + 12 * j + 6 ≤ 7293034; omega)⟩ dL_law_438 (fun r1 s1 q1 => ?_)
  obtain ⟨e1, hk, hI0, hI1⟩ := q1
  refine r_istore (pc := 441) (lo2 := [(5, .int r1), (0, .ref b), (1, .ref (G.2.1 + 0)), (2, .ref (G.2.1 + 134)), (3, .ref (G.2.1 + 143)), (4, .int (nI (4 * j)))]) h (by decide) rfl dL_law_441 ?_
  refine r_aload_n (pc := 443) h 3 rfl rfl dL_law_443 ?_
  refine r_aload_n (pc := 444) h 1 rfl rfl dL_law_444 ?_
  refine r_iload (pc := 445) h 5 rfl dL_law_445 ?_
  refine r_iconst (pc := 447) (v := nI 1) h (by decide) dL_law_447 ?_
  refine r_iadd (pc := 448) (v := nI (4 * j + 1)) h (nI_add _ _) dL_law_448 ?_
  refine r_sld (pc := 449) (j := 4 * j + 1) h hS0 hbl hbA rfl (by omega) (by omega) dL_law_449 ?_
  refine r_aload_n (pc := 450) h 1 rfl rfl dL_law_450 ?_
  refine r_iload (pc := 451) h 5 rfl dL_law_451 ?_
  refine r_iconst (pc := 453) (v := nI 2) h (by decide) dL_law_453 ?_
  refine r_iadd (pc := 454) (v := nI (4 * j + 2)) h (nI_add _ _) dL_law_454 ?_
  refine r_sld (pc := 455) (j := 4 * j + 2) h hS0 hbl hbA rfl (by omega) (by omega) dL_law_455 ?_
  refine r_aload_n (pc := 456) h 1 rfl rfl dL_law_456 ?_
  refine r_iload (pc := 457) h 5 rfl dL_law_457 ?_
  refine r_iconst (pc := 459) (v := nI 3) h (by decide) dL_law_459 ?_
  refine r_iadd (pc := 460) (v := nI (4 * j + 3)) h (nI_add _ _) dL_law_460 ?_
  refine r_sld (pc := 461) (j := 4 * j + 3) h hS0 hbl hbA rfl (by omega) (by omega) dL_law_461 ?_
  refine r_cVi (pc := 462) (As := [.int (xs (4 * j + 1)), .int (xs (4 * j + 2)), .int (xs (4 * j + 3))]) (st := []) h lk_RL_161 (c_m_makeScaled x.2.1 G s1 n tx A m H sv sl (keepM hM hk) (xs (4 * j + 1)) (xs (4 * j + 2)) (xs (4 * j + 3))) rc_6 (by decide) rfl rfl (by first | decide | exact Nat.le_of_ble_eq_true rfl) ⟨(by show 144 + 2 * j + 1 + 0 ≤ 601024; omega), (by show 18188 + 12 * j + 6 + 0 ≤ 7293034; omega)⟩ dL_law_462 (fun r2 s2 q2 => ?_)
  obtain ⟨g1, g2, g3, g4⟩ := q2
  refine r_istore (pc := 465) (lo2 := [(6, .int r2), (5, .int r1), (0, .ref b), (1, .ref (G.2.1 + 0)), (2, .ref (G.2.1 + 134)), (3, .ref (G.2.1 + 143)), (4, .int (nI (4 * j)))]) h (by decide) rfl dL_law_465 ?_
  refine r_aload_n (pc := 467) h 4 rfl rfl dL_law_467 ?_
  refine r_cVi (pc := 468) (As := []) (st := []) h lk_RL_139 (c_thrown x.2.1 G s2) rc_6 (by decide) rfl rfl (by first | decide | exact Nat.le_of_ble_eq_true rfl) ⟨(by show 144 + 2 * j + 1 + 0 + 0 ≤ 601024; omega), (by show 18188 + 12 * j + 6 + 0 + 0 ≤ 7293034; omega)⟩ dL_law_468 (fun r3 s3 q3 => ?_)
  rw [q3.1, q3.2, g1]
  refine r_iload (pc := 471) h 1 rfl dL_law_471 ?_
  refine r_icmp_eq (pc := 473) (tgt := 478) h (by decide) dL_law_473 (fun _ => ?_) (fun c9 => absurd e1.symm c9)
  refine r_iload (pc := 478) h 1 rfl dL_law_478 ?_
  refine r_if_ne (pc := 480) (tgt := 495) h (by decide) dL_law_480 (fun c9 => ?_) (fun c9 => ?_)
  · have hC0 : ob A 120 (xs (4 * j + 1)) (xs (4 * j + 2)) (xs (4 * j + 3)) ≠ 0 := fun q => c9 (by rw [e1, q, kq_0]; rfl)
    refine r_goto (pc := 495) (tgt := 2550) h (by decide) dL_law_495 ?_
    exact V.wd (by show 144 + 2 * j + 1 + 0 + 0 ≤ 144 + 2 * (j + 1); omega) (by show 18188 + 12 * j + 6 + 0 + 0 ≤ 18188 + 12 * (j + 1); omega) (r_sub [2, 3, 4, 5, 6] rfl (kk _ _ _ _ _ _ _ _ ((hI0 hC0).o g2 (Or.inl (by decide))) (g3 hC0)))
  · have hC0 : ob A 120 (xs (4 * j + 1)) (xs (4 * j + 2)) (xs (4 * j + 3)) = 0 := (kq_z (by decide)).mp (e1.symm.trans c9)
    have ho := (g2.l 143 0 (by omega)).trans (hI1 hC0).1
    have hr := (g4 hC0).1
    refine r_aload_n (pc := 483) h 5 rfl rfl dL_law_483 ?_
    refine r_iconst (pc := 484) (v := nI 0) h (by decide) dL_law_484 ?_
    refine r_lald (pc := 485) h a_out 0 rfl (by decide) dL_law_485 ?_
    refine r_iload (pc := 486) h 0 rfl dL_law_486 ?_
    refine r_i2l (pc := 488) (v := r2.toInt64) h rfl dL_law_488 ?_
    refine r_lcmp (pc := 489) (v := lg_cmp (s2.2 143 0) r2.toInt64) h rfl dL_law_489 ?_
    refine r_if_eq (pc := 490) (tgt := 495) h (by decide) dL_law_490 (fun _ => ?_) (fun c7 => absurd (lg_self _ (ho.trans (by rw [hr]))) c7)
    refine r_goto (pc := 495) (tgt := 2550) h (by decide) dL_law_495 ?_
    exact V.wd (by show 144 + 2 * j + 1 + 0 + 0 ≤ 144 + 2 * (j + 1); omega) (by show 18188 + 12 * j + 6 + 0 + 0 ≤ 18188 + 12 * (j + 1); omega) (r_sub [2, 3, 4, 5, 6] rfl (kk _ _ _ _ _ _ _ _ ((hI1 hC0).2.o g2 (Or.inl (by decide))) ((g4 hC0).2)))

set_option maxRecDepth 100000 in
set_option maxHeartbeats 1600000 in
theorem law_c6 {x : Cx} {G : Gl} {Q : State → Prop} {b L : Nat} {xs : Nat → Int32} (LAh : LA x G b L xs) (j : Nat) (hj : 4 * j + 4 ≤ L) (σ : Sg) (n : Nat) (tx : Nat → Nat) (A : Ab) (m : Nat) (H : Nat → Ab) (sv : Nat → Bool) (sl : Nat → Ab) (hC : InvC n tx A m H sv sl σ) (hM : InvM n tx A m H sv sl σ) (kk : NX x G Q b j) : V x G 7 (144 + 2 * j) (18188 + 12 * j) Q σ 498 [(0, .ref b), (1, .ref (G.2.1 + 0)), (2, .ref (G.2.1 + 134)), (3, .ref (G.2.1 + 143)), (4, .int (nI (4 * j)))] [] := by
  obtain ⟨h, hX, hst, hS0, hbl, hbA, hL⟩ := LAh
  refine r_aload_n (pc := 498) h 1 rfl rfl dL_law_498 ?_
  refine r_aload_n (pc := 499) h 0 rfl rfl dL_law_499 ?_
  refine r_iload (pc := 500) h 4 rfl dL_law_500 ?_
  refine r_iconst (pc := 502) (v := nI 1) h (by decide) dL_law_502 ?_
  refine r_iadd (pc := 503) (v := nI (4 * j + 1)) h (nI_add _ _) dL_law_503 ?_
  refine r_sld (pc := 504) (j := 4 * j + 1) h hS0 hbl hbA rfl (by omega) (by omega) dL_law_504 ?_
  refine r_aload_n (pc := 505) h 0 rfl rfl dL_law_505 ?_
  refine r_iload (pc := 506) h 4 rfl dL_law_506 ?_
  refine r_iconst (pc := 508) (v := nI 2) h (by decide) dL_law_508 ?_
  refine r_iadd (pc := 509) (v := nI (4 * j + 2)) h (nI_add _ _) dL_law_509 ?_
  refine r_sld (pc := 510) (j := 4 * j + 2) h hS0 hbl hbA rfl (by omega) (by omega) dL_law_510 ?_
  refine r_aload_n (pc := 511) h 3 rfl rfl dL_law_511 ?_
  refine r_LS (pc := 512) (n := 4) (As := [.ref (G.2.1 + 0), .int (xs (4 * j + 1)), .int (xs (4 * j + 2)), .ref (G.2.1 + 143)]) (st := []) h hX ⟨mw_23_4, mw_4_9, mw_23_6, ⟨by decide +kernel, by decide +kernel⟩, by decide +kernel, mw_23_5⟩ (l_makeJoined x.2.1 hst G σ n tx A m H sv sl hC (xs (4 * j + 1)) (xs (4 * j + 2))) rfl rfl (by decide) (by first | decide | exact Nat.le_of_ble_eq_true rfl) ⟨(by show 144 + 2 * j + 1 ≤ 601024; omega), (by show 18188 + 12 * j + 6 ≤ 7293034; omega)⟩ dL_law_512 (fun r1 s1 q1 => ?_)
  obtain ⟨e1, hk, hI0, hI1⟩ := q1
  refine r_istore (pc := 515) (lo2 := [(5, .int r1), (0, .ref b), (1, .ref (G.2.1 + 0)), (2, .ref (G.2.1 + 134)), (3, .ref (G.2.1 + 143)), (4, .int (nI (4 * j)))]) h (by decide) rfl dL_law_515 ?_
  refine r_aload_n (pc := 517) h 3 rfl rfl dL_law_517 ?_
  refine r_aload_n (pc := 518) h 1 rfl rfl dL_law_518 ?_
  refine r_iload (pc := 519) h 5 rfl dL_law_519 ?_
  refine r_iconst (pc := 521) (v := nI 1) h (by decide) dL_law_521 ?_
  refine r_iadd (pc := 522) (v := nI (4 * j + 1)) h (nI_add _ _) dL_law_522 ?_
  refine r_sld (pc := 523) (j := 4 * j + 1) h hS0 hbl hbA rfl (by omega) (by omega) dL_law_523 ?_
  refine r_aload_n (pc := 524) h 1 rfl rfl dL_law_524 ?_
  refine r_iload (pc := 525) h 5 rfl dL_law_525 ?_
  refine r_iconst (pc := 527) (v := nI 2) h (by decide) dL_law_527 ?_
  refine r_iadd (pc := 528) (v := nI (4 * j + 2)) h (nI_add _ _) dL_law_528 ?_
  refine r_sld (pc := 529) (j := 4 * j + 2) h hS0 hbl hbA rfl (by omega) (by omega) dL_law_529 ?_
  refine r_cVi (pc := 530) (As := [.int (xs (4 * j + 1)), .int (xs (4 * j + 2))]) (st := []) h lk_RL_164 (c_m_makeJoined x.2.1 G s1 n tx A m H sv sl (keepM hM hk) (xs (4 * j + 1)) (xs (4 * j + 2))) rc_6 (by decide) rfl rfl (by first | decide | exact Nat.le_of_ble_eq_true rfl) ⟨(by show 144 + 2 * j + 1 + 0 ≤ 601024; omega), (by show 18188 + 12 * j + 6 + 0 ≤ 7293034; omega)⟩ dL_law_530 (fun r2 s2 q2 => ?_)
  obtain ⟨g1, g2, g3, g4⟩ := q2
  refine r_istore (pc := 533) (lo2 := [(6, .int r2), (5, .int r1), (0, .ref b), (1, .ref (G.2.1 + 0)), (2, .ref (G.2.1 + 134)), (3, .ref (G.2.1 + 143)), (4, .int (nI (4 * j)))]) h (by decide) rfl dL_law_533 ?_
  refine r_aload_n (pc := 535) h 4 rfl rfl dL_law_535 ?_
  refine r_cVi (pc := 536) (As := []) (st := []) h lk_RL_139 (c_thrown x.2.1 G s2) rc_6 (by decide) rfl rfl (by first | decide | exact Nat.le_of_ble_eq_true rfl) ⟨(by show 144 + 2 * j + 1 + 0 + 0 ≤ 601024; omega), (by show 18188 + 12 * j + 6 + 0 + 0 ≤ 7293034; omega)⟩ dL_law_536 (fun r3 s3 q3 => ?_)
  rw [q3.1, q3.2, g1]
  refine r_iload (pc := 539) h 1 rfl dL_law_539 ?_
  refine r_icmp_eq (pc := 541) (tgt := 546) h (by decide) dL_law_541 (fun _ => ?_) (fun c9 => absurd e1.symm c9)
  refine r_iload (pc := 546) h 1 rfl dL_law_546 ?_
  refine r_if_ne (pc := 548) (tgt := 563) h (by decide) dL_law_548 (fun c9 => ?_) (fun c9 => ?_)
  · have hC0 : ob A 106 (xs (4 * j + 1)) (xs (4 * j + 2)) (nI 0) ≠ 0 := fun q => c9 (by rw [e1, q, kq_0]; rfl)
    refine r_goto (pc := 563) (tgt := 2550) h (by decide) dL_law_563 ?_
    exact V.wd (by show 144 + 2 * j + 1 + 0 + 0 ≤ 144 + 2 * (j + 1); omega) (by show 18188 + 12 * j + 6 + 0 + 0 ≤ 18188 + 12 * (j + 1); omega) (r_sub [2, 3, 4, 5, 6] rfl (kk _ _ _ _ _ _ _ _ ((hI0 hC0).o g2 (Or.inl (by decide))) (g3 hC0)))
  · have hC0 : ob A 106 (xs (4 * j + 1)) (xs (4 * j + 2)) (nI 0) = 0 := (kq_z (by decide)).mp (e1.symm.trans c9)
    have ho := (g2.l 143 0 (by omega)).trans (hI1 hC0).1
    have hr := (g4 hC0).1
    refine r_aload_n (pc := 551) h 5 rfl rfl dL_law_551 ?_
    refine r_iconst (pc := 552) (v := nI 0) h (by decide) dL_law_552 ?_
    refine r_lald (pc := 553) h a_out 0 rfl (by decide) dL_law_553 ?_
    refine r_iload (pc := 554) h 0 rfl dL_law_554 ?_
    refine r_i2l (pc := 556) (v := r2.toInt64) h rfl dL_law_556 ?_
    refine r_lcmp (pc := 557) (v := lg_cmp (s2.2 143 0) r2.toInt64) h rfl dL_law_557 ?_
    refine r_if_eq (pc := 558) (tgt := 563) h (by decide) dL_law_558 (fun _ => ?_) (fun c7 => absurd (lg_self _ (ho.trans (by rw [hr]))) c7)
    refine r_goto (pc := 563) (tgt := 2550) h (by decide) dL_law_563 ?_
    exact V.wd (by show 144 + 2 * j + 1 + 0 + 0 ≤ 144 + 2 * (j + 1); omega) (by show 18188 + 12 * j + 6 + 0 + 0 ≤ 18188 + 12 * (j + 1); omega) (r_sub [2, 3, 4, 5, 6] rfl (kk _ _ _ _ _ _ _ _ ((hI1 hC0).2.o g2 (Or.inl (by decide))) ((g4 hC0).2)))

set_option maxRecDepth 100000 in
set_option maxHeartbeats 1600000 in
theorem law_c7 {x : Cx} {G : Gl} {Q : State → Prop} {b L : Nat} {xs : Nat → Int32} (LAh : LA x G b L xs) (j : Nat) (hj : 4 * j + 4 ≤ L) (σ : Sg) (n : Nat) (tx : Nat → Nat) (A : Ab) (m : Nat) (H : Nat → Ab) (sv : Nat → Bool) (sl : Nat → Ab) (hC : InvC n tx A m H sv sl σ) (hM : InvM n tx A m H sv sl σ) (kk : NX x G Q b j) : V x G 7 (144 + 2 * j) (18188 + 12 * j) Q σ 566 [(0, .ref b), (1, .ref (G.2.1 + 0)), (2, .ref (G.2.1 + 134)), (3, .ref (G.2.1 + 143)), (4, .int (nI (4 * j)))] [] := by
  obtain ⟨h, hX, hst, hS0, hbl, hbA, hL⟩ := LAh
  refine r_aload_n (pc := 566) h 1 rfl rfl dL_law_566 ?_
  refine r_aload_n (pc := 567) h 0 rfl rfl dL_law_567 ?_
  refine r_iload (pc := 568) h 4 rfl dL_law_568 ?_
  refine r_iconst (pc := 570) (v := nI 1) h (by decide) dL_law_570 ?_
  refine r_iadd (pc := 571) (v := nI (4 * j + 1)) h (nI_add _ _) dL_law_571 ?_
  refine r_sld (pc := 572) (j := 4 * j + 1) h hS0 hbl hbA rfl (by omega) (by omega) dL_law_572 ?_
  refine r_aload_n (pc := 573) h 0 rfl rfl dL_law_573 ?_
  refine r_iload (pc := 574) h 4 rfl dL_law_574 ?_
  refine r_iconst (pc := 576) (v := nI 2) h (by decide) dL_law_576 ?_
  refine r_iadd (pc := 577) (v := nI (4 * j + 2)) h (nI_add _ _) dL_law_577 ?_
  refine r_sld (pc := 578) (j := 4 * j + 2) h hS0 hbl hbA rfl (by omega) (by omega) dL_law_578 ?_
  refine r_aload_n (pc := 579) h 3 rfl rfl dL_law_579 ?_
  refine r_LS (pc := 580) (n := 4) (As := [.ref (G.2.1 + 0), .int (xs (4 * j + 1)), .int (xs (4 * j + 2)), .ref (G.2.1 + 143)]) (st := []) h hX ⟨mw_23_19, mw_4_9, mw_23_21, ⟨by decide +kernel, by decide +kernel⟩, by decide +kernel, mw_23_20⟩ (l_makeShared x.2.1 hst G σ n tx A m H sv sl hC (xs (4 * j + 1)) (xs (4 * j + 2))) rfl rfl (by decide) (by first | decide | exact Nat.le_of_ble_eq_true rfl) ⟨(by show 144 + 2 * j + 1 ≤ 601024; omega), (by show 18188 + 12 * j + 6 ≤ 7293034; omega)⟩ dL_law_580 (fun r1 s1 q1 => ?_)
  obtain ⟨e1, hk, hI0, hI1⟩ := q1
  refine r_istore (pc := 583) (lo2 := [(5, .int r1), (0, .ref b), (1, .ref (G.2.1 + 0)), (2, .ref (G.2.1 + 134)), (3, .ref (G.2.1 + 143)), (4, .int (nI (4 * j)))]) h (by decide) rfl dL_law_583 ?_
  refine r_aload_n (pc := 585) h 3 rfl rfl dL_law_585 ?_
  refine r_aload_n (pc := 586) h 1 rfl rfl dL_law_586 ?_
  refine r_iload (pc := 587) h 5 rfl dL_law_587 ?_
  refine r_iconst (pc := 589) (v := nI 1) h (by decide) dL_law_589 ?_
  refine r_iadd (pc := 590) (v := nI (4 * j + 1)) h (nI_add _ _) dL_law_590 ?_
  refine r_sld (pc := 591) (j := 4 * j + 1) h hS0 hbl hbA rfl (by omega) (by omega) dL_law_591 ?_
  refine r_aload_n (pc := 592) h 1 rfl rfl dL_law_592 ?_
  refine r_iload (pc := 593) h 5 rfl dL_law_593 ?_
  refine r_iconst (pc := 595) (v := nI 2) h (by decide) dL_law_595 ?_
  refine r_iadd (pc := 596) (v := nI (4 * j + 2)) h (nI_add _ _) dL_law_596 ?_
  refine r_sld (pc := 597) (j := 4 * j + 2) h hS0 hbl hbA rfl (by omega) (by omega) dL_law_597 ?_
  refine r_cVi (pc := 598) (As := [.int (xs (4 * j + 1)), .int (xs (4 * j + 2))]) (st := []) h lk_RL_167 (c_m_makeShared x.2.1 G s1 n tx A m H sv sl (keepM hM hk) (xs (4 * j + 1)) (xs (4 * j + 2))) rc_6 (by decide) rfl rfl (by first | decide | exact Nat.le_of_ble_eq_true rfl) ⟨(by show 144 + 2 * j + 1 + 0 ≤ 601024; omega), (by show 18188 + 12 * j + 6 + 0 ≤ 7293034; omega)⟩ dL_law_598 (fun r2 s2 q2 => ?_)
  obtain ⟨g1, g2, g3, g4⟩ := q2
  refine r_istore (pc := 601) (lo2 := [(6, .int r2), (5, .int r1), (0, .ref b), (1, .ref (G.2.1 + 0)), (2, .ref (G.2.1 + 134)), (3, .ref (G.2.1 + 143)), (4, .int (nI (4 * j)))]) h (by decide) rfl dL_law_601 ?_
  refine r_aload_n (pc := 603) h 4 rfl rfl dL_law_603 ?_
  refine r_cVi (pc := 604) (As := []) (st := []) h lk_RL_139 (c_thrown x.2.1 G s2) rc_6 (by decide) rfl rfl (by first | decide | exact Nat.le_of_ble_eq_true rfl) ⟨(by show 144 + 2 * j + 1 + 0 + 0 ≤ 601024; omega), (by show 18188 + 12 * j + 6 + 0 + 0 ≤ 7293034; omega)⟩ dL_law_604 (fun r3 s3 q3 => ?_)
  rw [q3.1, q3.2, g1]
  refine r_iload (pc := 607) h 1 rfl dL_law_607 ?_
  refine r_icmp_eq (pc := 609) (tgt := 614) h (by decide) dL_law_609 (fun _ => ?_) (fun c9 => absurd e1.symm c9)
  refine r_iload (pc := 614) h 1 rfl dL_law_614 ?_
  refine r_if_ne (pc := 616) (tgt := 631) h (by decide) dL_law_616 (fun c9 => ?_) (fun c9 => ?_)
  · have hC0 : ob A 104 (xs (4 * j + 1)) (xs (4 * j + 2)) (nI 0) ≠ 0 := fun q => c9 (by rw [e1, q, kq_0]; rfl)
    refine r_goto (pc := 631) (tgt := 2550) h (by decide) dL_law_631 ?_
    exact V.wd (by show 144 + 2 * j + 1 + 0 + 0 ≤ 144 + 2 * (j + 1); omega) (by show 18188 + 12 * j + 6 + 0 + 0 ≤ 18188 + 12 * (j + 1); omega) (r_sub [2, 3, 4, 5, 6] rfl (kk _ _ _ _ _ _ _ _ ((hI0 hC0).o g2 (Or.inl (by decide))) (g3 hC0)))
  · have hC0 : ob A 104 (xs (4 * j + 1)) (xs (4 * j + 2)) (nI 0) = 0 := (kq_z (by decide)).mp (e1.symm.trans c9)
    have ho := (g2.l 143 0 (by omega)).trans (hI1 hC0).1
    have hr := (g4 hC0).1
    refine r_aload_n (pc := 619) h 5 rfl rfl dL_law_619 ?_
    refine r_iconst (pc := 620) (v := nI 0) h (by decide) dL_law_620 ?_
    refine r_lald (pc := 621) h a_out 0 rfl (by decide) dL_law_621 ?_
    refine r_iload (pc := 622) h 0 rfl dL_law_622 ?_
    refine r_i2l (pc := 624) (v := r2.toInt64) h rfl dL_law_624 ?_
    refine r_lcmp (pc := 625) (v := lg_cmp (s2.2 143 0) r2.toInt64) h rfl dL_law_625 ?_
    refine r_if_eq (pc := 626) (tgt := 631) h (by decide) dL_law_626 (fun _ => ?_) (fun c7 => absurd (lg_self _ (ho.trans (by rw [hr]))) c7)
    refine r_goto (pc := 631) (tgt := 2550) h (by decide) dL_law_631 ?_
    exact V.wd (by show 144 + 2 * j + 1 + 0 + 0 ≤ 144 + 2 * (j + 1); omega) (by show 18188 + 12 * j + 6 + 0 + 0 ≤ 18188 + 12 * (j + 1); omega) (r_sub [2, 3, 4, 5, 6] rfl (kk _ _ _ _ _ _ _ _ ((hI1 hC0).2.o g2 (Or.inl (by decide))) ((g4 hC0).2)))

set_option maxRecDepth 100000 in
set_option maxHeartbeats 1600000 in
theorem law_c8 {x : Cx} {G : Gl} {Q : State → Prop} {b L : Nat} {xs : Nat → Int32} (LAh : LA x G b L xs) (j : Nat) (hj : 4 * j + 4 ≤ L) (σ : Sg) (n : Nat) (tx : Nat → Nat) (A : Ab) (m : Nat) (H : Nat → Ab) (sv : Nat → Bool) (sl : Nat → Ab) (hC : InvC n tx A m H sv sl σ) (hM : InvM n tx A m H sv sl σ) (kk : NX x G Q b j) : V x G 7 (144 + 2 * j) (18188 + 12 * j) Q σ 634 [(0, .ref b), (1, .ref (G.2.1 + 0)), (2, .ref (G.2.1 + 134)), (3, .ref (G.2.1 + 143)), (4, .int (nI (4 * j)))] [] := by
  obtain ⟨h, hX, hst, hS0, hbl, hbA, hL⟩ := LAh
  refine r_aload_n (pc := 634) h 1 rfl rfl dL_law_634 ?_
  refine r_aload_n (pc := 635) h 0 rfl rfl dL_law_635 ?_
  refine r_iload (pc := 636) h 4 rfl dL_law_636 ?_
  refine r_iconst (pc := 638) (v := nI 1) h (by decide) dL_law_638 ?_
  refine r_iadd (pc := 639) (v := nI (4 * j + 1)) h (nI_add _ _) dL_law_639 ?_
  refine r_sld (pc := 640) (j := 4 * j + 1) h hS0 hbl hbA rfl (by omega) (by omega) dL_law_640 ?_
  refine r_aload_n (pc := 641) h 0 rfl rfl dL_law_641 ?_
  refine r_iload (pc := 642) h 4 rfl dL_law_642 ?_
  refine r_iconst (pc := 644) (v := nI 2) h (by decide) dL_law_644 ?_
  refine r_iadd (pc := 645) (v := nI (4 * j + 2)) h (nI_add _ _) dL_law_645 ?_
  refine r_sld (pc := 646) (j := 4 * j + 2) h hS0 hbl hbA rfl (by omega) (by omega) dL_law_646 ?_
  refine r_aload_n (pc := 647) h 3 rfl rfl dL_law_647 ?_
  refine r_LS (pc := 648) (n := 4) (As := [.ref (G.2.1 + 0), .int (xs (4 * j + 1)), .int (xs (4 * j + 2)), .ref (G.2.1 + 143)]) (st := []) h hX ⟨mw_24_6, mw_4_9, mw_24_8, ⟨by decide +kernel, by decide +kernel⟩, by decide +kernel, mw_24_7⟩ (l_makeWithout x.2.1 hst G σ n tx A m H sv sl hC (xs (4 * j + 1)) (xs (4 * j + 2))) rfl rfl (by decide) (by first | decide | exact Nat.le_of_ble_eq_true rfl) ⟨(by show 144 + 2 * j + 1 ≤ 601024; omega), (by show 18188 + 12 * j + 6 ≤ 7293034; omega)⟩ dL_law_648 (fun r1 s1 q1 => ?_)
  obtain ⟨e1, hk, hI0, hI1⟩ := q1
  refine r_istore (pc := 651) (lo2 := [(5, .int r1), (0, .ref b), (1, .ref (G.2.1 + 0)), (2, .ref (G.2.1 + 134)), (3, .ref (G.2.1 + 143)), (4, .int (nI (4 * j)))]) h (by decide) rfl dL_law_651 ?_
  refine r_aload_n (pc := 653) h 3 rfl rfl dL_law_653 ?_
  refine r_aload_n (pc := 654) h 1 rfl rfl dL_law_654 ?_
  refine r_iload (pc := 655) h 5 rfl dL_law_655 ?_
  refine r_iconst (pc := 657) (v := nI 1) h (by decide) dL_law_657 ?_
  refine r_iadd (pc := 658) (v := nI (4 * j + 1)) h (nI_add _ _) dL_law_658 ?_
  refine r_sld (pc := 659) (j := 4 * j + 1) h hS0 hbl hbA rfl (by omega) (by omega) dL_law_659 ?_
  refine r_aload_n (pc := 660) h 1 rfl rfl dL_law_660 ?_
  refine r_iload (pc := 661) h 5 rfl dL_law_661 ?_
  refine r_iconst (pc := 663) (v := nI 2) h (by decide) dL_law_663 ?_
  refine r_iadd (pc := 664) (v := nI (4 * j + 2)) h (nI_add _ _) dL_law_664 ?_
  refine r_sld (pc := 665) (j := 4 * j + 2) h hS0 hbl hbA rfl (by omega) (by omega) dL_law_665 ?_
  refine r_cVi (pc := 666) (As := [.int (xs (4 * j + 1)), .int (xs (4 * j + 2))]) (st := []) h lk_RL_170 (c_m_makeWithout x.2.1 G s1 n tx A m H sv sl (keepM hM hk) (xs (4 * j + 1)) (xs (4 * j + 2))) rc_6 (by decide) rfl rfl (by first | decide | exact Nat.le_of_ble_eq_true rfl) ⟨(by show 144 + 2 * j + 1 + 0 ≤ 601024; omega), (by show 18188 + 12 * j + 6 + 0 ≤ 7293034; omega)⟩ dL_law_666 (fun r2 s2 q2 => ?_)
  obtain ⟨g1, g2, g3, g4⟩ := q2
  refine r_istore (pc := 669) (lo2 := [(6, .int r2), (5, .int r1), (0, .ref b), (1, .ref (G.2.1 + 0)), (2, .ref (G.2.1 + 134)), (3, .ref (G.2.1 + 143)), (4, .int (nI (4 * j)))]) h (by decide) rfl dL_law_669 ?_
  refine r_aload_n (pc := 671) h 4 rfl rfl dL_law_671 ?_
  refine r_cVi (pc := 672) (As := []) (st := []) h lk_RL_139 (c_thrown x.2.1 G s2) rc_6 (by decide) rfl rfl (by first | decide | exact Nat.le_of_ble_eq_true rfl) ⟨(by show 144 + 2 * j + 1 + 0 + 0 ≤ 601024; omega), (by show 18188 + 12 * j + 6 + 0 + 0 ≤ 7293034; omega)⟩ dL_law_672 (fun r3 s3 q3 => ?_)
  rw [q3.1, q3.2, g1]
  refine r_iload (pc := 675) h 1 rfl dL_law_675 ?_
  refine r_icmp_eq (pc := 677) (tgt := 682) h (by decide) dL_law_677 (fun _ => ?_) (fun c9 => absurd e1.symm c9)
  refine r_iload (pc := 682) h 1 rfl dL_law_682 ?_
  refine r_if_ne (pc := 684) (tgt := 699) h (by decide) dL_law_684 (fun c9 => ?_) (fun c9 => ?_)
  · have hC0 : ob A 119 (xs (4 * j + 1)) (xs (4 * j + 2)) (nI 0) ≠ 0 := fun q => c9 (by rw [e1, q, kq_0]; rfl)
    refine r_goto (pc := 699) (tgt := 2550) h (by decide) dL_law_699 ?_
    exact V.wd (by show 144 + 2 * j + 1 + 0 + 0 ≤ 144 + 2 * (j + 1); omega) (by show 18188 + 12 * j + 6 + 0 + 0 ≤ 18188 + 12 * (j + 1); omega) (r_sub [2, 3, 4, 5, 6] rfl (kk _ _ _ _ _ _ _ _ ((hI0 hC0).o g2 (Or.inl (by decide))) (g3 hC0)))
  · have hC0 : ob A 119 (xs (4 * j + 1)) (xs (4 * j + 2)) (nI 0) = 0 := (kq_z (by decide)).mp (e1.symm.trans c9)
    have ho := (g2.l 143 0 (by omega)).trans (hI1 hC0).1
    have hr := (g4 hC0).1
    refine r_aload_n (pc := 687) h 5 rfl rfl dL_law_687 ?_
    refine r_iconst (pc := 688) (v := nI 0) h (by decide) dL_law_688 ?_
    refine r_lald (pc := 689) h a_out 0 rfl (by decide) dL_law_689 ?_
    refine r_iload (pc := 690) h 0 rfl dL_law_690 ?_
    refine r_i2l (pc := 692) (v := r2.toInt64) h rfl dL_law_692 ?_
    refine r_lcmp (pc := 693) (v := lg_cmp (s2.2 143 0) r2.toInt64) h rfl dL_law_693 ?_
    refine r_if_eq (pc := 694) (tgt := 699) h (by decide) dL_law_694 (fun _ => ?_) (fun c7 => absurd (lg_self _ (ho.trans (by rw [hr]))) c7)
    refine r_goto (pc := 699) (tgt := 2550) h (by decide) dL_law_699 ?_
    exact V.wd (by show 144 + 2 * j + 1 + 0 + 0 ≤ 144 + 2 * (j + 1); omega) (by show 18188 + 12 * j + 6 + 0 + 0 ≤ 18188 + 12 * (j + 1); omega) (r_sub [2, 3, 4, 5, 6] rfl (kk _ _ _ _ _ _ _ _ ((hI1 hC0).2.o g2 (Or.inl (by decide))) ((g4 hC0).2)))

set_option maxRecDepth 100000 in
set_option maxHeartbeats 1600000 in
theorem law_c9 {x : Cx} {G : Gl} {Q : State → Prop} {b L : Nat} {xs : Nat → Int32} (LAh : LA x G b L xs) (j : Nat) (hj : 4 * j + 4 ≤ L) (σ : Sg) (n : Nat) (tx : Nat → Nat) (A : Ab) (m : Nat) (H : Nat → Ab) (sv : Nat → Bool) (sl : Nat → Ab) (hC : InvC n tx A m H sv sl σ) (hM : InvM n tx A m H sv sl σ) (kk : NX x G Q b j) : V x G 7 (144 + 2 * j) (18188 + 12 * j) Q σ 702 [(0, .ref b), (1, .ref (G.2.1 + 0)), (2, .ref (G.2.1 + 134)), (3, .ref (G.2.1 + 143)), (4, .int (nI (4 * j)))] [] := by
  obtain ⟨h, hX, hst, hS0, hbl, hbA, hL⟩ := LAh
  refine r_aload_n (pc := 702) h 1 rfl rfl dL_law_702 ?_
  refine r_aload_n (pc := 703) h 0 rfl rfl dL_law_703 ?_
  refine r_iload (pc := 704) h 4 rfl dL_law_704 ?_
  refine r_iconst (pc := 706) (v := nI 1) h (by decide) dL_law_706 ?_
  refine r_iadd (pc := 707) (v := nI (4 * j + 1)) h (nI_add _ _) dL_law_707 ?_
  refine r_sld (pc := 708) (j := 4 * j + 1) h hS0 hbl hbA rfl (by omega) (by omega) dL_law_708 ?_
  refine r_aload_n (pc := 709) h 3 rfl rfl dL_law_709 ?_
  refine r_LS (pc := 710) (n := 3) (As := [.ref (G.2.1 + 0), .int (xs (4 * j + 1)), .ref (G.2.1 + 143)]) (st := []) h hX ⟨mw_24_17, mw_4_9, mw_24_19, ⟨by decide +kernel, by decide +kernel⟩, by decide +kernel, mw_24_18⟩ (l_makeSieved x.2.1 hst G σ n tx A m H sv sl hC (xs (4 * j + 1))) rfl rfl (by decide) (by first | decide | exact Nat.le_of_ble_eq_true rfl) ⟨(by show 144 + 2 * j + 1 ≤ 601024; omega), (by show 18188 + 12 * j + 6 ≤ 7293034; omega)⟩ dL_law_710 (fun r1 s1 q1 => ?_)
  obtain ⟨e1, hk, hI0, hI1⟩ := q1
  refine r_istore (pc := 713) (lo2 := [(5, .int r1), (0, .ref b), (1, .ref (G.2.1 + 0)), (2, .ref (G.2.1 + 134)), (3, .ref (G.2.1 + 143)), (4, .int (nI (4 * j)))]) h (by decide) rfl dL_law_713 ?_
  refine r_aload_n (pc := 715) h 3 rfl rfl dL_law_715 ?_
  refine r_aload_n (pc := 716) h 1 rfl rfl dL_law_716 ?_
  refine r_iload (pc := 717) h 5 rfl dL_law_717 ?_
  refine r_iconst (pc := 719) (v := nI 1) h (by decide) dL_law_719 ?_
  refine r_iadd (pc := 720) (v := nI (4 * j + 1)) h (nI_add _ _) dL_law_720 ?_
  refine r_sld (pc := 721) (j := 4 * j + 1) h hS0 hbl hbA rfl (by omega) (by omega) dL_law_721 ?_
  refine r_cVi (pc := 722) (As := [.int (xs (4 * j + 1))]) (st := []) h lk_RL_173 (c_m_makeSieved x.2.1 G s1 n tx A m H sv sl (keepM hM hk) (xs (4 * j + 1))) rc_6 (by decide) rfl rfl (by first | decide | exact Nat.le_of_ble_eq_true rfl) ⟨(by show 144 + 2 * j + 1 + 0 ≤ 601024; omega), (by show 18188 + 12 * j + 6 + 0 ≤ 7293034; omega)⟩ dL_law_722 (fun r2 s2 q2 => ?_)
  obtain ⟨g1, g2, g3, g4⟩ := q2
  refine r_istore (pc := 725) (lo2 := [(6, .int r2), (5, .int r1), (0, .ref b), (1, .ref (G.2.1 + 0)), (2, .ref (G.2.1 + 134)), (3, .ref (G.2.1 + 143)), (4, .int (nI (4 * j)))]) h (by decide) rfl dL_law_725 ?_
  refine r_aload_n (pc := 727) h 4 rfl rfl dL_law_727 ?_
  refine r_cVi (pc := 728) (As := []) (st := []) h lk_RL_139 (c_thrown x.2.1 G s2) rc_6 (by decide) rfl rfl (by first | decide | exact Nat.le_of_ble_eq_true rfl) ⟨(by show 144 + 2 * j + 1 + 0 + 0 ≤ 601024; omega), (by show 18188 + 12 * j + 6 + 0 + 0 ≤ 7293034; omega)⟩ dL_law_728 (fun r3 s3 q3 => ?_)
  rw [q3.1, q3.2, g1]
  refine r_iload (pc := 731) h 1 rfl dL_law_731 ?_
  refine r_icmp_eq (pc := 733) (tgt := 738) h (by decide) dL_law_733 (fun _ => ?_) (fun c9 => absurd e1.symm c9)
  refine r_iload (pc := 738) h 1 rfl dL_law_738 ?_
  refine r_if_ne (pc := 740) (tgt := 755) h (by decide) dL_law_740 (fun c9 => ?_) (fun c9 => ?_)
  · have hC0 : ob A 118 (xs (4 * j + 1)) (nI 0) (nI 0) ≠ 0 := fun q => c9 (by rw [e1, q, kq_0]; rfl)
    refine r_goto (pc := 755) (tgt := 2550) h (by decide) dL_law_755 ?_
    exact V.wd (by show 144 + 2 * j + 1 + 0 + 0 ≤ 144 + 2 * (j + 1); omega) (by show 18188 + 12 * j + 6 + 0 + 0 ≤ 18188 + 12 * (j + 1); omega) (r_sub [2, 3, 4, 5, 6] rfl (kk _ _ _ _ _ _ _ _ ((hI0 hC0).o g2 (Or.inl (by decide))) (g3 hC0)))
  · have hC0 : ob A 118 (xs (4 * j + 1)) (nI 0) (nI 0) = 0 := (kq_z (by decide)).mp (e1.symm.trans c9)
    have ho := (g2.l 143 0 (by omega)).trans (hI1 hC0).1
    have hr := (g4 hC0).1
    refine r_aload_n (pc := 743) h 5 rfl rfl dL_law_743 ?_
    refine r_iconst (pc := 744) (v := nI 0) h (by decide) dL_law_744 ?_
    refine r_lald (pc := 745) h a_out 0 rfl (by decide) dL_law_745 ?_
    refine r_iload (pc := 746) h 0 rfl dL_law_746 ?_
    refine r_i2l (pc := 748) (v := r2.toInt64) h rfl dL_law_748 ?_
    refine r_lcmp (pc := 749) (v := lg_cmp (s2.2 143 0) r2.toInt64) h rfl dL_law_749 ?_
    refine r_if_eq (pc := 750) (tgt := 755) h (by decide) dL_law_750 (fun _ => ?_) (fun c7 => absurd (lg_self _ (ho.trans (by rw [hr]))) c7)
    refine r_goto (pc := 755) (tgt := 2550) h (by decide) dL_law_755 ?_
    exact V.wd (by show 144 + 2 * j + 1 + 0 + 0 ≤ 144 + 2 * (j + 1); omega) (by show 18188 + 12 * j + 6 + 0 + 0 ≤ 18188 + 12 * (j + 1); omega) (r_sub [2, 3, 4, 5, 6] rfl (kk _ _ _ _ _ _ _ _ ((hI1 hC0).2.o g2 (Or.inl (by decide))) ((g4 hC0).2)))

set_option maxRecDepth 100000 in
set_option maxHeartbeats 1600000 in
theorem law_c10 {x : Cx} {G : Gl} {Q : State → Prop} {b L : Nat} {xs : Nat → Int32} (LAh : LA x G b L xs) (j : Nat) (hj : 4 * j + 4 ≤ L) (σ : Sg) (n : Nat) (tx : Nat → Nat) (A : Ab) (m : Nat) (H : Nat → Ab) (sv : Nat → Bool) (sl : Nat → Ab) (hC : InvC n tx A m H sv sl σ) (hM : InvM n tx A m H sv sl σ) (kk : NX x G Q b j) : V x G 7 (144 + 2 * j) (18188 + 12 * j) Q σ 758 [(0, .ref b), (1, .ref (G.2.1 + 0)), (2, .ref (G.2.1 + 134)), (3, .ref (G.2.1 + 143)), (4, .int (nI (4 * j)))] [] := by
  obtain ⟨h, hX, hst, hS0, hbl, hbA, hL⟩ := LAh
  refine r_aload_n (pc := 758) h 1 rfl rfl dL_law_758 ?_
  refine r_aload_n (pc := 759) h 0 rfl rfl dL_law_759 ?_
  refine r_iload (pc := 760) h 4 rfl dL_law_760 ?_
  refine r_iconst (pc := 762) (v := nI 1) h (by decide) dL_law_762 ?_
  refine r_iadd (pc := 763) (v := nI (4 * j + 1)) h (nI_add _ _) dL_law_763 ?_
  refine r_sld (pc := 764) (j := 4 * j + 1) h hS0 hbl hbA rfl (by omega) (by omega) dL_law_764 ?_
  refine r_aload_n (pc := 765) h 0 rfl rfl dL_law_765 ?_
  refine r_iload (pc := 766) h 4 rfl dL_law_766 ?_
  refine r_iconst (pc := 768) (v := nI 2) h (by decide) dL_law_768 ?_
  refine r_iadd (pc := 769) (v := nI (4 * j + 2)) h (nI_add _ _) dL_law_769 ?_
  refine r_sld (pc := 770) (j := 4 * j + 2) h hS0 hbl hbA rfl (by omega) (by omega) dL_law_770 ?_
  refine r_aload_n (pc := 771) h 3 rfl rfl dL_law_771 ?_
  refine r_LS (pc := 772) (n := 4) (As := [.ref (G.2.1 + 0), .int (xs (4 * j + 1)), .int (xs (4 * j + 2)), .ref (G.2.1 + 143)]) (st := []) h hX ⟨mw_25_4, mw_4_9, mw_25_6, ⟨by decide +kernel, by decide +kernel⟩, by decide +kernel, mw_25_5⟩ (l_makeThinned x.2.1 hst G σ n tx A m H sv sl hC (xs (4 * j + 1)) (xs (4 * j + 2))) rfl rfl (by decide) (by first | decide | exact Nat.le_of_ble_eq_true rfl) ⟨(by show 144 + 2 * j + 1 ≤ 601024; omega), (by show 18188 + 12 * j + 6 ≤ 7293034; omega)⟩ dL_law_772 (fun r1 s1 q1 => ?_)
  obtain ⟨e1, hk, hI0, hI1⟩ := q1
  refine r_istore (pc := 775) (lo2 := [(5, .int r1), (0, .ref b), (1, .ref (G.2.1 + 0)), (2, .ref (G.2.1 + 134)), (3, .ref (G.2.1 + 143)), (4, .int (nI (4 * j)))]) h (by decide) rfl dL_law_775 ?_
  refine r_aload_n (pc := 777) h 3 rfl rfl dL_law_777 ?_
  refine r_aload_n (pc := 778) h 1 rfl rfl dL_law_778 ?_
  refine r_iload (pc := 779) h 5 rfl dL_law_779 ?_
  refine r_iconst (pc := 781) (v := nI 1) h (by decide) dL_law_781 ?_
  refine r_iadd (pc := 782) (v := nI (4 * j + 1)) h (nI_add _ _) dL_law_782 ?_
  refine r_sld (pc := 783) (j := 4 * j + 1) h hS0 hbl hbA rfl (by omega) (by omega) dL_law_783 ?_
  refine r_aload_n (pc := 784) h 1 rfl rfl dL_law_784 ?_
  refine r_iload (pc := 785) h 5 rfl dL_law_785 ?_
  refine r_iconst (pc := 787) (v := nI 2) h (by decide) dL_law_787 ?_
  refine r_iadd (pc := 788) (v := nI (4 * j + 2)) h (nI_add _ _) dL_law_788 ?_
  refine r_sld (pc := 789) (j := 4 * j + 2) h hS0 hbl hbA rfl (by omega) (by omega) dL_law_789 ?_
  refine r_cVi (pc := 790) (As := [.int (xs (4 * j + 1)), .int (xs (4 * j + 2))]) (st := []) h lk_RL_176 (c_m_makeThinned x.2.1 G s1 n tx A m H sv sl (keepM hM hk) (xs (4 * j + 1)) (xs (4 * j + 2))) rc_6 (by decide) rfl rfl (by first | decide | exact Nat.le_of_ble_eq_true rfl) ⟨(by show 144 + 2 * j + 1 + 0 ≤ 601024; omega), (by show 18188 + 12 * j + 6 + 0 ≤ 7293034; omega)⟩ dL_law_790 (fun r2 s2 q2 => ?_)
  obtain ⟨g1, g2, g3, g4⟩ := q2
  refine r_istore (pc := 793) (lo2 := [(6, .int r2), (5, .int r1), (0, .ref b), (1, .ref (G.2.1 + 0)), (2, .ref (G.2.1 + 134)), (3, .ref (G.2.1 + 143)), (4, .int (nI (4 * j)))]) h (by decide) rfl dL_law_793 ?_
  refine r_aload_n (pc := 795) h 4 rfl rfl dL_law_795 ?_
  refine r_cVi (pc := 796) (As := []) (st := []) h lk_RL_139 (c_thrown x.2.1 G s2) rc_6 (by decide) rfl rfl (by first | decide | exact Nat.le_of_ble_eq_true rfl) ⟨(by show 144 + 2 * j + 1 + 0 + 0 ≤ 601024; omega), (by show 18188 + 12 * j + 6 + 0 + 0 ≤ 7293034; omega)⟩ dL_law_796 (fun r3 s3 q3 => ?_)
  rw [q3.1, q3.2, g1]
  refine r_iload (pc := 799) h 1 rfl dL_law_799 ?_
  refine r_icmp_eq (pc := 801) (tgt := 806) h (by decide) dL_law_801 (fun _ => ?_) (fun c9 => absurd e1.symm c9)
  refine r_iload (pc := 806) h 1 rfl dL_law_806 ?_
  refine r_if_ne (pc := 808) (tgt := 823) h (by decide) dL_law_808 (fun c9 => ?_) (fun c9 => ?_)
  · have hC0 : ob A 101 (xs (4 * j + 1)) (xs (4 * j + 2)) (nI 0) ≠ 0 := fun q => c9 (by rw [e1, q, kq_0]; rfl)
    refine r_goto (pc := 823) (tgt := 2550) h (by decide) dL_law_823 ?_
    exact V.wd (by show 144 + 2 * j + 1 + 0 + 0 ≤ 144 + 2 * (j + 1); omega) (by show 18188 + 12 * j + 6 + 0 + 0 ≤ 18188 + 12 * (j + 1); omega) (r_sub [2, 3, 4, 5, 6] rfl (kk _ _ _ _ _ _ _ _ ((hI0 hC0).o g2 (Or.inl (by decide))) (g3 hC0)))
  · have hC0 : ob A 101 (xs (4 * j + 1)) (xs (4 * j + 2)) (nI 0) = 0 := (kq_z (by decide)).mp (e1.symm.trans c9)
    have ho := (g2.l 143 0 (by omega)).trans (hI1 hC0).1
    have hr := (g4 hC0).1
    refine r_aload_n (pc := 811) h 5 rfl rfl dL_law_811 ?_
    refine r_iconst (pc := 812) (v := nI 0) h (by decide) dL_law_812 ?_
    refine r_lald (pc := 813) h a_out 0 rfl (by decide) dL_law_813 ?_
    refine r_iload (pc := 814) h 0 rfl dL_law_814 ?_
    refine r_i2l (pc := 816) (v := r2.toInt64) h rfl dL_law_816 ?_
    refine r_lcmp (pc := 817) (v := lg_cmp (s2.2 143 0) r2.toInt64) h rfl dL_law_817 ?_
    refine r_if_eq (pc := 818) (tgt := 823) h (by decide) dL_law_818 (fun _ => ?_) (fun c7 => absurd (lg_self _ (ho.trans (by rw [hr]))) c7)
    refine r_goto (pc := 823) (tgt := 2550) h (by decide) dL_law_823 ?_
    exact V.wd (by show 144 + 2 * j + 1 + 0 + 0 ≤ 144 + 2 * (j + 1); omega) (by show 18188 + 12 * j + 6 + 0 + 0 ≤ 18188 + 12 * (j + 1); omega) (r_sub [2, 3, 4, 5, 6] rfl (kk _ _ _ _ _ _ _ _ ((hI1 hC0).2.o g2 (Or.inl (by decide))) ((g4 hC0).2)))

set_option maxRecDepth 100000 in
set_option maxHeartbeats 1600000 in
theorem law_c11 {x : Cx} {G : Gl} {Q : State → Prop} {b L : Nat} {xs : Nat → Int32} (LAh : LA x G b L xs) (j : Nat) (hj : 4 * j + 4 ≤ L) (σ : Sg) (n : Nat) (tx : Nat → Nat) (A : Ab) (m : Nat) (H : Nat → Ab) (sv : Nat → Bool) (sl : Nat → Ab) (hC : InvC n tx A m H sv sl σ) (hM : InvM n tx A m H sv sl σ) (kk : NX x G Q b j) : V x G 7 (144 + 2 * j) (18188 + 12 * j) Q σ 826 [(0, .ref b), (1, .ref (G.2.1 + 0)), (2, .ref (G.2.1 + 134)), (3, .ref (G.2.1 + 143)), (4, .int (nI (4 * j)))] [] := by
  obtain ⟨h, hX, hst, hS0, hbl, hbA, hL⟩ := LAh
  refine r_aload_n (pc := 826) h 1 rfl rfl dL_law_826 ?_
  refine r_aload_n (pc := 827) h 0 rfl rfl dL_law_827 ?_
  refine r_iload (pc := 828) h 4 rfl dL_law_828 ?_
  refine r_iconst (pc := 830) (v := nI 1) h (by decide) dL_law_830 ?_
  refine r_iadd (pc := 831) (v := nI (4 * j + 1)) h (nI_add _ _) dL_law_831 ?_
  refine r_sld (pc := 832) (j := 4 * j + 1) h hS0 hbl hbA rfl (by omega) (by omega) dL_law_832 ?_
  refine r_aload_n (pc := 833) h 3 rfl rfl dL_law_833 ?_
  refine r_LS (pc := 834) (n := 3) (As := [.ref (G.2.1 + 0), .int (xs (4 * j + 1)), .ref (G.2.1 + 143)]) (st := []) h hX ⟨mw_25_15, mw_4_9, mw_25_17, ⟨by decide +kernel, by decide +kernel⟩, by decide +kernel, mw_25_16⟩ (l_makeAddedUp x.2.1 hst G σ n tx A m H sv sl hC (xs (4 * j + 1))) rfl rfl (by decide) (by first | decide | exact Nat.le_of_ble_eq_true rfl) ⟨(by show 144 + 2 * j + 1 ≤ 601024; omega), (by show 18188 + 12 * j + 6 ≤ 7293034; omega)⟩ dL_law_834 (fun r1 s1 q1 => ?_)
  obtain ⟨e1, hk, hI0, hI1⟩ := q1
  refine r_istore (pc := 837) (lo2 := [(5, .int r1), (0, .ref b), (1, .ref (G.2.1 + 0)), (2, .ref (G.2.1 + 134)), (3, .ref (G.2.1 + 143)), (4, .int (nI (4 * j)))]) h (by decide) rfl dL_law_837 ?_
  refine r_aload_n (pc := 839) h 3 rfl rfl dL_law_839 ?_
  refine r_aload_n (pc := 840) h 1 rfl rfl dL_law_840 ?_
  refine r_iload (pc := 841) h 5 rfl dL_law_841 ?_
  refine r_iconst (pc := 843) (v := nI 1) h (by decide) dL_law_843 ?_
  refine r_iadd (pc := 844) (v := nI (4 * j + 1)) h (nI_add _ _) dL_law_844 ?_
  refine r_sld (pc := 845) (j := 4 * j + 1) h hS0 hbl hbA rfl (by omega) (by omega) dL_law_845 ?_
  refine r_cVi (pc := 846) (As := [.int (xs (4 * j + 1))]) (st := []) h lk_RL_179 (c_m_makeAddedUp x.2.1 G s1 n tx A m H sv sl (keepM hM hk) (xs (4 * j + 1))) rc_6 (by decide) rfl rfl (by first | decide | exact Nat.le_of_ble_eq_true rfl) ⟨(by show 144 + 2 * j + 1 + 0 ≤ 601024; omega), (by show 18188 + 12 * j + 6 + 0 ≤ 7293034; omega)⟩ dL_law_846 (fun r2 s2 q2 => ?_)
  obtain ⟨g1, g2, g3, g4⟩ := q2
  refine r_istore (pc := 849) (lo2 := [(6, .int r2), (5, .int r1), (0, .ref b), (1, .ref (G.2.1 + 0)), (2, .ref (G.2.1 + 134)), (3, .ref (G.2.1 + 143)), (4, .int (nI (4 * j)))]) h (by decide) rfl dL_law_849 ?_
  refine r_aload_n (pc := 851) h 4 rfl rfl dL_law_851 ?_
  refine r_cVi (pc := 852) (As := []) (st := []) h lk_RL_139 (c_thrown x.2.1 G s2) rc_6 (by decide) rfl rfl (by first | decide | exact Nat.le_of_ble_eq_true rfl) ⟨(by show 144 + 2 * j + 1 + 0 + 0 ≤ 601024; omega), (by show 18188 + 12 * j + 6 + 0 + 0 ≤ 7293034; omega)⟩ dL_law_852 (fun r3 s3 q3 => ?_)
  rw [q3.1, q3.2, g1]
  refine r_iload (pc := 855) h 1 rfl dL_law_855 ?_
  refine r_icmp_eq (pc := 857) (tgt := 862) h (by decide) dL_law_857 (fun _ => ?_) (fun c9 => absurd e1.symm c9)
  refine r_iload (pc := 862) h 1 rfl dL_law_862 ?_
  refine r_if_ne (pc := 864) (tgt := 879) h (by decide) dL_law_864 (fun c9 => ?_) (fun c9 => ?_)
  · have hC0 : ob A 117 (xs (4 * j + 1)) (nI 0) (nI 0) ≠ 0 := fun q => c9 (by rw [e1, q, kq_0]; rfl)
    refine r_goto (pc := 879) (tgt := 2550) h (by decide) dL_law_879 ?_
    exact V.wd (by show 144 + 2 * j + 1 + 0 + 0 ≤ 144 + 2 * (j + 1); omega) (by show 18188 + 12 * j + 6 + 0 + 0 ≤ 18188 + 12 * (j + 1); omega) (r_sub [2, 3, 4, 5, 6] rfl (kk _ _ _ _ _ _ _ _ ((hI0 hC0).o g2 (Or.inl (by decide))) (g3 hC0)))
  · have hC0 : ob A 117 (xs (4 * j + 1)) (nI 0) (nI 0) = 0 := (kq_z (by decide)).mp (e1.symm.trans c9)
    have ho := (g2.l 143 0 (by omega)).trans (hI1 hC0).1
    have hr := (g4 hC0).1
    refine r_aload_n (pc := 867) h 5 rfl rfl dL_law_867 ?_
    refine r_iconst (pc := 868) (v := nI 0) h (by decide) dL_law_868 ?_
    refine r_lald (pc := 869) h a_out 0 rfl (by decide) dL_law_869 ?_
    refine r_iload (pc := 870) h 0 rfl dL_law_870 ?_
    refine r_i2l (pc := 872) (v := r2.toInt64) h rfl dL_law_872 ?_
    refine r_lcmp (pc := 873) (v := lg_cmp (s2.2 143 0) r2.toInt64) h rfl dL_law_873 ?_
    refine r_if_eq (pc := 874) (tgt := 879) h (by decide) dL_law_874 (fun _ => ?_) (fun c7 => absurd (lg_self _ (ho.trans (by rw [hr]))) c7)
    refine r_goto (pc := 879) (tgt := 2550) h (by decide) dL_law_879 ?_
    exact V.wd (by show 144 + 2 * j + 1 + 0 + 0 ≤ 144 + 2 * (j + 1); omega) (by show 18188 + 12 * j + 6 + 0 + 0 ≤ 18188 + 12 * (j + 1); omega) (r_sub [2, 3, 4, 5, 6] rfl (kk _ _ _ _ _ _ _ _ ((hI1 hC0).2.o g2 (Or.inl (by decide))) ((g4 hC0).2)))

