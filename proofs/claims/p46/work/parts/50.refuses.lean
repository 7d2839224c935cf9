/-! THE LAW: refuses -/
theorem o115_3 {A : Ab} {a b c : Int32} (h1 : inB (nI 0) (nI 999) a = true) (h2 : inB (nI 1) (nI 99) b = true) (h3 : roomL A = false) : ob A 115 a b c = 3 := by
  show fst3 true (_ && _) (roomL _) = 3
  rw [h1, h2, h3]
  rfl
set_option maxRecDepth 100000 in
set_option maxHeartbeats 4000000 in
theorem n_refuses (l : Launch) (hst : l.stackTraces = false) (G : Gl) (S : Cs) (n : Nat) (hn : n < 1000000) (h1 : 1 ≤ nLi S) : KL l yL_refuses cL_refuses 9 .boolean ({ frames := 11, cells := 250, slots := 1500, locals := 218 } : Room) G [.ref (G.2.1 + 0), .int (nI n)] S (nI 1) S := by
  refine KL_of rfl (by decide +kernel) (lo := [(0, .ref (G.2.1 + 0)), (1, .int (nI n))]) rfl (Nat.le_of_ble_eq_true rfl) rfl (rfl) ?_
  intro x Q hxl h hE hX hret
  subst hxl
  refine vl_fact (fun H hH => W1.ok hH) (fun ok => ?_)
  have hN := ok_N ok
  have hR := ok_R ok
  have hm14 := ok_m ok
  refine vl_aload_n (pc := 0) h 0 rfl rfl dL_refuses_0 ?_
  refine wV1 (pc := 1) (As := []) (st := []) (r2 := nI (nLi S)) (u2 := 0) h hE lk_RL_242 (kv_lists (S := S)) rfl rfl rfl (by decide) rfl (Nat.le_of_ble_eq_true rfl) (by decide) dL_refuses_1 ?_
  refine vl_istore_n (pc := 4) (lo2 := [(2, .int (nI (nLi S))), (0, .ref (G.2.1 + 0)), (1, .int (nI n))]) h rfl (by decide) rfl dL_refuses_4 ?_
  refine vl_aload_n (pc := 5) h 1 rfl rfl dL_refuses_5 ?_
  refine wV1 (pc := 6) (As := []) (st := []) (r2 := nI (nRd S)) (u2 := 0) h hE lk_RL_245 (kv_readers (S := S)) rfl rfl rfl (by decide) rfl (Nat.le_of_ble_eq_true rfl) (by decide) dL_refuses_6 ?_
  refine vl_istore_n (pc := 9) (lo2 := [(3, .int (nI (nRd S))), (2, .int (nI (nLi S))), (0, .ref (G.2.1 + 0)), (1, .int (nI n))]) h rfl (by decide) rfl dL_refuses_9 ?_
  refine vl_iload_n (pc := 10) h 3 rfl rfl dL_refuses_10 ?_
  refine vl_iconst (pc := 11) (v := nI 2) h (by decide) dL_refuses_11 ?_
  refine vl_irem (pc := 12) (v := nI (n % 2)) h (by decide) (pk_rem (by omega) (by omega) (by omega)) dL_refuses_12 ?_
  have kj13 : ∀ no : Int32, liB (sA S) no = false → VP x (bA G) 9 0 Q (W1 G S) 31 [(3, .int (nI (nRd S))), (2, .int (nI (nLi S))), (0, .ref (G.2.1 + 0)), (1, .int (nI n))] [.int no] := by
    intro no hno
    refine vl_istore (pc := 31) (lo2 := [(4, .int no), (3, .int (nI (nRd S))), (2, .int (nI (nLi S))), (0, .ref (G.2.1 + 0)), (1, .int (nI n))]) h (by decide) rfl dL_refuses_31 ?_
    refine vl_iload_n (pc := 33) h 4 rfl rfl dL_refuses_33 ?_
    refine vl_iconst (pc := 34) (v := nI 2) h (by decide) dL_refuses_34 ?_
    refine vl_irem (pc := 35) (v := nI (n % 2)) h (by decide) (pk_rem (by omega) (by omega) (by omega)) dL_refuses_35 ?_
    have kj36 : ∀ nn : Int32, rdB (sA S) nn = false → VP x (bA G) 9 0 Q (W1 G S) 54 [(4, .int no), (3, .int (nI (nRd S))), (2, .int (nI (nLi S))), (0, .ref (G.2.1 + 0)), (1, .int (nI n))] [.int nn] := by
      intro nn hnn
      refine vl_istore (pc := 54) (lo2 := [(5, .int nn), (4, .int no), (3, .int (nI (nRd S))), (2, .int (nI (nLi S))), (0, .ref (G.2.1 + 0)), (1, .int (nI n))]) h (by decide) rfl dL_refuses_54 ?_
      refine vl_iload_n (pc := 56) h 5 rfl rfl dL_refuses_56 ?_
      refine vl_iconst (pc := 57) (v := nI 2) h (by decide) dL_refuses_57 ?_
      refine vl_irem (pc := 58) (v := nI (n % 2)) h (by decide) (pk_rem (by omega) (by omega) (by omega)) dL_refuses_58 ?_
      have kj59 : ∀ off : Int32, inB (nI 0) (nI 999) off = false → VP x (bA G) 9 0 Q (W1 G S) 79 [(5, .int nn), (4, .int no), (3, .int (nI (nRd S))), (2, .int (nI (nLi S))), (0, .ref (G.2.1 + 0)), (1, .int (nI n))] [.int off] := by
        intro off hoff
        refine vl_istore (pc := 79) (lo2 := [(6, .int off), (5, .int nn), (4, .int no), (3, .int (nI (nRd S))), (2, .int (nI (nLi S))), (0, .ref (G.2.1 + 0)), (1, .int (nI n))]) h (by decide) rfl dL_refuses_79 ?_
        refine vl_aload_n (pc := 81) h 5 rfl rfl dL_refuses_81 ?_
        refine vl_iconst (pc := 82) (v := nI 0) h (by decide) dL_refuses_82 ?_
        refine vl_iload_n (pc := 83) h 6 rfl rfl dL_refuses_83 ?_
        refine vl_iconst (pc := 84) (v := nI 2) h (by decide) dL_refuses_84 ?_
        refine vl_irem (pc := 85) (v := nI (n % 2)) h (by decide) (pk_rem (by omega) (by omega) (by omega)) dL_refuses_85 ?_
        have kj86 : ∀ vc : Int32, inB (nI 0) (nI 255) vc = false → VP x (bA G) 9 0 Q (W1 G S) 106 [(6, .int off), (5, .int nn), (4, .int no), (3, .int (nI (nRd S))), (2, .int (nI (nLi S))), (0, .ref (G.2.1 + 0)), (1, .int (nI n))] [.int vc, .int (nI 0), .ref (G.2.1 + 0)] := by
          intro vc hvc
          refine vl_iconst (pc := 106) (v := nI 0) h (by decide) dL_refuses_106 ?_
          refine vl_iconst (pc := 107) (v := nI 0) h (by decide) dL_refuses_107 ?_
          refine wS1 (pc := 108) (As := [.ref (G.2.1 + 0), .int (nI 0), .int vc, .int (nI 0), .int (nI 0)]) (st := []) (r2 := (-9999002)) (u2 := 2) h hE hX lk_RL_248 (kb_0 hst G S vc (nI 0) (nI 0) (c0 := 2) (sc1 hvc (by decide)) (by decide)) rfl rfl rfl (by decide) rfl (Nat.le_of_ble_eq_true rfl) (by decide) dL_refuses_108 ?_
          refine vl_ldc (pc := 111) (v := (-9999002)) h mw_4_3 dL_refuses_111 ?_
          refine vl_icmp_ne_f (pc := 113) (tgt := 442) h rfl (by decide) dL_refuses_113 ?_
          refine vl_aload_n (pc := 116) h 5 rfl rfl dL_refuses_116 ?_
          refine vl_iconst (pc := 117) (v := nI 2) h (by decide) dL_refuses_117 ?_
          refine vl_iload (pc := 118) h 0 rfl dL_refuses_118 ?_
          refine vl_iconst (pc := 120) (v := nI 5) h (by decide) dL_refuses_120 ?_
          refine vl_iconst (pc := 121) (v := nI 0) h (by decide) dL_refuses_121 ?_
          refine wS1 (pc := 122) (As := [.ref (G.2.1 + 0), .int (nI 2), .int off, .int (nI 5), .int (nI 0)]) (st := []) (r2 := (-9999002)) (u2 := 3) h hE hX lk_RL_248 (kb_2 hst G S off (nI 5) (nI 0) (c0 := 2) (by show fst3 true (_ && _) _ = _; rw [hoff]; rfl) (by decide)) rfl rfl rfl (by decide) rfl (Nat.le_of_ble_eq_true rfl) (by decide) dL_refuses_122 ?_
          refine vl_ldc (pc := 125) (v := (-9999002)) h mw_4_3 dL_refuses_125 ?_
          refine vl_icmp_ne_f (pc := 127) (tgt := 442) h rfl (by decide) dL_refuses_127 ?_
          refine vl_aload_n (pc := 130) h 5 rfl rfl dL_refuses_130 ?_
          refine vl_iconst (pc := 131) (v := nI 2) h (by decide) dL_refuses_131 ?_
          refine vl_iconst (pc := 132) (v := nI 5) h (by decide) dL_refuses_132 ?_
          refine vl_iload_n (pc := 133) h 6 rfl rfl dL_refuses_133 ?_
          refine vl_iconst (pc := 134) (v := nI 2) h (by decide) dL_refuses_134 ?_
          refine vl_irem (pc := 135) (v := nI (n % 2)) h (by decide) (pk_rem (by omega) (by omega) (by omega)) dL_refuses_135 ?_
          have kj136 : ∀ vs : Int32, inB (nI 1) (nI 99) vs = false → VP x (bA G) 9 3 Q (W1 G S) 150 [(6, .int off), (5, .int nn), (4, .int no), (3, .int (nI (nRd S))), (2, .int (nI (nLi S))), (0, .ref (G.2.1 + 0)), (1, .int (nI n))] [.int vs, .int (nI 5), .int (nI 2), .ref (G.2.1 + 0)] := by
            intro vs hvs
            refine vl_iconst (pc := 150) (v := nI 0) h (by decide) dL_refuses_150 ?_
            refine wS1 (pc := 151) (As := [.ref (G.2.1 + 0), .int (nI 2), .int (nI 5), .int vs, .int (nI 0)]) (st := []) (r2 := (-9999002)) (u2 := 4) h hE hX lk_RL_248 (kb_2 hst G S (nI 5) vs (nI 0) (c0 := 2) (by show fst3 true (_ && _) _ = _; rw [hvs, Bool.and_false]; rfl) (by decide)) rfl rfl rfl (by decide) rfl (Nat.le_of_ble_eq_true rfl) (by decide) dL_refuses_151 ?_
            refine vl_ldc (pc := 154) (v := (-9999002)) h mw_4_3 dL_refuses_154 ?_
            refine vl_icmp_ne_f (pc := 156) (tgt := 442) h rfl (by decide) dL_refuses_156 ?_
            refine vl_aload_n (pc := 159) h 5 rfl rfl dL_refuses_159 ?_
            refine vl_iconst (pc := 160) (v := nI 3) h (by decide) dL_refuses_160 ?_
            refine vl_iload (pc := 161) h 2 rfl dL_refuses_161 ?_
            refine vl_iconst (pc := 163) (v := nI 0) h (by decide) dL_refuses_163 ?_
            refine vl_iconst (pc := 164) (v := nI 0) h (by decide) dL_refuses_164 ?_
            refine wS1 (pc := 165) (As := [.ref (G.2.1 + 0), .int (nI 3), .int no, .int (nI 0), .int (nI 0)]) (st := []) (r2 := (-9999001)) (u2 := 5) h hE hX lk_RL_248 (kb_3 hst G S no (nI 0) (nI 0) (c0 := 1) (by show fst3 (liB _ _) _ _ = _; rw [hno]; rfl) (by decide)) rfl rfl rfl (by decide) rfl (Nat.le_of_ble_eq_true rfl) (by decide) dL_refuses_165 ?_
            refine vl_ldc (pc := 168) (v := (-9999001)) h mw_15_3 dL_refuses_168 ?_
            refine vl_icmp_ne_f (pc := 170) (tgt := 442) h rfl (by decide) dL_refuses_170 ?_
            refine vl_aload_n (pc := 173) h 5 rfl rfl dL_refuses_173 ?_
            refine vl_iconst (pc := 174) (v := nI 3) h (by decide) dL_refuses_174 ?_
            refine vl_iconst (pc := 175) (v := nI 0) h (by decide) dL_refuses_175 ?_
            refine vl_iload_n (pc := 176) h 6 rfl rfl dL_refuses_176 ?_
            refine vl_iconst (pc := 177) (v := nI 2) h (by decide) dL_refuses_177 ?_
            refine vl_irem (pc := 178) (v := nI (n % 2)) h (by decide) (pk_rem (by omega) (by omega) (by omega)) dL_refuses_178 ?_
            have kj179 : ∀ vf : Int32, inB (nI 1) (nI 9) vf = false → VP x (bA G) 9 5 Q (W1 G S) 193 [(6, .int off), (5, .int nn), (4, .int no), (3, .int (nI (nRd S))), (2, .int (nI (nLi S))), (0, .ref (G.2.1 + 0)), (1, .int (nI n))] [.int vf, .int (nI 0), .int (nI 3), .ref (G.2.1 + 0)] := by
              intro vf hvf
              refine vl_iconst (pc := 193) (v := nI 0) h (by decide) dL_refuses_193 ?_
              refine wS1 (pc := 194) (As := [.ref (G.2.1 + 0), .int (nI 3), .int (nI 0), .int vf, .int (nI 0)]) (st := []) (r2 := (-9999002)) (u2 := 6) h hE hX lk_RL_248 (kb_3 hst G S (nI 0) vf (nI 0) (c0 := 2) (by show fst3 (liB _ _) (_ && _) _ = _; rw [li_t (A := sA S) (i := 0) (show 0 < (sA S).1 from h1) hN, hvf]; rfl) (by decide)) rfl rfl rfl (by decide) rfl (Nat.le_of_ble_eq_true rfl) (by decide) dL_refuses_194 ?_
              refine vl_ldc (pc := 197) (v := (-9999002)) h mw_4_3 dL_refuses_197 ?_
              refine vl_icmp_ne_f (pc := 199) (tgt := 442) h rfl (by decide) dL_refuses_199 ?_
              refine vl_aload_n (pc := 202) h 5 rfl rfl dL_refuses_202 ?_
              refine vl_iconst (pc := 203) (v := nI 3) h (by decide) dL_refuses_203 ?_
              refine vl_iconst (pc := 204) (v := nI 0) h (by decide) dL_refuses_204 ?_
              refine vl_iconst (pc := 205) (v := nI 5) h (by decide) dL_refuses_205 ?_
              refine vl_iload_n (pc := 206) h 6 rfl rfl dL_refuses_206 ?_
              refine vl_iconst (pc := 207) (v := nI 2) h (by decide) dL_refuses_207 ?_
              refine vl_irem (pc := 208) (v := nI (n % 2)) h (by decide) (pk_rem (by omega) (by omega) (by omega)) dL_refuses_208 ?_
              have kj209 : ∀ vp : Int32, inB (nI 0) (nI 99) vp = false → VP x (bA G) 9 6 Q (W1 G S) 223 [(6, .int off), (5, .int nn), (4, .int no), (3, .int (nI (nRd S))), (2, .int (nI (nLi S))), (0, .ref (G.2.1 + 0)), (1, .int (nI n))] [.int vp, .int (nI 5), .int (nI 0), .int (nI 3), .ref (G.2.1 + 0)] := by
                intro vp hvp
                refine wS1 (pc := 223) (As := [.ref (G.2.1 + 0), .int (nI 3), .int (nI 0), .int (nI 5), .int vp]) (st := []) (r2 := (-9999002)) (u2 := 7) h hE hX lk_RL_248 (kb_3 hst G S (nI 0) (nI 5) vp (c0 := 2) (by show fst3 (liB _ _) (_ && _) _ = _; rw [li_t (A := sA S) (i := 0) (show 0 < (sA S).1 from h1) hN, hvp, Bool.and_false]; rfl) (by decide)) rfl rfl rfl (by decide) rfl (Nat.le_of_ble_eq_true rfl) (by decide) dL_refuses_223 ?_
                refine vl_ldc (pc := 226) (v := (-9999002)) h mw_4_3 dL_refuses_226 ?_
                refine vl_icmp_ne_f (pc := 228) (tgt := 442) h rfl (by decide) dL_refuses_228 ?_
                refine vl_aload_n (pc := 231) h 5 rfl rfl dL_refuses_231 ?_
                refine vl_iconst (pc := 232) (v := nI 4) h (by decide) dL_refuses_232 ?_
                refine vl_iload (pc := 233) h 2 rfl dL_refuses_233 ?_
                refine vl_iconst (pc := 235) (v := nI 0) h (by decide) dL_refuses_235 ?_
                refine vl_iconst (pc := 236) (v := nI 0) h (by decide) dL_refuses_236 ?_
                refine wS1 (pc := 237) (As := [.ref (G.2.1 + 0), .int (nI 4), .int no, .int (nI 0), .int (nI 0)]) (st := []) (r2 := (-9999001)) (u2 := 8) h hE hX lk_RL_248 (kb_4 hst G S no (nI 0) (nI 0) (c0 := 1) (by show fst3 (liB _ _ && _) _ _ = _; rw [hno]; rfl) (by decide)) rfl rfl rfl (by decide) rfl (Nat.le_of_ble_eq_true rfl) (by decide) dL_refuses_237 ?_
                refine vl_ldc (pc := 240) (v := (-9999001)) h mw_15_3 dL_refuses_240 ?_
                refine vl_icmp_ne_f (pc := 242) (tgt := 442) h rfl (by decide) dL_refuses_242 ?_
                refine vl_aload_n (pc := 245) h 5 rfl rfl dL_refuses_245 ?_
                refine vl_iconst (pc := 246) (v := nI 4) h (by decide) dL_refuses_246 ?_
                refine vl_iconst (pc := 247) (v := nI 0) h (by decide) dL_refuses_247 ?_
                refine vl_iload (pc := 248) h 2 rfl dL_refuses_248 ?_
                refine vl_iconst (pc := 250) (v := nI 0) h (by decide) dL_refuses_250 ?_
                refine wS1 (pc := 251) (As := [.ref (G.2.1 + 0), .int (nI 4), .int (nI 0), .int no, .int (nI 0)]) (st := []) (r2 := (-9999001)) (u2 := 9) h hE hX lk_RL_248 (kb_4 hst G S (nI 0) no (nI 0) (c0 := 1) (by show fst3 (_ && liB _ _) _ _ = _; rw [hno, Bool.and_false]; rfl) (by decide)) rfl rfl rfl (by decide) rfl (Nat.le_of_ble_eq_true rfl) (by decide) dL_refuses_251 ?_
                refine vl_ldc (pc := 254) (v := (-9999001)) h mw_15_3 dL_refuses_254 ?_
                refine vl_icmp_ne_f (pc := 256) (tgt := 442) h rfl (by decide) dL_refuses_256 ?_
                refine vl_aload_n (pc := 259) h 5 rfl rfl dL_refuses_259 ?_
                refine vl_iconst (pc := 260) (v := nI 5) h (by decide) dL_refuses_260 ?_
                refine vl_iconst (pc := 261) (v := nI 0) h (by decide) dL_refuses_261 ?_
                refine vl_iload (pc := 262) h 2 rfl dL_refuses_262 ?_
                refine vl_iconst (pc := 264) (v := nI 0) h (by decide) dL_refuses_264 ?_
                refine wS1 (pc := 265) (As := [.ref (G.2.1 + 0), .int (nI 5), .int (nI 0), .int no, .int (nI 0)]) (st := []) (r2 := (-9999001)) (u2 := 10) h hE hX lk_RL_248 (kb_5 hst G S (nI 0) no (nI 0) (c0 := 1) (by show fst3 (_ && liB _ _) _ _ = _; rw [hno, Bool.and_false]; rfl) (by decide)) rfl rfl rfl (by decide) rfl (Nat.le_of_ble_eq_true rfl) (by decide) dL_refuses_265 ?_
                refine vl_ldc (pc := 268) (v := (-9999001)) h mw_15_3 dL_refuses_268 ?_
                refine vl_icmp_ne_f (pc := 270) (tgt := 442) h rfl (by decide) dL_refuses_270 ?_
                refine vl_aload_n (pc := 273) h 5 rfl rfl dL_refuses_273 ?_
                refine vl_bipush (pc := 274) (v := nI 6) h (by decide) dL_refuses_274 ?_
                refine vl_iload (pc := 276) h 2 rfl dL_refuses_276 ?_
                refine vl_iconst (pc := 278) (v := nI 0) h (by decide) dL_refuses_278 ?_
                refine vl_iconst (pc := 279) (v := nI 0) h (by decide) dL_refuses_279 ?_
                refine wS1 (pc := 280) (As := [.ref (G.2.1 + 0), .int (nI 6), .int no, .int (nI 0), .int (nI 0)]) (st := []) (r2 := (-9999001)) (u2 := 11) h hE hX lk_RL_248 (kb_6 hst G S no (nI 0) (nI 0) (c0 := 1) (by show fst3 (liB _ _ && _) _ _ = _; rw [hno]; rfl) (by decide)) rfl rfl rfl (by decide) rfl (Nat.le_of_ble_eq_true rfl) (by decide) dL_refuses_280 ?_
                refine vl_ldc (pc := 283) (v := (-9999001)) h mw_15_3 dL_refuses_283 ?_
                refine vl_icmp_ne_f (pc := 285) (tgt := 442) h rfl (by decide) dL_refuses_285 ?_
                refine vl_aload_n (pc := 288) h 5 rfl rfl dL_refuses_288 ?_
                refine vl_bipush (pc := 289) (v := nI 7) h (by decide) dL_refuses_289 ?_
                refine vl_iload (pc := 291) h 2 rfl dL_refuses_291 ?_
                refine vl_iconst (pc := 293) (v := nI 0) h (by decide) dL_refuses_293 ?_
                refine vl_iconst (pc := 294) (v := nI 0) h (by decide) dL_refuses_294 ?_
                refine wS1 (pc := 295) (As := [.ref (G.2.1 + 0), .int (nI 7), .int no, .int (nI 0), .int (nI 0)]) (st := []) (r2 := (-9999001)) (u2 := 12) h hE hX lk_RL_248 (kb_7 hst G S no (nI 0) (nI 0) (c0 := 1) (by show fst3 (liB _ _) _ _ = _; rw [hno]; rfl) (by decide)) rfl rfl rfl (by decide) rfl (Nat.le_of_ble_eq_true rfl) (by decide) dL_refuses_295 ?_
                refine vl_ldc (pc := 298) (v := (-9999001)) h mw_15_3 dL_refuses_298 ?_
                refine vl_icmp_ne_f (pc := 300) (tgt := 442) h rfl (by decide) dL_refuses_300 ?_
                refine vl_aload_n (pc := 303) h 5 rfl rfl dL_refuses_303 ?_
                refine vl_bipush (pc := 304) (v := nI 8) h (by decide) dL_refuses_304 ?_
                refine vl_iload (pc := 306) h 2 rfl dL_refuses_306 ?_
                refine vl_iconst (pc := 308) (v := nI 0) h (by decide) dL_refuses_308 ?_
                refine vl_iconst (pc := 309) (v := nI 0) h (by decide) dL_refuses_309 ?_
                refine wS1 (pc := 310) (As := [.ref (G.2.1 + 0), .int (nI 8), .int no, .int (nI 0), .int (nI 0)]) (st := []) (r2 := (-9999001)) (u2 := 13) h hE hX lk_RL_248 (kb_8 hst G S no (nI 0) (nI 0) (c0 := 1) (by show fst3 (liB _ _) _ _ = _; rw [hno]; rfl) (by decide)) rfl rfl rfl (by decide) rfl (Nat.le_of_ble_eq_true rfl) (by decide) dL_refuses_310 ?_
                refine vl_ldc (pc := 313) (v := (-9999001)) h mw_15_3 dL_refuses_313 ?_
                refine vl_icmp_ne_f (pc := 315) (tgt := 442) h rfl (by decide) dL_refuses_315 ?_
                refine vl_aload_n (pc := 318) h 5 rfl rfl dL_refuses_318 ?_
                refine vl_bipush (pc := 319) (v := nI 8) h (by decide) dL_refuses_319 ?_
                refine vl_iconst (pc := 321) (v := nI 0) h (by decide) dL_refuses_321 ?_
                refine vl_iload_n (pc := 322) h 6 rfl rfl dL_refuses_322 ?_
                refine vl_iconst (pc := 323) (v := nI 2) h (by decide) dL_refuses_323 ?_
                refine vl_irem (pc := 324) (v := nI (n % 2)) h (by decide) (pk_rem (by omega) (by omega) (by omega)) dL_refuses_324 ?_
                have kj325 : ∀ ve : Int32, inB (nI 1) (nI 9) ve = false → VP x (bA G) 9 13 Q (W1 G S) 339 [(6, .int off), (5, .int nn), (4, .int no), (3, .int (nI (nRd S))), (2, .int (nI (nLi S))), (0, .ref (G.2.1 + 0)), (1, .int (nI n))] [.int ve, .int (nI 0), .int (nI 8), .ref (G.2.1 + 0)] := by
                  intro ve hve
                  refine vl_iconst (pc := 339) (v := nI 0) h (by decide) dL_refuses_339 ?_
                  refine wS1 (pc := 340) (As := [.ref (G.2.1 + 0), .int (nI 8), .int (nI 0), .int ve, .int (nI 0)]) (st := []) (r2 := (-9999002)) (u2 := 14) h hE hX lk_RL_248 (kb_8 hst G S (nI 0) ve (nI 0) (c0 := 2) (by show fst3 (liB _ _) _ _ = _; rw [li_t (A := sA S) (i := 0) (show 0 < (sA S).1 from h1) hN, hve]; rfl) (by decide)) rfl rfl rfl (by decide) rfl (Nat.le_of_ble_eq_true rfl) (by decide) dL_refuses_340 ?_
                  refine vl_ldc (pc := 343) (v := (-9999002)) h mw_4_3 dL_refuses_343 ?_
                  refine vl_icmp_ne_f (pc := 345) (tgt := 442) h rfl (by decide) dL_refuses_345 ?_
                  refine vl_aload_n (pc := 348) h 5 rfl rfl dL_refuses_348 ?_
                  refine vl_bipush (pc := 349) (v := nI 9) h (by decide) dL_refuses_349 ?_
                  refine vl_iload (pc := 351) h 2 rfl dL_refuses_351 ?_
                  refine vl_iconst (pc := 353) (v := nI 0) h (by decide) dL_refuses_353 ?_
                  refine vl_iconst (pc := 354) (v := nI 0) h (by decide) dL_refuses_354 ?_
                  refine wS1 (pc := 355) (As := [.ref (G.2.1 + 0), .int (nI 9), .int no, .int (nI 0), .int (nI 0)]) (st := []) (r2 := (-9999001)) (u2 := 15) h hE hX lk_RL_248 (kb_9 hst G S no (nI 0) (nI 0) (c0 := 1) (by show fst3 (liB _ _) _ _ = _; rw [hno]; rfl) (by decide)) rfl rfl rfl (by decide) rfl (Nat.le_of_ble_eq_true rfl) (by decide) dL_refuses_355 ?_
                  refine vl_ldc (pc := 358) (v := (-9999001)) h mw_15_3 dL_refuses_358 ?_
                  refine vl_icmp_ne_f (pc := 360) (tgt := 442) h rfl (by decide) dL_refuses_360 ?_
                  refine vl_aload_n (pc := 363) h 5 rfl rfl dL_refuses_363 ?_
                  refine vl_bipush (pc := 364) (v := nI 11) h (by decide) dL_refuses_364 ?_
                  refine vl_iload (pc := 366) h 2 rfl dL_refuses_366 ?_
                  refine vl_iconst (pc := 368) (v := nI 0) h (by decide) dL_refuses_368 ?_
                  refine vl_iconst (pc := 369) (v := nI 0) h (by decide) dL_refuses_369 ?_
                  refine wS1 (pc := 370) (As := [.ref (G.2.1 + 0), .int (nI 11), .int no, .int (nI 0), .int (nI 0)]) (st := []) (r2 := (-9999001)) (u2 := 16) h hE hX lk_RL_248 (kb_11 hst G S no (nI 0) (nI 0) (c0 := 1) (by show fst3 (liB _ _) _ _ = _; rw [hno]; rfl) (by decide)) rfl rfl rfl (by decide) rfl (Nat.le_of_ble_eq_true rfl) (by decide) dL_refuses_370 ?_
                  refine vl_ldc (pc := 373) (v := (-9999001)) h mw_15_3 dL_refuses_373 ?_
                  refine vl_icmp_ne_f (pc := 375) (tgt := 442) h rfl (by decide) dL_refuses_375 ?_
                  refine vl_aload_n (pc := 378) h 5 rfl rfl dL_refuses_378 ?_
                  refine vl_bipush (pc := 379) (v := nI 12) h (by decide) dL_refuses_379 ?_
                  refine vl_iload (pc := 381) h 1 rfl dL_refuses_381 ?_
                  refine vl_iconst (pc := 383) (v := nI 0) h (by decide) dL_refuses_383 ?_
                  refine vl_iconst (pc := 384) (v := nI 0) h (by decide) dL_refuses_384 ?_
                  refine wS1 (pc := 385) (As := [.ref (G.2.1 + 0), .int (nI 12), .int nn, .int (nI 0), .int (nI 0)]) (st := []) (r2 := (-9999001)) (u2 := 17) h hE hX lk_RL_248 (kb_12 hst G S nn (nI 0) (nI 0) (c0 := 1) (by show fst3 (rdB _ _) _ _ = _; rw [hnn]; rfl) (by decide)) rfl rfl rfl (by decide) rfl (Nat.le_of_ble_eq_true rfl) (by decide) dL_refuses_385 ?_
                  refine vl_ldc (pc := 388) (v := (-9999001)) h mw_15_3 dL_refuses_388 ?_
                  refine vl_icmp_ne_f (pc := 390) (tgt := 442) h rfl (by decide) dL_refuses_390 ?_
                  refine vl_aload_n (pc := 393) h 5 rfl rfl dL_refuses_393 ?_
                  refine vl_bipush (pc := 394) (v := nI 13) h (by decide) dL_refuses_394 ?_
                  refine vl_iload (pc := 396) h 1 rfl dL_refuses_396 ?_
                  refine vl_iconst (pc := 398) (v := nI 0) h (by decide) dL_refuses_398 ?_
                  refine vl_iconst (pc := 399) (v := nI 0) h (by decide) dL_refuses_399 ?_
                  refine wS1 (pc := 400) (As := [.ref (G.2.1 + 0), .int (nI 13), .int nn, .int (nI 0), .int (nI 0)]) (st := []) (r2 := (-9999001)) (u2 := 18) h hE hX lk_RL_248 (kb_13 hst G S nn (nI 0) (nI 0) (c0 := 1) (by show fst3 (rdB _ _) _ _ = _; rw [hnn]; rfl) (by decide)) rfl rfl rfl (by decide) rfl (Nat.le_of_ble_eq_true rfl) (by decide) dL_refuses_400 ?_
                  refine vl_ldc (pc := 403) (v := (-9999001)) h mw_15_3 dL_refuses_403 ?_
                  refine vl_icmp_ne_f (pc := 405) (tgt := 442) h rfl (by decide) dL_refuses_405 ?_
                  refine vl_aload_n (pc := 408) h 5 rfl rfl dL_refuses_408 ?_
                  refine vl_bipush (pc := 409) (v := nI 14) h (by decide) dL_refuses_409 ?_
                  refine vl_iload (pc := 411) h 1 rfl dL_refuses_411 ?_
                  refine vl_iconst (pc := 413) (v := nI 0) h (by decide) dL_refuses_413 ?_
                  refine vl_iconst (pc := 414) (v := nI 0) h (by decide) dL_refuses_414 ?_
                  refine wS1 (pc := 415) (As := [.ref (G.2.1 + 0), .int (nI 14), .int nn, .int (nI 0), .int (nI 0)]) (st := []) (r2 := (-9999001)) (u2 := 19) h hE hX lk_RL_248 (kb_14 hst G S nn (nI 0) (nI 0) (c0 := 1) (by show fst3 (rdB _ _) _ _ = _; rw [hnn]; rfl) (by decide)) rfl rfl rfl (by decide) rfl (Nat.le_of_ble_eq_true rfl) (by decide) dL_refuses_415 ?_
                  refine vl_ldc (pc := 418) (v := (-9999001)) h mw_15_3 dL_refuses_418 ?_
                  refine vl_icmp_ne_f (pc := 420) (tgt := 442) h rfl (by decide) dL_refuses_420 ?_
                  refine vl_aload_n (pc := 423) h 5 rfl rfl dL_refuses_423 ?_
                  refine vl_bipush (pc := 424) (v := nI 15) h (by decide) dL_refuses_424 ?_
                  refine vl_iload (pc := 426) h 1 rfl dL_refuses_426 ?_
                  refine vl_iconst (pc := 428) (v := nI 0) h (by decide) dL_refuses_428 ?_
                  refine vl_iconst (pc := 429) (v := nI 0) h (by decide) dL_refuses_429 ?_
                  refine wS1 (pc := 430) (As := [.ref (G.2.1 + 0), .int (nI 15), .int nn, .int (nI 0), .int (nI 0)]) (st := []) (r2 := (-9999001)) (u2 := 20) h hE hX lk_RL_248 (kb_15 hst G S nn (nI 0) (nI 0) (c0 := 1) (by show fst3 (rdB _ _) _ _ = _; rw [hnn]; rfl) (by decide)) rfl rfl rfl (by decide) rfl (Nat.le_of_ble_eq_true rfl) (by decide) dL_refuses_430 ?_
                  refine vl_ldc (pc := 433) (v := (-9999001)) h mw_15_3 dL_refuses_433 ?_
                  refine vl_icmp_ne_f (pc := 435) (tgt := 442) h rfl (by decide) dL_refuses_435 ?_
                  refine vl_iconst (pc := 438) (v := nI 1) h (by decide) dL_refuses_438 ?_
                  refine vl_goto (pc := 439) (tgt := 443) h (by decide) dL_refuses_439 ?_
                  refine vl_istore (pc := 443) (lo2 := [(7, .int (nI 1)), (6, .int off), (5, .int nn), (4, .int no), (3, .int (nI (nRd S))), (2, .int (nI (nLi S))), (0, .ref (G.2.1 + 0)), (1, .int (nI n))]) h (by decide) rfl dL_refuses_443 ?_
                  refine vl_iload (pc := 445) h 0 rfl dL_refuses_445 ?_
                  refine vl_if_eq_f (pc := 447) (tgt := 908) h (by decide) (by decide) dL_refuses_447 ?_
                  refine vl_aload_n (pc := 450) h 6 rfl rfl dL_refuses_450 ?_
                  refine vl_iload (pc := 451) h 3 rfl dL_refuses_451 ?_
                  refine vl_iload (pc := 453) h 1 rfl dL_refuses_453 ?_
                  refine wW1 (pc := 455) (As := [.ref (G.2.1 + 0), .int no, .int off]) (st := []) (r2 := (-9999001)) (u2 := 22) h hE hX lkw_252 (kb_is hst G S no off (c0 := 1) (sc1 hno (by decide)) (by decide)) rfl rfl rfl (by decide) rfl (Nat.le_of_ble_eq_true rfl) (by decide) dL_refuses_455 ?_
                  refine vl_ldc (pc := 458) (v := (-9999001)) h mw_15_3 dL_refuses_458 ?_
                  refine vl_icmp_ne_f (pc := 460) (tgt := 908) h rfl (by decide) dL_refuses_460 ?_
                  refine vl_aload_n (pc := 463) h 6 rfl rfl dL_refuses_463 ?_
                  refine vl_iconst (pc := 464) (v := nI 0) h (by decide) dL_refuses_464 ?_
                  refine vl_iload (pc := 465) h 1 rfl dL_refuses_465 ?_
                  refine wW1 (pc := 467) (As := [.ref (G.2.1 + 0), .int (nI 0), .int off]) (st := []) (r2 := (-9999002)) (u2 := 24) h hE hX lkw_252 (kb_is hst G S (nI 0) off (c0 := 2) (sc2 (li_t (A := sA S) (i := 0) (show 0 < (sA S).1 from h1) hN) hoff) (by decide)) rfl rfl rfl (by decide) rfl (Nat.le_of_ble_eq_true rfl) (by decide) dL_refuses_467 ?_
                  refine vl_ldc (pc := 470) (v := (-9999002)) h mw_4_3 dL_refuses_470 ?_
                  refine vl_icmp_ne_f (pc := 472) (tgt := 908) h rfl (by decide) dL_refuses_472 ?_
                  refine vl_aload_n (pc := 475) h 6 rfl rfl dL_refuses_475 ?_
                  refine vl_bipush (pc := 476) (v := nI 17) h (by decide) dL_refuses_476 ?_
                  refine vl_iload (pc := 478) h 3 rfl dL_refuses_478 ?_
                  refine vl_iconst (pc := 480) (v := nI 0) h (by decide) dL_refuses_480 ?_
                  refine vl_iconst (pc := 481) (v := nI 0) h (by decide) dL_refuses_481 ?_
                  refine wS1 (pc := 482) (As := [.ref (G.2.1 + 0), .int (nI 17), .int no, .int (nI 0), .int (nI 0)]) (st := []) (r2 := (-9999001)) (u2 := 26) h hE hX lk_RL_248 (kb_17 hst G S no (nI 0) (nI 0) (c0 := 1) (sc1 hno (by decide)) (by decide)) rfl rfl rfl (by decide) rfl (Nat.le_of_ble_eq_true rfl) (by decide) dL_refuses_482 ?_
                  refine vl_ldc (pc := 485) (v := (-9999001)) h mw_15_3 dL_refuses_485 ?_
                  refine vl_icmp_ne_f (pc := 487) (tgt := 908) h rfl (by decide) dL_refuses_487 ?_
                  refine vl_aload_n (pc := 490) h 6 rfl rfl dL_refuses_490 ?_
                  refine vl_bipush (pc := 491) (v := nI 17) h (by decide) dL_refuses_491 ?_
                  refine vl_iconst (pc := 493) (v := nI 0) h (by decide) dL_refuses_493 ?_
                  refine vl_iconst (pc := 494) (v := (-1)) h (by decide) dL_refuses_494 ?_
                  refine vl_iload_n (pc := 495) h 7 rfl rfl dL_refuses_495 ?_
                  refine vl_bipush (pc := 496) (v := nI 9) h (by decide) dL_refuses_496 ?_
                  refine vl_irem (pc := 498) (v := nI (n % 9)) h (by decide) (pk_rem (by omega) (by omega) (by omega)) dL_refuses_498 ?_
                  refine vl_isub (pc := 499) (v := (-1) - (nI (n % 9))) h rfl dL_refuses_499 ?_
                  refine vl_iconst (pc := 500) (v := nI 0) h (by decide) dL_refuses_500 ?_
                  refine wS1 (pc := 501) (As := [.ref (G.2.1 + 0), .int (nI 17), .int (nI 0), .int ((-1) - (nI (n % 9))), .int (nI 0)]) (st := []) (r2 := (-9999001)) (u2 := 28) h hE hX lk_RL_248 (kb_17 hst G S (nI 0) ((-1) - (nI (n % 9))) (nI 0) (c0 := 1) (sc2 (li_t (A := sA S) (i := 0) (show 0 < (sA S).1 from h1) hN) (pl_n (neg_n (by omega)))) (by decide)) rfl rfl rfl (by decide) rfl (Nat.le_of_ble_eq_true rfl) (by decide) dL_refuses_501 ?_
                  refine vl_ldc (pc := 504) (v := (-9999001)) h mw_15_3 dL_refuses_504 ?_
                  refine vl_icmp_ne_f (pc := 506) (tgt := 908) h rfl (by decide) dL_refuses_506 ?_
                  refine vl_aload_n (pc := 509) h 6 rfl rfl dL_refuses_509 ?_
                  refine vl_bipush (pc := 510) (v := nI 18) h (by decide) dL_refuses_510 ?_
                  refine vl_iload (pc := 512) h 3 rfl dL_refuses_512 ?_
                  refine vl_iconst (pc := 514) (v := nI 0) h (by decide) dL_refuses_514 ?_
                  refine vl_iconst (pc := 515) (v := nI 0) h (by decide) dL_refuses_515 ?_
                  refine wS1 (pc := 516) (As := [.ref (G.2.1 + 0), .int (nI 18), .int no, .int (nI 0), .int (nI 0)]) (st := []) (r2 := (-9999001)) (u2 := 30) h hE hX lk_RL_248 (kb_18 hst G S no (nI 0) (nI 0) (c0 := 1) (sc1 hno (by decide)) (by decide)) rfl rfl rfl (by decide) rfl (Nat.le_of_ble_eq_true rfl) (by decide) dL_refuses_516 ?_
                  refine vl_ldc (pc := 519) (v := (-9999001)) h mw_15_3 dL_refuses_519 ?_
                  refine vl_icmp_ne_f (pc := 521) (tgt := 908) h rfl (by decide) dL_refuses_521 ?_
                  refine vl_aload_n (pc := 524) h 6 rfl rfl dL_refuses_524 ?_
                  refine vl_bipush (pc := 525) (v := nI 18) h (by decide) dL_refuses_525 ?_
                  refine vl_iconst (pc := 527) (v := nI 0) h (by decide) dL_refuses_527 ?_
                  refine vl_iconst (pc := 528) (v := (-1)) h (by decide) dL_refuses_528 ?_
                  refine vl_iload_n (pc := 529) h 7 rfl rfl dL_refuses_529 ?_
                  refine vl_bipush (pc := 530) (v := nI 9) h (by decide) dL_refuses_530 ?_
                  refine vl_irem (pc := 532) (v := nI (n % 9)) h (by decide) (pk_rem (by omega) (by omega) (by omega)) dL_refuses_532 ?_
                  refine vl_isub (pc := 533) (v := (-1) - (nI (n % 9))) h rfl dL_refuses_533 ?_
                  refine vl_iconst (pc := 534) (v := nI 0) h (by decide) dL_refuses_534 ?_
                  refine wS1 (pc := 535) (As := [.ref (G.2.1 + 0), .int (nI 18), .int (nI 0), .int ((-1) - (nI (n % 9))), .int (nI 0)]) (st := []) (r2 := (-9999001)) (u2 := 32) h hE hX lk_RL_248 (kb_18 hst G S (nI 0) ((-1) - (nI (n % 9))) (nI 0) (c0 := 1) (sc2 (li_t (A := sA S) (i := 0) (show 0 < (sA S).1 from h1) hN) (pl_n (neg_n (by omega)))) (by decide)) rfl rfl rfl (by decide) rfl (Nat.le_of_ble_eq_true rfl) (by decide) dL_refuses_535 ?_
                  refine vl_ldc (pc := 538) (v := (-9999001)) h mw_15_3 dL_refuses_538 ?_
                  refine vl_icmp_ne_f (pc := 540) (tgt := 908) h rfl (by decide) dL_refuses_540 ?_
                  refine vl_aload_n (pc := 543) h 6 rfl rfl dL_refuses_543 ?_
                  refine vl_bipush (pc := 544) (v := nI 19) h (by decide) dL_refuses_544 ?_
                  refine vl_iload (pc := 546) h 3 rfl dL_refuses_546 ?_
                  refine vl_iload (pc := 548) h 1 rfl dL_refuses_548 ?_
                  refine vl_iconst (pc := 550) (v := nI 0) h (by decide) dL_refuses_550 ?_
                  refine wS1 (pc := 551) (As := [.ref (G.2.1 + 0), .int (nI 19), .int no, .int off, .int (nI 0)]) (st := []) (r2 := (-9999001)) (u2 := 34) h hE hX lk_RL_248 (kb_19 hst G S no off (nI 0) (c0 := 1) (sc1 hno (by decide)) (by decide)) rfl rfl rfl (by decide) rfl (Nat.le_of_ble_eq_true rfl) (by decide) dL_refuses_551 ?_
                  refine vl_ldc (pc := 554) (v := (-9999001)) h mw_15_3 dL_refuses_554 ?_
                  refine vl_icmp_ne_f (pc := 556) (tgt := 908) h rfl (by decide) dL_refuses_556 ?_
                  refine vl_aload_n (pc := 559) h 6 rfl rfl dL_refuses_559 ?_
                  refine vl_bipush (pc := 560) (v := nI 19) h (by decide) dL_refuses_560 ?_
                  refine vl_iconst (pc := 562) (v := nI 0) h (by decide) dL_refuses_562 ?_
                  refine vl_iload (pc := 563) h 1 rfl dL_refuses_563 ?_
                  refine vl_iconst (pc := 565) (v := nI 0) h (by decide) dL_refuses_565 ?_
                  refine wS1 (pc := 566) (As := [.ref (G.2.1 + 0), .int (nI 19), .int (nI 0), .int off, .int (nI 0)]) (st := []) (r2 := (-9999002)) (u2 := 36) h hE hX lk_RL_248 (kb_19 hst G S (nI 0) off (nI 0) (c0 := 2) (sc2 (li_t (A := sA S) (i := 0) (show 0 < (sA S).1 from h1) hN) hoff) (by decide)) rfl rfl rfl (by decide) rfl (Nat.le_of_ble_eq_true rfl) (by decide) dL_refuses_566 ?_
                  refine vl_ldc (pc := 569) (v := (-9999002)) h mw_4_3 dL_refuses_569 ?_
                  refine vl_icmp_ne_f (pc := 571) (tgt := 908) h rfl (by decide) dL_refuses_571 ?_
                  refine vl_aload_n (pc := 574) h 6 rfl rfl dL_refuses_574 ?_
                  refine vl_bipush (pc := 575) (v := nI 20) h (by decide) dL_refuses_575 ?_
                  refine vl_iload (pc := 577) h 3 rfl dL_refuses_577 ?_
                  refine vl_iload (pc := 579) h 1 rfl dL_refuses_579 ?_
                  refine vl_iconst (pc := 581) (v := nI 0) h (by decide) dL_refuses_581 ?_
                  refine wS1 (pc := 582) (As := [.ref (G.2.1 + 0), .int (nI 20), .int no, .int off, .int (nI 0)]) (st := []) (r2 := (-9999001)) (u2 := 38) h hE hX lk_RL_248 (kb_20 hst G S no off (nI 0) (c0 := 1) (sc1 hno (by decide)) (by decide)) rfl rfl rfl (by decide) rfl (Nat.le_of_ble_eq_true rfl) (by decide) dL_refuses_582 ?_
                  refine vl_ldc (pc := 585) (v := (-9999001)) h mw_15_3 dL_refuses_585 ?_
                  refine vl_icmp_ne_f (pc := 587) (tgt := 908) h rfl (by decide) dL_refuses_587 ?_
                  refine vl_aload_n (pc := 590) h 6 rfl rfl dL_refuses_590 ?_
                  refine vl_bipush (pc := 591) (v := nI 20) h (by decide) dL_refuses_591 ?_
                  refine vl_iconst (pc := 593) (v := nI 0) h (by decide) dL_refuses_593 ?_
                  refine vl_iload (pc := 594) h 1 rfl dL_refuses_594 ?_
                  refine vl_iconst (pc := 596) (v := nI 0) h (by decide) dL_refuses_596 ?_
                  refine wS1 (pc := 597) (As := [.ref (G.2.1 + 0), .int (nI 20), .int (nI 0), .int off, .int (nI 0)]) (st := []) (r2 := (-9999002)) (u2 := 40) h hE hX lk_RL_248 (kb_20 hst G S (nI 0) off (nI 0) (c0 := 2) (sc2 (li_t (A := sA S) (i := 0) (show 0 < (sA S).1 from h1) hN) hoff) (by decide)) rfl rfl rfl (by decide) rfl (Nat.le_of_ble_eq_true rfl) (by decide) dL_refuses_597 ?_
                  refine vl_ldc (pc := 600) (v := (-9999002)) h mw_4_3 dL_refuses_600 ?_
                  refine vl_icmp_ne_f (pc := 602) (tgt := 908) h rfl (by decide) dL_refuses_602 ?_
                  refine vl_aload_n (pc := 605) h 6 rfl rfl dL_refuses_605 ?_
                  refine vl_bipush (pc := 606) (v := nI 21) h (by decide) dL_refuses_606 ?_
                  refine vl_iload (pc := 608) h 3 rfl dL_refuses_608 ?_
                  refine vl_iconst (pc := 610) (v := nI 0) h (by decide) dL_refuses_610 ?_
                  refine vl_iconst (pc := 611) (v := nI 0) h (by decide) dL_refuses_611 ?_
                  refine wS1 (pc := 612) (As := [.ref (G.2.1 + 0), .int (nI 21), .int no, .int (nI 0), .int (nI 0)]) (st := []) (r2 := (-9999001)) (u2 := 41) h hE hX lk_RL_248 (kb_21 hst G S no (nI 0) (nI 0) (c0 := 1) (cB_f hno) (by decide)) rfl rfl rfl (by decide) rfl (Nat.le_of_ble_eq_true rfl) (by decide) dL_refuses_612 ?_
                  refine vl_ldc (pc := 615) (v := (-9999001)) h mw_15_3 dL_refuses_615 ?_
                  refine vl_icmp_ne_f (pc := 617) (tgt := 908) h rfl (by decide) dL_refuses_617 ?_
                  refine vl_aload_n (pc := 620) h 6 rfl rfl dL_refuses_620 ?_
                  refine vl_bipush (pc := 621) (v := nI 22) h (by decide) dL_refuses_621 ?_
                  refine vl_iconst (pc := 623) (v := nI 0) h (by decide) dL_refuses_623 ?_
                  refine vl_iload (pc := 624) h 3 rfl dL_refuses_624 ?_
                  refine vl_iconst (pc := 626) (v := nI 0) h (by decide) dL_refuses_626 ?_
                  refine wS1 (pc := 627) (As := [.ref (G.2.1 + 0), .int (nI 22), .int (nI 0), .int no, .int (nI 0)]) (st := []) (r2 := (-9999001)) (u2 := 43) h hE hX lk_RL_248 (kb_22 hst G S (nI 0) no (nI 0) (c0 := 1) (sc2 (li_t (A := sA S) (i := 0) (show 0 < (sA S).1 from h1) hN) hno) (by decide)) rfl rfl rfl (by decide) rfl (Nat.le_of_ble_eq_true rfl) (by decide) dL_refuses_627 ?_
                  refine vl_ldc (pc := 630) (v := (-9999001)) h mw_15_3 dL_refuses_630 ?_
                  refine vl_icmp_ne_f (pc := 632) (tgt := 908) h rfl (by decide) dL_refuses_632 ?_
                  refine vl_aload_n (pc := 635) h 6 rfl rfl dL_refuses_635 ?_
                  refine vl_bipush (pc := 636) (v := nI 23) h (by decide) dL_refuses_636 ?_
                  refine vl_iload (pc := 638) h 3 rfl dL_refuses_638 ?_
                  refine vl_iconst (pc := 640) (v := nI 0) h (by decide) dL_refuses_640 ?_
                  refine vl_iconst (pc := 641) (v := nI 0) h (by decide) dL_refuses_641 ?_
                  refine wS1 (pc := 642) (As := [.ref (G.2.1 + 0), .int (nI 23), .int no, .int (nI 0), .int (nI 0)]) (st := []) (r2 := (-9999001)) (u2 := 44) h hE hX lk_RL_248 (kb_23 hst G S no (nI 0) (nI 0) (c0 := 1) (cB_f hno) (by decide)) rfl rfl rfl (by decide) rfl (Nat.le_of_ble_eq_true rfl) (by decide) dL_refuses_642 ?_
                  refine vl_ldc (pc := 645) (v := (-9999001)) h mw_15_3 dL_refuses_645 ?_
                  refine vl_icmp_ne_f (pc := 647) (tgt := 908) h rfl (by decide) dL_refuses_647 ?_
                  refine vl_aload_n (pc := 650) h 6 rfl rfl dL_refuses_650 ?_
                  refine vl_bipush (pc := 651) (v := nI 24) h (by decide) dL_refuses_651 ?_
                  refine vl_iload (pc := 653) h 2 rfl dL_refuses_653 ?_
                  refine vl_iconst (pc := 655) (v := nI 0) h (by decide) dL_refuses_655 ?_
                  refine vl_iconst (pc := 656) (v := nI 0) h (by decide) dL_refuses_656 ?_
                  refine wS1 (pc := 657) (As := [.ref (G.2.1 + 0), .int (nI 24), .int nn, .int (nI 0), .int (nI 0)]) (st := []) (r2 := (-9999001)) (u2 := 45) h hE hX lk_RL_248 (kb_24 hst G S nn (nI 0) (nI 0) (c0 := 1) (cB_f hnn) (by decide)) rfl rfl rfl (by decide) rfl (Nat.le_of_ble_eq_true rfl) (by decide) dL_refuses_657 ?_
                  refine vl_ldc (pc := 660) (v := (-9999001)) h mw_15_3 dL_refuses_660 ?_
                  refine vl_icmp_ne_f (pc := 662) (tgt := 908) h rfl (by decide) dL_refuses_662 ?_
                  refine vl_aload_n (pc := 665) h 6 rfl rfl dL_refuses_665 ?_
                  refine vl_bipush (pc := 666) (v := nI 25) h (by decide) dL_refuses_666 ?_
                  refine vl_iload (pc := 668) h 2 rfl dL_refuses_668 ?_
                  refine vl_iconst (pc := 670) (v := nI 0) h (by decide) dL_refuses_670 ?_
                  refine vl_iconst (pc := 671) (v := nI 0) h (by decide) dL_refuses_671 ?_
                  refine wS1 (pc := 672) (As := [.ref (G.2.1 + 0), .int (nI 25), .int nn, .int (nI 0), .int (nI 0)]) (st := []) (r2 := (-9999001)) (u2 := 46) h hE hX lk_RL_248 (kb_25 hst G S nn (nI 0) (nI 0) (c0 := 1) (cB_f hnn) (by decide)) rfl rfl rfl (by decide) rfl (Nat.le_of_ble_eq_true rfl) (by decide) dL_refuses_672 ?_
                  refine vl_ldc (pc := 675) (v := (-9999001)) h mw_15_3 dL_refuses_675 ?_
                  refine vl_icmp_ne_f (pc := 677) (tgt := 908) h rfl (by decide) dL_refuses_677 ?_
                  refine vl_aload_n (pc := 680) h 6 rfl rfl dL_refuses_680 ?_
                  refine vl_bipush (pc := 681) (v := nI 26) h (by decide) dL_refuses_681 ?_
                  refine vl_iload (pc := 683) h 2 rfl dL_refuses_683 ?_
                  refine vl_iconst (pc := 685) (v := nI 0) h (by decide) dL_refuses_685 ?_
                  refine vl_iconst (pc := 686) (v := nI 0) h (by decide) dL_refuses_686 ?_
                  refine wS1 (pc := 687) (As := [.ref (G.2.1 + 0), .int (nI 26), .int nn, .int (nI 0), .int (nI 0)]) (st := []) (r2 := (-9999001)) (u2 := 47) h hE hX lk_RL_248 (kb_26 hst G S nn (nI 0) (nI 0) (c0 := 1) (cB_f hnn) (by decide)) rfl rfl rfl (by decide) rfl (Nat.le_of_ble_eq_true rfl) (by decide) dL_refuses_687 ?_
                  refine vl_ldc (pc := 690) (v := (-9999001)) h mw_15_3 dL_refuses_690 ?_
                  refine vl_icmp_ne_f (pc := 692) (tgt := 908) h rfl (by decide) dL_refuses_692 ?_
                  refine vl_aload_n (pc := 695) h 6 rfl rfl dL_refuses_695 ?_
                  refine vl_bipush (pc := 696) (v := nI 27) h (by decide) dL_refuses_696 ?_
                  refine vl_iload_n (pc := 698) h 7 rfl rfl dL_refuses_698 ?_
                  refine vl_iconst (pc := 699) (v := nI 2) h (by decide) dL_refuses_699 ?_
                  refine vl_irem (pc := 700) (v := nI (n % 2)) h (by decide) (pk_rem (by omega) (by omega) (by omega)) dL_refuses_700 ?_
                  have kj701 : ∀ vw : Int32, inB (nI 0) (nI 99999) vw = false → VP x (bA G) 9 47 Q (W1 G S) 715 [(7, .int (nI 1)), (6, .int off), (5, .int nn), (4, .int no), (3, .int (nI (nRd S))), (2, .int (nI (nLi S))), (0, .ref (G.2.1 + 0)), (1, .int (nI n))] [.int vw, .int (nI 27), .ref (G.2.1 + 0)] := by
                    intro vw hvw
                    refine vl_iconst (pc := 715) (v := nI 0) h (by decide) dL_refuses_715 ?_
                    refine vl_iconst (pc := 716) (v := nI 0) h (by decide) dL_refuses_716 ?_
                    refine wS1 (pc := 717) (As := [.ref (G.2.1 + 0), .int (nI 27), .int vw, .int (nI 0), .int (nI 0)]) (st := []) (r2 := (-9999002)) (u2 := 48) h hE hX lk_RL_248 (kb_27 hst G S vw (nI 0) (nI 0) (c0 := 2) (cB_f hvw) (by decide)) rfl rfl rfl (by decide) rfl (Nat.le_of_ble_eq_true rfl) (by decide) dL_refuses_717 ?_
                    refine vl_ldc (pc := 720) (v := (-9999002)) h mw_4_3 dL_refuses_720 ?_
                    refine vl_icmp_ne_f (pc := 722) (tgt := 908) h rfl (by decide) dL_refuses_722 ?_
                    refine vl_aload_n (pc := 725) h 6 rfl rfl dL_refuses_725 ?_
                    refine vl_bipush (pc := 726) (v := nI 28) h (by decide) dL_refuses_726 ?_
                    refine vl_iload_n (pc := 728) h 7 rfl rfl dL_refuses_728 ?_
                    refine vl_iconst (pc := 729) (v := nI 2) h (by decide) dL_refuses_729 ?_
                    refine vl_irem (pc := 730) (v := nI (n % 2)) h (by decide) (pk_rem (by omega) (by omega) (by omega)) dL_refuses_730 ?_
                    have kj731 : ∀ vk : Int32, inB (nI 0) (nI 99999) vk = false → VP x (bA G) 9 48 Q (W1 G S) 745 [(7, .int (nI 1)), (6, .int off), (5, .int nn), (4, .int no), (3, .int (nI (nRd S))), (2, .int (nI (nLi S))), (0, .ref (G.2.1 + 0)), (1, .int (nI n))] [.int vk, .int (nI 28), .ref (G.2.1 + 0)] := by
                      intro vk hvk
                      refine vl_iconst (pc := 745) (v := nI 0) h (by decide) dL_refuses_745 ?_
                      refine vl_iconst (pc := 746) (v := nI 0) h (by decide) dL_refuses_746 ?_
                      refine wS1 (pc := 747) (As := [.ref (G.2.1 + 0), .int (nI 28), .int vk, .int (nI 0), .int (nI 0)]) (st := []) (r2 := (-9999002)) (u2 := 49) h hE hX lk_RL_248 (kb_28 hst G S vk (nI 0) (nI 0) (c0 := 2) (cB_f hvk) (by decide)) rfl rfl rfl (by decide) rfl (Nat.le_of_ble_eq_true rfl) (by decide) dL_refuses_747 ?_
                      refine vl_ldc (pc := 750) (v := (-9999002)) h mw_4_3 dL_refuses_750 ?_
                      refine vl_icmp_ne_f (pc := 752) (tgt := 908) h rfl (by decide) dL_refuses_752 ?_
                      refine vl_aload_n (pc := 755) h 6 rfl rfl dL_refuses_755 ?_
                      refine vl_bipush (pc := 756) (v := nI 29) h (by decide) dL_refuses_756 ?_
                      refine vl_iload_n (pc := 758) h 7 rfl rfl dL_refuses_758 ?_
                      refine vl_iconst (pc := 759) (v := nI 2) h (by decide) dL_refuses_759 ?_
                      refine vl_irem (pc := 760) (v := nI (n % 2)) h (by decide) (pk_rem (by omega) (by omega) (by omega)) dL_refuses_760 ?_
                      have kj761 : ∀ va : Int32, inB (nI 0) (nI 200) va = false → VP x (bA G) 9 49 Q (W1 G S) 776 [(7, .int (nI 1)), (6, .int off), (5, .int nn), (4, .int no), (3, .int (nI (nRd S))), (2, .int (nI (nLi S))), (0, .ref (G.2.1 + 0)), (1, .int (nI n))] [.int va, .int (nI 29), .ref (G.2.1 + 0)] := by
                        intro va hva
                        refine vl_iconst (pc := 776) (v := nI 5) h (by decide) dL_refuses_776 ?_
                        refine vl_iconst (pc := 777) (v := nI 0) h (by decide) dL_refuses_777 ?_
                        refine wS1 (pc := 778) (As := [.ref (G.2.1 + 0), .int (nI 29), .int va, .int (nI 5), .int (nI 0)]) (st := []) (r2 := (-9999002)) (u2 := 51) h hE hX lk_RL_248 (kb_29 hst G S va (nI 5) (nI 0) (c0 := 2) (sc1 hva (by decide)) (by decide)) rfl rfl rfl (by decide) rfl (Nat.le_of_ble_eq_true rfl) (by decide) dL_refuses_778 ?_
                        refine vl_ldc (pc := 781) (v := (-9999002)) h mw_4_3 dL_refuses_781 ?_
                        refine vl_icmp_ne_f (pc := 783) (tgt := 908) h rfl (by decide) dL_refuses_783 ?_
                        refine vl_aload_n (pc := 786) h 6 rfl rfl dL_refuses_786 ?_
                        refine vl_bipush (pc := 787) (v := nI 29) h (by decide) dL_refuses_787 ?_
                        refine vl_iconst (pc := 789) (v := nI 5) h (by decide) dL_refuses_789 ?_
                        refine vl_iload_n (pc := 790) h 7 rfl rfl dL_refuses_790 ?_
                        refine vl_iconst (pc := 791) (v := nI 2) h (by decide) dL_refuses_791 ?_
                        refine vl_irem (pc := 792) (v := nI (n % 2)) h (by decide) (pk_rem (by omega) (by omega) (by omega)) dL_refuses_792 ?_
                        have kj793 : ∀ vb : Int32, inB (nI 0) (nI 200) vb = false → VP x (bA G) 9 51 Q (W1 G S) 808 [(7, .int (nI 1)), (6, .int off), (5, .int nn), (4, .int no), (3, .int (nI (nRd S))), (2, .int (nI (nLi S))), (0, .ref (G.2.1 + 0)), (1, .int (nI n))] [.int vb, .int (nI 5), .int (nI 29), .ref (G.2.1 + 0)] := by
                          intro vb hvb
                          refine vl_iconst (pc := 808) (v := nI 0) h (by decide) dL_refuses_808 ?_
                          refine wS1 (pc := 809) (As := [.ref (G.2.1 + 0), .int (nI 29), .int (nI 5), .int vb, .int (nI 0)]) (st := []) (r2 := (-9999002)) (u2 := 53) h hE hX lk_RL_248 (kb_29 hst G S (nI 5) vb (nI 0) (c0 := 2) (sc2 (in_t (by omega) (by omega) (by omega)) hvb) (by decide)) rfl rfl rfl (by decide) rfl (Nat.le_of_ble_eq_true rfl) (by decide) dL_refuses_809 ?_
                          refine vl_ldc (pc := 812) (v := (-9999002)) h mw_4_3 dL_refuses_812 ?_
                          refine vl_icmp_ne_f (pc := 814) (tgt := 908) h rfl (by decide) dL_refuses_814 ?_
                          refine vl_aload_n (pc := 817) h 6 rfl rfl dL_refuses_817 ?_
                          refine vl_bipush (pc := 818) (v := nI 30) h (by decide) dL_refuses_818 ?_
                          refine vl_iload (pc := 820) h 3 rfl dL_refuses_820 ?_
                          refine vl_iconst (pc := 822) (v := nI 0) h (by decide) dL_refuses_822 ?_
                          refine vl_iconst (pc := 823) (v := nI 0) h (by decide) dL_refuses_823 ?_
                          refine wS1 (pc := 824) (As := [.ref (G.2.1 + 0), .int (nI 30), .int no, .int (nI 0), .int (nI 0)]) (st := []) (r2 := (-9999001)) (u2 := 55) h hE hX lk_RL_248 (kb_30 hst G S no (nI 0) (nI 0) (c0 := 1) (sc1 hno (by decide)) (by decide)) rfl rfl rfl (by decide) rfl (Nat.le_of_ble_eq_true rfl) (by decide) dL_refuses_824 ?_
                          refine vl_ldc (pc := 827) (v := (-9999001)) h mw_15_3 dL_refuses_827 ?_
                          refine vl_icmp_ne_f (pc := 829) (tgt := 908) h rfl (by decide) dL_refuses_829 ?_
                          refine vl_aload_n (pc := 832) h 6 rfl rfl dL_refuses_832 ?_
                          refine vl_bipush (pc := 833) (v := nI 31) h (by decide) dL_refuses_833 ?_
                          refine vl_iload (pc := 835) h 2 rfl dL_refuses_835 ?_
                          refine vl_iload (pc := 837) h 1 rfl dL_refuses_837 ?_
                          refine vl_iconst (pc := 839) (v := nI 0) h (by decide) dL_refuses_839 ?_
                          refine wS1 (pc := 840) (As := [.ref (G.2.1 + 0), .int (nI 31), .int nn, .int off, .int (nI 0)]) (st := []) (r2 := (-9999001)) (u2 := 57) h hE hX lk_RL_248 (kb_31 hst G S nn off (nI 0) (c0 := 1) (sc1 hnn (by decide)) (by decide)) rfl rfl rfl (by decide) rfl (Nat.le_of_ble_eq_true rfl) (by decide) dL_refuses_840 ?_
                          refine vl_ldc (pc := 843) (v := (-9999001)) h mw_15_3 dL_refuses_843 ?_
                          refine vl_icmp_ne_f (pc := 845) (tgt := 908) h rfl (by decide) dL_refuses_845 ?_
                          refine vl_aload_n (pc := 848) h 6 rfl rfl dL_refuses_848 ?_
                          refine vl_bipush (pc := 849) (v := nI 32) h (by decide) dL_refuses_849 ?_
                          refine vl_iconst (pc := 851) (v := nI 2) h (by decide) dL_refuses_851 ?_
                          refine vl_iload_n (pc := 852) h 7 rfl rfl dL_refuses_852 ?_
                          refine vl_bipush (pc := 853) (v := nI 50) h (by decide) dL_refuses_853 ?_
                          refine vl_irem (pc := 855) (v := nI (n % 50)) h (by decide) (pk_rem (by omega) (by omega) (by omega)) dL_refuses_855 ?_
                          refine vl_iadd (pc := 856) (v := nI (2 + (n % 50))) h (nI_add _ _) dL_refuses_856 ?_
                          refine vl_iconst (pc := 857) (v := nI 0) h (by decide) dL_refuses_857 ?_
                          refine vl_iconst (pc := 858) (v := nI 0) h (by decide) dL_refuses_858 ?_
                          refine wS1 (pc := 859) (As := [.ref (G.2.1 + 0), .int (nI 32), .int (nI (2 + (n % 50))), .int (nI 0), .int (nI 0)]) (st := []) (r2 := (-9999001)) (u2 := 58) h hE hX lk_RL_248 (kb_32 hst G S (nI (2 + (n % 50))) (nI 0) (nI 0) (c0 := 1) (cB_f (in_f (Or.inr (by omega)) (by omega) (by omega) (by omega))) (by decide)) rfl rfl rfl (by decide) rfl (Nat.le_of_ble_eq_true rfl) (by decide) dL_refuses_859 ?_
                          refine vl_ldc (pc := 862) (v := (-9999001)) h mw_15_3 dL_refuses_862 ?_
                          refine vl_icmp_ne_f (pc := 864) (tgt := 908) h rfl (by decide) dL_refuses_864 ?_
                          refine vl_aload_n (pc := 867) h 6 rfl rfl dL_refuses_867 ?_
                          refine vl_bipush (pc := 868) (v := nI 33) h (by decide) dL_refuses_868 ?_
                          refine vl_iconst (pc := 870) (v := (-1)) h (by decide) dL_refuses_870 ?_
                          refine vl_iload_n (pc := 871) h 7 rfl rfl dL_refuses_871 ?_
                          refine vl_bipush (pc := 872) (v := nI 9) h (by decide) dL_refuses_872 ?_
                          refine vl_irem (pc := 874) (v := nI (n % 9)) h (by decide) (pk_rem (by omega) (by omega) (by omega)) dL_refuses_874 ?_
                          refine vl_isub (pc := 875) (v := (-1) - (nI (n % 9))) h rfl dL_refuses_875 ?_
                          refine vl_iconst (pc := 876) (v := nI 0) h (by decide) dL_refuses_876 ?_
                          refine vl_iconst (pc := 877) (v := nI 0) h (by decide) dL_refuses_877 ?_
                          refine wS1 (pc := 878) (As := [.ref (G.2.1 + 0), .int (nI 33), .int ((-1) - (nI (n % 9))), .int (nI 0), .int (nI 0)]) (st := []) (r2 := (-9999001)) (u2 := 60) h hE hX lk_RL_248 (kb_33 hst G S ((-1) - (nI (n % 9))) (nI 0) (nI 0) (c0 := 1) (sc1 (in_n (neg_n (by omega)) (by omega)) (by decide)) (by decide)) rfl rfl rfl (by decide) rfl (Nat.le_of_ble_eq_true rfl) (by decide) dL_refuses_878 ?_
                          refine vl_ldc (pc := 881) (v := (-9999001)) h mw_15_3 dL_refuses_881 ?_
                          refine vl_icmp_ne_f (pc := 883) (tgt := 908) h rfl (by decide) dL_refuses_883 ?_
                          refine vl_aload_n (pc := 886) h 6 rfl rfl dL_refuses_886 ?_
                          refine vl_iload_n (pc := 887) h 7 rfl rfl dL_refuses_887 ?_
                          refine vl_i2l (pc := 888) (v := (nI n).toInt64) h rfl dL_refuses_888 ?_
                          refine vl_bipush (pc := 889) (v := nI 61) h (by decide) dL_refuses_889 ?_
                          refine vl_iload_n (pc := 891) h 7 rfl rfl dL_refuses_891 ?_
                          refine vl_bipush (pc := 892) (v := nI 9) h (by decide) dL_refuses_892 ?_
                          refine vl_irem (pc := 894) (v := nI (n % 9)) h (by decide) (pk_rem (by omega) (by omega) (by omega)) dL_refuses_894 ?_
                          refine vl_iadd (pc := 895) (v := nI (61 + (n % 9))) h (nI_add _ _) dL_refuses_895 ?_
                          refine wW1 (pc := 896) (As := [.ref (G.2.1 + 0), .long ((nI n).toInt64), .int (nI (61 + (n % 9)))]) (st := []) (r2 := (-9999002)) (u2 := 61) h hE hX lkw_256 (kb_doSimulate hst G S ((nI n).toInt64) (nI (61 + (n % 9))) (c0 := 2) (cB_f (in_f (Or.inr (by omega)) (by omega) (by omega) (by omega))) (by decide)) rfl rfl rfl (by decide) rfl (Nat.le_of_ble_eq_true rfl) (by decide) dL_refuses_896 ?_
                          refine vl_ldc (pc := 899) (v := (-9999002)) h mw_4_3 dL_refuses_899 ?_
                          refine vl_icmp_ne_f (pc := 901) (tgt := 908) h rfl (by decide) dL_refuses_901 ?_
                          refine vl_iconst (pc := 904) (v := nI 1) h (by decide) dL_refuses_904 ?_
                          refine vl_goto (pc := 905) (tgt := 909) h (by decide) dL_refuses_905 ?_
                          refine vl_istore (pc := 909) (lo2 := [(7, .int (nI 1)), (6, .int off), (5, .int nn), (4, .int no), (3, .int (nI (nRd S))), (2, .int (nI (nLi S))), (0, .ref (G.2.1 + 0)), (1, .int (nI n))]) h (by decide) rfl dL_refuses_909 ?_
                          refine vl_iload_n (pc := 911) h 4 rfl rfl dL_refuses_911 ?_
                          have k1008 : VP x (bA G) 9 81 Q (W1 G S) 1008 [(7, .int (nI 1)), (6, .int off), (5, .int nn), (4, .int no), (3, .int (nI (nRd S))), (2, .int (nI (nLi S))), (0, .ref (G.2.1 + 0)), (1, .int (nI n))] [] := by
                            refine vl_iload (pc := 1008) h 0 rfl dL_refuses_1008 ?_
                            refine vl_if_eq_f (pc := 1010) (tgt := 1103) h (by decide) (by decide) dL_refuses_1010 ?_
                            refine vl_iload_n (pc := 1013) h 5 rfl rfl dL_refuses_1013 ?_
                            refine vl_bipush (pc := 1014) (v := nI 12) h (by decide) dL_refuses_1014 ?_
                            have k1059 : VP x (bA G) 9 91 Q (W1 G S) 1059 [(7, .int (nI 1)), (6, .int off), (5, .int nn), (4, .int no), (3, .int (nI (nRd S))), (2, .int (nI (nLi S))), (0, .ref (G.2.1 + 0)), (1, .int (nI n))] [] := by
                              refine vl_iload_n (pc := 1059) h 4 rfl rfl dL_refuses_1059 ?_
                              refine vl_iconst (pc := 1060) (v := nI 4) h (by decide) dL_refuses_1060 ?_
                              have k1078 : VP x (bA G) 9 101 Q (W1 G S) 1078 [(7, .int (nI 1)), (6, .int off), (5, .int nn), (4, .int no), (3, .int (nI (nRd S))), (2, .int (nI (nLi S))), (0, .ref (G.2.1 + 0)), (1, .int (nI n))] [] := by
                                refine vl_aload_n (pc := 1078) h 6 rfl rfl dL_refuses_1078 ?_
                                refine wV1 (pc := 1079) (As := []) (st := []) (r2 := nI (whyN (sA S))) (u2 := 101) h hE lk_RL_260 (kv_whyNoDrop (S := S)) rfl rfl rfl (by decide) rfl (Nat.le_of_ble_eq_true rfl) (by decide) dL_refuses_1079 ?_
                                refine vl_if_eq (pc := 1082) (tgt := 1099) h (by decide) dL_refuses_1082 (fun c1082 => ?_) (fun c1082 => ?_)
                                · skip
                                  refine vl_iconst (pc := 1099) (v := nI 1) h (by decide) dL_refuses_1099 ?_
                                  refine vl_goto (pc := 1100) (tgt := 1104) h (by decide) dL_refuses_1100 ?_
                                  exact vl_wd (by decide) (hret 1104 _ dL_refuses_1104)
                                · skip
                                  have c1082 : ¬ whyN (sA S) = 0 := fun q => c1082 (by rw [q]; rfl)
                                  refine vl_aload_n (pc := 1085) h 6 rfl rfl dL_refuses_1085 ?_
                                  refine vl_bipush (pc := 1086) (v := nI 10) h (by decide) dL_refuses_1086 ?_
                                  refine vl_iconst (pc := 1088) (v := nI 0) h (by decide) dL_refuses_1088 ?_
                                  refine vl_iconst (pc := 1089) (v := nI 0) h (by decide) dL_refuses_1089 ?_
                                  refine vl_iconst (pc := 1090) (v := nI 0) h (by decide) dL_refuses_1090 ?_
                                  refine wS1 (pc := 1091) (As := [.ref (G.2.1 + 0), .int (nI 10), .int (nI 0), .int (nI 0), .int (nI 0)]) (st := []) (r2 := (-9999003)) (u2 := 102) h hE hX lk_RL_248 (kb_10 hst G S (nI 0) (nI 0) (nI 0) (c0 := 3) (by show fst3 true true (decide (whyN _ = 0)) = _; rw [decide_eq_false c1082]; rfl) (by decide)) rfl rfl rfl (by decide) rfl (Nat.le_of_ble_eq_true rfl) (by decide) dL_refuses_1091 ?_
                                  refine vl_ldc (pc := 1094) (v := (-9999003)) h mw_4_4 dL_refuses_1094 ?_
                                  refine vl_icmp_ne_f (pc := 1096) (tgt := 1103) h rfl (by decide) dL_refuses_1096 ?_
                                  refine vl_iconst (pc := 1099) (v := nI 1) h (by decide) dL_refuses_1099 ?_
                                  refine vl_goto (pc := 1100) (tgt := 1104) h (by decide) dL_refuses_1100 ?_
                                  exact vl_wd (by decide) (hret 1104 _ dL_refuses_1104)
                              refine vl_icmp_lt (pc := 1061) (tgt := 1078) h (by decide) dL_refuses_1061 (fun c1061 => ?_) (fun c1061 => ?_)
                              · skip
                                exact vl_wd (by decide) k1078
                              · skip
                                have hrr : roomR (sA S) = false := decide_eq_false (fun q => c1061 ((nI_ltI (by omega) (by omega)).mpr q))
                                refine vl_aload_n (pc := 1064) h 6 rfl rfl dL_refuses_1064 ?_
                                refine vl_bipush (pc := 1065) (v := nI 11) h (by decide) dL_refuses_1065 ?_
                                refine vl_iconst (pc := 1067) (v := nI 0) h (by decide) dL_refuses_1067 ?_
                                refine vl_iconst (pc := 1068) (v := nI 0) h (by decide) dL_refuses_1068 ?_
                                refine vl_iconst (pc := 1069) (v := nI 0) h (by decide) dL_refuses_1069 ?_
                                refine wS1 (pc := 1070) (As := [.ref (G.2.1 + 0), .int (nI 11), .int (nI 0), .int (nI 0), .int (nI 0)]) (st := []) (r2 := (-9999003)) (u2 := 92) h hE hX lk_RL_248 (kb_11 hst G S (nI 0) (nI 0) (nI 0) (c0 := 3) (by show fst3 (liB _ _) _ (roomR _) = _; rw [li_t (A := sA S) (i := 0) (show 0 < (sA S).1 from h1) hN, hrr]; rfl) (by decide)) rfl rfl rfl (by decide) rfl (Nat.le_of_ble_eq_true rfl) (by decide) dL_refuses_1070 ?_
                                refine vl_ldc (pc := 1073) (v := (-9999003)) h mw_4_4 dL_refuses_1073 ?_
                                refine vl_icmp_ne_f (pc := 1075) (tgt := 1103) h rfl (by decide) dL_refuses_1075 ?_
                                exact vl_wd (by decide) k1078
                            refine vl_icmp_lt (pc := 1016) (tgt := 1059) h (by decide) dL_refuses_1016 (fun c1016 => ?_) (fun c1016 => ?_)
                            · skip
                              exact vl_wd (by decide) k1059
                            · skip
                              have hrl : roomL (sA S) = false := decide_eq_false (fun q => c1016 ((nI_ltI (by omega) (by omega)).mpr q))
                              refine vl_aload_n (pc := 1019) h 6 rfl rfl dL_refuses_1019 ?_
                              refine vl_iconst (pc := 1020) (v := nI 2) h (by decide) dL_refuses_1020 ?_
                              refine vl_iconst (pc := 1021) (v := nI 5) h (by decide) dL_refuses_1021 ?_
                              refine vl_iconst (pc := 1022) (v := nI 5) h (by decide) dL_refuses_1022 ?_
                              refine vl_iconst (pc := 1023) (v := nI 0) h (by decide) dL_refuses_1023 ?_
                              refine wS1 (pc := 1024) (As := [.ref (G.2.1 + 0), .int (nI 2), .int (nI 5), .int (nI 5), .int (nI 0)]) (st := []) (r2 := (-9999003)) (u2 := 82) h hE hX lk_RL_248 (kb_2 hst G S (nI 5) (nI 5) (nI 0) (c0 := 3) (o115_3 (in_t (by omega) (by omega) (by omega)) (in_t (by omega) (by omega) (by omega)) hrl) (by decide)) rfl rfl rfl (by decide) rfl (Nat.le_of_ble_eq_true rfl) (by decide) dL_refuses_1024 ?_
                              refine vl_ldc (pc := 1027) (v := (-9999003)) h mw_4_4 dL_refuses_1027 ?_
                              refine vl_icmp_ne_f (pc := 1029) (tgt := 1103) h rfl (by decide) dL_refuses_1029 ?_
                              refine vl_aload_n (pc := 1032) h 6 rfl rfl dL_refuses_1032 ?_
                              refine vl_bipush (pc := 1033) (v := nI 7) h (by decide) dL_refuses_1033 ?_
                              refine vl_iconst (pc := 1035) (v := nI 0) h (by decide) dL_refuses_1035 ?_
                              refine vl_iconst (pc := 1036) (v := nI 0) h (by decide) dL_refuses_1036 ?_
                              refine vl_iconst (pc := 1037) (v := nI 0) h (by decide) dL_refuses_1037 ?_
                              refine wS1 (pc := 1038) (As := [.ref (G.2.1 + 0), .int (nI 7), .int (nI 0), .int (nI 0), .int (nI 0)]) (st := []) (r2 := (-9999003)) (u2 := 83) h hE hX lk_RL_248 (kb_7 hst G S (nI 0) (nI 0) (nI 0) (c0 := 3) (by show fst3 (liB _ _) _ (roomL _) = _; rw [li_t (A := sA S) (i := 0) (show 0 < (sA S).1 from h1) hN, hrl]; rfl) (by decide)) rfl rfl rfl (by decide) rfl (Nat.le_of_ble_eq_true rfl) (by decide) dL_refuses_1038 ?_
                              refine vl_ldc (pc := 1041) (v := (-9999003)) h mw_4_4 dL_refuses_1041 ?_
                              refine vl_icmp_ne_f (pc := 1043) (tgt := 1103) h rfl (by decide) dL_refuses_1043 ?_
                              refine vl_aload_n (pc := 1046) h 6 rfl rfl dL_refuses_1046 ?_
                              refine vl_iconst (pc := 1047) (v := nI 4) h (by decide) dL_refuses_1047 ?_
                              refine vl_iconst (pc := 1048) (v := nI 0) h (by decide) dL_refuses_1048 ?_
                              refine vl_iconst (pc := 1049) (v := nI 0) h (by decide) dL_refuses_1049 ?_
                              refine vl_iconst (pc := 1050) (v := nI 0) h (by decide) dL_refuses_1050 ?_
                              refine wS1 (pc := 1051) (As := [.ref (G.2.1 + 0), .int (nI 4), .int (nI 0), .int (nI 0), .int (nI 0)]) (st := []) (r2 := (-9999003)) (u2 := 84) h hE hX lk_RL_248 (kb_4 hst G S (nI 0) (nI 0) (nI 0) (c0 := 3) (by show fst3 (liB _ _ && liB _ _) _ (roomL _) = _; rw [li_t (A := sA S) (i := 0) (show 0 < (sA S).1 from h1) hN, hrl]; rfl) (by decide)) rfl rfl rfl (by decide) rfl (Nat.le_of_ble_eq_true rfl) (by decide) dL_refuses_1051 ?_
                              refine vl_ldc (pc := 1054) (v := (-9999003)) h mw_4_4 dL_refuses_1054 ?_
                              refine vl_icmp_ne_f (pc := 1056) (tgt := 1103) h rfl (by decide) dL_refuses_1056 ?_
                              exact vl_wd (by decide) k1059
                          refine vl_if_le (pc := 912) (tgt := 1008) h (by decide) dL_refuses_912 (fun c912 => ?_) (fun c912 => ?_)
                          · skip
                            exact vl_wd (by decide) k1008
                          · skip
                            have hr0 : 0 < nRd S := by
                              rw [zI0, nI_leI (by omega) (by omega)] at c912
                              omega
                            refine vl_iload (pc := 915) h 0 rfl dL_refuses_915 ?_
                            refine vl_if_eq_f (pc := 917) (tgt := 1008) h (by decide) (by decide) dL_refuses_917 ?_
                            refine vl_iload_n (pc := 920) h 7 rfl rfl dL_refuses_920 ?_
                            refine vl_iload_n (pc := 921) h 4 rfl rfl dL_refuses_921 ?_
                            refine vl_irem (pc := 922) (v := nI (n % (nRd S))) h (nI_ne0 (by omega) (by omega)) (pk_rem (by omega) (by omega) (by omega)) dL_refuses_922 ?_
                            refine vl_istore (pc := 923) (lo2 := [(8, .int (nI (n % (nRd S)))), (7, .int (nI 1)), (6, .int off), (5, .int nn), (4, .int no), (3, .int (nI (nRd S))), (2, .int (nI (nLi S))), (0, .ref (G.2.1 + 0)), (1, .int (nI n))]) h (by decide) rfl dL_refuses_923 ?_
                            refine vl_aload_n (pc := 925) h 7 rfl rfl dL_refuses_925 ?_
                            refine vl_bipush (pc := 926) (v := nI 13) h (by decide) dL_refuses_926 ?_
                            refine vl_iload (pc := 928) h 0 rfl dL_refuses_928 ?_
                            refine vl_iload_n (pc := 930) h 8 rfl rfl dL_refuses_930 ?_
                            refine vl_iconst (pc := 931) (v := nI 2) h (by decide) dL_refuses_931 ?_
                            refine vl_irem (pc := 932) (v := nI (n % 2)) h (by decide) (pk_rem (by omega) (by omega) (by omega)) dL_refuses_932 ?_
                            have kj933 : ∀ vz : Int32, inB (nI 1) (nI 99) vz = false → VP x (bA G) 9 61 Q (W1 G S) 947 [(8, .int (nI (n % (nRd S)))), (7, .int (nI 1)), (6, .int off), (5, .int nn), (4, .int no), (3, .int (nI (nRd S))), (2, .int (nI (nLi S))), (0, .ref (G.2.1 + 0)), (1, .int (nI n))] [.int vz, .int (nI (n % (nRd S))), .int (nI 13), .ref (G.2.1 + 0)] := by
                              intro vz hvz
                              refine vl_iconst (pc := 947) (v := nI 0) h (by decide) dL_refuses_947 ?_
                              refine wS1 (pc := 948) (As := [.ref (G.2.1 + 0), .int (nI 13), .int (nI (n % (nRd S))), .int vz, .int (nI 0)]) (st := []) (r2 := (-9999002)) (u2 := 62) h hE hX lk_RL_248 (kb_13 hst G S (nI (n % (nRd S))) vz (nI 0) (c0 := 2) (by show fst3 (rdB _ _) _ _ = _; rw [rd_t (A := sA S) (i := n % nRd S) (by exact Nat.mod_lt n hr0) hR, hvz]; rfl) (by decide)) rfl rfl rfl (by decide) rfl (Nat.le_of_ble_eq_true rfl) (by decide) dL_refuses_948 ?_
                              refine vl_ldc (pc := 951) (v := (-9999002)) h mw_4_3 dL_refuses_951 ?_
                              refine vl_icmp_ne_f (pc := 953) (tgt := 1005) h rfl (by decide) dL_refuses_953 ?_
                              refine vl_aload_n (pc := 956) h 7 rfl rfl dL_refuses_956 ?_
                              refine vl_bipush (pc := 957) (v := nI 31) h (by decide) dL_refuses_957 ?_
                              refine vl_iload (pc := 959) h 0 rfl dL_refuses_959 ?_
                              refine vl_iload (pc := 961) h 2 rfl dL_refuses_961 ?_
                              refine vl_iconst (pc := 963) (v := nI 0) h (by decide) dL_refuses_963 ?_
                              refine wS1 (pc := 964) (As := [.ref (G.2.1 + 0), .int (nI 31), .int (nI (n % (nRd S))), .int off, .int (nI 0)]) (st := []) (r2 := (-9999002)) (u2 := 64) h hE hX lk_RL_248 (kb_31 hst G S (nI (n % (nRd S))) off (nI 0) (c0 := 2) (sc2 (rd_t (A := sA S) (i := n % nRd S) (by exact Nat.mod_lt n hr0) hR) hoff) (by decide)) rfl rfl rfl (by decide) rfl (Nat.le_of_ble_eq_true rfl) (by decide) dL_refuses_964 ?_
                              refine vl_ldc (pc := 967) (v := (-9999002)) h mw_4_3 dL_refuses_967 ?_
                              refine vl_icmp_ne_f (pc := 969) (tgt := 1005) h rfl (by decide) dL_refuses_969 ?_
                              refine vl_aload_n (pc := 972) h 7 rfl rfl dL_refuses_972 ?_
                              refine vl_bipush (pc := 973) (v := nI 26) h (by decide) dL_refuses_973 ?_
                              refine vl_iload (pc := 975) h 0 rfl dL_refuses_975 ?_
                              refine vl_iconst (pc := 977) (v := nI 0) h (by decide) dL_refuses_977 ?_
                              refine vl_iconst (pc := 978) (v := nI 0) h (by decide) dL_refuses_978 ?_
                              refine wS1 (pc := 979) (As := [.ref (G.2.1 + 0), .int (nI 26), .int (nI (n % (nRd S))), .int (nI 0), .int (nI 0)]) (st := []) (r2 := oI (nextO (sA S) (n % nRd S))) (u2 := 65) h hE hX lk_RL_248 (kc_26 hst G S (nI (n % (nRd S))) (nI 0) (nI 0) (cB_t (rd_t (A := sA S) (i := n % nRd S) (by exact Nat.mod_lt n hr0) hR))) (by show oI (nextO (sA S) (toN (nI (n % nRd S)))) = _; rw [toN_nI (by have := Nat.mod_lt n hr0; omega)]) rfl rfl (by decide) rfl (Nat.le_of_ble_eq_true rfl) (by decide) dL_refuses_979 ?_
                              refine vl_iconst (pc := 982) (v := (-1)) h (by decide) dL_refuses_982 ?_
                              rcases e9 : nextO (sA S) (n % nRd S) with _ | v9
                              · skip
                                refine vl_icmp_ne_f (pc := 983) (tgt := 1001) h rfl (by decide) dL_refuses_983 ?_
                                refine vl_aload_n (pc := 986) h 7 rfl rfl dL_refuses_986 ?_
                                refine vl_bipush (pc := 987) (v := nI 12) h (by decide) dL_refuses_987 ?_
                                refine vl_iload (pc := 989) h 0 rfl dL_refuses_989 ?_
                                refine vl_iconst (pc := 991) (v := nI 0) h (by decide) dL_refuses_991 ?_
                                refine vl_iconst (pc := 992) (v := nI 0) h (by decide) dL_refuses_992 ?_
                                refine wS1 (pc := 993) (As := [.ref (G.2.1 + 0), .int (nI 12), .int (nI (n % (nRd S))), .int (nI 0), .int (nI 0)]) (st := []) (r2 := (-9999003)) (u2 := 66) h hE hX lk_RL_248 (kb_12 hst G S (nI (n % (nRd S))) (nI 0) (nI 0) (c0 := 3) (by show fst3 (rdB _ _) _ (nextO _ _).isSome = _; rw [rd_t (A := sA S) (i := n % nRd S) (by exact Nat.mod_lt n hr0) hR, toN_nI (show n % nRd S < 2 ^ 31 by have := Nat.mod_lt n hr0; omega), e9]; rfl) (by decide)) rfl rfl rfl (by decide) rfl (Nat.le_of_ble_eq_true rfl) (by decide) dL_refuses_993 ?_
                                refine vl_ldc (pc := 996) (v := (-9999003)) h mw_4_4 dL_refuses_996 ?_
                                refine vl_icmp_ne_f (pc := 998) (tgt := 1005) h rfl (by decide) dL_refuses_998 ?_
                                refine vl_iconst (pc := 1001) (v := nI 1) h (by decide) dL_refuses_1001 ?_
                                refine vl_goto (pc := 1002) (tgt := 1006) h (by decide) dL_refuses_1002 ?_
                                refine vl_istore (pc := 1006) (lo2 := [(7, .int (nI 1)), (8, .int (nI (n % (nRd S)))), (6, .int off), (5, .int nn), (4, .int no), (3, .int (nI (nRd S))), (2, .int (nI (nLi S))), (0, .ref (G.2.1 + 0)), (1, .int (nI n))]) h (by decide) rfl dL_refuses_1006 ?_
                                refine vl_sub [0, 2, 3, 4, 5, 6, 7, 8] rfl ?_
                                exact vl_wd (by decide) k1008
                              · skip
                                refine vl_icmp_ne_t (pc := 983) (tgt := 1001) h (nI_neg (by have := (ath_spec e9).1; omega) (by decide)) (by decide) dL_refuses_983 ?_
                                refine vl_iconst (pc := 1001) (v := nI 1) h (by decide) dL_refuses_1001 ?_
                                refine vl_goto (pc := 1002) (tgt := 1006) h (by decide) dL_refuses_1002 ?_
                                refine vl_istore (pc := 1006) (lo2 := [(7, .int (nI 1)), (8, .int (nI (n % (nRd S)))), (6, .int off), (5, .int nn), (4, .int no), (3, .int (nI (nRd S))), (2, .int (nI (nLi S))), (0, .ref (G.2.1 + 0)), (1, .int (nI n))]) h (by decide) rfl dL_refuses_1006 ?_
                                refine vl_sub [0, 2, 3, 4, 5, 6, 7, 8] rfl ?_
                                exact vl_wd (by decide) k1008
                            refine vl_if_ne (pc := 933) (tgt := 940) h (by decide) dL_refuses_933 (fun c933 => ?_) (fun c933 => ?_)
                            · skip
                              refine vl_bipush (pc := 940) (v := nI 100) h (by decide) dL_refuses_940 ?_
                              refine vl_iload_n (pc := 942) h 8 rfl rfl dL_refuses_942 ?_
                              refine vl_bipush (pc := 943) (v := nI 9) h (by decide) dL_refuses_943 ?_
                              refine vl_irem (pc := 945) (v := nI (n % 9)) h (by decide) (pk_rem (by omega) (by omega) (by omega)) dL_refuses_945 ?_
                              refine vl_iadd (pc := 946) (v := nI (100 + (n % 9))) h (nI_add _ _) dL_refuses_946 ?_
                              exact kj933 _ (in_f (Or.inr (by omega)) (by omega) (by omega) (by omega))
                            · skip
                              refine vl_iconst (pc := 936) (v := nI 0) h (by decide) dL_refuses_936 ?_
                              refine vl_goto (pc := 937) (tgt := 947) h (by decide) dL_refuses_937 ?_
                              exact kj933 _ (in_f (Or.inl (by omega)) (by omega) (by omega) (by omega))
                        refine vl_if_ne (pc := 793) (tgt := 800) h (by decide) dL_refuses_793 (fun c793 => ?_) (fun c793 => ?_)
                        · skip
                          refine vl_sipush (pc := 800) (v := nI 201) h (by decide) dL_refuses_800 ?_
                          refine vl_iload_n (pc := 803) h 7 rfl rfl dL_refuses_803 ?_
                          refine vl_bipush (pc := 804) (v := nI 9) h (by decide) dL_refuses_804 ?_
                          refine vl_irem (pc := 806) (v := nI (n % 9)) h (by decide) (pk_rem (by omega) (by omega) (by omega)) dL_refuses_806 ?_
                          refine vl_iadd (pc := 807) (v := nI (201 + (n % 9))) h (nI_add _ _) dL_refuses_807 ?_
                          exact kj793 _ (in_f (Or.inr (by omega)) (by omega) (by omega) (by omega))
                        · skip
                          refine vl_iconst (pc := 796) (v := (-1)) h (by decide) dL_refuses_796 ?_
                          refine vl_goto (pc := 797) (tgt := 808) h (by decide) dL_refuses_797 ?_
                          exact kj793 _ (in_n (by decide) (by omega))
                      refine vl_if_ne (pc := 761) (tgt := 768) h (by decide) dL_refuses_761 (fun c761 => ?_) (fun c761 => ?_)
                      · skip
                        refine vl_sipush (pc := 768) (v := nI 201) h (by decide) dL_refuses_768 ?_
                        refine vl_iload_n (pc := 771) h 7 rfl rfl dL_refuses_771 ?_
                        refine vl_bipush (pc := 772) (v := nI 9) h (by decide) dL_refuses_772 ?_
                        refine vl_irem (pc := 774) (v := nI (n % 9)) h (by decide) (pk_rem (by omega) (by omega) (by omega)) dL_refuses_774 ?_
                        refine vl_iadd (pc := 775) (v := nI (201 + (n % 9))) h (nI_add _ _) dL_refuses_775 ?_
                        exact kj761 _ (in_f (Or.inr (by omega)) (by omega) (by omega) (by omega))
                      · skip
                        refine vl_iconst (pc := 764) (v := (-1)) h (by decide) dL_refuses_764 ?_
                        refine vl_goto (pc := 765) (tgt := 776) h (by decide) dL_refuses_765 ?_
                        exact kj761 _ (in_n (by decide) (by omega))
                    refine vl_if_ne (pc := 731) (tgt := 738) h (by decide) dL_refuses_731 (fun c731 => ?_) (fun c731 => ?_)
                    · skip
                      refine vl_ldc (pc := 738) (v := nI 100000) h mw_1_3 dL_refuses_738 ?_
                      refine vl_iload_n (pc := 740) h 7 rfl rfl dL_refuses_740 ?_
                      refine vl_bipush (pc := 741) (v := nI 9) h (by decide) dL_refuses_741 ?_
                      refine vl_irem (pc := 743) (v := nI (n % 9)) h (by decide) (pk_rem (by omega) (by omega) (by omega)) dL_refuses_743 ?_
                      refine vl_iadd (pc := 744) (v := nI (100000 + (n % 9))) h (nI_add _ _) dL_refuses_744 ?_
                      exact kj731 _ (in_f (Or.inr (by omega)) (by omega) (by omega) (by omega))
                    · skip
                      refine vl_iconst (pc := 734) (v := (-1)) h (by decide) dL_refuses_734 ?_
                      refine vl_goto (pc := 735) (tgt := 745) h (by decide) dL_refuses_735 ?_
                      exact kj731 _ (in_n (by decide) (by omega))
                  refine vl_if_ne (pc := 701) (tgt := 708) h (by decide) dL_refuses_701 (fun c701 => ?_) (fun c701 => ?_)
                  · skip
                    refine vl_ldc (pc := 708) (v := nI 100000) h mw_1_3 dL_refuses_708 ?_
                    refine vl_iload_n (pc := 710) h 7 rfl rfl dL_refuses_710 ?_
                    refine vl_bipush (pc := 711) (v := nI 9) h (by decide) dL_refuses_711 ?_
                    refine vl_irem (pc := 713) (v := nI (n % 9)) h (by decide) (pk_rem (by omega) (by omega) (by omega)) dL_refuses_713 ?_
                    refine vl_iadd (pc := 714) (v := nI (100000 + (n % 9))) h (nI_add _ _) dL_refuses_714 ?_
                    exact kj701 _ (in_f (Or.inr (by omega)) (by omega) (by omega) (by omega))
                  · skip
                    refine vl_iconst (pc := 704) (v := (-1)) h (by decide) dL_refuses_704 ?_
                    refine vl_goto (pc := 705) (tgt := 715) h (by decide) dL_refuses_705 ?_
                    exact kj701 _ (in_n (by decide) (by omega))
                refine vl_if_ne (pc := 325) (tgt := 332) h (by decide) dL_refuses_325 (fun c325 => ?_) (fun c325 => ?_)
                · skip
                  refine vl_bipush (pc := 332) (v := nI 10) h (by decide) dL_refuses_332 ?_
                  refine vl_iload_n (pc := 334) h 6 rfl rfl dL_refuses_334 ?_
                  refine vl_bipush (pc := 335) (v := nI 9) h (by decide) dL_refuses_335 ?_
                  refine vl_irem (pc := 337) (v := nI (n % 9)) h (by decide) (pk_rem (by omega) (by omega) (by omega)) dL_refuses_337 ?_
                  refine vl_iadd (pc := 338) (v := nI (10 + (n % 9))) h (nI_add _ _) dL_refuses_338 ?_
                  exact kj325 _ (in_f (Or.inr (by omega)) (by omega) (by omega) (by omega))
                · skip
                  refine vl_iconst (pc := 328) (v := nI 0) h (by decide) dL_refuses_328 ?_
                  refine vl_goto (pc := 329) (tgt := 339) h (by decide) dL_refuses_329 ?_
                  exact kj325 _ (in_f (Or.inl (by omega)) (by omega) (by omega) (by omega))
              refine vl_if_ne (pc := 209) (tgt := 216) h (by decide) dL_refuses_209 (fun c209 => ?_) (fun c209 => ?_)
              · skip
                refine vl_bipush (pc := 216) (v := nI 100) h (by decide) dL_refuses_216 ?_
                refine vl_iload_n (pc := 218) h 6 rfl rfl dL_refuses_218 ?_
                refine vl_bipush (pc := 219) (v := nI 9) h (by decide) dL_refuses_219 ?_
                refine vl_irem (pc := 221) (v := nI (n % 9)) h (by decide) (pk_rem (by omega) (by omega) (by omega)) dL_refuses_221 ?_
                refine vl_iadd (pc := 222) (v := nI (100 + (n % 9))) h (nI_add _ _) dL_refuses_222 ?_
                exact kj209 _ (in_f (Or.inr (by omega)) (by omega) (by omega) (by omega))
              · skip
                refine vl_iconst (pc := 212) (v := (-1)) h (by decide) dL_refuses_212 ?_
                refine vl_goto (pc := 213) (tgt := 223) h (by decide) dL_refuses_213 ?_
                exact kj209 _ (in_n (by decide) (by omega))
            refine vl_if_ne (pc := 179) (tgt := 186) h (by decide) dL_refuses_179 (fun c179 => ?_) (fun c179 => ?_)
            · skip
              refine vl_bipush (pc := 186) (v := nI 10) h (by decide) dL_refuses_186 ?_
              refine vl_iload_n (pc := 188) h 6 rfl rfl dL_refuses_188 ?_
              refine vl_bipush (pc := 189) (v := nI 9) h (by decide) dL_refuses_189 ?_
              refine vl_irem (pc := 191) (v := nI (n % 9)) h (by decide) (pk_rem (by omega) (by omega) (by omega)) dL_refuses_191 ?_
              refine vl_iadd (pc := 192) (v := nI (10 + (n % 9))) h (nI_add _ _) dL_refuses_192 ?_
              exact kj179 _ (in_f (Or.inr (by omega)) (by omega) (by omega) (by omega))
            · skip
              refine vl_iconst (pc := 182) (v := nI 0) h (by decide) dL_refuses_182 ?_
              refine vl_goto (pc := 183) (tgt := 193) h (by decide) dL_refuses_183 ?_
              exact kj179 _ (in_f (Or.inl (by omega)) (by omega) (by omega) (by omega))
          refine vl_if_ne (pc := 136) (tgt := 143) h (by decide) dL_refuses_136 (fun c136 => ?_) (fun c136 => ?_)
          · skip
            refine vl_bipush (pc := 143) (v := nI 100) h (by decide) dL_refuses_143 ?_
            refine vl_iload_n (pc := 145) h 6 rfl rfl dL_refuses_145 ?_
            refine vl_bipush (pc := 146) (v := nI 9) h (by decide) dL_refuses_146 ?_
            refine vl_irem (pc := 148) (v := nI (n % 9)) h (by decide) (pk_rem (by omega) (by omega) (by omega)) dL_refuses_148 ?_
            refine vl_iadd (pc := 149) (v := nI (100 + (n % 9))) h (nI_add _ _) dL_refuses_149 ?_
            exact kj136 _ (in_f (Or.inr (by omega)) (by omega) (by omega) (by omega))
          · skip
            refine vl_iconst (pc := 139) (v := nI 0) h (by decide) dL_refuses_139 ?_
            refine vl_goto (pc := 140) (tgt := 150) h (by decide) dL_refuses_140 ?_
            exact kj136 _ (in_f (Or.inl (by omega)) (by omega) (by omega) (by omega))
        refine vl_if_ne (pc := 86) (tgt := 98) h (by decide) dL_refuses_86 (fun c86 => ?_) (fun c86 => ?_)
        · skip
          refine vl_sipush (pc := 98) (v := nI 256) h (by decide) dL_refuses_98 ?_
          refine vl_iload_n (pc := 101) h 6 rfl rfl dL_refuses_101 ?_
          refine vl_bipush (pc := 102) (v := nI 9) h (by decide) dL_refuses_102 ?_
          refine vl_irem (pc := 104) (v := nI (n % 9)) h (by decide) (pk_rem (by omega) (by omega) (by omega)) dL_refuses_104 ?_
          refine vl_iadd (pc := 105) (v := nI (256 + (n % 9))) h (nI_add _ _) dL_refuses_105 ?_
          exact kj86 _ (in_f (Or.inr (by omega)) (by omega) (by omega) (by omega))
        · skip
          refine vl_iconst (pc := 89) (v := (-1)) h (by decide) dL_refuses_89 ?_
          refine vl_iload_n (pc := 90) h 6 rfl rfl dL_refuses_90 ?_
          refine vl_bipush (pc := 91) (v := nI 9) h (by decide) dL_refuses_91 ?_
          refine vl_irem (pc := 93) (v := nI (n % 9)) h (by decide) (pk_rem (by omega) (by omega) (by omega)) dL_refuses_93 ?_
          refine vl_isub (pc := 94) (v := (-1) - (nI (n % 9))) h rfl dL_refuses_94 ?_
          refine vl_goto (pc := 95) (tgt := 106) h (by decide) dL_refuses_95 ?_
          exact kj86 _ (in_n (neg_n (by omega)) (by omega))
      refine vl_if_ne (pc := 59) (tgt := 71) h (by decide) dL_refuses_59 (fun c59 => ?_) (fun c59 => ?_)
      · skip
        refine vl_sipush (pc := 71) (v := nI 1000) h (by decide) dL_refuses_71 ?_
        refine vl_iload_n (pc := 74) h 5 rfl rfl dL_refuses_74 ?_
        refine vl_bipush (pc := 75) (v := nI 99) h (by decide) dL_refuses_75 ?_
        refine vl_irem (pc := 77) (v := nI (n % 99)) h (by decide) (pk_rem (by omega) (by omega) (by omega)) dL_refuses_77 ?_
        refine vl_iadd (pc := 78) (v := nI (1000 + (n % 99))) h (nI_add _ _) dL_refuses_78 ?_
        exact kj59 _ (in_f (Or.inr (by omega)) (by omega) (by omega) (by omega))
      · skip
        refine vl_iconst (pc := 62) (v := (-1)) h (by decide) dL_refuses_62 ?_
        refine vl_iload_n (pc := 63) h 5 rfl rfl dL_refuses_63 ?_
        refine vl_bipush (pc := 64) (v := nI 99) h (by decide) dL_refuses_64 ?_
        refine vl_irem (pc := 66) (v := nI (n % 99)) h (by decide) (pk_rem (by omega) (by omega) (by omega)) dL_refuses_66 ?_
        refine vl_isub (pc := 67) (v := (-1) - (nI (n % 99))) h rfl dL_refuses_67 ?_
        refine vl_goto (pc := 68) (tgt := 79) h (by decide) dL_refuses_68 ?_
        exact kj59 _ (in_n (neg_n (by omega)) (by omega))
    refine vl_if_ne (pc := 36) (tgt := 48) h (by decide) dL_refuses_36 (fun c36 => ?_) (fun c36 => ?_)
    · skip
      refine vl_iload_n (pc := 48) h 1 rfl rfl dL_refuses_48 ?_
      refine vl_iload_n (pc := 49) h 4 rfl rfl dL_refuses_49 ?_
      refine vl_bipush (pc := 50) (v := nI 99) h (by decide) dL_refuses_50 ?_
      refine vl_irem (pc := 52) (v := nI (n % 99)) h (by decide) (pk_rem (by omega) (by omega) (by omega)) dL_refuses_52 ?_
      refine vl_iadd (pc := 53) (v := nI ((nRd S) + (n % 99))) h (nI_add _ _) dL_refuses_53 ?_
      exact kj36 _ (rd_f (A := sA S) (Nat.le_add_right _ _) (by omega) hR)
    · skip
      refine vl_iconst (pc := 39) (v := (-1)) h (by decide) dL_refuses_39 ?_
      refine vl_iload_n (pc := 40) h 4 rfl rfl dL_refuses_40 ?_
      refine vl_bipush (pc := 41) (v := nI 99) h (by decide) dL_refuses_41 ?_
      refine vl_irem (pc := 43) (v := nI (n % 99)) h (by decide) (pk_rem (by omega) (by omega) (by omega)) dL_refuses_43 ?_
      refine vl_isub (pc := 44) (v := (-1) - (nI (n % 99))) h rfl dL_refuses_44 ?_
      refine vl_goto (pc := 45) (tgt := 54) h (by decide) dL_refuses_45 ?_
      exact kj36 _ (rd_n (neg_n (by omega)))
  refine vl_if_ne (pc := 13) (tgt := 25) h (by decide) dL_refuses_13 (fun c13 => ?_) (fun c13 => ?_)
  · skip
    refine vl_iload_n (pc := 25) h 1 rfl rfl dL_refuses_25 ?_
    refine vl_iload_n (pc := 26) h 3 rfl rfl dL_refuses_26 ?_
    refine vl_bipush (pc := 27) (v := nI 99) h (by decide) dL_refuses_27 ?_
    refine vl_irem (pc := 29) (v := nI (n % 99)) h (by decide) (pk_rem (by omega) (by omega) (by omega)) dL_refuses_29 ?_
    refine vl_iadd (pc := 30) (v := nI ((nLi S) + (n % 99))) h (nI_add _ _) dL_refuses_30 ?_
    exact kj13 _ (li_f (A := sA S) (Nat.le_add_right _ _) (by omega) hN)
  · skip
    refine vl_iconst (pc := 16) (v := (-1)) h (by decide) dL_refuses_16 ?_
    refine vl_iload_n (pc := 17) h 3 rfl rfl dL_refuses_17 ?_
    refine vl_bipush (pc := 18) (v := nI 99) h (by decide) dL_refuses_18 ?_
    refine vl_irem (pc := 20) (v := nI (n % 99)) h (by decide) (pk_rem (by omega) (by omega) (by omega)) dL_refuses_20 ?_
    refine vl_isub (pc := 21) (v := (-1) - (nI (n % 99))) h rfl dL_refuses_21 ?_
    refine vl_goto (pc := 22) (tgt := 31) h (by decide) dL_refuses_22 ?_
    exact kj13 _ (li_n (neg_n (by omega)))

