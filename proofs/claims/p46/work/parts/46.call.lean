/-! THE LAW'S 'call', kind by kind -/
set_option maxRecDepth 100000 in
set_option maxHeartbeats 800000 in
theorem k_0 (l : Launch) (hst : l.stackTraces = false) (G : Gl) (S : Cs) (u1 u2 u3 : Int32) : KL l yL_call cL_call 5 .int ({ frames := 9, cells := 2, slots := 12, locals := 155 } : Room) G [.ref (G.2.1 + 0), .int (nI 0), .int u1, .int u2, .int u3] S (xq (seqC (cB (inB (nI 0) (nI 255) u1) 2) (cB (decide (S.1 < 120)) 3)) (nI (S.1 + 1))) (sq (seqC (cB (inB (nI 0) (nI 255) u1) 2) (cB (decide (S.1 < 120)) 3)) S (tadd S u1)) := by
  refine KL_of rfl (by decide +kernel) (lo := [(0, .ref (G.2.1 + 0)), (1, .int (nI 0)), (2, .int u1), (3, .int u2), (4, .int u3)]) rfl (Nat.le_of_ble_eq_true rfl) rfl rfl ?_
  intro x Q hxl h hE hX hret
  subst hxl
  refine vl_iload_n (pc := 0) h 1 rfl rfl dL_call_0 ?_
  refine vl_tabIn (pc := 1) (off := 147) (tgt := 148) h (by decide) (by decide) (by decide) (by decide) dL_call_1 ?_
  refine vl_aload_n (pc := 148) h 0 rfl rfl dL_call_148 ?_
  refine vl_iload_n (pc := 149) h 2 rfl rfl dL_call_149 ?_
  refine vl_kW (pc := 150) (As := [.ref (G.2.1 + 0), .int u1]) (st := []) (u2 := 2) h hE hX (fun _ z => z) W1.own (fun _ z => z) lkw_132 (w_tryAppend x.2.1 hst G S u1) rfl rfl rfl (by decide) rfl (by decide) (by decide) dL_call_150 ?_
  exact hret 153 _ dL_call_153

set_option maxRecDepth 100000 in
set_option maxHeartbeats 800000 in
theorem k_2 (l : Launch) (hst : l.stackTraces = false) (G : Gl) (S : Cs) (u1 u2 u3 : Int32) : KL l yL_call cL_call 5 .int ({ frames := 10, cells := 1, slots := 6, locals := 192 } : Room) G [.ref (G.2.1 + 0), .int (nI 2), .int u1, .int u2, .int u3] S (xq (ob (sA S) 115 u1 u2 (nI 0)) ((co (sA S) 115 u1 u2 (nI 0)).1)) (sq (ob (sA S) 115 u1 u2 (nI 0)) S (pu S (co (sA S) 115 u1 u2 (nI 0)).2)) := by
  refine KL_of rfl (by decide +kernel) (lo := [(0, .ref (G.2.1 + 0)), (1, .int (nI 2)), (2, .int u1), (3, .int u2), (4, .int u3)]) rfl (Nat.le_of_ble_eq_true rfl) rfl rfl ?_
  intro x Q hxl h hE hX hret
  subst hxl
  refine vl_iload_n (pc := 0) h 1 rfl rfl dL_call_0 ?_
  refine vl_tabIn (pc := 1) (off := 158) (tgt := 159) h (by decide) (by decide) (by decide) (by decide) dL_call_1 ?_
  refine vl_aload_n (pc := 159) h 0 rfl rfl dL_call_159 ?_
  refine vl_iload_n (pc := 160) h 2 rfl rfl dL_call_160 ?_
  refine vl_iload_n (pc := 161) h 3 rfl rfl dL_call_161 ?_
  refine vl_kW (pc := 162) (As := [.ref (G.2.1 + 0), .int u1, .int u2]) (st := []) (u2 := 1) h hE hX (fun _ z => z) W1.own (fun _ z => z) lkw_142 (w_trySteps x.2.1 hst G S u1 u2) rfl rfl rfl (by decide) rfl (by decide) (by decide) dL_call_162 ?_
  exact hret 165 _ dL_call_165

set_option maxRecDepth 100000 in
set_option maxHeartbeats 800000 in
theorem k_3 (l : Launch) (hst : l.stackTraces = false) (G : Gl) (S : Cs) (u1 u2 u3 : Int32) : KL l yL_call cL_call 5 .int ({ frames := 10, cells := 1, slots := 6, locals := 194 } : Room) G [.ref (G.2.1 + 0), .int (nI 3), .int u1, .int u2, .int u3] S (xq (ob (sA S) 120 u1 u2 u3) ((co (sA S) 120 u1 u2 u3).1)) (sq (ob (sA S) 120 u1 u2 u3) S (pu S (co (sA S) 120 u1 u2 u3).2)) := by
  refine KL_of rfl (by decide +kernel) (lo := [(0, .ref (G.2.1 + 0)), (1, .int (nI 3)), (2, .int u1), (3, .int u2), (4, .int u3)]) rfl (Nat.le_of_ble_eq_true rfl) rfl rfl ?_
  intro x Q hxl h hE hX hret
  subst hxl
  refine vl_iload_n (pc := 0) h 1 rfl rfl dL_call_0 ?_
  refine vl_tabIn (pc := 1) (off := 165) (tgt := 166) h (by decide) (by decide) (by decide) (by decide) dL_call_1 ?_
  refine vl_aload_n (pc := 166) h 0 rfl rfl dL_call_166 ?_
  refine vl_iload_n (pc := 167) h 2 rfl rfl dL_call_167 ?_
  refine vl_iload_n (pc := 168) h 3 rfl rfl dL_call_168 ?_
  refine vl_iload (pc := 169) h 4 rfl dL_call_169 ?_
  refine vl_kW (pc := 171) (As := [.ref (G.2.1 + 0), .int u1, .int u2, .int u3]) (st := []) (u2 := 1) h hE hX (fun _ z => z) W1.own (fun _ z => z) lkw_146 (w_tryScaled x.2.1 hst G S u1 u2 u3) rfl rfl rfl (by decide) rfl (by decide) (by decide) dL_call_171 ?_
  exact hret 174 _ dL_call_174

set_option maxRecDepth 100000 in
set_option maxHeartbeats 800000 in
theorem k_4 (l : Launch) (hst : l.stackTraces = false) (G : Gl) (S : Cs) (u1 u2 u3 : Int32) : KL l yL_call cL_call 5 .int ({ frames := 10, cells := 1, slots := 6, locals := 192 } : Room) G [.ref (G.2.1 + 0), .int (nI 4), .int u1, .int u2, .int u3] S (xq (ob (sA S) 106 u1 u2 (nI 0)) ((co (sA S) 106 u1 u2 (nI 0)).1)) (sq (ob (sA S) 106 u1 u2 (nI 0)) S (pu S (co (sA S) 106 u1 u2 (nI 0)).2)) := by
  refine KL_of rfl (by decide +kernel) (lo := [(0, .ref (G.2.1 + 0)), (1, .int (nI 4)), (2, .int u1), (3, .int u2), (4, .int u3)]) rfl (Nat.le_of_ble_eq_true rfl) rfl rfl ?_
  intro x Q hxl h hE hX hret
  subst hxl
  refine vl_iload_n (pc := 0) h 1 rfl rfl dL_call_0 ?_
  refine vl_tabIn (pc := 1) (off := 174) (tgt := 175) h (by decide) (by decide) (by decide) (by decide) dL_call_1 ?_
  refine vl_aload_n (pc := 175) h 0 rfl rfl dL_call_175 ?_
  refine vl_iload_n (pc := 176) h 2 rfl rfl dL_call_176 ?_
  refine vl_iload_n (pc := 177) h 3 rfl rfl dL_call_177 ?_
  refine vl_kW (pc := 178) (As := [.ref (G.2.1 + 0), .int u1, .int u2]) (st := []) (u2 := 1) h hE hX (fun _ z => z) W1.own (fun _ z => z) lkw_150 (w_tryJoined x.2.1 hst G S u1 u2) rfl rfl rfl (by decide) rfl (by decide) (by decide) dL_call_178 ?_
  exact hret 181 _ dL_call_181

set_option maxRecDepth 100000 in
set_option maxHeartbeats 800000 in
theorem k_5 (l : Launch) (hst : l.stackTraces = false) (G : Gl) (S : Cs) (u1 u2 u3 : Int32) : KL l yL_call cL_call 5 .int ({ frames := 10, cells := 1, slots := 6, locals := 192 } : Room) G [.ref (G.2.1 + 0), .int (nI 5), .int u1, .int u2, .int u3] S (xq (ob (sA S) 104 u1 u2 (nI 0)) ((co (sA S) 104 u1 u2 (nI 0)).1)) (sq (ob (sA S) 104 u1 u2 (nI 0)) S (pu S (co (sA S) 104 u1 u2 (nI 0)).2)) := by
  refine KL_of rfl (by decide +kernel) (lo := [(0, .ref (G.2.1 + 0)), (1, .int (nI 5)), (2, .int u1), (3, .int u2), (4, .int u3)]) rfl (Nat.le_of_ble_eq_true rfl) rfl rfl ?_
  intro x Q hxl h hE hX hret
  subst hxl
  refine vl_iload_n (pc := 0) h 1 rfl rfl dL_call_0 ?_
  refine vl_tabIn (pc := 1) (off := 181) (tgt := 182) h (by decide) (by decide) (by decide) (by decide) dL_call_1 ?_
  refine vl_aload_n (pc := 182) h 0 rfl rfl dL_call_182 ?_
  refine vl_iload_n (pc := 183) h 2 rfl rfl dL_call_183 ?_
  refine vl_iload_n (pc := 184) h 3 rfl rfl dL_call_184 ?_
  refine vl_kW (pc := 185) (As := [.ref (G.2.1 + 0), .int u1, .int u2]) (st := []) (u2 := 1) h hE hX (fun _ z => z) W1.own (fun _ z => z) lkw_153 (w_tryShared x.2.1 hst G S u1 u2) rfl rfl rfl (by decide) rfl (by decide) (by decide) dL_call_185 ?_
  exact hret 188 _ dL_call_188

set_option maxRecDepth 100000 in
set_option maxHeartbeats 800000 in
theorem k_6 (l : Launch) (hst : l.stackTraces = false) (G : Gl) (S : Cs) (u1 u2 u3 : Int32) : KL l yL_call cL_call 5 .int ({ frames := 10, cells := 1, slots := 6, locals := 192 } : Room) G [.ref (G.2.1 + 0), .int (nI 6), .int u1, .int u2, .int u3] S (xq (ob (sA S) 119 u1 u2 (nI 0)) ((co (sA S) 119 u1 u2 (nI 0)).1)) (sq (ob (sA S) 119 u1 u2 (nI 0)) S (pu S (co (sA S) 119 u1 u2 (nI 0)).2)) := by
  refine KL_of rfl (by decide +kernel) (lo := [(0, .ref (G.2.1 + 0)), (1, .int (nI 6)), (2, .int u1), (3, .int u2), (4, .int u3)]) rfl (Nat.le_of_ble_eq_true rfl) rfl rfl ?_
  intro x Q hxl h hE hX hret
  subst hxl
  refine vl_iload_n (pc := 0) h 1 rfl rfl dL_call_0 ?_
  refine vl_tabIn (pc := 1) (off := 188) (tgt := 189) h (by decide) (by decide) (by decide) (by decide) dL_call_1 ?_
  refine vl_aload_n (pc := 189) h 0 rfl rfl dL_call_189 ?_
  refine vl_iload_n (pc := 190) h 2 rfl rfl dL_call_190 ?_
  refine vl_iload_n (pc := 191) h 3 rfl rfl dL_call_191 ?_
  refine vl_kW (pc := 192) (As := [.ref (G.2.1 + 0), .int u1, .int u2]) (st := []) (u2 := 1) h hE hX (fun _ z => z) W1.own (fun _ z => z) lkw_156 (w_tryWithout x.2.1 hst G S u1 u2) rfl rfl rfl (by decide) rfl (by decide) (by decide) dL_call_192 ?_
  exact hret 195 _ dL_call_195

set_option maxRecDepth 100000 in
set_option maxHeartbeats 800000 in
theorem k_7 (l : Launch) (hst : l.stackTraces = false) (G : Gl) (S : Cs) (u1 u2 u3 : Int32) : KL l yL_call cL_call 5 .int ({ frames := 10, cells := 1, slots := 6, locals := 190 } : Room) G [.ref (G.2.1 + 0), .int (nI 7), .int u1, .int u2, .int u3] S (xq (ob (sA S) 118 u1 (nI 0) (nI 0)) ((co (sA S) 118 u1 (nI 0) (nI 0)).1)) (sq (ob (sA S) 118 u1 (nI 0) (nI 0)) S (pu S (co (sA S) 118 u1 (nI 0) (nI 0)).2)) := by
  refine KL_of rfl (by decide +kernel) (lo := [(0, .ref (G.2.1 + 0)), (1, .int (nI 7)), (2, .int u1), (3, .int u2), (4, .int u3)]) rfl (Nat.le_of_ble_eq_true rfl) rfl rfl ?_
  intro x Q hxl h hE hX hret
  subst hxl
  refine vl_iload_n (pc := 0) h 1 rfl rfl dL_call_0 ?_
  refine vl_tabIn (pc := 1) (off := 195) (tgt := 196) h (by decide) (by decide) (by decide) (by decide) dL_call_1 ?_
  refine vl_aload_n (pc := 196) h 0 rfl rfl dL_call_196 ?_
  refine vl_iload_n (pc := 197) h 2 rfl rfl dL_call_197 ?_
  refine vl_kW (pc := 198) (As := [.ref (G.2.1 + 0), .int u1]) (st := []) (u2 := 1) h hE hX (fun _ z => z) W1.own (fun _ z => z) lkw_159 (w_trySieved x.2.1 hst G S u1) rfl rfl rfl (by decide) rfl (by decide) (by decide) dL_call_198 ?_
  exact hret 201 _ dL_call_201

set_option maxRecDepth 100000 in
set_option maxHeartbeats 800000 in
theorem k_8 (l : Launch) (hst : l.stackTraces = false) (G : Gl) (S : Cs) (u1 u2 u3 : Int32) : KL l yL_call cL_call 5 .int ({ frames := 10, cells := 1, slots := 6, locals := 192 } : Room) G [.ref (G.2.1 + 0), .int (nI 8), .int u1, .int u2, .int u3] S (xq (ob (sA S) 101 u1 u2 (nI 0)) ((co (sA S) 101 u1 u2 (nI 0)).1)) (sq (ob (sA S) 101 u1 u2 (nI 0)) S (pu S (co (sA S) 101 u1 u2 (nI 0)).2)) := by
  refine KL_of rfl (by decide +kernel) (lo := [(0, .ref (G.2.1 + 0)), (1, .int (nI 8)), (2, .int u1), (3, .int u2), (4, .int u3)]) rfl (Nat.le_of_ble_eq_true rfl) rfl rfl ?_
  intro x Q hxl h hE hX hret
  subst hxl
  refine vl_iload_n (pc := 0) h 1 rfl rfl dL_call_0 ?_
  refine vl_tabIn (pc := 1) (off := 201) (tgt := 202) h (by decide) (by decide) (by decide) (by decide) dL_call_1 ?_
  refine vl_aload_n (pc := 202) h 0 rfl rfl dL_call_202 ?_
  refine vl_iload_n (pc := 203) h 2 rfl rfl dL_call_203 ?_
  refine vl_iload_n (pc := 204) h 3 rfl rfl dL_call_204 ?_
  refine vl_kW (pc := 205) (As := [.ref (G.2.1 + 0), .int u1, .int u2]) (st := []) (u2 := 1) h hE hX (fun _ z => z) W1.own (fun _ z => z) lkw_162 (w_tryThinned x.2.1 hst G S u1 u2) rfl rfl rfl (by decide) rfl (by decide) (by decide) dL_call_205 ?_
  exact hret 208 _ dL_call_208

set_option maxRecDepth 100000 in
set_option maxHeartbeats 800000 in
theorem k_9 (l : Launch) (hst : l.stackTraces = false) (G : Gl) (S : Cs) (u1 u2 u3 : Int32) : KL l yL_call cL_call 5 .int ({ frames := 10, cells := 1, slots := 6, locals := 190 } : Room) G [.ref (G.2.1 + 0), .int (nI 9), .int u1, .int u2, .int u3] S (xq (ob (sA S) 117 u1 (nI 0) (nI 0)) ((co (sA S) 117 u1 (nI 0) (nI 0)).1)) (sq (ob (sA S) 117 u1 (nI 0) (nI 0)) S (pu S (co (sA S) 117 u1 (nI 0) (nI 0)).2)) := by
  refine KL_of rfl (by decide +kernel) (lo := [(0, .ref (G.2.1 + 0)), (1, .int (nI 9)), (2, .int u1), (3, .int u2), (4, .int u3)]) rfl (Nat.le_of_ble_eq_true rfl) rfl rfl ?_
  intro x Q hxl h hE hX hret
  subst hxl
  refine vl_iload_n (pc := 0) h 1 rfl rfl dL_call_0 ?_
  refine vl_tabIn (pc := 1) (off := 208) (tgt := 209) h (by decide) (by decide) (by decide) (by decide) dL_call_1 ?_
  refine vl_aload_n (pc := 209) h 0 rfl rfl dL_call_209 ?_
  refine vl_iload_n (pc := 210) h 2 rfl rfl dL_call_210 ?_
  refine vl_kW (pc := 211) (As := [.ref (G.2.1 + 0), .int u1]) (st := []) (u2 := 1) h hE hX (fun _ z => z) W1.own (fun _ z => z) lkw_165 (w_tryAdded x.2.1 hst G S u1) rfl rfl rfl (by decide) rfl (by decide) (by decide) dL_call_211 ?_
  exact hret 214 _ dL_call_214

set_option maxRecDepth 100000 in
set_option maxHeartbeats 800000 in
theorem k_10 (l : Launch) (hst : l.stackTraces = false) (G : Gl) (S : Cs) (u1 u2 u3 : Int32) : KL l yL_call cL_call 5 .int ({ frames := 10, cells := 1, slots := 6, locals := 188 } : Room) G [.ref (G.2.1 + 0), .int (nI 10), .int u1, .int u2, .int u3] S (xq (ob (sA S) 100 (nI 0) (nI 0) (nI 0)) ((co (sA S) 100 (nI 0) (nI 0) (nI 0)).1)) (sq (ob (sA S) 100 (nI 0) (nI 0) (nI 0)) S (pu S (co (sA S) 100 (nI 0) (nI 0) (nI 0)).2)) := by
  refine KL_of rfl (by decide +kernel) (lo := [(0, .ref (G.2.1 + 0)), (1, .int (nI 10)), (2, .int u1), (3, .int u2), (4, .int u3)]) rfl (Nat.le_of_ble_eq_true rfl) rfl rfl ?_
  intro x Q hxl h hE hX hret
  subst hxl
  refine vl_iload_n (pc := 0) h 1 rfl rfl dL_call_0 ?_
  refine vl_tabIn (pc := 1) (off := 214) (tgt := 215) h (by decide) (by decide) (by decide) (by decide) dL_call_1 ?_
  refine vl_aload_n (pc := 215) h 0 rfl rfl dL_call_215 ?_
  refine vl_kW (pc := 216) (As := [.ref (G.2.1 + 0)]) (st := []) (u2 := 1) h hE hX (fun _ z => z) W1.own (fun _ z => z) lkw_168 (w_tryDrop x.2.1 hst G S ) rfl rfl rfl (by decide) rfl (by decide) (by decide) dL_call_216 ?_
  exact hret 219 _ dL_call_219

set_option maxRecDepth 100000 in
set_option maxHeartbeats 800000 in
theorem k_11 (l : Launch) (hst : l.stackTraces = false) (G : Gl) (S : Cs) (u1 u2 u3 : Int32) : KL l yL_call cL_call 5 .int ({ frames := 10, cells := 1, slots := 6, locals := 190 } : Room) G [.ref (G.2.1 + 0), .int (nI 11), .int u1, .int u2, .int u3] S (xq (ob (sA S) 114 u1 (nI 0) (nI 0)) ((co (sA S) 114 u1 (nI 0) (nI 0)).1)) (sq (ob (sA S) 114 u1 (nI 0) (nI 0)) S (pu S (co (sA S) 114 u1 (nI 0) (nI 0)).2)) := by
  refine KL_of rfl (by decide +kernel) (lo := [(0, .ref (G.2.1 + 0)), (1, .int (nI 11)), (2, .int u1), (3, .int u2), (4, .int u3)]) rfl (Nat.le_of_ble_eq_true rfl) rfl rfl ?_
  intro x Q hxl h hE hX hret
  subst hxl
  refine vl_iload_n (pc := 0) h 1 rfl rfl dL_call_0 ?_
  refine vl_tabIn (pc := 1) (off := 219) (tgt := 220) h (by decide) (by decide) (by decide) (by decide) dL_call_1 ?_
  refine vl_aload_n (pc := 220) h 0 rfl rfl dL_call_220 ?_
  refine vl_iload_n (pc := 221) h 2 rfl rfl dL_call_221 ?_
  refine vl_kW (pc := 222) (As := [.ref (G.2.1 + 0), .int u1]) (st := []) (u2 := 1) h hE hX (fun _ z => z) W1.own (fun _ z => z) lkw_171 (w_tryBegin x.2.1 hst G S u1) rfl rfl rfl (by decide) rfl (by decide) (by decide) dL_call_222 ?_
  exact hret 225 _ dL_call_225

set_option maxRecDepth 100000 in
set_option maxHeartbeats 800000 in
theorem k_12 (l : Launch) (hst : l.stackTraces = false) (G : Gl) (S : Cs) (u1 u2 u3 : Int32) : KL l yL_call cL_call 5 .int ({ frames := 10, cells := 1, slots := 6, locals := 190 } : Room) G [.ref (G.2.1 + 0), .int (nI 12), .int u1, .int u2, .int u3] S (xq (ob (sA S) 110 u1 (nI 0) (nI 0)) ((co (sA S) 110 u1 (nI 0) (nI 0)).1)) (sq (ob (sA S) 110 u1 (nI 0) (nI 0)) S (pu S (co (sA S) 110 u1 (nI 0) (nI 0)).2)) := by
  refine KL_of rfl (by decide +kernel) (lo := [(0, .ref (G.2.1 + 0)), (1, .int (nI 12)), (2, .int u1), (3, .int u2), (4, .int u3)]) rfl (Nat.le_of_ble_eq_true rfl) rfl rfl ?_
  intro x Q hxl h hE hX hret
  subst hxl
  refine vl_iload_n (pc := 0) h 1 rfl rfl dL_call_0 ?_
  refine vl_tabIn (pc := 1) (off := 225) (tgt := 226) h (by decide) (by decide) (by decide) (by decide) dL_call_1 ?_
  refine vl_aload_n (pc := 226) h 0 rfl rfl dL_call_226 ?_
  refine vl_iload_n (pc := 227) h 2 rfl rfl dL_call_227 ?_
  refine vl_kW (pc := 228) (As := [.ref (G.2.1 + 0), .int u1]) (st := []) (u2 := 1) h hE hX (fun _ z => z) W1.own (fun _ z => z) lkw_174 (w_tryRead x.2.1 hst G S u1) rfl rfl rfl (by decide) rfl (by decide) (by decide) dL_call_228 ?_
  exact hret 231 _ dL_call_231

set_option maxRecDepth 100000 in
set_option maxHeartbeats 800000 in
theorem k_13 (l : Launch) (hst : l.stackTraces = false) (G : Gl) (S : Cs) (u1 u2 u3 : Int32) : KL l yL_call cL_call 5 .int ({ frames := 10, cells := 1, slots := 6, locals := 192 } : Room) G [.ref (G.2.1 + 0), .int (nI 13), .int u1, .int u2, .int u3] S (xq (ob (sA S) 107 u1 u2 (nI 0)) ((co (sA S) 107 u1 u2 (nI 0)).1)) (sq (ob (sA S) 107 u1 u2 (nI 0)) S (pu S (co (sA S) 107 u1 u2 (nI 0)).2)) := by
  refine KL_of rfl (by decide +kernel) (lo := [(0, .ref (G.2.1 + 0)), (1, .int (nI 13)), (2, .int u1), (3, .int u2), (4, .int u3)]) rfl (Nat.le_of_ble_eq_true rfl) rfl rfl ?_
  intro x Q hxl h hE hX hret
  subst hxl
  refine vl_iload_n (pc := 0) h 1 rfl rfl dL_call_0 ?_
  refine vl_tabIn (pc := 1) (off := 231) (tgt := 232) h (by decide) (by decide) (by decide) (by decide) dL_call_1 ?_
  refine vl_aload_n (pc := 232) h 0 rfl rfl dL_call_232 ?_
  refine vl_iload_n (pc := 233) h 2 rfl rfl dL_call_233 ?_
  refine vl_iload_n (pc := 234) h 3 rfl rfl dL_call_234 ?_
  refine vl_kW (pc := 235) (As := [.ref (G.2.1 + 0), .int u1, .int u2]) (st := []) (u2 := 1) h hE hX (fun _ z => z) W1.own (fun _ z => z) lkw_177 (w_trySkip x.2.1 hst G S u1 u2) rfl rfl rfl (by decide) rfl (by decide) (by decide) dL_call_235 ?_
  exact hret 238 _ dL_call_238

set_option maxRecDepth 100000 in
set_option maxHeartbeats 800000 in
theorem k_14 (l : Launch) (hst : l.stackTraces = false) (G : Gl) (S : Cs) (u1 u2 u3 : Int32) : KL l yL_call cL_call 5 .int ({ frames := 10, cells := 1, slots := 6, locals := 190 } : Room) G [.ref (G.2.1 + 0), .int (nI 14), .int u1, .int u2, .int u3] S (xq (ob (sA S) 122 u1 (nI 0) (nI 0)) ((co (sA S) 122 u1 (nI 0) (nI 0)).1)) (sq (ob (sA S) 122 u1 (nI 0) (nI 0)) S (pu S (co (sA S) 122 u1 (nI 0) (nI 0)).2)) := by
  refine KL_of rfl (by decide +kernel) (lo := [(0, .ref (G.2.1 + 0)), (1, .int (nI 14)), (2, .int u1), (3, .int u2), (4, .int u3)]) rfl (Nat.le_of_ble_eq_true rfl) rfl rfl ?_
  intro x Q hxl h hE hX hret
  subst hxl
  refine vl_iload_n (pc := 0) h 1 rfl rfl dL_call_0 ?_
  refine vl_tabIn (pc := 1) (off := 238) (tgt := 239) h (by decide) (by decide) (by decide) (by decide) dL_call_1 ?_
  refine vl_aload_n (pc := 239) h 0 rfl rfl dL_call_239 ?_
  refine vl_iload_n (pc := 240) h 2 rfl rfl dL_call_240 ?_
  refine vl_kW (pc := 241) (As := [.ref (G.2.1 + 0), .int u1]) (st := []) (u2 := 1) h hE hX (fun _ z => z) W1.own (fun _ z => z) lkw_180 (w_tryReturn x.2.1 hst G S u1) rfl rfl rfl (by decide) rfl (by decide) (by decide) dL_call_241 ?_
  exact hret 244 _ dL_call_244

set_option maxRecDepth 100000 in
set_option maxHeartbeats 800000 in
theorem k_15 (l : Launch) (hst : l.stackTraces = false) (G : Gl) (S : Cs) (u1 u2 u3 : Int32) : KL l yL_call cL_call 5 .int ({ frames := 10, cells := 1, slots := 6, locals := 190 } : Room) G [.ref (G.2.1 + 0), .int (nI 15), .int u1, .int u2, .int u3] S (xq (ob (sA S) 113 u1 (nI 0) (nI 0)) ((co (sA S) 113 u1 (nI 0) (nI 0)).1)) (sq (ob (sA S) 113 u1 (nI 0) (nI 0)) S (pu S (co (sA S) 113 u1 (nI 0) (nI 0)).2)) := by
  refine KL_of rfl (by decide +kernel) (lo := [(0, .ref (G.2.1 + 0)), (1, .int (nI 15)), (2, .int u1), (3, .int u2), (4, .int u3)]) rfl (Nat.le_of_ble_eq_true rfl) rfl rfl ?_
  intro x Q hxl h hE hX hret
  subst hxl
  refine vl_iload_n (pc := 0) h 1 rfl rfl dL_call_0 ?_
  refine vl_tabIn (pc := 1) (off := 244) (tgt := 245) h (by decide) (by decide) (by decide) (by decide) dL_call_1 ?_
  refine vl_aload_n (pc := 245) h 0 rfl rfl dL_call_245 ?_
  refine vl_iload_n (pc := 246) h 2 rfl rfl dL_call_246 ?_
  refine vl_kW (pc := 247) (As := [.ref (G.2.1 + 0), .int u1]) (st := []) (u2 := 1) h hE hX (fun _ z => z) W1.own (fun _ z => z) lkw_183 (w_tryStop x.2.1 hst G S u1) rfl rfl rfl (by decide) rfl (by decide) (by decide) dL_call_247 ?_
  exact hret 250 _ dL_call_250

set_option maxRecDepth 100000 in
set_option maxHeartbeats 800000 in
theorem k_16 (l : Launch) (hst : l.stackTraces = false) (G : Gl) (S : Cs) (u1 u2 u3 : Int32) : KL l yL_call cL_call 5 .int ({ frames := 8, cells := 1, slots := 6, locals := 164 } : Room) G [.ref (G.2.1 + 0), .int (nI 16), .int u1, .int u2, .int u3] S (xq (cB (decide (sM S ≠ 0)) 3) (nI (sM S - 1))) (sq (cB (decide (sM S ≠ 0)) 3) S (po S)) := by
  refine KL_of rfl (by decide +kernel) (lo := [(0, .ref (G.2.1 + 0)), (1, .int (nI 16)), (2, .int u1), (3, .int u2), (4, .int u3)]) rfl (Nat.le_of_ble_eq_true rfl) rfl rfl ?_
  intro x Q hxl h hE hX hret
  subst hxl
  refine vl_iload_n (pc := 0) h 1 rfl rfl dL_call_0 ?_
  refine vl_tabIn (pc := 1) (off := 250) (tgt := 251) h (by decide) (by decide) (by decide) (by decide) dL_call_1 ?_
  refine vl_aload_n (pc := 251) h 0 rfl rfl dL_call_251 ?_
  refine vl_kW (pc := 252) (As := [.ref (G.2.1 + 0)]) (st := []) (u2 := 1) h hE hX (fun _ z => z) W1.own (fun _ z => z) lkw_186 (w_tryUndo x.2.1 hst G S ) rfl rfl rfl (by decide) rfl (by decide) (by decide) dL_call_252 ?_
  exact hret 255 _ dL_call_255

set_option maxRecDepth 100000 in
set_option maxHeartbeats 800000 in
theorem k_17 (l : Launch) (hst : l.stackTraces = false) (G : Gl) (S : Cs) (u1 u2 u3 : Int32) : KL l yL_call cL_call 5 .int ({ frames := 9, cells := 2, slots := 12, locals := 156 } : Room) G [.ref (G.2.1 + 0), .int (nI 17), .int u1, .int u2, .int u3] S (xq (seqC (cB (liB (sA S) u1) 1) (cB (decide (0 ≤ u2)) 1)) (oI (ath (mem (aU (sA S)) (toN u1)) (toN u2)))) (sq (seqC (cB (liB (sA S) u1) 1) (cB (decide (0 ≤ u2)) 1)) S (S)) := by
  refine KL_of rfl (by decide +kernel) (lo := [(0, .ref (G.2.1 + 0)), (1, .int (nI 17)), (2, .int u1), (3, .int u2), (4, .int u3)]) rfl (Nat.le_of_ble_eq_true rfl) rfl rfl ?_
  intro x Q hxl h hE hX hret
  subst hxl
  refine vl_iload_n (pc := 0) h 1 rfl rfl dL_call_0 ?_
  refine vl_tabIn (pc := 1) (off := 255) (tgt := 256) h (by decide) (by decide) (by decide) (by decide) dL_call_1 ?_
  refine vl_aload_n (pc := 256) h 0 rfl rfl dL_call_256 ?_
  refine vl_iload_n (pc := 257) h 2 rfl rfl dL_call_257 ?_
  refine vl_iload_n (pc := 258) h 3 rfl rfl dL_call_258 ?_
  refine vl_kW (pc := 259) (As := [.ref (G.2.1 + 0), .int u1, .int u2]) (st := []) (u2 := 2) h hE hX (fun _ z => z) W1.own (fun _ z => z) lkw_189 (w_tryAt x.2.1 hst G S u1 u2) rfl rfl rfl (by decide) rfl (by decide) (by decide) dL_call_259 ?_
  exact hret 262 _ dL_call_262

set_option maxRecDepth 100000 in
set_option maxHeartbeats 800000 in
theorem k_18 (l : Launch) (hst : l.stackTraces = false) (G : Gl) (S : Cs) (u1 u2 u3 : Int32) : KL l yL_call cL_call 5 .int ({ frames := 9, cells := 2, slots := 12, locals := 156 } : Room) G [.ref (G.2.1 + 0), .int (nI 18), .int u1, .int u2, .int u3] S (xq (seqC (cB (liB (sA S) u1) 1) (cB (decide (0 ≤ u2)) 1)) (oI (ath (mem (aU (sA S)) (toN u1)) (toN u2)))) (sq (seqC (cB (liB (sA S) u1) 1) (cB (decide (0 ≤ u2)) 1)) S (S)) := by
  refine KL_of rfl (by decide +kernel) (lo := [(0, .ref (G.2.1 + 0)), (1, .int (nI 18)), (2, .int u1), (3, .int u2), (4, .int u3)]) rfl (Nat.le_of_ble_eq_true rfl) rfl rfl ?_
  intro x Q hxl h hE hX hret
  subst hxl
  refine vl_iload_n (pc := 0) h 1 rfl rfl dL_call_0 ?_
  refine vl_tabIn (pc := 1) (off := 262) (tgt := 263) h (by decide) (by decide) (by decide) (by decide) dL_call_1 ?_
  refine vl_aload_n (pc := 263) h 0 rfl rfl dL_call_263 ?_
  refine vl_iload_n (pc := 264) h 2 rfl rfl dL_call_264 ?_
  refine vl_iload_n (pc := 265) h 3 rfl rfl dL_call_265 ?_
  refine vl_kW (pc := 266) (As := [.ref (G.2.1 + 0), .int u1, .int u2]) (st := []) (u2 := 2) h hE hX (fun _ z => z) W1.own (fun _ z => z) lkw_192 (w_tryTested x.2.1 hst G S u1 u2) rfl rfl rfl (by decide) rfl (by decide) (by decide) dL_call_266 ?_
  exact hret 269 _ dL_call_269

set_option maxRecDepth 100000 in
set_option maxHeartbeats 800000 in
theorem k_19 (l : Launch) (hst : l.stackTraces = false) (G : Gl) (S : Cs) (u1 u2 u3 : Int32) : KL l yL_call cL_call 5 .int ({ frames := 9, cells := 2, slots := 12, locals := 157 } : Room) G [.ref (G.2.1 + 0), .int (nI 19), .int u1, .int u2, .int u3] S (xq (seqC (cB (liB (sA S) u1) 1) (cB (inB (nI 0) (nI 999) u2) 2)) ((if mem (aU (sA S)) (toN u1) (toN u2) then nI (cS (mem (aU (sA S)) (toN u1)) ((toN u2) + 1) - 1) else -1))) (sq (seqC (cB (liB (sA S) u1) 1) (cB (inB (nI 0) (nI 999) u2) 2)) S (S)) := by
  refine KL_of rfl (by decide +kernel) (lo := [(0, .ref (G.2.1 + 0)), (1, .int (nI 19)), (2, .int u1), (3, .int u2), (4, .int u3)]) rfl (Nat.le_of_ble_eq_true rfl) rfl rfl ?_
  intro x Q hxl h hE hX hret
  subst hxl
  refine vl_iload_n (pc := 0) h 1 rfl rfl dL_call_0 ?_
  refine vl_tabIn (pc := 1) (off := 269) (tgt := 270) h (by decide) (by decide) (by decide) (by decide) dL_call_1 ?_
  refine vl_aload_n (pc := 270) h 0 rfl rfl dL_call_270 ?_
  refine vl_iload_n (pc := 271) h 2 rfl rfl dL_call_271 ?_
  refine vl_iload_n (pc := 272) h 3 rfl rfl dL_call_272 ?_
  refine vl_kW (pc := 273) (As := [.ref (G.2.1 + 0), .int u1, .int u2]) (st := []) (u2 := 2) h hE hX (fun _ z => z) W1.own (fun _ z => z) lkw_195 (w_tryPlace x.2.1 hst G S u1 u2) rfl rfl rfl (by decide) rfl (by decide) (by decide) dL_call_273 ?_
  exact hret 276 _ dL_call_276

set_option maxRecDepth 100000 in
set_option maxHeartbeats 800000 in
theorem k_20 (l : Launch) (hst : l.stackTraces = false) (G : Gl) (S : Cs) (u1 u2 u3 : Int32) : KL l yL_call cL_call 5 .int ({ frames := 9, cells := 2, slots := 12, locals := 157 } : Room) G [.ref (G.2.1 + 0), .int (nI 20), .int u1, .int u2, .int u3] S (xq (seqC (cB (liB (sA S) u1) 1) (cB (inB (nI 0) (nI 999) u2) 2)) (nI (cS (mem (aU (sA S)) (toN u1)) ((toN u2) + 1)))) (sq (seqC (cB (liB (sA S) u1) 1) (cB (inB (nI 0) (nI 999) u2) 2)) S (S)) := by
  refine KL_of rfl (by decide +kernel) (lo := [(0, .ref (G.2.1 + 0)), (1, .int (nI 20)), (2, .int u1), (3, .int u2), (4, .int u3)]) rfl (Nat.le_of_ble_eq_true rfl) rfl rfl ?_
  intro x Q hxl h hE hX hret
  subst hxl
  refine vl_iload_n (pc := 0) h 1 rfl rfl dL_call_0 ?_
  refine vl_tabIn (pc := 1) (off := 276) (tgt := 277) h (by decide) (by decide) (by decide) (by decide) dL_call_1 ?_
  refine vl_aload_n (pc := 277) h 0 rfl rfl dL_call_277 ?_
  refine vl_iload_n (pc := 278) h 2 rfl rfl dL_call_278 ?_
  refine vl_iload_n (pc := 279) h 3 rfl rfl dL_call_279 ?_
  refine vl_kW (pc := 280) (As := [.ref (G.2.1 + 0), .int u1, .int u2]) (st := []) (u2 := 2) h hE hX (fun _ z => z) W1.own (fun _ z => z) lkw_198 (w_tryUpTo x.2.1 hst G S u1 u2) rfl rfl rfl (by decide) rfl (by decide) (by decide) dL_call_280 ?_
  exact hret 283 _ dL_call_283

set_option maxRecDepth 100000 in
set_option maxHeartbeats 800000 in
theorem k_21 (l : Launch) (hst : l.stackTraces = false) (G : Gl) (S : Cs) (u1 u2 u3 : Int32) : KL l yL_call cL_call 5 .int ({ frames := 9, cells := 1, slots := 6, locals := 154 } : Room) G [.ref (G.2.1 + 0), .int (nI 21), .int u1, .int u2, .int u3] S (xq (cB (liB (sA S) u1) 1) (oI (lstB (mem (aU (sA S)) (toN u1)) 1000))) (sq (cB (liB (sA S) u1) 1) S (S)) := by
  refine KL_of rfl (by decide +kernel) (lo := [(0, .ref (G.2.1 + 0)), (1, .int (nI 21)), (2, .int u1), (3, .int u2), (4, .int u3)]) rfl (Nat.le_of_ble_eq_true rfl) rfl rfl ?_
  intro x Q hxl h hE hX hret
  subst hxl
  refine vl_iload_n (pc := 0) h 1 rfl rfl dL_call_0 ?_
  refine vl_tabIn (pc := 1) (off := 283) (tgt := 284) h (by decide) (by decide) (by decide) (by decide) dL_call_1 ?_
  refine vl_aload_n (pc := 284) h 0 rfl rfl dL_call_284 ?_
  refine vl_iload_n (pc := 285) h 2 rfl rfl dL_call_285 ?_
  refine vl_kW (pc := 286) (As := [.ref (G.2.1 + 0), .int u1]) (st := []) (u2 := 1) h hE hX (fun _ z => z) W1.own (fun _ z => z) lkw_201 (w_tryLast x.2.1 hst G S u1) rfl rfl rfl (by decide) rfl (by decide) (by decide) dL_call_286 ?_
  exact hret 289 _ dL_call_289

set_option maxRecDepth 100000 in
set_option maxHeartbeats 800000 in
theorem k_22 (l : Launch) (hst : l.stackTraces = false) (G : Gl) (S : Cs) (u1 u2 u3 : Int32) : KL l yL_call cL_call 5 .int ({ frames := 9, cells := 2, slots := 12, locals := 156 } : Room) G [.ref (G.2.1 + 0), .int (nI 22), .int u1, .int u2, .int u3] S (xq (seqC (cB (liB (sA S) u1) 1) (cB (liB (sA S) u2) 1)) (oI (nxt (fun v => mem (aU (sA S)) (toN u1) v && mem (aU (sA S)) (toN u2) v) 0))) (sq (seqC (cB (liB (sA S) u1) 1) (cB (liB (sA S) u2) 1)) S (S)) := by
  refine KL_of rfl (by decide +kernel) (lo := [(0, .ref (G.2.1 + 0)), (1, .int (nI 22)), (2, .int u1), (3, .int u2), (4, .int u3)]) rfl (Nat.le_of_ble_eq_true rfl) rfl rfl ?_
  intro x Q hxl h hE hX hret
  subst hxl
  refine vl_iload_n (pc := 0) h 1 rfl rfl dL_call_0 ?_
  refine vl_tabIn (pc := 1) (off := 289) (tgt := 290) h (by decide) (by decide) (by decide) (by decide) dL_call_1 ?_
  refine vl_aload_n (pc := 290) h 0 rfl rfl dL_call_290 ?_
  refine vl_iload_n (pc := 291) h 2 rfl rfl dL_call_291 ?_
  refine vl_iload_n (pc := 292) h 3 rfl rfl dL_call_292 ?_
  refine vl_kW (pc := 293) (As := [.ref (G.2.1 + 0), .int u1, .int u2]) (st := []) (u2 := 2) h hE hX (fun _ z => z) W1.own (fun _ z => z) lkw_204 (w_tryCommon x.2.1 hst G S u1 u2) rfl rfl rfl (by decide) rfl (by decide) (by decide) dL_call_293 ?_
  exact hret 296 _ dL_call_296

set_option maxRecDepth 100000 in
set_option maxHeartbeats 800000 in
theorem k_23 (l : Launch) (hst : l.stackTraces = false) (G : Gl) (S : Cs) (u1 u2 u3 : Int32) : KL l yL_call cL_call 5 .int ({ frames := 9, cells := 1, slots := 6, locals := 154 } : Room) G [.ref (G.2.1 + 0), .int (nI 23), .int u1, .int u2, .int u3] S (xq (cB (liB (sA S) u1) 1) (nI (gp (mem (aU (sA S)) (toN u1)) 1000).2)) (sq (cB (liB (sA S) u1) 1) S (S)) := by
  refine KL_of rfl (by decide +kernel) (lo := [(0, .ref (G.2.1 + 0)), (1, .int (nI 23)), (2, .int u1), (3, .int u2), (4, .int u3)]) rfl (Nat.le_of_ble_eq_true rfl) rfl rfl ?_
  intro x Q hxl h hE hX hret
  subst hxl
  refine vl_iload_n (pc := 0) h 1 rfl rfl dL_call_0 ?_
  refine vl_tabIn (pc := 1) (off := 296) (tgt := 297) h (by decide) (by decide) (by decide) (by decide) dL_call_1 ?_
  refine vl_aload_n (pc := 297) h 0 rfl rfl dL_call_297 ?_
  refine vl_iload_n (pc := 298) h 2 rfl rfl dL_call_298 ?_
  refine vl_kW (pc := 299) (As := [.ref (G.2.1 + 0), .int u1]) (st := []) (u2 := 1) h hE hX (fun _ z => z) W1.own (fun _ z => z) lkw_207 (w_tryGap x.2.1 hst G S u1) rfl rfl rfl (by decide) rfl (by decide) (by decide) dL_call_299 ?_
  exact hret 302 _ dL_call_302

set_option maxRecDepth 100000 in
set_option maxHeartbeats 800000 in
theorem k_24 (l : Launch) (hst : l.stackTraces = false) (G : Gl) (S : Cs) (u1 u2 u3 : Int32) : KL l yL_call cL_call 5 .int ({ frames := 9, cells := 1, slots := 6, locals := 154 } : Room) G [.ref (G.2.1 + 0), .int (nI 24), .int u1, .int u2, .int u3] S (xq (cB (rdB (sA S) u1) 1) (nI (aL (sA S) (toN u1)))) (sq (cB (rdB (sA S) u1) 1) S (S)) := by
  refine KL_of rfl (by decide +kernel) (lo := [(0, .ref (G.2.1 + 0)), (1, .int (nI 24)), (2, .int u1), (3, .int u2), (4, .int u3)]) rfl (Nat.le_of_ble_eq_true rfl) rfl rfl ?_
  intro x Q hxl h hE hX hret
  subst hxl
  refine vl_iload_n (pc := 0) h 1 rfl rfl dL_call_0 ?_
  refine vl_tabIn (pc := 1) (off := 302) (tgt := 303) h (by decide) (by decide) (by decide) (by decide) dL_call_1 ?_
  refine vl_aload_n (pc := 303) h 0 rfl rfl dL_call_303 ?_
  refine vl_iload_n (pc := 304) h 2 rfl rfl dL_call_304 ?_
  refine vl_kW (pc := 305) (As := [.ref (G.2.1 + 0), .int u1]) (st := []) (u2 := 1) h hE hX (fun _ z => z) W1.own (fun _ z => z) lkw_210 (w_tryListOf x.2.1 hst G S u1) rfl rfl rfl (by decide) rfl (by decide) (by decide) dL_call_305 ?_
  exact hret 308 _ dL_call_308

set_option maxRecDepth 100000 in
set_option maxHeartbeats 800000 in
theorem k_25 (l : Launch) (hst : l.stackTraces = false) (G : Gl) (S : Cs) (u1 u2 u3 : Int32) : KL l yL_call cL_call 5 .int ({ frames := 9, cells := 1, slots := 6, locals := 154 } : Room) G [.ref (G.2.1 + 0), .int (nI 25), .int u1, .int u2, .int u3] S (xq (cB (rdB (sA S) u1) 1) (nI (aP (sA S) (toN u1)))) (sq (cB (rdB (sA S) u1) 1) S (S)) := by
  refine KL_of rfl (by decide +kernel) (lo := [(0, .ref (G.2.1 + 0)), (1, .int (nI 25)), (2, .int u1), (3, .int u2), (4, .int u3)]) rfl (Nat.le_of_ble_eq_true rfl) rfl rfl ?_
  intro x Q hxl h hE hX hret
  subst hxl
  refine vl_iload_n (pc := 0) h 1 rfl rfl dL_call_0 ?_
  refine vl_tabIn (pc := 1) (off := 308) (tgt := 309) h (by decide) (by decide) (by decide) (by decide) dL_call_1 ?_
  refine vl_aload_n (pc := 309) h 0 rfl rfl dL_call_309 ?_
  refine vl_iload_n (pc := 310) h 2 rfl rfl dL_call_310 ?_
  refine vl_kW (pc := 311) (As := [.ref (G.2.1 + 0), .int u1]) (st := []) (u2 := 1) h hE hX (fun _ z => z) W1.own (fun _ z => z) lkw_213 (w_trySoFar x.2.1 hst G S u1) rfl rfl rfl (by decide) rfl (by decide) (by decide) dL_call_311 ?_
  exact hret 314 _ dL_call_314

set_option maxRecDepth 100000 in
set_option maxHeartbeats 800000 in
theorem k_26 (l : Launch) (hst : l.stackTraces = false) (G : Gl) (S : Cs) (u1 u2 u3 : Int32) : KL l yL_call cL_call 5 .int ({ frames := 9, cells := 1, slots := 6, locals := 154 } : Room) G [.ref (G.2.1 + 0), .int (nI 26), .int u1, .int u2, .int u3] S (xq (cB (rdB (sA S) u1) 1) (oI (nextO (sA S) (toN u1)))) (sq (cB (rdB (sA S) u1) 1) S (S)) := by
  refine KL_of rfl (by decide +kernel) (lo := [(0, .ref (G.2.1 + 0)), (1, .int (nI 26)), (2, .int u1), (3, .int u2), (4, .int u3)]) rfl (Nat.le_of_ble_eq_true rfl) rfl rfl ?_
  intro x Q hxl h hE hX hret
  subst hxl
  refine vl_iload_n (pc := 0) h 1 rfl rfl dL_call_0 ?_
  refine vl_tabIn (pc := 1) (off := 314) (tgt := 315) h (by decide) (by decide) (by decide) (by decide) dL_call_1 ?_
  refine vl_aload_n (pc := 315) h 0 rfl rfl dL_call_315 ?_
  refine vl_iload_n (pc := 316) h 2 rfl rfl dL_call_316 ?_
  refine vl_kW (pc := 317) (As := [.ref (G.2.1 + 0), .int u1]) (st := []) (u2 := 1) h hE hX (fun _ z => z) W1.own (fun _ z => z) lkw_216 (w_tryNext x.2.1 hst G S u1) rfl rfl rfl (by decide) rfl (by decide) (by decide) dL_call_317 ?_
  exact hret 320 _ dL_call_320

set_option maxRecDepth 100000 in
set_option maxHeartbeats 800000 in
theorem k_27 (l : Launch) (hst : l.stackTraces = false) (G : Gl) (S : Cs) (u1 u2 u3 : Int32) : KL l yL_call cL_call 5 .int ({ frames := 9, cells := 1, slots := 6, locals := 157 } : Room) G [.ref (G.2.1 + 0), .int (nI 27), .int u1, .int u2, .int u3] S (xq (cB (inB (nI 0) (nI 99999) u1) 2) (nI (fpN (toN u1)))) (sq (cB (inB (nI 0) (nI 99999) u1) 2) S (S)) := by
  refine KL_of rfl (by decide +kernel) (lo := [(0, .ref (G.2.1 + 0)), (1, .int (nI 27)), (2, .int u1), (3, .int u2), (4, .int u3)]) rfl (Nat.le_of_ble_eq_true rfl) rfl rfl ?_
  intro x Q hxl h hE hX hret
  subst hxl
  refine vl_iload_n (pc := 0) h 1 rfl rfl dL_call_0 ?_
  refine vl_tabIn (pc := 1) (off := 320) (tgt := 321) h (by decide) (by decide) (by decide) (by decide) dL_call_1 ?_
  refine vl_aload_n (pc := 321) h 0 rfl rfl dL_call_321 ?_
  refine vl_iload_n (pc := 322) h 2 rfl rfl dL_call_322 ?_
  refine vl_kW (pc := 323) (As := [.ref (G.2.1 + 0), .int u1]) (st := []) (u2 := 1) h hE hX (fun _ z => z) W1.own (fun _ z => z) lkw_219 (w_tryWalk x.2.1 hst G S u1) rfl rfl rfl (by decide) rfl (by decide) (by decide) dL_call_323 ?_
  exact hret 326 _ dL_call_326

set_option maxRecDepth 100000 in
set_option maxHeartbeats 800000 in
theorem k_28 (l : Launch) (hst : l.stackTraces = false) (G : Gl) (S : Cs) (u1 u2 u3 : Int32) : KL l yL_call cL_call 5 .int ({ frames := 9, cells := 1, slots := 6, locals := 158 } : Room) G [.ref (G.2.1 + 0), .int (nI 28), .int u1, .int u2, .int u3] S (xq (cB (inB (nI 0) (nI 99999) u1) 2) (nI (fpN (toN u1)))) (sq (cB (inB (nI 0) (nI 99999) u1) 2) S (S)) := by
  refine KL_of rfl (by decide +kernel) (lo := [(0, .ref (G.2.1 + 0)), (1, .int (nI 28)), (2, .int u1), (3, .int u2), (4, .int u3)]) rfl (Nat.le_of_ble_eq_true rfl) rfl rfl ?_
  intro x Q hxl h hE hX hret
  subst hxl
  refine vl_iload_n (pc := 0) h 1 rfl rfl dL_call_0 ?_
  refine vl_tabIn (pc := 1) (off := 326) (tgt := 327) h (by decide) (by decide) (by decide) (by decide) dL_call_1 ?_
  refine vl_aload_n (pc := 327) h 0 rfl rfl dL_call_327 ?_
  refine vl_iload_n (pc := 328) h 2 rfl rfl dL_call_328 ?_
  refine vl_kW (pc := 329) (As := [.ref (G.2.1 + 0), .int u1]) (st := []) (u2 := 1) h hE hX (fun _ z => z) W1.own (fun _ z => z) lkw_222 (w_tryCount x.2.1 hst G S u1) rfl rfl rfl (by decide) rfl (by decide) (by decide) dL_call_329 ?_
  exact hret 332 _ dL_call_332

set_option maxRecDepth 100000 in
set_option maxHeartbeats 800000 in
theorem k_29 (l : Launch) (hst : l.stackTraces = false) (G : Gl) (S : Cs) (u1 u2 u3 : Int32) : KL l yL_call cL_call 5 .int ({ frames := 9, cells := 2, slots := 12, locals := 157 } : Room) G [.ref (G.2.1 + 0), .int (nI 29), .int u1, .int u2, .int u3] S (xq (seqC (cB (inB (nI 0) (nI 200) u1) 2) (cB (inB (nI 0) (nI 200) u2) 2)) (nI (triN ((toN u1) + (toN u2)) + (toN u1)))) (sq (seqC (cB (inB (nI 0) (nI 200) u1) 2) (cB (inB (nI 0) (nI 200) u2) 2)) S (S)) := by
  refine KL_of rfl (by decide +kernel) (lo := [(0, .ref (G.2.1 + 0)), (1, .int (nI 29)), (2, .int u1), (3, .int u2), (4, .int u3)]) rfl (Nat.le_of_ble_eq_true rfl) rfl rfl ?_
  intro x Q hxl h hE hX hret
  subst hxl
  refine vl_iload_n (pc := 0) h 1 rfl rfl dL_call_0 ?_
  refine vl_tabIn (pc := 1) (off := 332) (tgt := 333) h (by decide) (by decide) (by decide) (by decide) dL_call_1 ?_
  refine vl_aload_n (pc := 333) h 0 rfl rfl dL_call_333 ?_
  refine vl_iload_n (pc := 334) h 2 rfl rfl dL_call_334 ?_
  refine vl_iload_n (pc := 335) h 3 rfl rfl dL_call_335 ?_
  refine vl_kW (pc := 336) (As := [.ref (G.2.1 + 0), .int u1, .int u2]) (st := []) (u2 := 2) h hE hX (fun _ z => z) W1.own (fun _ z => z) lkw_225 (w_tryPair x.2.1 hst G S u1 u2) rfl rfl rfl (by decide) rfl (by decide) (by decide) dL_call_336 ?_
  exact hret 339 _ dL_call_339

set_option maxRecDepth 100000 in
set_option maxHeartbeats 800000 in
theorem k_30 (l : Launch) (hst : l.stackTraces = false) (G : Gl) (S : Cs) (u1 u2 u3 : Int32) : KL l yL_call cL_call 5 .int ({ frames := 9, cells := 2, slots := 12, locals := 156 } : Room) G [.ref (G.2.1 + 0), .int (nI 30), .int u1, .int u2, .int u3] S (xq (seqC (cB (liB (sA S) u1) 1) (cB (liB (sA S) u2) 1)) (nI (cS (fun v => mem (aU (sA S)) (toN u1) v || mem (aU (sA S)) (toN u2) v) 1000))) (sq (seqC (cB (liB (sA S) u1) 1) (cB (liB (sA S) u2) 1)) S (S)) := by
  refine KL_of rfl (by decide +kernel) (lo := [(0, .ref (G.2.1 + 0)), (1, .int (nI 30)), (2, .int u1), (3, .int u2), (4, .int u3)]) rfl (Nat.le_of_ble_eq_true rfl) rfl rfl ?_
  intro x Q hxl h hE hX hret
  subst hxl
  refine vl_iload_n (pc := 0) h 1 rfl rfl dL_call_0 ?_
  refine vl_tabIn (pc := 1) (off := 339) (tgt := 340) h (by decide) (by decide) (by decide) (by decide) dL_call_1 ?_
  refine vl_aload_n (pc := 340) h 0 rfl rfl dL_call_340 ?_
  refine vl_iload_n (pc := 341) h 2 rfl rfl dL_call_341 ?_
  refine vl_iload_n (pc := 342) h 3 rfl rfl dL_call_342 ?_
  refine vl_kW (pc := 343) (As := [.ref (G.2.1 + 0), .int u1, .int u2]) (st := []) (u2 := 2) h hE hX (fun _ z => z) W1.own (fun _ z => z) lkw_228 (w_tryIfJoined x.2.1 hst G S u1 u2) rfl rfl rfl (by decide) rfl (by decide) (by decide) dL_call_343 ?_
  exact hret 346 _ dL_call_346

set_option maxRecDepth 100000 in
set_option maxHeartbeats 800000 in
theorem k_31 (l : Launch) (hst : l.stackTraces = false) (G : Gl) (S : Cs) (u1 u2 u3 : Int32) : KL l yL_call cL_call 5 .int ({ frames := 9, cells := 2, slots := 12, locals := 160 } : Room) G [.ref (G.2.1 + 0), .int (nI 31), .int u1, .int u2, .int u3] S (xq (seqC (cB (rdB (sA S) u1) 1) (cB (inB (nI 0) (nI 999) u2) 2)) (skU (sA S) (toN u1) (toN u2))) (sq (seqC (cB (rdB (sA S) u1) 1) (cB (inB (nI 0) (nI 999) u2) 2)) S (S)) := by
  refine KL_of rfl (by decide +kernel) (lo := [(0, .ref (G.2.1 + 0)), (1, .int (nI 31)), (2, .int u1), (3, .int u2), (4, .int u3)]) rfl (Nat.le_of_ble_eq_true rfl) rfl rfl ?_
  intro x Q hxl h hE hX hret
  subst hxl
  refine vl_iload_n (pc := 0) h 1 rfl rfl dL_call_0 ?_
  refine vl_tabIn (pc := 1) (off := 346) (tgt := 347) h (by decide) (by decide) (by decide) (by decide) dL_call_1 ?_
  refine vl_aload_n (pc := 347) h 0 rfl rfl dL_call_347 ?_
  refine vl_iload_n (pc := 348) h 2 rfl rfl dL_call_348 ?_
  refine vl_iload_n (pc := 349) h 3 rfl rfl dL_call_349 ?_
  refine vl_kW (pc := 350) (As := [.ref (G.2.1 + 0), .int u1, .int u2]) (st := []) (u2 := 2) h hE hX (fun _ z => z) W1.own (fun _ z => z) lkw_231 (w_trySkipsTo x.2.1 hst G S u1 u2) rfl rfl rfl (by decide) rfl (by decide) (by decide) dL_call_350 ?_
  exact hret 353 _ dL_call_353

set_option maxRecDepth 100000 in
set_option maxHeartbeats 800000 in
theorem k_32 (l : Launch) (hst : l.stackTraces = false) (G : Gl) (S : Cs) (u1 u2 u3 : Int32) : KL l yL_call cL_call 5 .int ({ frames := 9, cells := 1, slots := 6, locals := 153 } : Room) G [.ref (G.2.1 + 0), .int (nI 32), .int u1, .int u2, .int u3] S (xq (cB (inB (nI 0) (nI 1) u1) 1) (nI (sA S).1)) (sq (cB (inB (nI 0) (nI 1) u1) 1) S (ksv S u1)) := by
  refine KL_of rfl (by decide +kernel) (lo := [(0, .ref (G.2.1 + 0)), (1, .int (nI 32)), (2, .int u1), (3, .int u2), (4, .int u3)]) rfl (Nat.le_of_ble_eq_true rfl) rfl rfl ?_
  intro x Q hxl h hE hX hret
  subst hxl
  refine vl_iload_n (pc := 0) h 1 rfl rfl dL_call_0 ?_
  refine vl_tabIn (pc := 1) (off := 353) (tgt := 354) h (by decide) (by decide) (by decide) (by decide) dL_call_1 ?_
  refine vl_aload_n (pc := 354) h 0 rfl rfl dL_call_354 ?_
  refine vl_iload_n (pc := 355) h 2 rfl rfl dL_call_355 ?_
  refine vl_kW (pc := 356) (As := [.ref (G.2.1 + 0), .int u1]) (st := []) (u2 := 1) h hE hX (fun _ z => z) W1.own (fun _ z => z) lkw_234 (w_tryKeep x.2.1 hst G S u1) rfl rfl rfl (by decide) rfl (by decide) (by decide) dL_call_356 ?_
  exact hret 359 _ dL_call_359

set_option maxRecDepth 100000 in
set_option maxHeartbeats 800000 in
theorem k_33 (l : Launch) (hst : l.stackTraces = false) (G : Gl) (S : Cs) (u1 u2 u3 : Int32) : KL l yL_call cL_call 5 .int ({ frames := 9, cells := 2, slots := 12, locals := 153 } : Room) G [.ref (G.2.1 + 0), .int (nI 33), .int u1, .int u2, .int u3] S (xq (seqC (cB (inB (nI 0) (nI 1) u1) 1) (cB (sV S (toN u1)) 3)) (nI (sL2 S (toN u1)).1)) (sq (seqC (cB (inB (nI 0) (nI 1) u1) 1) (cB (sV S (toN u1)) 3)) S (rst S u1)) := by
  refine KL_of rfl (by decide +kernel) (lo := [(0, .ref (G.2.1 + 0)), (1, .int (nI 33)), (2, .int u1), (3, .int u2), (4, .int u3)]) rfl (Nat.le_of_ble_eq_true rfl) rfl rfl ?_
  intro x Q hxl h hE hX hret
  subst hxl
  refine vl_iload_n (pc := 0) h 1 rfl rfl dL_call_0 ?_
  refine vl_tabOut (pc := 1) (tgt := 360) h (by decide) (by decide) dL_call_1 ?_
  refine vl_aload_n (pc := 360) h 0 rfl rfl dL_call_360 ?_
  refine vl_iload_n (pc := 361) h 2 rfl rfl dL_call_361 ?_
  refine vl_kW (pc := 362) (As := [.ref (G.2.1 + 0), .int u1]) (st := []) (u2 := 2) h hE hX (fun _ z => z) W1.own (fun _ z => z) lkw_237 (w_tryBack x.2.1 hst G S u1) rfl rfl rfl (by decide) rfl (by decide) (by decide) dL_call_362 ?_
  exact hret 365 _ dL_call_365

