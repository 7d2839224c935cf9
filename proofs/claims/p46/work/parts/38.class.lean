/-! THE CLASS: checks, actions -/
def exN (k : Nat) : String := if k = 1 then xO else if k = 2 then xI else xS
def cB (b : Bool) (k : Nat) : Nat := if b then 0 else k
def seqC (a b : Nat) : Nat := if a = 0 then b else a
theorem cB_t {b : Bool} {k : Nat} (h : b = true) : cB b k = 0 := if_pos h
theorem cB_f {b : Bool} {k : Nat} (h : b = false) : cB b k = k := by subst h; rfl
theorem pe_cB {b : Bool} {k : Nat} {E : String} (h : b = false) (hk : k ≠ 0) (e : E = exN k) : cB b k ≠ 0 ∧ E = exN (cB b k) := by rw [cB_f h]; exact ⟨hk, e⟩
theorem pe_1 {a b : Nat} {E : String} (h : a ≠ 0 ∧ E = exN a) : seqC a b ≠ 0 ∧ E = exN (seqC a b) := by rw [show seqC a b = a from if_neg h.1]; exact h
theorem pe_2 {a b : Nat} {E : String} (z : a = 0) (h : b ≠ 0 ∧ E = exN b) : seqC a b ≠ 0 ∧ E = exN (seqC a b) := by rw [show seqC a b = b from if_pos z]; exact h
theorem seq_0 {a b : Nat} (z : a = 0) (y : b = 0) : seqC a b = 0 := by rw [show seqC a b = b from if_pos z, y]
theorem exN_1 : xO = exN 1 := rfl
theorem exN_2 : xI = exN 2 := rfl
theorem exN_3 : xS = exN 3 := rfl
def SlC (sv : Nat → Bool) (sl : Nat → Ab) (σ : Sg) : Prop := ∀ j, j < 2 → σ.1 112 j = zB (sv j) ∧ (sv j = true → RelB (sl j) σ (120 + 7 * j))
theorem SlC.o {sv : Nat → Bool} {sl : Nat → Ab} {σ σ2 : Sg} {lo hi : Nat} (h : SlC sv sl σ) (ho : Out lo hi σ σ2) (hd : hi ≤ 112 ∨ 134 ≤ lo) : SlC sv sl σ2 := fun j hj => ⟨by rw [ho.i 112 j (by omega)]; exact (h j hj).1, fun q => ((h j hj).2 q).o ho (by omega)⟩
/-- the class holds: the text (n signs tx), the state A, m remembered states H, what is saved -/
def InvC (n : Nat) (tx : Nat → Nat) (A : Ab) (m : Nat) (H : Nat → Ab) (sv : Nat → Bool) (sl : Nat → Ab) (σ : Sg) : Prop := TextC n tx σ ∧ RelB A σ 4 ∧ HisC m H σ ∧ SlC sv sl σ
theorem InvC.o {n : Nat} {tx : Nat → Nat} {A : Ab} {m : Nat} {H : Nat → Ab} {sv : Nat → Bool} {sl : Nat → Ab} {σ σ2 : Sg} {lo hi : Nat} (h : InvC n tx A m H sv sl σ) (ho : Out lo hi σ σ2) (hd : 134 ≤ lo ∨ (113 ≤ lo ∧ hi ≤ 120)) : InvC n tx A m H sv sl σ2 :=
  ⟨h.1.o ho (by omega), h.2.1.o ho (by omega), h.2.2.1.o ho (by omega), fun j hj => ⟨by rw [ho.i 112 j (by omega)]; exact (h.2.2.2 j hj).1, fun q => ((h.2.2.2 j hj).2 q).o ho (by omega)⟩⟩
set_option maxRecDepth 100000 in
set_option maxHeartbeats 800000 in
theorem c_refuse (l : Launch) (hst : l.stackTraces = false) (G : Gl) (σ : Sg) (k : Nat) (hk : k ≤ 3) : Xv l yX5_refuse cX5_refuse 1 ({ frames := 6, cells := 1, slots := 6, locals := 90 } : Room) G [.int (nI k)] σ (fun σ2 => k = 0 ∧ σ2 = σ) (fun E σ2 => σ2 = σ ∧ k ≠ 0 ∧ E = exN k) := by
  refine Xv_of hst rfl (by decide +kernel) (lo := [(0, .int (nI k))]) rfl (Nat.le_of_ble_eq_true rfl) ?_
  intro x Q hxl h hX hret thI thS thO hout
  subst hxl
  refine r_iload_n (pc := 0) h 0 rfl rfl dX5_refuse_0 ?_
  refine r_iconst (pc := 1) (v := nI 1) h (by decide) dX5_refuse_1 ?_
  refine r_icmp_ne (pc := 2) (tgt := 15) h (by decide) dX5_refuse_2 (fun c2 => ?_) (fun c2 => ?_)
  · skip
    rw [nI_eq (by omega) (by omega)] at c2
    refine r_iload_n (pc := 15) h 0 rfl rfl dX5_refuse_15 ?_
    refine r_iconst (pc := 16) (v := nI 2) h (by decide) dX5_refuse_16 ?_
    refine r_icmp_ne (pc := 17) (tgt := 30) h (by decide) dX5_refuse_17 (fun c17 => ?_) (fun c17 => ?_)
    · skip
      rw [nI_eq (by omega) (by omega)] at c17
      refine r_iload_n (pc := 30) h 0 rfl rfl dX5_refuse_30 ?_
      refine r_iconst (pc := 31) (v := nI 3) h (by decide) dX5_refuse_31 ?_
      refine r_icmp_ne (pc := 32) (tgt := 45) h (by decide) dX5_refuse_32 (fun c32 => ?_) (fun c32 => ?_)
      · skip
        rw [nI_eq (by omega) (by omega)] at c32
        exact V.wd (by decide) (by decide) (hret _ (⟨by omega, rfl⟩) 45 _ dX5_refuse_45)
      · skip
        rw [nI_eq (by omega) (by omega)] at c32
        exact thS _ (⟨rfl, by rw [c32]; decide, by rw [c32]; rfl⟩) 226 "this cannot be done now" (by decide) 35 _ _ _ _ dX5_refuse_35 dX5_refuse_38 dX5_refuse_39 dX5_refuse_41 dX5_refuse_44 ⟨by decide, by decide, by decide, by decide⟩
    · skip
      rw [nI_eq (by omega) (by omega)] at c17
      exact thI _ (⟨rfl, by rw [c17]; decide, by rw [c17]; rfl⟩) 223 "a number is out of range" (by decide) 20 _ _ _ _ dX5_refuse_20 dX5_refuse_23 dX5_refuse_24 dX5_refuse_26 dX5_refuse_29 ⟨by decide, by decide, by decide, by decide⟩
  · skip
    rw [nI_eq (by omega) (by omega)] at c2
    exact thO _ (⟨rfl, by rw [c2]; decide, by rw [c2]; rfl⟩) 218 "there is no such list or reader" (by decide) 5 _ _ _ _ dX5_refuse_5 dX5_refuse_8 dX5_refuse_9 dX5_refuse_11 dX5_refuse_14 ⟨by decide, by decide, by decide, by decide⟩

set_option maxRecDepth 100000 in
set_option maxHeartbeats 800000 in
theorem c_checkRange (l : Launch) (hst : l.stackTraces = false) (G : Gl) (σ : Sg) (u a b : Int32) : Xv l yX5_checkRange cX5_checkRange 3 ({ frames := 6, cells := 1, slots := 6, locals := 90 } : Room) G [.int u, .int a, .int b] σ (fun σ2 => inB a b u = true ∧ σ2 = σ) (fun E σ2 => σ2 = σ ∧ cB (inB a b u) 2 ≠ 0 ∧ E = exN (cB (inB a b u) 2)) := by
  refine Xv_of hst rfl (by decide +kernel) (lo := [(0, .int u), (1, .int a), (2, .int b)]) rfl (Nat.le_of_ble_eq_true rfl) ?_
  intro x Q hxl h hX hret thI thS thO hout
  subst hxl
  refine r_iload_n (pc := 0) h 0 rfl rfl dX5_checkRange_0 ?_
  refine r_iload_n (pc := 1) h 1 rfl rfl dX5_checkRange_1 ?_
  refine r_iload_n (pc := 2) h 2 rfl rfl dX5_checkRange_2 ?_
  refine r_cSi (pc := 3) (As := [.int u, .int a, .int b]) (st := []) h lk_RX5_228 (c_isWithin x.2.1 G σ u a b) (by decide) rfl rfl (by first | decide | exact Nat.le_of_ble_eq_true rfl) (by decide) dX5_checkRange_3 (fun r1 s2 q3 => ?_)
  rw [q3.1, q3.2]
  refine r_topi (b := zB (inB a b u)) rfl ?_
  refine r_if_ne (pc := 6) (tgt := 19) h (by decide) dX5_checkRange_6 (fun c6 => ?_) (fun c6 => ?_)
  · skip
    replace c6 := zB_n0.mp c6
    exact V.wd (by decide) (by decide) (hret _ (⟨c6, rfl⟩) 19 _ dX5_checkRange_19)
  · skip
    replace c6 := zB_0.mp c6
    exact thI _ (⟨rfl, pe_cB c6 (by decide) exN_2⟩) 223 "a number is out of range" (by decide) 9 _ _ _ _ dX5_checkRange_9 dX5_checkRange_12 dX5_checkRange_13 dX5_checkRange_15 dX5_checkRange_18 ⟨by decide, by decide, by decide, by decide⟩

set_option maxRecDepth 100000 in
set_option maxHeartbeats 800000 in
theorem c_checkList (l : Launch) (hst : l.stackTraces = false) (G : Gl) (σ : Sg) (A : Ab) (hr : RelB A σ 4) (u : Int32) : Xv l yX5_checkList cX5_checkList 2 ({ frames := 6, cells := 1, slots := 6, locals := 90 } : Room) G [.ref (G.2.1 + 0), .int u] σ (fun σ2 => liB A u = true ∧ σ2 = σ) (fun E σ2 => σ2 = σ ∧ cB (liB A u) 1 ≠ 0 ∧ E = exN (cB (liB A u) 1)) := by
  refine Xv_of hst rfl (by decide +kernel) (lo := [(0, .ref (G.2.1 + 0)), (1, .int u)]) rfl (Nat.le_of_ble_eq_true rfl) ?_
  intro x Q hxl h hX hret thI thS thO hout
  subst hxl
  refine r_aload_n (pc := 0) h 0 rfl rfl dX5_checkList_0 ?_
  refine g_5_state (pc := 1) h mw_1_17 dX5_checkList_1 ?_
  refine g_3_lists (pc := 4) blk_4 h mw_19_15 dX5_checkList_4 ?_
  refine r_iload_n (pc := 7) h 1 rfl rfl dX5_checkList_7 ?_
  refine r_cVi (pc := 8) (As := [.int u]) (st := []) h lk_RX5_232 (c_isList x.2.1 G σ 4 blk_4 u) (rc_1 blk_4) (by decide) rfl rfl (by first | decide | exact Nat.le_of_ble_eq_true rfl) (by decide) dX5_checkList_8 (fun r1 s2 q3 => ?_)
  rw [q3.1, q3.2]
  refine r_topi (b := zB (liB A u)) (liB_at hr.1) ?_
  refine r_if_ne (pc := 11) (tgt := 24) h (by decide) dX5_checkList_11 (fun c11 => ?_) (fun c11 => ?_)
  · skip
    replace c11 := zB_n0.mp c11
    exact V.wd (by decide) (by decide) (hret _ (⟨c11, rfl⟩) 24 _ dX5_checkList_24)
  · skip
    replace c11 := zB_0.mp c11
    exact thO _ (⟨rfl, pe_cB c11 (by decide) exN_1⟩) 236 "there is no such list" (by decide) 14 _ _ _ _ dX5_checkList_14 dX5_checkList_17 dX5_checkList_18 dX5_checkList_20 dX5_checkList_23 ⟨by decide, by decide, by decide, by decide⟩

set_option maxRecDepth 100000 in
set_option maxHeartbeats 800000 in
theorem c_checkReader (l : Launch) (hst : l.stackTraces = false) (G : Gl) (σ : Sg) (A : Ab) (hr : RelB A σ 4) (u : Int32) : Xv l yX5_checkReader cX5_checkReader 2 ({ frames := 6, cells := 1, slots := 6, locals := 90 } : Room) G [.ref (G.2.1 + 0), .int u] σ (fun σ2 => rdB A u = true ∧ σ2 = σ) (fun E σ2 => σ2 = σ ∧ cB (rdB A u) 1 ≠ 0 ∧ E = exN (cB (rdB A u) 1)) := by
  refine Xv_of hst rfl (by decide +kernel) (lo := [(0, .ref (G.2.1 + 0)), (1, .int u)]) rfl (Nat.le_of_ble_eq_true rfl) ?_
  intro x Q hxl h hX hret thI thS thO hout
  subst hxl
  refine r_aload_n (pc := 0) h 0 rfl rfl dX5_checkReader_0 ?_
  refine g_5_state (pc := 1) h mw_1_17 dX5_checkReader_1 ?_
  refine g_3_readers (pc := 4) blk_4 h mw_23_13 dX5_checkReader_4 ?_
  refine r_iload_n (pc := 7) h 1 rfl rfl dX5_checkReader_7 ?_
  refine r_cVi (pc := 8) (As := [.int u]) (st := []) h lk_RX5_238 (c_isReader x.2.1 G σ 4 blk_4 u) (rc_2 blk_4) (by decide) rfl rfl (by first | decide | exact Nat.le_of_ble_eq_true rfl) (by decide) dX5_checkReader_8 (fun r1 s2 q3 => ?_)
  rw [q3.1, q3.2]
  refine r_topi (b := zB (rdB A u)) (rdB_at hr.2.1) ?_
  refine r_if_ne (pc := 11) (tgt := 24) h (by decide) dX5_checkReader_11 (fun c11 => ?_) (fun c11 => ?_)
  · skip
    replace c11 := zB_n0.mp c11
    exact V.wd (by decide) (by decide) (hret _ (⟨c11, rfl⟩) 24 _ dX5_checkReader_24)
  · skip
    replace c11 := zB_0.mp c11
    exact thO _ (⟨rfl, pe_cB c11 (by decide) exN_1⟩) 241 "there is no such reader" (by decide) 14 _ _ _ _ dX5_checkReader_14 dX5_checkReader_17 dX5_checkReader_18 dX5_checkReader_20 dX5_checkReader_23 ⟨by decide, by decide, by decide, by decide⟩

set_option maxRecDepth 100000 in
set_option maxHeartbeats 800000 in
theorem c_checkPlace (l : Launch) (hst : l.stackTraces = false) (G : Gl) (σ : Sg) (u : Int32) : Xv l yX5_checkPlace cX5_checkPlace 1 ({ frames := 6, cells := 1, slots := 6, locals := 90 } : Room) G [.int u] σ (fun σ2 => decide (0 ≤ u) = true ∧ σ2 = σ) (fun E σ2 => σ2 = σ ∧ cB (decide (0 ≤ u)) 1 ≠ 0 ∧ E = exN (cB (decide (0 ≤ u)) 1)) := by
  refine Xv_of hst rfl (by decide +kernel) (lo := [(0, .int u)]) rfl (Nat.le_of_ble_eq_true rfl) ?_
  intro x Q hxl h hX hret thI thS thO hout
  subst hxl
  refine r_iload_n (pc := 0) h 0 rfl rfl dX5_checkPlace_0 ?_
  refine r_if_ge (pc := 1) (tgt := 14) h (by decide) dX5_checkPlace_1 (fun c1 => ?_) (fun c1 => ?_)
  · skip
    exact V.wd (by decide) (by decide) (hret _ (⟨decide_eq_true c1, rfl⟩) 14 _ dX5_checkPlace_14)
  · skip
    exact thO _ (⟨rfl, pe_cB (decide_eq_false c1) (by decide) exN_1⟩) 243 "there is no such place" (by decide) 4 _ _ _ _ dX5_checkPlace_4 dX5_checkPlace_7 dX5_checkPlace_8 dX5_checkPlace_10 dX5_checkPlace_13 ⟨by decide, by decide, by decide, by decide⟩

set_option maxRecDepth 100000 in
set_option maxHeartbeats 800000 in
theorem c_checkSlot (l : Launch) (hst : l.stackTraces = false) (G : Gl) (σ : Sg) (u : Int32) : Xv l yX5_checkSlot cX5_checkSlot 1 ({ frames := 6, cells := 1, slots := 6, locals := 90 } : Room) G [.int u] σ (fun σ2 => inB (nI 0) (nI 1) u = true ∧ σ2 = σ) (fun E σ2 => σ2 = σ ∧ cB (inB (nI 0) (nI 1) u) 1 ≠ 0 ∧ E = exN (cB (inB (nI 0) (nI 1) u) 1)) := by
  refine Xv_of hst rfl (by decide +kernel) (lo := [(0, .int u)]) rfl (Nat.le_of_ble_eq_true rfl) ?_
  intro x Q hxl h hX hret thI thS thO hout
  subst hxl
  refine r_iload_n (pc := 0) h 0 rfl rfl dX5_checkSlot_0 ?_
  refine r_iconst (pc := 1) (v := nI 0) h (by decide) dX5_checkSlot_1 ?_
  refine r_iconst (pc := 2) (v := nI 1) h (by decide) dX5_checkSlot_2 ?_
  refine r_cSi (pc := 3) (As := [.int u, .int (nI 0), .int (nI 1)]) (st := []) h lk_RX5_228 (c_isWithin x.2.1 G σ u (nI 0) (nI 1)) (by decide) rfl rfl (by first | decide | exact Nat.le_of_ble_eq_true rfl) (by decide) dX5_checkSlot_3 (fun r1 s2 q3 => ?_)
  rw [q3.1, q3.2]
  refine r_topi (b := zB (inB (nI 0) (nI 1) u)) rfl ?_
  refine r_if_ne (pc := 6) (tgt := 19) h (by decide) dX5_checkSlot_6 (fun c6 => ?_) (fun c6 => ?_)
  · skip
    replace c6 := zB_n0.mp c6
    exact V.wd (by decide) (by decide) (hret _ (⟨c6, rfl⟩) 19 _ dX5_checkSlot_19)
  · skip
    replace c6 := zB_0.mp c6
    exact thO _ (⟨rfl, pe_cB c6 (by decide) exN_1⟩) 245 "there is no such slot" (by decide) 9 _ _ _ _ dX5_checkSlot_9 dX5_checkSlot_12 dX5_checkSlot_13 dX5_checkSlot_15 dX5_checkSlot_18 ⟨by decide, by decide, by decide, by decide⟩

theorem act_inv {n : Nat} {tx : Nat → Nat} {A A2 : Ab} {m m2 : Nat} {H H2 : Nat → Ab} {sv : Nat → Bool} {sl : Nat → Ab} {σ σ1 σ2 : Sg} (hi : InvC n tx A m H sv sl σ) (k1 : HisC m2 H2 σ1) (k2 : Out 11 111 σ σ1) (e2 : Up A2 σ1 4 σ2) : InvC n tx A2 m2 H2 sv sl σ2 :=
  ⟨(hi.1.o k2 (by omega)).o e2.out (by omega), e2.rel, k1.o e2.out (by omega), (hi.2.2.2.o k2 (by omega)).o e2.out (by omega)⟩
set_option maxRecDepth 100000 in
set_option maxHeartbeats 800000 in
theorem c_act (l : Launch) (hst : l.stackTraces = false) (G : Gl) (σ : Sg) (n : Nat) (tx : Nat → Nat) (A : Ab) (m : Nat) (H : Nat → Ab) (sv : Nat → Bool) (sl : Nat → Ab) (hi : InvC n tx A m H sv sl σ) (K : Nat) (hK : K = 115 ∨ K = 120 ∨ K = 106 ∨ K = 104 ∨ K = 119 ∨ K = 118 ∨ K = 117 ∨ K = 101 ∨ K = 100 ∨ K = 114 ∨ K = 110 ∨ K = 107 ∨ K = 122 ∨ K = 113) (u1 u2 u3 : Int32) : Xi l yX5_act cX5_act 5 .int ({ frames := 7, cells := 1, slots := 6, locals := 123 } : Room) G [.ref (G.2.1 + 0), .int (nI K), .int u1, .int u2, .int u3] σ (fun r σ2 => ob A K u1 u2 u3 = 0 ∧ r = (co A K u1 u2 u3).1 ∧ InvC n tx ((co A K u1 u2 u3).2) (pushN m) (pushH m H A) sv sl σ2 ∧ Out 4 111 σ σ2) (fun E σ2 => σ2 = σ ∧ ob A K u1 u2 u3 ≠ 0 ∧ E = exN (ob A K u1 u2 u3)) := by
  refine Xi_of hst rfl (by decide +kernel) (lo := [(0, .ref (G.2.1 + 0)), (1, .int (nI K)), (2, .int u1), (3, .int u2), (4, .int u3)]) rfl (Nat.le_of_ble_eq_true rfl) (fun r s hp => rfl) ?_
  intro x Q hxl h hX hret thI thS thO hout
  subst hxl
  have hr := hi.2.1
  have hN12 := hr.1.1
  have hR4 := hr.2.1.1
  have hob := ob_le A K u1 u2 u3
  refine r_aload_n (pc := 0) h 0 rfl rfl dX5_act_0 ?_
  refine g_5_state (pc := 1) h mw_1_17 dX5_act_1 ?_
  refine r_iload_n (pc := 4) h 1 rfl rfl dX5_act_4 ?_
  refine r_iload_n (pc := 5) h 2 rfl rfl dX5_act_5 ?_
  refine r_iload_n (pc := 6) h 3 rfl rfl dX5_act_6 ?_
  refine r_iload (pc := 7) h 4 rfl dX5_act_7 ?_
  refine r_cVi (pc := 9) (As := [.int (nI K), .int u1, .int u2, .int u3]) (st := []) h lk_RX5_180 (c_objection x.2.1 G σ 4 blk_4 A hr K hK u1 u2 u3) (rc_3 blk_4) (by decide) rfl rfl (by first | decide | exact Nat.le_of_ble_eq_true rfl) (by decide) dX5_act_9 (fun r1 s2 q3 => ?_)
  rw [q3.1, q3.2]
  refine r_xSv (pc := 12) (As := [.int (nI (ob A K u1 u2 u3))]) (st := []) h hX lk_RX5_183 (c_refuse x.2.1 hst G σ (ob A K u1 u2 u3) (by omega)) (by decide) rfl rfl (by first | decide | exact Nat.le_of_ble_eq_true rfl) (by decide) dX5_act_12 (fun E s9 hp => hout E s9 (⟨hp.1, hp.2⟩) 12 _ _ _ _ ⟨by decide, by decide⟩) (fun s5 q6 => ?_)
  obtain ⟨z12, e12⟩ := q6
  rw [e12]
  refine r_aload_n (pc := 15) h 0 rfl rfl dX5_act_15 ?_
  refine g_5_history (pc := 16) h mw_1_21 dX5_act_16 ?_
  refine r_aload_n (pc := 19) h 0 rfl rfl dX5_act_19 ?_
  refine g_5_state (pc := 20) h mw_1_17 dX5_act_20 ?_
  refine r_cVv (pc := 23) (As := [.ref (G.2.1 + 4)]) (st := []) h lk_RX5_186 (c_remember x.2.1 G σ A hr m H hi.2.2.1) rc_0 (by decide) rfl rfl (by first | decide | exact Nat.le_of_ble_eq_true rfl) (by decide) dX5_act_23 (fun s8 q9 => ?_)
  obtain ⟨k1, k2⟩ := q9
  refine r_aload_n (pc := 26) h 0 rfl rfl dX5_act_26 ?_
  refine g_5_state (pc := 27) h mw_1_17 dX5_act_27 ?_
  refine r_iload_n (pc := 30) h 1 rfl rfl dX5_act_30 ?_
  refine r_iload_n (pc := 31) h 2 rfl rfl dX5_act_31 ?_
  refine r_iload_n (pc := 32) h 3 rfl rfl dX5_act_32 ?_
  refine r_iload (pc := 33) h 4 rfl dX5_act_33 ?_
  refine r_cVi (pc := 35) (As := [.int (nI K), .int u1, .int u2, .int u3]) (st := []) h lk_RX5_189 (c_carryOut x.2.1 G s8 4 blk_4 A (hr.o k2 (by omega)) K hK u1 u2 u3 z12) (rc_3 blk_4) (by decide) rfl rfl (by first | decide | exact Nat.le_of_ble_eq_true rfl) (by decide) dX5_act_35 (fun r10 s11 q12 => ?_)
  obtain ⟨e1, e2⟩ := q12
  subst e1
  exact V.wd (by decide) (by decide) (hret _ _ (⟨z12, rfl, act_inv hi k1 k2 e2, (k2.wd (by omega) (by omega)).tr (e2.out.wd (by omega) (by omega))⟩) 38 _ dX5_act_38)

set_option maxRecDepth 100000 in
set_option maxHeartbeats 800000 in
theorem c_x_makeSteps (l : Launch) (hst : l.stackTraces = false) (G : Gl) (σ : Sg) (n : Nat) (tx : Nat → Nat) (A : Ab) (m : Nat) (H : Nat → Ab) (sv : Nat → Bool) (sl : Nat → Ab) (hi : InvC n tx A m H sv sl σ) (u1 : Int32) (u2 : Int32) : Xi l yX5_makeSteps cX5_makeSteps 3 .int ({ frames := 8, cells := 1, slots := 6, locals := 147 } : Room) G [.ref (G.2.1 + 0), .int u1, .int u2] σ (fun r σ2 => ob A 115 u1 u2 (nI 0) = 0 ∧ r = (co A 115 u1 u2 (nI 0)).1 ∧ InvC n tx ((co A 115 u1 u2 (nI 0)).2) (pushN m) (pushH m H A) sv sl σ2 ∧ Out 4 111 σ σ2) (fun E σ2 => σ2 = σ ∧ ob A 115 u1 u2 (nI 0) ≠ 0 ∧ E = exN (ob A 115 u1 u2 (nI 0))) := by
  refine Xi_of hst rfl (by decide +kernel) (lo := [(0, .ref (G.2.1 + 0)), (1, .int u1), (2, .int u2)]) rfl (Nat.le_of_ble_eq_true rfl) (fun r s hp => rfl) ?_
  intro x Q hxl h hX hret thI thS thO hout
  subst hxl
  refine r_aload_n (pc := 0) h 0 rfl rfl dX5_makeSteps_0 ?_
  refine r_bipush (pc := 1) (v := nI 115) h (by decide) dX5_makeSteps_1 ?_
  refine r_iload_n (pc := 3) h 1 rfl rfl dX5_makeSteps_3 ?_
  refine r_iload_n (pc := 4) h 2 rfl rfl dX5_makeSteps_4 ?_
  refine r_iconst (pc := 5) (v := nI 0) h (by decide) dX5_makeSteps_5 ?_
  refine r_xVi (pc := 6) (As := [.int (nI 115), .int u1, .int u2, .int (nI 0)]) (st := []) h hX lk_RX5_75 (c_act x.2.1 hst G σ n tx A m H sv sl hi 115 (by decide) u1 u2 (nI 0)) rc_5 (by decide) rfl rfl (by first | decide | exact Nat.le_of_ble_eq_true rfl) (by decide) dX5_makeSteps_6 (fun E s9 hp => hout E s9 (hp) 6 _ _ _ _ ⟨by decide, by decide⟩) (fun r1 s2 q3 => ?_)
  obtain ⟨k0, k1, k2⟩ := q3
  subst k1
  exact V.wd (by decide) (by decide) (hret _ _ (⟨k0, rfl, k2⟩) 9 _ dX5_makeSteps_9)

set_option maxRecDepth 100000 in
set_option maxHeartbeats 800000 in
theorem c_x_makeScaled (l : Launch) (hst : l.stackTraces = false) (G : Gl) (σ : Sg) (n : Nat) (tx : Nat → Nat) (A : Ab) (m : Nat) (H : Nat → Ab) (sv : Nat → Bool) (sl : Nat → Ab) (hi : InvC n tx A m H sv sl σ) (u1 : Int32) (u2 : Int32) (u3 : Int32) : Xi l yX5_makeScaled cX5_makeScaled 4 .int ({ frames := 8, cells := 1, slots := 6, locals := 147 } : Room) G [.ref (G.2.1 + 0), .int u1, .int u2, .int u3] σ (fun r σ2 => ob A 120 u1 u2 u3 = 0 ∧ r = (co A 120 u1 u2 u3).1 ∧ InvC n tx ((co A 120 u1 u2 u3).2) (pushN m) (pushH m H A) sv sl σ2 ∧ Out 4 111 σ σ2) (fun E σ2 => σ2 = σ ∧ ob A 120 u1 u2 u3 ≠ 0 ∧ E = exN (ob A 120 u1 u2 u3)) := by
  refine Xi_of hst rfl (by decide +kernel) (lo := [(0, .ref (G.2.1 + 0)), (1, .int u1), (2, .int u2), (3, .int u3)]) rfl (Nat.le_of_ble_eq_true rfl) (fun r s hp => rfl) ?_
  intro x Q hxl h hX hret thI thS thO hout
  subst hxl
  refine r_aload_n (pc := 0) h 0 rfl rfl dX5_makeScaled_0 ?_
  refine r_bipush (pc := 1) (v := nI 120) h (by decide) dX5_makeScaled_1 ?_
  refine r_iload_n (pc := 3) h 1 rfl rfl dX5_makeScaled_3 ?_
  refine r_iload_n (pc := 4) h 2 rfl rfl dX5_makeScaled_4 ?_
  refine r_iload_n (pc := 5) h 3 rfl rfl dX5_makeScaled_5 ?_
  refine r_xVi (pc := 6) (As := [.int (nI 120), .int u1, .int u2, .int u3]) (st := []) h hX lk_RX5_75 (c_act x.2.1 hst G σ n tx A m H sv sl hi 120 (by decide) u1 u2 u3) rc_5 (by decide) rfl rfl (by first | decide | exact Nat.le_of_ble_eq_true rfl) (by decide) dX5_makeScaled_6 (fun E s9 hp => hout E s9 (hp) 6 _ _ _ _ ⟨by decide, by decide⟩) (fun r1 s2 q3 => ?_)
  obtain ⟨k0, k1, k2⟩ := q3
  subst k1
  exact V.wd (by decide) (by decide) (hret _ _ (⟨k0, rfl, k2⟩) 9 _ dX5_makeScaled_9)

set_option maxRecDepth 100000 in
set_option maxHeartbeats 800000 in
theorem c_x_makeJoined (l : Launch) (hst : l.stackTraces = false) (G : Gl) (σ : Sg) (n : Nat) (tx : Nat → Nat) (A : Ab) (m : Nat) (H : Nat → Ab) (sv : Nat → Bool) (sl : Nat → Ab) (hi : InvC n tx A m H sv sl σ) (u1 : Int32) (u2 : Int32) : Xi l yX5_makeJoined cX5_makeJoined 3 .int ({ frames := 8, cells := 1, slots := 6, locals := 147 } : Room) G [.ref (G.2.1 + 0), .int u1, .int u2] σ (fun r σ2 => ob A 106 u1 u2 (nI 0) = 0 ∧ r = (co A 106 u1 u2 (nI 0)).1 ∧ InvC n tx ((co A 106 u1 u2 (nI 0)).2) (pushN m) (pushH m H A) sv sl σ2 ∧ Out 4 111 σ σ2) (fun E σ2 => σ2 = σ ∧ ob A 106 u1 u2 (nI 0) ≠ 0 ∧ E = exN (ob A 106 u1 u2 (nI 0))) := by
  refine Xi_of hst rfl (by decide +kernel) (lo := [(0, .ref (G.2.1 + 0)), (1, .int u1), (2, .int u2)]) rfl (Nat.le_of_ble_eq_true rfl) (fun r s hp => rfl) ?_
  intro x Q hxl h hX hret thI thS thO hout
  subst hxl
  refine r_aload_n (pc := 0) h 0 rfl rfl dX5_makeJoined_0 ?_
  refine r_bipush (pc := 1) (v := nI 106) h (by decide) dX5_makeJoined_1 ?_
  refine r_iload_n (pc := 3) h 1 rfl rfl dX5_makeJoined_3 ?_
  refine r_iload_n (pc := 4) h 2 rfl rfl dX5_makeJoined_4 ?_
  refine r_iconst (pc := 5) (v := nI 0) h (by decide) dX5_makeJoined_5 ?_
  refine r_xVi (pc := 6) (As := [.int (nI 106), .int u1, .int u2, .int (nI 0)]) (st := []) h hX lk_RX5_75 (c_act x.2.1 hst G σ n tx A m H sv sl hi 106 (by decide) u1 u2 (nI 0)) rc_5 (by decide) rfl rfl (by first | decide | exact Nat.le_of_ble_eq_true rfl) (by decide) dX5_makeJoined_6 (fun E s9 hp => hout E s9 (hp) 6 _ _ _ _ ⟨by decide, by decide⟩) (fun r1 s2 q3 => ?_)
  obtain ⟨k0, k1, k2⟩ := q3
  subst k1
  exact V.wd (by decide) (by decide) (hret _ _ (⟨k0, rfl, k2⟩) 9 _ dX5_makeJoined_9)

set_option maxRecDepth 100000 in
set_option maxHeartbeats 800000 in
theorem c_x_makeShared (l : Launch) (hst : l.stackTraces = false) (G : Gl) (σ : Sg) (n : Nat) (tx : Nat → Nat) (A : Ab) (m : Nat) (H : Nat → Ab) (sv : Nat → Bool) (sl : Nat → Ab) (hi : InvC n tx A m H sv sl σ) (u1 : Int32) (u2 : Int32) : Xi l yX5_makeShared cX5_makeShared 3 .int ({ frames := 8, cells := 1, slots := 6, locals := 147 } : Room) G [.ref (G.2.1 + 0), .int u1, .int u2] σ (fun r σ2 => ob A 104 u1 u2 (nI 0) = 0 ∧ r = (co A 104 u1 u2 (nI 0)).1 ∧ InvC n tx ((co A 104 u1 u2 (nI 0)).2) (pushN m) (pushH m H A) sv sl σ2 ∧ Out 4 111 σ σ2) (fun E σ2 => σ2 = σ ∧ ob A 104 u1 u2 (nI 0) ≠ 0 ∧ E = exN (ob A 104 u1 u2 (nI 0))) := by
  refine Xi_of hst rfl (by decide +kernel) (lo := [(0, .ref (G.2.1 + 0)), (1, .int u1), (2, .int u2)]) rfl (Nat.le_of_ble_eq_true rfl) (fun r s hp => rfl) ?_
  intro x Q hxl h hX hret thI thS thO hout
  subst hxl
  refine r_aload_n (pc := 0) h 0 rfl rfl dX5_makeShared_0 ?_
  refine r_bipush (pc := 1) (v := nI 104) h (by decide) dX5_makeShared_1 ?_
  refine r_iload_n (pc := 3) h 1 rfl rfl dX5_makeShared_3 ?_
  refine r_iload_n (pc := 4) h 2 rfl rfl dX5_makeShared_4 ?_
  refine r_iconst (pc := 5) (v := nI 0) h (by decide) dX5_makeShared_5 ?_
  refine r_xVi (pc := 6) (As := [.int (nI 104), .int u1, .int u2, .int (nI 0)]) (st := []) h hX lk_RX5_75 (c_act x.2.1 hst G σ n tx A m H sv sl hi 104 (by decide) u1 u2 (nI 0)) rc_5 (by decide) rfl rfl (by first | decide | exact Nat.le_of_ble_eq_true rfl) (by decide) dX5_makeShared_6 (fun E s9 hp => hout E s9 (hp) 6 _ _ _ _ ⟨by decide, by decide⟩) (fun r1 s2 q3 => ?_)
  obtain ⟨k0, k1, k2⟩ := q3
  subst k1
  exact V.wd (by decide) (by decide) (hret _ _ (⟨k0, rfl, k2⟩) 9 _ dX5_makeShared_9)

set_option maxRecDepth 100000 in
set_option maxHeartbeats 800000 in
theorem c_x_makeWithout (l : Launch) (hst : l.stackTraces = false) (G : Gl) (σ : Sg) (n : Nat) (tx : Nat → Nat) (A : Ab) (m : Nat) (H : Nat → Ab) (sv : Nat → Bool) (sl : Nat → Ab) (hi : InvC n tx A m H sv sl σ) (u1 : Int32) (u2 : Int32) : Xi l yX5_makeWithout cX5_makeWithout 3 .int ({ frames := 8, cells := 1, slots := 6, locals := 147 } : Room) G [.ref (G.2.1 + 0), .int u1, .int u2] σ (fun r σ2 => ob A 119 u1 u2 (nI 0) = 0 ∧ r = (co A 119 u1 u2 (nI 0)).1 ∧ InvC n tx ((co A 119 u1 u2 (nI 0)).2) (pushN m) (pushH m H A) sv sl σ2 ∧ Out 4 111 σ σ2) (fun E σ2 => σ2 = σ ∧ ob A 119 u1 u2 (nI 0) ≠ 0 ∧ E = exN (ob A 119 u1 u2 (nI 0))) := by
  refine Xi_of hst rfl (by decide +kernel) (lo := [(0, .ref (G.2.1 + 0)), (1, .int u1), (2, .int u2)]) rfl (Nat.le_of_ble_eq_true rfl) (fun r s hp => rfl) ?_
  intro x Q hxl h hX hret thI thS thO hout
  subst hxl
  refine r_aload_n (pc := 0) h 0 rfl rfl dX5_makeWithout_0 ?_
  refine r_bipush (pc := 1) (v := nI 119) h (by decide) dX5_makeWithout_1 ?_
  refine r_iload_n (pc := 3) h 1 rfl rfl dX5_makeWithout_3 ?_
  refine r_iload_n (pc := 4) h 2 rfl rfl dX5_makeWithout_4 ?_
  refine r_iconst (pc := 5) (v := nI 0) h (by decide) dX5_makeWithout_5 ?_
  refine r_xVi (pc := 6) (As := [.int (nI 119), .int u1, .int u2, .int (nI 0)]) (st := []) h hX lk_RX5_75 (c_act x.2.1 hst G σ n tx A m H sv sl hi 119 (by decide) u1 u2 (nI 0)) rc_5 (by decide) rfl rfl (by first | decide | exact Nat.le_of_ble_eq_true rfl) (by decide) dX5_makeWithout_6 (fun E s9 hp => hout E s9 (hp) 6 _ _ _ _ ⟨by decide, by decide⟩) (fun r1 s2 q3 => ?_)
  obtain ⟨k0, k1, k2⟩ := q3
  subst k1
  exact V.wd (by decide) (by decide) (hret _ _ (⟨k0, rfl, k2⟩) 9 _ dX5_makeWithout_9)

set_option maxRecDepth 100000 in
set_option maxHeartbeats 800000 in
theorem c_x_makeSieved (l : Launch) (hst : l.stackTraces = false) (G : Gl) (σ : Sg) (n : Nat) (tx : Nat → Nat) (A : Ab) (m : Nat) (H : Nat → Ab) (sv : Nat → Bool) (sl : Nat → Ab) (hi : InvC n tx A m H sv sl σ) (u1 : Int32) : Xi l yX5_makeSieved cX5_makeSieved 2 .int ({ frames := 8, cells := 1, slots := 6, locals := 147 } : Room) G [.ref (G.2.1 + 0), .int u1] σ (fun r σ2 => ob A 118 u1 (nI 0) (nI 0) = 0 ∧ r = (co A 118 u1 (nI 0) (nI 0)).1 ∧ InvC n tx ((co A 118 u1 (nI 0) (nI 0)).2) (pushN m) (pushH m H A) sv sl σ2 ∧ Out 4 111 σ σ2) (fun E σ2 => σ2 = σ ∧ ob A 118 u1 (nI 0) (nI 0) ≠ 0 ∧ E = exN (ob A 118 u1 (nI 0) (nI 0))) := by
  refine Xi_of hst rfl (by decide +kernel) (lo := [(0, .ref (G.2.1 + 0)), (1, .int u1)]) rfl (Nat.le_of_ble_eq_true rfl) (fun r s hp => rfl) ?_
  intro x Q hxl h hX hret thI thS thO hout
  subst hxl
  refine r_aload_n (pc := 0) h 0 rfl rfl dX5_makeSieved_0 ?_
  refine r_bipush (pc := 1) (v := nI 118) h (by decide) dX5_makeSieved_1 ?_
  refine r_iload_n (pc := 3) h 1 rfl rfl dX5_makeSieved_3 ?_
  refine r_iconst (pc := 4) (v := nI 0) h (by decide) dX5_makeSieved_4 ?_
  refine r_iconst (pc := 5) (v := nI 0) h (by decide) dX5_makeSieved_5 ?_
  refine r_xVi (pc := 6) (As := [.int (nI 118), .int u1, .int (nI 0), .int (nI 0)]) (st := []) h hX lk_RX5_75 (c_act x.2.1 hst G σ n tx A m H sv sl hi 118 (by decide) u1 (nI 0) (nI 0)) rc_5 (by decide) rfl rfl (by first | decide | exact Nat.le_of_ble_eq_true rfl) (by decide) dX5_makeSieved_6 (fun E s9 hp => hout E s9 (hp) 6 _ _ _ _ ⟨by decide, by decide⟩) (fun r1 s2 q3 => ?_)
  obtain ⟨k0, k1, k2⟩ := q3
  subst k1
  exact V.wd (by decide) (by decide) (hret _ _ (⟨k0, rfl, k2⟩) 9 _ dX5_makeSieved_9)

set_option maxRecDepth 100000 in
set_option maxHeartbeats 800000 in
theorem c_x_makeThinned (l : Launch) (hst : l.stackTraces = false) (G : Gl) (σ : Sg) (n : Nat) (tx : Nat → Nat) (A : Ab) (m : Nat) (H : Nat → Ab) (sv : Nat → Bool) (sl : Nat → Ab) (hi : InvC n tx A m H sv sl σ) (u1 : Int32) (u2 : Int32) : Xi l yX5_makeThinned cX5_makeThinned 3 .int ({ frames := 8, cells := 1, slots := 6, locals := 147 } : Room) G [.ref (G.2.1 + 0), .int u1, .int u2] σ (fun r σ2 => ob A 101 u1 u2 (nI 0) = 0 ∧ r = (co A 101 u1 u2 (nI 0)).1 ∧ InvC n tx ((co A 101 u1 u2 (nI 0)).2) (pushN m) (pushH m H A) sv sl σ2 ∧ Out 4 111 σ σ2) (fun E σ2 => σ2 = σ ∧ ob A 101 u1 u2 (nI 0) ≠ 0 ∧ E = exN (ob A 101 u1 u2 (nI 0))) := by
  refine Xi_of hst rfl (by decide +kernel) (lo := [(0, .ref (G.2.1 + 0)), (1, .int u1), (2, .int u2)]) rfl (Nat.le_of_ble_eq_true rfl) (fun r s hp => rfl) ?_
  intro x Q hxl h hX hret thI thS thO hout
  subst hxl
  refine r_aload_n (pc := 0) h 0 rfl rfl dX5_makeThinned_0 ?_
  refine r_bipush (pc := 1) (v := nI 101) h (by decide) dX5_makeThinned_1 ?_
  refine r_iload_n (pc := 3) h 1 rfl rfl dX5_makeThinned_3 ?_
  refine r_iload_n (pc := 4) h 2 rfl rfl dX5_makeThinned_4 ?_
  refine r_iconst (pc := 5) (v := nI 0) h (by decide) dX5_makeThinned_5 ?_
  refine r_xVi (pc := 6) (As := [.int (nI 101), .int u1, .int u2, .int (nI 0)]) (st := []) h hX lk_RX5_75 (c_act x.2.1 hst G σ n tx A m H sv sl hi 101 (by decide) u1 u2 (nI 0)) rc_5 (by decide) rfl rfl (by first | decide | exact Nat.le_of_ble_eq_true rfl) (by decide) dX5_makeThinned_6 (fun E s9 hp => hout E s9 (hp) 6 _ _ _ _ ⟨by decide, by decide⟩) (fun r1 s2 q3 => ?_)
  obtain ⟨k0, k1, k2⟩ := q3
  subst k1
  exact V.wd (by decide) (by decide) (hret _ _ (⟨k0, rfl, k2⟩) 9 _ dX5_makeThinned_9)

set_option maxRecDepth 100000 in
set_option maxHeartbeats 800000 in
theorem c_x_makeAddedUp (l : Launch) (hst : l.stackTraces = false) (G : Gl) (σ : Sg) (n : Nat) (tx : Nat → Nat) (A : Ab) (m : Nat) (H : Nat → Ab) (sv : Nat → Bool) (sl : Nat → Ab) (hi : InvC n tx A m H sv sl σ) (u1 : Int32) : Xi l yX5_makeAddedUp cX5_makeAddedUp 2 .int ({ frames := 8, cells := 1, slots := 6, locals := 147 } : Room) G [.ref (G.2.1 + 0), .int u1] σ (fun r σ2 => ob A 117 u1 (nI 0) (nI 0) = 0 ∧ r = (co A 117 u1 (nI 0) (nI 0)).1 ∧ InvC n tx ((co A 117 u1 (nI 0) (nI 0)).2) (pushN m) (pushH m H A) sv sl σ2 ∧ Out 4 111 σ σ2) (fun E σ2 => σ2 = σ ∧ ob A 117 u1 (nI 0) (nI 0) ≠ 0 ∧ E = exN (ob A 117 u1 (nI 0) (nI 0))) := by
  refine Xi_of hst rfl (by decide +kernel) (lo := [(0, .ref (G.2.1 + 0)), (1, .int u1)]) rfl (Nat.le_of_ble_eq_true rfl) (fun r s hp => rfl) ?_
  intro x Q hxl h hX hret thI thS thO hout
  subst hxl
  refine r_aload_n (pc := 0) h 0 rfl rfl dX5_makeAddedUp_0 ?_
  refine r_bipush (pc := 1) (v := nI 117) h (by decide) dX5_makeAddedUp_1 ?_
  refine r_iload_n (pc := 3) h 1 rfl rfl dX5_makeAddedUp_3 ?_
  refine r_iconst (pc := 4) (v := nI 0) h (by decide) dX5_makeAddedUp_4 ?_
  refine r_iconst (pc := 5) (v := nI 0) h (by decide) dX5_makeAddedUp_5 ?_
  refine r_xVi (pc := 6) (As := [.int (nI 117), .int u1, .int (nI 0), .int (nI 0)]) (st := []) h hX lk_RX5_75 (c_act x.2.1 hst G σ n tx A m H sv sl hi 117 (by decide) u1 (nI 0) (nI 0)) rc_5 (by decide) rfl rfl (by first | decide | exact Nat.le_of_ble_eq_true rfl) (by decide) dX5_makeAddedUp_6 (fun E s9 hp => hout E s9 (hp) 6 _ _ _ _ ⟨by decide, by decide⟩) (fun r1 s2 q3 => ?_)
  obtain ⟨k0, k1, k2⟩ := q3
  subst k1
  exact V.wd (by decide) (by decide) (hret _ _ (⟨k0, rfl, k2⟩) 9 _ dX5_makeAddedUp_9)

set_option maxRecDepth 100000 in
set_option maxHeartbeats 800000 in
theorem c_x_dropLast (l : Launch) (hst : l.stackTraces = false) (G : Gl) (σ : Sg) (n : Nat) (tx : Nat → Nat) (A : Ab) (m : Nat) (H : Nat → Ab) (sv : Nat → Bool) (sl : Nat → Ab) (hi : InvC n tx A m H sv sl σ) : Xi l yX5_dropLast cX5_dropLast 1 .int ({ frames := 8, cells := 1, slots := 6, locals := 147 } : Room) G [.ref (G.2.1 + 0)] σ (fun r σ2 => ob A 100 (nI 0) (nI 0) (nI 0) = 0 ∧ r = (co A 100 (nI 0) (nI 0) (nI 0)).1 ∧ InvC n tx ((co A 100 (nI 0) (nI 0) (nI 0)).2) (pushN m) (pushH m H A) sv sl σ2 ∧ Out 4 111 σ σ2) (fun E σ2 => σ2 = σ ∧ ob A 100 (nI 0) (nI 0) (nI 0) ≠ 0 ∧ E = exN (ob A 100 (nI 0) (nI 0) (nI 0))) := by
  refine Xi_of hst rfl (by decide +kernel) (lo := [(0, .ref (G.2.1 + 0))]) rfl (Nat.le_of_ble_eq_true rfl) (fun r s hp => rfl) ?_
  intro x Q hxl h hX hret thI thS thO hout
  subst hxl
  refine r_aload_n (pc := 0) h 0 rfl rfl dX5_dropLast_0 ?_
  refine r_bipush (pc := 1) (v := nI 100) h (by decide) dX5_dropLast_1 ?_
  refine r_iconst (pc := 3) (v := nI 0) h (by decide) dX5_dropLast_3 ?_
  refine r_iconst (pc := 4) (v := nI 0) h (by decide) dX5_dropLast_4 ?_
  refine r_iconst (pc := 5) (v := nI 0) h (by decide) dX5_dropLast_5 ?_
  refine r_xVi (pc := 6) (As := [.int (nI 100), .int (nI 0), .int (nI 0), .int (nI 0)]) (st := []) h hX lk_RX5_75 (c_act x.2.1 hst G σ n tx A m H sv sl hi 100 (by decide) (nI 0) (nI 0) (nI 0)) rc_5 (by decide) rfl rfl (by first | decide | exact Nat.le_of_ble_eq_true rfl) (by decide) dX5_dropLast_6 (fun E s9 hp => hout E s9 (hp) 6 _ _ _ _ ⟨by decide, by decide⟩) (fun r1 s2 q3 => ?_)
  obtain ⟨k0, k1, k2⟩ := q3
  subst k1
  exact V.wd (by decide) (by decide) (hret _ _ (⟨k0, rfl, k2⟩) 9 _ dX5_dropLast_9)

set_option maxRecDepth 100000 in
set_option maxHeartbeats 800000 in
theorem c_x_beginReading (l : Launch) (hst : l.stackTraces = false) (G : Gl) (σ : Sg) (n : Nat) (tx : Nat → Nat) (A : Ab) (m : Nat) (H : Nat → Ab) (sv : Nat → Bool) (sl : Nat → Ab) (hi : InvC n tx A m H sv sl σ) (u1 : Int32) : Xi l yX5_beginReading cX5_beginReading 2 .int ({ frames := 8, cells := 1, slots := 6, locals := 147 } : Room) G [.ref (G.2.1 + 0), .int u1] σ (fun r σ2 => ob A 114 u1 (nI 0) (nI 0) = 0 ∧ r = (co A 114 u1 (nI 0) (nI 0)).1 ∧ InvC n tx ((co A 114 u1 (nI 0) (nI 0)).2) (pushN m) (pushH m H A) sv sl σ2 ∧ Out 4 111 σ σ2) (fun E σ2 => σ2 = σ ∧ ob A 114 u1 (nI 0) (nI 0) ≠ 0 ∧ E = exN (ob A 114 u1 (nI 0) (nI 0))) := by
  refine Xi_of hst rfl (by decide +kernel) (lo := [(0, .ref (G.2.1 + 0)), (1, .int u1)]) rfl (Nat.le_of_ble_eq_true rfl) (fun r s hp => rfl) ?_
  intro x Q hxl h hX hret thI thS thO hout
  subst hxl
  refine r_aload_n (pc := 0) h 0 rfl rfl dX5_beginReading_0 ?_
  refine r_bipush (pc := 1) (v := nI 114) h (by decide) dX5_beginReading_1 ?_
  refine r_iload_n (pc := 3) h 1 rfl rfl dX5_beginReading_3 ?_
  refine r_iconst (pc := 4) (v := nI 0) h (by decide) dX5_beginReading_4 ?_
  refine r_iconst (pc := 5) (v := nI 0) h (by decide) dX5_beginReading_5 ?_
  refine r_xVi (pc := 6) (As := [.int (nI 114), .int u1, .int (nI 0), .int (nI 0)]) (st := []) h hX lk_RX5_75 (c_act x.2.1 hst G σ n tx A m H sv sl hi 114 (by decide) u1 (nI 0) (nI 0)) rc_5 (by decide) rfl rfl (by first | decide | exact Nat.le_of_ble_eq_true rfl) (by decide) dX5_beginReading_6 (fun E s9 hp => hout E s9 (hp) 6 _ _ _ _ ⟨by decide, by decide⟩) (fun r1 s2 q3 => ?_)
  obtain ⟨k0, k1, k2⟩ := q3
  subst k1
  exact V.wd (by decide) (by decide) (hret _ _ (⟨k0, rfl, k2⟩) 9 _ dX5_beginReading_9)

set_option maxRecDepth 100000 in
set_option maxHeartbeats 800000 in
theorem c_x_read (l : Launch) (hst : l.stackTraces = false) (G : Gl) (σ : Sg) (n : Nat) (tx : Nat → Nat) (A : Ab) (m : Nat) (H : Nat → Ab) (sv : Nat → Bool) (sl : Nat → Ab) (hi : InvC n tx A m H sv sl σ) (u1 : Int32) : Xi l yX5_read cX5_read 2 .int ({ frames := 8, cells := 1, slots := 6, locals := 147 } : Room) G [.ref (G.2.1 + 0), .int u1] σ (fun r σ2 => ob A 110 u1 (nI 0) (nI 0) = 0 ∧ r = (co A 110 u1 (nI 0) (nI 0)).1 ∧ InvC n tx ((co A 110 u1 (nI 0) (nI 0)).2) (pushN m) (pushH m H A) sv sl σ2 ∧ Out 4 111 σ σ2) (fun E σ2 => σ2 = σ ∧ ob A 110 u1 (nI 0) (nI 0) ≠ 0 ∧ E = exN (ob A 110 u1 (nI 0) (nI 0))) := by
  refine Xi_of hst rfl (by decide +kernel) (lo := [(0, .ref (G.2.1 + 0)), (1, .int u1)]) rfl (Nat.le_of_ble_eq_true rfl) (fun r s hp => rfl) ?_
  intro x Q hxl h hX hret thI thS thO hout
  subst hxl
  refine r_aload_n (pc := 0) h 0 rfl rfl dX5_read_0 ?_
  refine r_bipush (pc := 1) (v := nI 110) h (by decide) dX5_read_1 ?_
  refine r_iload_n (pc := 3) h 1 rfl rfl dX5_read_3 ?_
  refine r_iconst (pc := 4) (v := nI 0) h (by decide) dX5_read_4 ?_
  refine r_iconst (pc := 5) (v := nI 0) h (by decide) dX5_read_5 ?_
  refine r_xVi (pc := 6) (As := [.int (nI 110), .int u1, .int (nI 0), .int (nI 0)]) (st := []) h hX lk_RX5_75 (c_act x.2.1 hst G σ n tx A m H sv sl hi 110 (by decide) u1 (nI 0) (nI 0)) rc_5 (by decide) rfl rfl (by first | decide | exact Nat.le_of_ble_eq_true rfl) (by decide) dX5_read_6 (fun E s9 hp => hout E s9 (hp) 6 _ _ _ _ ⟨by decide, by decide⟩) (fun r1 s2 q3 => ?_)
  obtain ⟨k0, k1, k2⟩ := q3
  subst k1
  exact V.wd (by decide) (by decide) (hret _ _ (⟨k0, rfl, k2⟩) 9 _ dX5_read_9)

set_option maxRecDepth 100000 in
set_option maxHeartbeats 800000 in
theorem c_x_skip (l : Launch) (hst : l.stackTraces = false) (G : Gl) (σ : Sg) (n : Nat) (tx : Nat → Nat) (A : Ab) (m : Nat) (H : Nat → Ab) (sv : Nat → Bool) (sl : Nat → Ab) (hi : InvC n tx A m H sv sl σ) (u1 : Int32) (u2 : Int32) : Xi l yX5_skip cX5_skip 3 .int ({ frames := 8, cells := 1, slots := 6, locals := 147 } : Room) G [.ref (G.2.1 + 0), .int u1, .int u2] σ (fun r σ2 => ob A 107 u1 u2 (nI 0) = 0 ∧ r = (co A 107 u1 u2 (nI 0)).1 ∧ InvC n tx ((co A 107 u1 u2 (nI 0)).2) (pushN m) (pushH m H A) sv sl σ2 ∧ Out 4 111 σ σ2) (fun E σ2 => σ2 = σ ∧ ob A 107 u1 u2 (nI 0) ≠ 0 ∧ E = exN (ob A 107 u1 u2 (nI 0))) := by
  refine Xi_of hst rfl (by decide +kernel) (lo := [(0, .ref (G.2.1 + 0)), (1, .int u1), (2, .int u2)]) rfl (Nat.le_of_ble_eq_true rfl) (fun r s hp => rfl) ?_
  intro x Q hxl h hX hret thI thS thO hout
  subst hxl
  refine r_aload_n (pc := 0) h 0 rfl rfl dX5_skip_0 ?_
  refine r_bipush (pc := 1) (v := nI 107) h (by decide) dX5_skip_1 ?_
  refine r_iload_n (pc := 3) h 1 rfl rfl dX5_skip_3 ?_
  refine r_iload_n (pc := 4) h 2 rfl rfl dX5_skip_4 ?_
  refine r_iconst (pc := 5) (v := nI 0) h (by decide) dX5_skip_5 ?_
  refine r_xVi (pc := 6) (As := [.int (nI 107), .int u1, .int u2, .int (nI 0)]) (st := []) h hX lk_RX5_75 (c_act x.2.1 hst G σ n tx A m H sv sl hi 107 (by decide) u1 u2 (nI 0)) rc_5 (by decide) rfl rfl (by first | decide | exact Nat.le_of_ble_eq_true rfl) (by decide) dX5_skip_6 (fun E s9 hp => hout E s9 (hp) 6 _ _ _ _ ⟨by decide, by decide⟩) (fun r1 s2 q3 => ?_)
  obtain ⟨k0, k1, k2⟩ := q3
  subst k1
  exact V.wd (by decide) (by decide) (hret _ _ (⟨k0, rfl, k2⟩) 9 _ dX5_skip_9)

set_option maxRecDepth 100000 in
set_option maxHeartbeats 800000 in
theorem c_x_goBack (l : Launch) (hst : l.stackTraces = false) (G : Gl) (σ : Sg) (n : Nat) (tx : Nat → Nat) (A : Ab) (m : Nat) (H : Nat → Ab) (sv : Nat → Bool) (sl : Nat → Ab) (hi : InvC n tx A m H sv sl σ) (u1 : Int32) : Xi l yX5_goBack cX5_goBack 2 .int ({ frames := 8, cells := 1, slots := 6, locals := 147 } : Room) G [.ref (G.2.1 + 0), .int u1] σ (fun r σ2 => ob A 122 u1 (nI 0) (nI 0) = 0 ∧ r = (co A 122 u1 (nI 0) (nI 0)).1 ∧ InvC n tx ((co A 122 u1 (nI 0) (nI 0)).2) (pushN m) (pushH m H A) sv sl σ2 ∧ Out 4 111 σ σ2) (fun E σ2 => σ2 = σ ∧ ob A 122 u1 (nI 0) (nI 0) ≠ 0 ∧ E = exN (ob A 122 u1 (nI 0) (nI 0))) := by
  refine Xi_of hst rfl (by decide +kernel) (lo := [(0, .ref (G.2.1 + 0)), (1, .int u1)]) rfl (Nat.le_of_ble_eq_true rfl) (fun r s hp => rfl) ?_
  intro x Q hxl h hX hret thI thS thO hout
  subst hxl
  refine r_aload_n (pc := 0) h 0 rfl rfl dX5_goBack_0 ?_
  refine r_bipush (pc := 1) (v := nI 122) h (by decide) dX5_goBack_1 ?_
  refine r_iload_n (pc := 3) h 1 rfl rfl dX5_goBack_3 ?_
  refine r_iconst (pc := 4) (v := nI 0) h (by decide) dX5_goBack_4 ?_
  refine r_iconst (pc := 5) (v := nI 0) h (by decide) dX5_goBack_5 ?_
  refine r_xVi (pc := 6) (As := [.int (nI 122), .int u1, .int (nI 0), .int (nI 0)]) (st := []) h hX lk_RX5_75 (c_act x.2.1 hst G σ n tx A m H sv sl hi 122 (by decide) u1 (nI 0) (nI 0)) rc_5 (by decide) rfl rfl (by first | decide | exact Nat.le_of_ble_eq_true rfl) (by decide) dX5_goBack_6 (fun E s9 hp => hout E s9 (hp) 6 _ _ _ _ ⟨by decide, by decide⟩) (fun r1 s2 q3 => ?_)
  obtain ⟨k0, k1, k2⟩ := q3
  subst k1
  exact V.wd (by decide) (by decide) (hret _ _ (⟨k0, rfl, k2⟩) 9 _ dX5_goBack_9)

set_option maxRecDepth 100000 in
set_option maxHeartbeats 800000 in
theorem c_x_stopReading (l : Launch) (hst : l.stackTraces = false) (G : Gl) (σ : Sg) (n : Nat) (tx : Nat → Nat) (A : Ab) (m : Nat) (H : Nat → Ab) (sv : Nat → Bool) (sl : Nat → Ab) (hi : InvC n tx A m H sv sl σ) (u1 : Int32) : Xi l yX5_stopReading cX5_stopReading 2 .int ({ frames := 8, cells := 1, slots := 6, locals := 147 } : Room) G [.ref (G.2.1 + 0), .int u1] σ (fun r σ2 => ob A 113 u1 (nI 0) (nI 0) = 0 ∧ r = (co A 113 u1 (nI 0) (nI 0)).1 ∧ InvC n tx ((co A 113 u1 (nI 0) (nI 0)).2) (pushN m) (pushH m H A) sv sl σ2 ∧ Out 4 111 σ σ2) (fun E σ2 => σ2 = σ ∧ ob A 113 u1 (nI 0) (nI 0) ≠ 0 ∧ E = exN (ob A 113 u1 (nI 0) (nI 0))) := by
  refine Xi_of hst rfl (by decide +kernel) (lo := [(0, .ref (G.2.1 + 0)), (1, .int u1)]) rfl (Nat.le_of_ble_eq_true rfl) (fun r s hp => rfl) ?_
  intro x Q hxl h hX hret thI thS thO hout
  subst hxl
  refine r_aload_n (pc := 0) h 0 rfl rfl dX5_stopReading_0 ?_
  refine r_bipush (pc := 1) (v := nI 113) h (by decide) dX5_stopReading_1 ?_
  refine r_iload_n (pc := 3) h 1 rfl rfl dX5_stopReading_3 ?_
  refine r_iconst (pc := 4) (v := nI 0) h (by decide) dX5_stopReading_4 ?_
  refine r_iconst (pc := 5) (v := nI 0) h (by decide) dX5_stopReading_5 ?_
  refine r_xVi (pc := 6) (As := [.int (nI 113), .int u1, .int (nI 0), .int (nI 0)]) (st := []) h hX lk_RX5_75 (c_act x.2.1 hst G σ n tx A m H sv sl hi 113 (by decide) u1 (nI 0) (nI 0)) rc_5 (by decide) rfl rfl (by first | decide | exact Nat.le_of_ble_eq_true rfl) (by decide) dX5_stopReading_6 (fun E s9 hp => hout E s9 (hp) 6 _ _ _ _ ⟨by decide, by decide⟩) (fun r1 s2 q3 => ?_)
  obtain ⟨k0, k1, k2⟩ := q3
  subst k1
  exact V.wd (by decide) (by decide) (hret _ _ (⟨k0, rfl, k2⟩) 9 _ dX5_stopReading_9)

