/-! THE LAW: its cases, on -/
set_option maxRecDepth 100000 in
set_option maxHeartbeats 1600000 in
theorem law_c12 {x : Cx} {G : Gl} {Q : State → Prop} {b L : Nat} {xs : Nat → Int32} (LAh : LA x G b L xs) (j : Nat) (hj : 4 * j + 4 ≤ L) (σ : Sg) (n : Nat) (tx : Nat → Nat) (A : Ab) (m : Nat) (H : Nat → Ab) (sv : Nat → Bool) (sl : Nat → Ab) (hC : InvC n tx A m H sv sl σ) (hM : InvM n tx A m H sv sl σ) (kk : NX x G Q b j) : V x G 7 (144 + 2 * j) (18188 + 12 * j) Q σ 882 [(0, .ref b), (1, .ref (G.2.1 + 0)), (2, .ref (G.2.1 + 134)), (3, .ref (G.2.1 + 143)), (4, .int (nI (4 * j)))] [] := by
  obtain ⟨h, hX, hst, hS0, hbl, hbA, hL⟩ := LAh
  refine r_aload_n (pc := 882) h 1 rfl rfl dL_law_882 ?_
  refine r_aload_n (pc := 883) h 3 rfl rfl dL_law_883 ?_
  refine r_LS (pc := 884) (n := 2) (As := [.ref (G.2.1 + 0), .ref (G.2.1 + 143)]) (st := []) h hX ⟨mw_26_2, mw_4_9, mw_26_4, ⟨by decide +kernel, by decide +kernel⟩, by decide +kernel, mw_26_3⟩ (l_dropLast x.2.1 hst G σ n tx A m H sv sl hC ) rfl rfl (by decide) (by first | decide | exact Nat.le_of_ble_eq_true rfl) ⟨(by show 144 + 2 * j + 1 ≤ 601024; omega), (by show 18188 + 12 * j + 6 ≤ 7293034; omega)⟩ dL_law_884 (fun r1 s1 q1 => ?_)
  obtain ⟨e1, hk, hI0, hI1⟩ := q1
  refine r_istore (pc := 887) (lo2 := [(5, .int r1), (0, .ref b), (1, .ref (G.2.1 + 0)), (2, .ref (G.2.1 + 134)), (3, .ref (G.2.1 + 143)), (4, .int (nI (4 * j)))]) h (by decide) rfl dL_law_887 ?_
  refine r_aload_n (pc := 889) h 3 rfl rfl dL_law_889 ?_
  refine r_cVi (pc := 890) (As := []) (st := []) h lk_RL_182 (c_m_dropLast x.2.1 G s1 n tx A m H sv sl (keepM hM hk) ) rc_6 (by decide) rfl rfl (by first | decide | exact Nat.le_of_ble_eq_true rfl) ⟨(by show 144 + 2 * j + 1 + 0 ≤ 601024; omega), (by show 18188 + 12 * j + 6 + 0 ≤ 7293034; omega)⟩ dL_law_890 (fun r2 s2 q2 => ?_)
  obtain ⟨g1, g2, g3, g4⟩ := q2
  refine r_istore (pc := 893) (lo2 := [(6, .int r2), (5, .int r1), (0, .ref b), (1, .ref (G.2.1 + 0)), (2, .ref (G.2.1 + 134)), (3, .ref (G.2.1 + 143)), (4, .int (nI (4 * j)))]) h (by decide) rfl dL_law_893 ?_
  refine r_aload_n (pc := 895) h 4 rfl rfl dL_law_895 ?_
  refine r_cVi (pc := 896) (As := []) (st := []) h lk_RL_139 (c_thrown x.2.1 G s2) rc_6 (by decide) rfl rfl (by first | decide | exact Nat.le_of_ble_eq_true rfl) ⟨(by show 144 + 2 * j + 1 + 0 + 0 ≤ 601024; omega), (by show 18188 + 12 * j + 6 + 0 + 0 ≤ 7293034; omega)⟩ dL_law_896 (fun r3 s3 q3 => ?_)
  rw [q3.1, q3.2, g1]
  refine r_iload (pc := 899) h 1 rfl dL_law_899 ?_
  refine r_icmp_eq (pc := 901) (tgt := 906) h (by decide) dL_law_901 (fun _ => ?_) (fun c9 => absurd e1.symm c9)
  refine r_iload (pc := 906) h 1 rfl dL_law_906 ?_
  refine r_if_ne (pc := 908) (tgt := 923) h (by decide) dL_law_908 (fun c9 => ?_) (fun c9 => ?_)
  · have hC0 : ob A 100 (nI 0) (nI 0) (nI 0) ≠ 0 := fun q => c9 (by rw [e1, q, kq_0]; rfl)
    refine r_goto (pc := 923) (tgt := 2550) h (by decide) dL_law_923 ?_
    exact V.wd (by show 144 + 2 * j + 1 + 0 + 0 ≤ 144 + 2 * (j + 1); omega) (by show 18188 + 12 * j + 6 + 0 + 0 ≤ 18188 + 12 * (j + 1); omega) (r_sub [2, 3, 4, 5, 6] rfl (kk _ _ _ _ _ _ _ _ ((hI0 hC0).o g2 (Or.inl (by decide))) (g3 hC0)))
  · have hC0 : ob A 100 (nI 0) (nI 0) (nI 0) = 0 := (kq_z (by decide)).mp (e1.symm.trans c9)
    have ho := (g2.l 143 0 (by omega)).trans (hI1 hC0).1
    have hr := (g4 hC0).1
    refine r_aload_n (pc := 911) h 5 rfl rfl dL_law_911 ?_
    refine r_iconst (pc := 912) (v := nI 0) h (by decide) dL_law_912 ?_
    refine r_lald (pc := 913) h a_out 0 rfl (by decide) dL_law_913 ?_
    refine r_iload (pc := 914) h 0 rfl dL_law_914 ?_
    refine r_i2l (pc := 916) (v := r2.toInt64) h rfl dL_law_916 ?_
    refine r_lcmp (pc := 917) (v := lg_cmp (s2.2 143 0) r2.toInt64) h rfl dL_law_917 ?_
    refine r_if_eq (pc := 918) (tgt := 923) h (by decide) dL_law_918 (fun _ => ?_) (fun c7 => absurd (lg_self _ (ho.trans (by rw [hr]))) c7)
    refine r_goto (pc := 923) (tgt := 2550) h (by decide) dL_law_923 ?_
    exact V.wd (by show 144 + 2 * j + 1 + 0 + 0 ≤ 144 + 2 * (j + 1); omega) (by show 18188 + 12 * j + 6 + 0 + 0 ≤ 18188 + 12 * (j + 1); omega) (r_sub [2, 3, 4, 5, 6] rfl (kk _ _ _ _ _ _ _ _ ((hI1 hC0).2.o g2 (Or.inl (by decide))) ((g4 hC0).2)))

set_option maxRecDepth 100000 in
set_option maxHeartbeats 1600000 in
theorem law_c13 {x : Cx} {G : Gl} {Q : State → Prop} {b L : Nat} {xs : Nat → Int32} (LAh : LA x G b L xs) (j : Nat) (hj : 4 * j + 4 ≤ L) (σ : Sg) (n : Nat) (tx : Nat → Nat) (A : Ab) (m : Nat) (H : Nat → Ab) (sv : Nat → Bool) (sl : Nat → Ab) (hC : InvC n tx A m H sv sl σ) (hM : InvM n tx A m H sv sl σ) (kk : NX x G Q b j) : V x G 7 (144 + 2 * j) (18188 + 12 * j) Q σ 926 [(0, .ref b), (1, .ref (G.2.1 + 0)), (2, .ref (G.2.1 + 134)), (3, .ref (G.2.1 + 143)), (4, .int (nI (4 * j)))] [] := by
  obtain ⟨h, hX, hst, hS0, hbl, hbA, hL⟩ := LAh
  refine r_aload_n (pc := 926) h 1 rfl rfl dL_law_926 ?_
  refine r_aload_n (pc := 927) h 0 rfl rfl dL_law_927 ?_
  refine r_iload (pc := 928) h 4 rfl dL_law_928 ?_
  refine r_iconst (pc := 930) (v := nI 1) h (by decide) dL_law_930 ?_
  refine r_iadd (pc := 931) (v := nI (4 * j + 1)) h (nI_add _ _) dL_law_931 ?_
  refine r_sld (pc := 932) (j := 4 * j + 1) h hS0 hbl hbA rfl (by omega) (by omega) dL_law_932 ?_
  refine r_aload_n (pc := 933) h 3 rfl rfl dL_law_933 ?_
  refine r_LS (pc := 934) (n := 3) (As := [.ref (G.2.1 + 0), .int (xs (4 * j + 1)), .ref (G.2.1 + 143)]) (st := []) h hX ⟨mw_26_13, mw_4_9, mw_26_15, ⟨by decide +kernel, by decide +kernel⟩, by decide +kernel, mw_26_14⟩ (l_beginReading x.2.1 hst G σ n tx A m H sv sl hC (xs (4 * j + 1))) rfl rfl (by decide) (by first | decide | exact Nat.le_of_ble_eq_true rfl) ⟨(by show 144 + 2 * j + 1 ≤ 601024; omega), (by show 18188 + 12 * j + 6 ≤ 7293034; omega)⟩ dL_law_934 (fun r1 s1 q1 => ?_)
  obtain ⟨e1, hk, hI0, hI1⟩ := q1
  refine r_istore (pc := 937) (lo2 := [(5, .int r1), (0, .ref b), (1, .ref (G.2.1 + 0)), (2, .ref (G.2.1 + 134)), (3, .ref (G.2.1 + 143)), (4, .int (nI (4 * j)))]) h (by decide) rfl dL_law_937 ?_
  refine r_aload_n (pc := 939) h 3 rfl rfl dL_law_939 ?_
  refine r_aload_n (pc := 940) h 1 rfl rfl dL_law_940 ?_
  refine r_iload (pc := 941) h 5 rfl dL_law_941 ?_
  refine r_iconst (pc := 943) (v := nI 1) h (by decide) dL_law_943 ?_
  refine r_iadd (pc := 944) (v := nI (4 * j + 1)) h (nI_add _ _) dL_law_944 ?_
  refine r_sld (pc := 945) (j := 4 * j + 1) h hS0 hbl hbA rfl (by omega) (by omega) dL_law_945 ?_
  refine r_cVi (pc := 946) (As := [.int (xs (4 * j + 1))]) (st := []) h lk_RL_185 (c_m_beginReading x.2.1 G s1 n tx A m H sv sl (keepM hM hk) (xs (4 * j + 1))) rc_6 (by decide) rfl rfl (by first | decide | exact Nat.le_of_ble_eq_true rfl) ⟨(by show 144 + 2 * j + 1 + 0 ≤ 601024; omega), (by show 18188 + 12 * j + 6 + 0 ≤ 7293034; omega)⟩ dL_law_946 (fun r2 s2 q2 => ?_)
  obtain ⟨g1, g2, g3, g4⟩ := q2
  refine r_istore (pc := 949) (lo2 := [(6, .int r2), (5, .int r1), (0, .ref b), (1, .ref (G.2.1 + 0)), (2, .ref (G.2.1 + 134)), (3, .ref (G.2.1 + 143)), (4, .int (nI (4 * j)))]) h (by decide) rfl dL_law_949 ?_
  refine r_aload_n (pc := 951) h 4 rfl rfl dL_law_951 ?_
  refine r_cVi (pc := 952) (As := []) (st := []) h lk_RL_139 (c_thrown x.2.1 G s2) rc_6 (by decide) rfl rfl (by first | decide | exact Nat.le_of_ble_eq_true rfl) ⟨(by show 144 + 2 * j + 1 + 0 + 0 ≤ 601024; omega), (by show 18188 + 12 * j + 6 + 0 + 0 ≤ 7293034; omega)⟩ dL_law_952 (fun r3 s3 q3 => ?_)
  rw [q3.1, q3.2, g1]
  refine r_iload (pc := 955) h 1 rfl dL_law_955 ?_
  refine r_icmp_eq (pc := 957) (tgt := 962) h (by decide) dL_law_957 (fun _ => ?_) (fun c9 => absurd e1.symm c9)
  refine r_iload (pc := 962) h 1 rfl dL_law_962 ?_
  refine r_if_ne (pc := 964) (tgt := 979) h (by decide) dL_law_964 (fun c9 => ?_) (fun c9 => ?_)
  · have hC0 : ob A 114 (xs (4 * j + 1)) (nI 0) (nI 0) ≠ 0 := fun q => c9 (by rw [e1, q, kq_0]; rfl)
    refine r_goto (pc := 979) (tgt := 2550) h (by decide) dL_law_979 ?_
    exact V.wd (by show 144 + 2 * j + 1 + 0 + 0 ≤ 144 + 2 * (j + 1); omega) (by show 18188 + 12 * j + 6 + 0 + 0 ≤ 18188 + 12 * (j + 1); omega) (r_sub [2, 3, 4, 5, 6] rfl (kk _ _ _ _ _ _ _ _ ((hI0 hC0).o g2 (Or.inl (by decide))) (g3 hC0)))
  · have hC0 : ob A 114 (xs (4 * j + 1)) (nI 0) (nI 0) = 0 := (kq_z (by decide)).mp (e1.symm.trans c9)
    have ho := (g2.l 143 0 (by omega)).trans (hI1 hC0).1
    have hr := (g4 hC0).1
    refine r_aload_n (pc := 967) h 5 rfl rfl dL_law_967 ?_
    refine r_iconst (pc := 968) (v := nI 0) h (by decide) dL_law_968 ?_
    refine r_lald (pc := 969) h a_out 0 rfl (by decide) dL_law_969 ?_
    refine r_iload (pc := 970) h 0 rfl dL_law_970 ?_
    refine r_i2l (pc := 972) (v := r2.toInt64) h rfl dL_law_972 ?_
    refine r_lcmp (pc := 973) (v := lg_cmp (s2.2 143 0) r2.toInt64) h rfl dL_law_973 ?_
    refine r_if_eq (pc := 974) (tgt := 979) h (by decide) dL_law_974 (fun _ => ?_) (fun c7 => absurd (lg_self _ (ho.trans (by rw [hr]))) c7)
    refine r_goto (pc := 979) (tgt := 2550) h (by decide) dL_law_979 ?_
    exact V.wd (by show 144 + 2 * j + 1 + 0 + 0 ≤ 144 + 2 * (j + 1); omega) (by show 18188 + 12 * j + 6 + 0 + 0 ≤ 18188 + 12 * (j + 1); omega) (r_sub [2, 3, 4, 5, 6] rfl (kk _ _ _ _ _ _ _ _ ((hI1 hC0).2.o g2 (Or.inl (by decide))) ((g4 hC0).2)))

set_option maxRecDepth 100000 in
set_option maxHeartbeats 1600000 in
theorem law_c14 {x : Cx} {G : Gl} {Q : State → Prop} {b L : Nat} {xs : Nat → Int32} (LAh : LA x G b L xs) (j : Nat) (hj : 4 * j + 4 ≤ L) (σ : Sg) (n : Nat) (tx : Nat → Nat) (A : Ab) (m : Nat) (H : Nat → Ab) (sv : Nat → Bool) (sl : Nat → Ab) (hC : InvC n tx A m H sv sl σ) (hM : InvM n tx A m H sv sl σ) (kk : NX x G Q b j) : V x G 7 (144 + 2 * j) (18188 + 12 * j) Q σ 982 [(0, .ref b), (1, .ref (G.2.1 + 0)), (2, .ref (G.2.1 + 134)), (3, .ref (G.2.1 + 143)), (4, .int (nI (4 * j)))] [] := by
  obtain ⟨h, hX, hst, hS0, hbl, hbA, hL⟩ := LAh
  refine r_aload_n (pc := 982) h 1 rfl rfl dL_law_982 ?_
  refine r_aload_n (pc := 983) h 0 rfl rfl dL_law_983 ?_
  refine r_iload (pc := 984) h 4 rfl dL_law_984 ?_
  refine r_iconst (pc := 986) (v := nI 1) h (by decide) dL_law_986 ?_
  refine r_iadd (pc := 987) (v := nI (4 * j + 1)) h (nI_add _ _) dL_law_987 ?_
  refine r_sld (pc := 988) (j := 4 * j + 1) h hS0 hbl hbA rfl (by omega) (by omega) dL_law_988 ?_
  refine r_aload_n (pc := 989) h 3 rfl rfl dL_law_989 ?_
  refine r_LS (pc := 990) (n := 3) (As := [.ref (G.2.1 + 0), .int (xs (4 * j + 1)), .ref (G.2.1 + 143)]) (st := []) h hX ⟨mw_27_0, mw_4_9, mw_27_2, ⟨by decide +kernel, by decide +kernel⟩, by decide +kernel, mw_27_1⟩ (l_read x.2.1 hst G σ n tx A m H sv sl hC (xs (4 * j + 1))) rfl rfl (by decide) (by first | decide | exact Nat.le_of_ble_eq_true rfl) ⟨(by show 144 + 2 * j + 1 ≤ 601024; omega), (by show 18188 + 12 * j + 6 ≤ 7293034; omega)⟩ dL_law_990 (fun r1 s1 q1 => ?_)
  obtain ⟨e1, hk, hI0, hI1⟩ := q1
  refine r_istore (pc := 993) (lo2 := [(5, .int r1), (0, .ref b), (1, .ref (G.2.1 + 0)), (2, .ref (G.2.1 + 134)), (3, .ref (G.2.1 + 143)), (4, .int (nI (4 * j)))]) h (by decide) rfl dL_law_993 ?_
  refine r_aload_n (pc := 995) h 3 rfl rfl dL_law_995 ?_
  refine r_aload_n (pc := 996) h 1 rfl rfl dL_law_996 ?_
  refine r_iload (pc := 997) h 5 rfl dL_law_997 ?_
  refine r_iconst (pc := 999) (v := nI 1) h (by decide) dL_law_999 ?_
  refine r_iadd (pc := 1000) (v := nI (4 * j + 1)) h (nI_add _ _) dL_law_1000 ?_
  refine r_sld (pc := 1001) (j := 4 * j + 1) h hS0 hbl hbA rfl (by omega) (by omega) dL_law_1001 ?_
  refine r_cVi (pc := 1002) (As := [.int (xs (4 * j + 1))]) (st := []) h lk_RL_188 (c_m_read x.2.1 G s1 n tx A m H sv sl (keepM hM hk) (xs (4 * j + 1))) rc_6 (by decide) rfl rfl (by first | decide | exact Nat.le_of_ble_eq_true rfl) ⟨(by show 144 + 2 * j + 1 + 0 ≤ 601024; omega), (by show 18188 + 12 * j + 6 + 0 ≤ 7293034; omega)⟩ dL_law_1002 (fun r2 s2 q2 => ?_)
  obtain ⟨g1, g2, g3, g4⟩ := q2
  refine r_istore (pc := 1005) (lo2 := [(6, .int r2), (5, .int r1), (0, .ref b), (1, .ref (G.2.1 + 0)), (2, .ref (G.2.1 + 134)), (3, .ref (G.2.1 + 143)), (4, .int (nI (4 * j)))]) h (by decide) rfl dL_law_1005 ?_
  refine r_aload_n (pc := 1007) h 4 rfl rfl dL_law_1007 ?_
  refine r_cVi (pc := 1008) (As := []) (st := []) h lk_RL_139 (c_thrown x.2.1 G s2) rc_6 (by decide) rfl rfl (by first | decide | exact Nat.le_of_ble_eq_true rfl) ⟨(by show 144 + 2 * j + 1 + 0 + 0 ≤ 601024; omega), (by show 18188 + 12 * j + 6 + 0 + 0 ≤ 7293034; omega)⟩ dL_law_1008 (fun r3 s3 q3 => ?_)
  rw [q3.1, q3.2, g1]
  refine r_iload (pc := 1011) h 1 rfl dL_law_1011 ?_
  refine r_icmp_eq (pc := 1013) (tgt := 1018) h (by decide) dL_law_1013 (fun _ => ?_) (fun c9 => absurd e1.symm c9)
  refine r_iload (pc := 1018) h 1 rfl dL_law_1018 ?_
  refine r_if_ne (pc := 1020) (tgt := 1035) h (by decide) dL_law_1020 (fun c9 => ?_) (fun c9 => ?_)
  · have hC0 : ob A 110 (xs (4 * j + 1)) (nI 0) (nI 0) ≠ 0 := fun q => c9 (by rw [e1, q, kq_0]; rfl)
    refine r_goto (pc := 1035) (tgt := 2550) h (by decide) dL_law_1035 ?_
    exact V.wd (by show 144 + 2 * j + 1 + 0 + 0 ≤ 144 + 2 * (j + 1); omega) (by show 18188 + 12 * j + 6 + 0 + 0 ≤ 18188 + 12 * (j + 1); omega) (r_sub [2, 3, 4, 5, 6] rfl (kk _ _ _ _ _ _ _ _ ((hI0 hC0).o g2 (Or.inl (by decide))) (g3 hC0)))
  · have hC0 : ob A 110 (xs (4 * j + 1)) (nI 0) (nI 0) = 0 := (kq_z (by decide)).mp (e1.symm.trans c9)
    have ho := (g2.l 143 0 (by omega)).trans (hI1 hC0).1
    have hr := (g4 hC0).1
    refine r_aload_n (pc := 1023) h 5 rfl rfl dL_law_1023 ?_
    refine r_iconst (pc := 1024) (v := nI 0) h (by decide) dL_law_1024 ?_
    refine r_lald (pc := 1025) h a_out 0 rfl (by decide) dL_law_1025 ?_
    refine r_iload (pc := 1026) h 0 rfl dL_law_1026 ?_
    refine r_i2l (pc := 1028) (v := r2.toInt64) h rfl dL_law_1028 ?_
    refine r_lcmp (pc := 1029) (v := lg_cmp (s2.2 143 0) r2.toInt64) h rfl dL_law_1029 ?_
    refine r_if_eq (pc := 1030) (tgt := 1035) h (by decide) dL_law_1030 (fun _ => ?_) (fun c7 => absurd (lg_self _ (ho.trans (by rw [hr]))) c7)
    refine r_goto (pc := 1035) (tgt := 2550) h (by decide) dL_law_1035 ?_
    exact V.wd (by show 144 + 2 * j + 1 + 0 + 0 ≤ 144 + 2 * (j + 1); omega) (by show 18188 + 12 * j + 6 + 0 + 0 ≤ 18188 + 12 * (j + 1); omega) (r_sub [2, 3, 4, 5, 6] rfl (kk _ _ _ _ _ _ _ _ ((hI1 hC0).2.o g2 (Or.inl (by decide))) ((g4 hC0).2)))

set_option maxRecDepth 100000 in
set_option maxHeartbeats 1600000 in
theorem law_c15 {x : Cx} {G : Gl} {Q : State → Prop} {b L : Nat} {xs : Nat → Int32} (LAh : LA x G b L xs) (j : Nat) (hj : 4 * j + 4 ≤ L) (σ : Sg) (n : Nat) (tx : Nat → Nat) (A : Ab) (m : Nat) (H : Nat → Ab) (sv : Nat → Bool) (sl : Nat → Ab) (hC : InvC n tx A m H sv sl σ) (hM : InvM n tx A m H sv sl σ) (kk : NX x G Q b j) : V x G 7 (144 + 2 * j) (18188 + 12 * j) Q σ 1038 [(0, .ref b), (1, .ref (G.2.1 + 0)), (2, .ref (G.2.1 + 134)), (3, .ref (G.2.1 + 143)), (4, .int (nI (4 * j)))] [] := by
  obtain ⟨h, hX, hst, hS0, hbl, hbA, hL⟩ := LAh
  refine r_aload_n (pc := 1038) h 1 rfl rfl dL_law_1038 ?_
  refine r_aload_n (pc := 1039) h 0 rfl rfl dL_law_1039 ?_
  refine r_iload (pc := 1040) h 4 rfl dL_law_1040 ?_
  refine r_iconst (pc := 1042) (v := nI 1) h (by decide) dL_law_1042 ?_
  refine r_iadd (pc := 1043) (v := nI (4 * j + 1)) h (nI_add _ _) dL_law_1043 ?_
  refine r_sld (pc := 1044) (j := 4 * j + 1) h hS0 hbl hbA rfl (by omega) (by omega) dL_law_1044 ?_
  refine r_aload_n (pc := 1045) h 0 rfl rfl dL_law_1045 ?_
  refine r_iload (pc := 1046) h 4 rfl dL_law_1046 ?_
  refine r_iconst (pc := 1048) (v := nI 2) h (by decide) dL_law_1048 ?_
  refine r_iadd (pc := 1049) (v := nI (4 * j + 2)) h (nI_add _ _) dL_law_1049 ?_
  refine r_sld (pc := 1050) (j := 4 * j + 2) h hS0 hbl hbA rfl (by omega) (by omega) dL_law_1050 ?_
  refine r_aload_n (pc := 1051) h 3 rfl rfl dL_law_1051 ?_
  refine r_LS (pc := 1052) (n := 4) (As := [.ref (G.2.1 + 0), .int (xs (4 * j + 1)), .int (xs (4 * j + 2)), .ref (G.2.1 + 143)]) (st := []) h hX ⟨mw_27_11, mw_4_9, mw_27_13, ⟨by decide +kernel, by decide +kernel⟩, by decide +kernel, mw_27_12⟩ (l_skip x.2.1 hst G σ n tx A m H sv sl hC (xs (4 * j + 1)) (xs (4 * j + 2))) rfl rfl (by decide) (by first | decide | exact Nat.le_of_ble_eq_true rfl) ⟨(by show 144 + 2 * j + 1 ≤ 601024; omega), (by show 18188 + 12 * j + 6 ≤ 7293034; omega)⟩ dL_law_1052 (fun r1 s1 q1 => ?_)
  obtain ⟨e1, hk, hI0, hI1⟩ := q1
  refine r_istore (pc := 1055) (lo2 := [(5, .int r1), (0, .ref b), (1, .ref (G.2.1 + 0)), (2, .ref (G.2.1 + 134)), (3, .ref (G.2.1 + 143)), (4, .int (nI (4 * j)))]) h (by decide) rfl dL_law_1055 ?_
  refine r_aload_n (pc := 1057) h 3 rfl rfl dL_law_1057 ?_
  refine r_aload_n (pc := 1058) h 1 rfl rfl dL_law_1058 ?_
  refine r_iload (pc := 1059) h 5 rfl dL_law_1059 ?_
  refine r_iconst (pc := 1061) (v := nI 1) h (by decide) dL_law_1061 ?_
  refine r_iadd (pc := 1062) (v := nI (4 * j + 1)) h (nI_add _ _) dL_law_1062 ?_
  refine r_sld (pc := 1063) (j := 4 * j + 1) h hS0 hbl hbA rfl (by omega) (by omega) dL_law_1063 ?_
  refine r_aload_n (pc := 1064) h 1 rfl rfl dL_law_1064 ?_
  refine r_iload (pc := 1065) h 5 rfl dL_law_1065 ?_
  refine r_iconst (pc := 1067) (v := nI 2) h (by decide) dL_law_1067 ?_
  refine r_iadd (pc := 1068) (v := nI (4 * j + 2)) h (nI_add _ _) dL_law_1068 ?_
  refine r_sld (pc := 1069) (j := 4 * j + 2) h hS0 hbl hbA rfl (by omega) (by omega) dL_law_1069 ?_
  refine r_cVi (pc := 1070) (As := [.int (xs (4 * j + 1)), .int (xs (4 * j + 2))]) (st := []) h lk_RL_191 (c_m_skip x.2.1 G s1 n tx A m H sv sl (keepM hM hk) (xs (4 * j + 1)) (xs (4 * j + 2))) rc_6 (by decide) rfl rfl (by first | decide | exact Nat.le_of_ble_eq_true rfl) ⟨(by show 144 + 2 * j + 1 + 0 ≤ 601024; omega), (by show 18188 + 12 * j + 6 + 0 ≤ 7293034; omega)⟩ dL_law_1070 (fun r2 s2 q2 => ?_)
  obtain ⟨g1, g2, g3, g4⟩ := q2
  refine r_istore (pc := 1073) (lo2 := [(6, .int r2), (5, .int r1), (0, .ref b), (1, .ref (G.2.1 + 0)), (2, .ref (G.2.1 + 134)), (3, .ref (G.2.1 + 143)), (4, .int (nI (4 * j)))]) h (by decide) rfl dL_law_1073 ?_
  refine r_aload_n (pc := 1075) h 4 rfl rfl dL_law_1075 ?_
  refine r_cVi (pc := 1076) (As := []) (st := []) h lk_RL_139 (c_thrown x.2.1 G s2) rc_6 (by decide) rfl rfl (by first | decide | exact Nat.le_of_ble_eq_true rfl) ⟨(by show 144 + 2 * j + 1 + 0 + 0 ≤ 601024; omega), (by show 18188 + 12 * j + 6 + 0 + 0 ≤ 7293034; omega)⟩ dL_law_1076 (fun r3 s3 q3 => ?_)
  rw [q3.1, q3.2, g1]
  refine r_iload (pc := 1079) h 1 rfl dL_law_1079 ?_
  refine r_icmp_eq (pc := 1081) (tgt := 1086) h (by decide) dL_law_1081 (fun _ => ?_) (fun c9 => absurd e1.symm c9)
  refine r_iload (pc := 1086) h 1 rfl dL_law_1086 ?_
  refine r_if_ne (pc := 1088) (tgt := 1103) h (by decide) dL_law_1088 (fun c9 => ?_) (fun c9 => ?_)
  · have hC0 : ob A 107 (xs (4 * j + 1)) (xs (4 * j + 2)) (nI 0) ≠ 0 := fun q => c9 (by rw [e1, q, kq_0]; rfl)
    refine r_goto (pc := 1103) (tgt := 2550) h (by decide) dL_law_1103 ?_
    exact V.wd (by show 144 + 2 * j + 1 + 0 + 0 ≤ 144 + 2 * (j + 1); omega) (by show 18188 + 12 * j + 6 + 0 + 0 ≤ 18188 + 12 * (j + 1); omega) (r_sub [2, 3, 4, 5, 6] rfl (kk _ _ _ _ _ _ _ _ ((hI0 hC0).o g2 (Or.inl (by decide))) (g3 hC0)))
  · have hC0 : ob A 107 (xs (4 * j + 1)) (xs (4 * j + 2)) (nI 0) = 0 := (kq_z (by decide)).mp (e1.symm.trans c9)
    have ho := (g2.l 143 0 (by omega)).trans (hI1 hC0).1
    have hr := (g4 hC0).1
    refine r_aload_n (pc := 1091) h 5 rfl rfl dL_law_1091 ?_
    refine r_iconst (pc := 1092) (v := nI 0) h (by decide) dL_law_1092 ?_
    refine r_lald (pc := 1093) h a_out 0 rfl (by decide) dL_law_1093 ?_
    refine r_iload (pc := 1094) h 0 rfl dL_law_1094 ?_
    refine r_i2l (pc := 1096) (v := r2.toInt64) h rfl dL_law_1096 ?_
    refine r_lcmp (pc := 1097) (v := lg_cmp (s2.2 143 0) r2.toInt64) h rfl dL_law_1097 ?_
    refine r_if_eq (pc := 1098) (tgt := 1103) h (by decide) dL_law_1098 (fun _ => ?_) (fun c7 => absurd (lg_self _ (ho.trans (by rw [hr]))) c7)
    refine r_goto (pc := 1103) (tgt := 2550) h (by decide) dL_law_1103 ?_
    exact V.wd (by show 144 + 2 * j + 1 + 0 + 0 ≤ 144 + 2 * (j + 1); omega) (by show 18188 + 12 * j + 6 + 0 + 0 ≤ 18188 + 12 * (j + 1); omega) (r_sub [2, 3, 4, 5, 6] rfl (kk _ _ _ _ _ _ _ _ ((hI1 hC0).2.o g2 (Or.inl (by decide))) ((g4 hC0).2)))

set_option maxRecDepth 100000 in
set_option maxHeartbeats 1600000 in
theorem law_c16 {x : Cx} {G : Gl} {Q : State → Prop} {b L : Nat} {xs : Nat → Int32} (LAh : LA x G b L xs) (j : Nat) (hj : 4 * j + 4 ≤ L) (σ : Sg) (n : Nat) (tx : Nat → Nat) (A : Ab) (m : Nat) (H : Nat → Ab) (sv : Nat → Bool) (sl : Nat → Ab) (hC : InvC n tx A m H sv sl σ) (hM : InvM n tx A m H sv sl σ) (kk : NX x G Q b j) : V x G 7 (144 + 2 * j) (18188 + 12 * j) Q σ 1106 [(0, .ref b), (1, .ref (G.2.1 + 0)), (2, .ref (G.2.1 + 134)), (3, .ref (G.2.1 + 143)), (4, .int (nI (4 * j)))] [] := by
  obtain ⟨h, hX, hst, hS0, hbl, hbA, hL⟩ := LAh
  refine r_aload_n (pc := 1106) h 1 rfl rfl dL_law_1106 ?_
  refine r_aload_n (pc := 1107) h 0 rfl rfl dL_law_1107 ?_
  refine r_iload (pc := 1108) h 4 rfl dL_law_1108 ?_
  refine r_iconst (pc := 1110) (v := nI 1) h (by decide) dL_law_1110 ?_
  refine r_iadd (pc := 1111) (v := nI (4 * j + 1)) h (nI_add _ _) dL_law_1111 ?_
  refine r_sld (pc := 1112) (j := 4 * j + 1) h hS0 hbl hbA rfl (by omega) (by omega) dL_law_1112 ?_
  refine r_aload_n (pc := 1113) h 3 rfl rfl dL_law_1113 ?_
  refine r_LS (pc := 1114) (n := 3) (As := [.ref (G.2.1 + 0), .int (xs (4 * j + 1)), .ref (G.2.1 + 143)]) (st := []) h hX ⟨mw_27_22, mw_4_9, mw_28_0, ⟨by decide +kernel, by decide +kernel⟩, by decide +kernel, mw_27_23⟩ (l_goBack x.2.1 hst G σ n tx A m H sv sl hC (xs (4 * j + 1))) rfl rfl (by decide) (by first | decide | exact Nat.le_of_ble_eq_true rfl) ⟨(by show 144 + 2 * j + 1 ≤ 601024; omega), (by show 18188 + 12 * j + 6 ≤ 7293034; omega)⟩ dL_law_1114 (fun r1 s1 q1 => ?_)
  obtain ⟨e1, hk, hI0, hI1⟩ := q1
  refine r_istore (pc := 1117) (lo2 := [(5, .int r1), (0, .ref b), (1, .ref (G.2.1 + 0)), (2, .ref (G.2.1 + 134)), (3, .ref (G.2.1 + 143)), (4, .int (nI (4 * j)))]) h (by decide) rfl dL_law_1117 ?_
  refine r_aload_n (pc := 1119) h 3 rfl rfl dL_law_1119 ?_
  refine r_aload_n (pc := 1120) h 1 rfl rfl dL_law_1120 ?_
  refine r_iload (pc := 1121) h 5 rfl dL_law_1121 ?_
  refine r_iconst (pc := 1123) (v := nI 1) h (by decide) dL_law_1123 ?_
  refine r_iadd (pc := 1124) (v := nI (4 * j + 1)) h (nI_add _ _) dL_law_1124 ?_
  refine r_sld (pc := 1125) (j := 4 * j + 1) h hS0 hbl hbA rfl (by omega) (by omega) dL_law_1125 ?_
  refine r_cVi (pc := 1126) (As := [.int (xs (4 * j + 1))]) (st := []) h lk_RL_194 (c_m_goBack x.2.1 G s1 n tx A m H sv sl (keepM hM hk) (xs (4 * j + 1))) rc_6 (by decide) rfl rfl (by first | decide | exact Nat.le_of_ble_eq_true rfl) ⟨(by show 144 + 2 * j + 1 + 0 ≤ 601024; omega), (by show 18188 + 12 * j + 6 + 0 ≤ 7293034; omega)⟩ dL_law_1126 (fun r2 s2 q2 => ?_)
  obtain ⟨g1, g2, g3, g4⟩ := q2
  refine r_istore (pc := 1129) (lo2 := [(6, .int r2), (5, .int r1), (0, .ref b), (1, .ref (G.2.1 + 0)), (2, .ref (G.2.1 + 134)), (3, .ref (G.2.1 + 143)), (4, .int (nI (4 * j)))]) h (by decide) rfl dL_law_1129 ?_
  refine r_aload_n (pc := 1131) h 4 rfl rfl dL_law_1131 ?_
  refine r_cVi (pc := 1132) (As := []) (st := []) h lk_RL_139 (c_thrown x.2.1 G s2) rc_6 (by decide) rfl rfl (by first | decide | exact Nat.le_of_ble_eq_true rfl) ⟨(by show 144 + 2 * j + 1 + 0 + 0 ≤ 601024; omega), (by show 18188 + 12 * j + 6 + 0 + 0 ≤ 7293034; omega)⟩ dL_law_1132 (fun r3 s3 q3 => ?_)
  rw [q3.1, q3.2, g1]
  refine r_iload (pc := 1135) h 1 rfl dL_law_1135 ?_
  refine r_icmp_eq (pc := 1137) (tgt := 1142) h (by decide) dL_law_1137 (fun _ => ?_) (fun c9 => absurd e1.symm c9)
  refine r_iload (pc := 1142) h 1 rfl dL_law_1142 ?_
  refine r_if_ne (pc := 1144) (tgt := 1159) h (by decide) dL_law_1144 (fun c9 => ?_) (fun c9 => ?_)
  · have hC0 : ob A 122 (xs (4 * j + 1)) (nI 0) (nI 0) ≠ 0 := fun q => c9 (by rw [e1, q, kq_0]; rfl)
    refine r_goto (pc := 1159) (tgt := 2550) h (by decide) dL_law_1159 ?_
    exact V.wd (by show 144 + 2 * j + 1 + 0 + 0 ≤ 144 + 2 * (j + 1); omega) (by show 18188 + 12 * j + 6 + 0 + 0 ≤ 18188 + 12 * (j + 1); omega) (r_sub [2, 3, 4, 5, 6] rfl (kk _ _ _ _ _ _ _ _ ((hI0 hC0).o g2 (Or.inl (by decide))) (g3 hC0)))
  · have hC0 : ob A 122 (xs (4 * j + 1)) (nI 0) (nI 0) = 0 := (kq_z (by decide)).mp (e1.symm.trans c9)
    have ho := (g2.l 143 0 (by omega)).trans (hI1 hC0).1
    have hr := (g4 hC0).1
    refine r_aload_n (pc := 1147) h 5 rfl rfl dL_law_1147 ?_
    refine r_iconst (pc := 1148) (v := nI 0) h (by decide) dL_law_1148 ?_
    refine r_lald (pc := 1149) h a_out 0 rfl (by decide) dL_law_1149 ?_
    refine r_iload (pc := 1150) h 0 rfl dL_law_1150 ?_
    refine r_i2l (pc := 1152) (v := r2.toInt64) h rfl dL_law_1152 ?_
    refine r_lcmp (pc := 1153) (v := lg_cmp (s2.2 143 0) r2.toInt64) h rfl dL_law_1153 ?_
    refine r_if_eq (pc := 1154) (tgt := 1159) h (by decide) dL_law_1154 (fun _ => ?_) (fun c7 => absurd (lg_self _ (ho.trans (by rw [hr]))) c7)
    refine r_goto (pc := 1159) (tgt := 2550) h (by decide) dL_law_1159 ?_
    exact V.wd (by show 144 + 2 * j + 1 + 0 + 0 ≤ 144 + 2 * (j + 1); omega) (by show 18188 + 12 * j + 6 + 0 + 0 ≤ 18188 + 12 * (j + 1); omega) (r_sub [2, 3, 4, 5, 6] rfl (kk _ _ _ _ _ _ _ _ ((hI1 hC0).2.o g2 (Or.inl (by decide))) ((g4 hC0).2)))

set_option maxRecDepth 100000 in
set_option maxHeartbeats 1600000 in
theorem law_c17 {x : Cx} {G : Gl} {Q : State → Prop} {b L : Nat} {xs : Nat → Int32} (LAh : LA x G b L xs) (j : Nat) (hj : 4 * j + 4 ≤ L) (σ : Sg) (n : Nat) (tx : Nat → Nat) (A : Ab) (m : Nat) (H : Nat → Ab) (sv : Nat → Bool) (sl : Nat → Ab) (hC : InvC n tx A m H sv sl σ) (hM : InvM n tx A m H sv sl σ) (kk : NX x G Q b j) : V x G 7 (144 + 2 * j) (18188 + 12 * j) Q σ 1162 [(0, .ref b), (1, .ref (G.2.1 + 0)), (2, .ref (G.2.1 + 134)), (3, .ref (G.2.1 + 143)), (4, .int (nI (4 * j)))] [] := by
  obtain ⟨h, hX, hst, hS0, hbl, hbA, hL⟩ := LAh
  refine r_aload_n (pc := 1162) h 1 rfl rfl dL_law_1162 ?_
  refine r_aload_n (pc := 1163) h 0 rfl rfl dL_law_1163 ?_
  refine r_iload (pc := 1164) h 4 rfl dL_law_1164 ?_
  refine r_iconst (pc := 1166) (v := nI 1) h (by decide) dL_law_1166 ?_
  refine r_iadd (pc := 1167) (v := nI (4 * j + 1)) h (nI_add _ _) dL_law_1167 ?_
  refine r_sld (pc := 1168) (j := 4 * j + 1) h hS0 hbl hbA rfl (by omega) (by omega) dL_law_1168 ?_
  refine r_aload_n (pc := 1169) h 3 rfl rfl dL_law_1169 ?_
  refine r_LS (pc := 1170) (n := 3) (As := [.ref (G.2.1 + 0), .int (xs (4 * j + 1)), .ref (G.2.1 + 143)]) (st := []) h hX ⟨mw_28_9, mw_4_9, mw_28_11, ⟨by decide +kernel, by decide +kernel⟩, by decide +kernel, mw_28_10⟩ (l_stopReading x.2.1 hst G σ n tx A m H sv sl hC (xs (4 * j + 1))) rfl rfl (by decide) (by first | decide | exact Nat.le_of_ble_eq_true rfl) ⟨(by show 144 + 2 * j + 1 ≤ 601024; omega), (by show 18188 + 12 * j + 6 ≤ 7293034; omega)⟩ dL_law_1170 (fun r1 s1 q1 => ?_)
  obtain ⟨e1, hk, hI0, hI1⟩ := q1
  refine r_istore (pc := 1173) (lo2 := [(5, .int r1), (0, .ref b), (1, .ref (G.2.1 + 0)), (2, .ref (G.2.1 + 134)), (3, .ref (G.2.1 + 143)), (4, .int (nI (4 * j)))]) h (by decide) rfl dL_law_1173 ?_
  refine r_aload_n (pc := 1175) h 3 rfl rfl dL_law_1175 ?_
  refine r_aload_n (pc := 1176) h 1 rfl rfl dL_law_1176 ?_
  refine r_iload (pc := 1177) h 5 rfl dL_law_1177 ?_
  refine r_iconst (pc := 1179) (v := nI 1) h (by decide) dL_law_1179 ?_
  refine r_iadd (pc := 1180) (v := nI (4 * j + 1)) h (nI_add _ _) dL_law_1180 ?_
  refine r_sld (pc := 1181) (j := 4 * j + 1) h hS0 hbl hbA rfl (by omega) (by omega) dL_law_1181 ?_
  refine r_cVi (pc := 1182) (As := [.int (xs (4 * j + 1))]) (st := []) h lk_RL_197 (c_m_stopReading x.2.1 G s1 n tx A m H sv sl (keepM hM hk) (xs (4 * j + 1))) rc_6 (by decide) rfl rfl (by first | decide | exact Nat.le_of_ble_eq_true rfl) ⟨(by show 144 + 2 * j + 1 + 0 ≤ 601024; omega), (by show 18188 + 12 * j + 6 + 0 ≤ 7293034; omega)⟩ dL_law_1182 (fun r2 s2 q2 => ?_)
  obtain ⟨g1, g2, g3, g4⟩ := q2
  refine r_istore (pc := 1185) (lo2 := [(6, .int r2), (5, .int r1), (0, .ref b), (1, .ref (G.2.1 + 0)), (2, .ref (G.2.1 + 134)), (3, .ref (G.2.1 + 143)), (4, .int (nI (4 * j)))]) h (by decide) rfl dL_law_1185 ?_
  refine r_aload_n (pc := 1187) h 4 rfl rfl dL_law_1187 ?_
  refine r_cVi (pc := 1188) (As := []) (st := []) h lk_RL_139 (c_thrown x.2.1 G s2) rc_6 (by decide) rfl rfl (by first | decide | exact Nat.le_of_ble_eq_true rfl) ⟨(by show 144 + 2 * j + 1 + 0 + 0 ≤ 601024; omega), (by show 18188 + 12 * j + 6 + 0 + 0 ≤ 7293034; omega)⟩ dL_law_1188 (fun r3 s3 q3 => ?_)
  rw [q3.1, q3.2, g1]
  refine r_iload (pc := 1191) h 1 rfl dL_law_1191 ?_
  refine r_icmp_eq (pc := 1193) (tgt := 1198) h (by decide) dL_law_1193 (fun _ => ?_) (fun c9 => absurd e1.symm c9)
  refine r_iload (pc := 1198) h 1 rfl dL_law_1198 ?_
  refine r_if_ne (pc := 1200) (tgt := 1215) h (by decide) dL_law_1200 (fun c9 => ?_) (fun c9 => ?_)
  · have hC0 : ob A 113 (xs (4 * j + 1)) (nI 0) (nI 0) ≠ 0 := fun q => c9 (by rw [e1, q, kq_0]; rfl)
    refine r_goto (pc := 1215) (tgt := 2550) h (by decide) dL_law_1215 ?_
    exact V.wd (by show 144 + 2 * j + 1 + 0 + 0 ≤ 144 + 2 * (j + 1); omega) (by show 18188 + 12 * j + 6 + 0 + 0 ≤ 18188 + 12 * (j + 1); omega) (r_sub [2, 3, 4, 5, 6] rfl (kk _ _ _ _ _ _ _ _ ((hI0 hC0).o g2 (Or.inl (by decide))) (g3 hC0)))
  · have hC0 : ob A 113 (xs (4 * j + 1)) (nI 0) (nI 0) = 0 := (kq_z (by decide)).mp (e1.symm.trans c9)
    have ho := (g2.l 143 0 (by omega)).trans (hI1 hC0).1
    have hr := (g4 hC0).1
    refine r_aload_n (pc := 1203) h 5 rfl rfl dL_law_1203 ?_
    refine r_iconst (pc := 1204) (v := nI 0) h (by decide) dL_law_1204 ?_
    refine r_lald (pc := 1205) h a_out 0 rfl (by decide) dL_law_1205 ?_
    refine r_iload (pc := 1206) h 0 rfl dL_law_1206 ?_
    refine r_i2l (pc := 1208) (v := r2.toInt64) h rfl dL_law_1208 ?_
    refine r_lcmp (pc := 1209) (v := lg_cmp (s2.2 143 0) r2.toInt64) h rfl dL_law_1209 ?_
    refine r_if_eq (pc := 1210) (tgt := 1215) h (by decide) dL_law_1210 (fun _ => ?_) (fun c7 => absurd (lg_self _ (ho.trans (by rw [hr]))) c7)
    refine r_goto (pc := 1215) (tgt := 2550) h (by decide) dL_law_1215 ?_
    exact V.wd (by show 144 + 2 * j + 1 + 0 + 0 ≤ 144 + 2 * (j + 1); omega) (by show 18188 + 12 * j + 6 + 0 + 0 ≤ 18188 + 12 * (j + 1); omega) (r_sub [2, 3, 4, 5, 6] rfl (kk _ _ _ _ _ _ _ _ ((hI1 hC0).2.o g2 (Or.inl (by decide))) ((g4 hC0).2)))

set_option maxRecDepth 100000 in
set_option maxHeartbeats 1600000 in
theorem law_c18 {x : Cx} {G : Gl} {Q : State → Prop} {b L : Nat} {xs : Nat → Int32} (LAh : LA x G b L xs) (j : Nat) (hj : 4 * j + 4 ≤ L) (σ : Sg) (n : Nat) (tx : Nat → Nat) (A : Ab) (m : Nat) (H : Nat → Ab) (sv : Nat → Bool) (sl : Nat → Ab) (hC : InvC n tx A m H sv sl σ) (hM : InvM n tx A m H sv sl σ) (kk : NX x G Q b j) : V x G 7 (144 + 2 * j) (18188 + 12 * j) Q σ 1218 [(0, .ref b), (1, .ref (G.2.1 + 0)), (2, .ref (G.2.1 + 134)), (3, .ref (G.2.1 + 143)), (4, .int (nI (4 * j)))] [] := by
  obtain ⟨h, hX, hst, hS0, hbl, hbA, hL⟩ := LAh
  refine r_aload_n (pc := 1218) h 1 rfl rfl dL_law_1218 ?_
  refine r_aload_n (pc := 1219) h 3 rfl rfl dL_law_1219 ?_
  refine r_LS (pc := 1220) (n := 2) (As := [.ref (G.2.1 + 0), .ref (G.2.1 + 143)]) (st := []) h hX ⟨mw_28_20, mw_4_9, mw_28_22, ⟨by decide +kernel, by decide +kernel⟩, by decide +kernel, mw_28_21⟩ (l_undo x.2.1 hst G σ n tx A m H sv sl hC ) rfl rfl (by decide) (by first | decide | exact Nat.le_of_ble_eq_true rfl) ⟨(by show 144 + 2 * j + 1 ≤ 601024; omega), (by show 18188 + 12 * j + 6 ≤ 7293034; omega)⟩ dL_law_1220 (fun r1 s1 q1 => ?_)
  obtain ⟨e1, hk, hI0, hI1⟩ := q1
  refine r_istore (pc := 1223) (lo2 := [(5, .int r1), (0, .ref b), (1, .ref (G.2.1 + 0)), (2, .ref (G.2.1 + 134)), (3, .ref (G.2.1 + 143)), (4, .int (nI (4 * j)))]) h (by decide) rfl dL_law_1223 ?_
  refine r_aload_n (pc := 1225) h 3 rfl rfl dL_law_1225 ?_
  refine r_cVi (pc := 1226) (As := []) (st := []) h lk_RL_200 (c_m_undo x.2.1 G s1 n tx A m H sv sl (keepM hM hk) ) rc_6 (by decide) rfl rfl (by first | decide | exact Nat.le_of_ble_eq_true rfl) ⟨(by show 144 + 2 * j + 1 + 0 ≤ 601024; omega), (by show 18188 + 12 * j + 6 + 0 ≤ 7293034; omega)⟩ dL_law_1226 (fun r2 s2 q2 => ?_)
  obtain ⟨g1, g2, g3, g4⟩ := q2
  refine r_istore (pc := 1229) (lo2 := [(6, .int r2), (5, .int r1), (0, .ref b), (1, .ref (G.2.1 + 0)), (2, .ref (G.2.1 + 134)), (3, .ref (G.2.1 + 143)), (4, .int (nI (4 * j)))]) h (by decide) rfl dL_law_1229 ?_
  refine r_aload_n (pc := 1231) h 4 rfl rfl dL_law_1231 ?_
  refine r_cVi (pc := 1232) (As := []) (st := []) h lk_RL_139 (c_thrown x.2.1 G s2) rc_6 (by decide) rfl rfl (by first | decide | exact Nat.le_of_ble_eq_true rfl) ⟨(by show 144 + 2 * j + 1 + 0 + 0 ≤ 601024; omega), (by show 18188 + 12 * j + 6 + 0 + 0 ≤ 7293034; omega)⟩ dL_law_1232 (fun r3 s3 q3 => ?_)
  rw [q3.1, q3.2, g1]
  refine r_iload (pc := 1235) h 1 rfl dL_law_1235 ?_
  refine r_icmp_eq (pc := 1237) (tgt := 1242) h (by decide) dL_law_1237 (fun _ => ?_) (fun c9 => absurd e1.symm c9)
  refine r_iload (pc := 1242) h 1 rfl dL_law_1242 ?_
  refine r_if_ne (pc := 1244) (tgt := 1259) h (by decide) dL_law_1244 (fun c9 => ?_) (fun c9 => ?_)
  · have hC0 : cB (decide (m ≠ 0)) 3 ≠ 0 := fun q => c9 (by rw [e1, q, kq_0]; rfl)
    refine r_goto (pc := 1259) (tgt := 2550) h (by decide) dL_law_1259 ?_
    exact V.wd (by show 144 + 2 * j + 1 + 0 + 0 ≤ 144 + 2 * (j + 1); omega) (by show 18188 + 12 * j + 6 + 0 + 0 ≤ 18188 + 12 * (j + 1); omega) (r_sub [2, 3, 4, 5, 6] rfl (kk _ _ _ _ _ _ _ _ ((hI0 hC0).o g2 (Or.inl (by decide))) (g3 hC0)))
  · have hC0 : cB (decide (m ≠ 0)) 3 = 0 := (kq_z (by decide)).mp (e1.symm.trans c9)
    have ho := (g2.l 143 0 (by omega)).trans (hI1 hC0).1
    have hr := (g4 hC0).1
    refine r_aload_n (pc := 1247) h 5 rfl rfl dL_law_1247 ?_
    refine r_iconst (pc := 1248) (v := nI 0) h (by decide) dL_law_1248 ?_
    refine r_lald (pc := 1249) h a_out 0 rfl (by decide) dL_law_1249 ?_
    refine r_iload (pc := 1250) h 0 rfl dL_law_1250 ?_
    refine r_i2l (pc := 1252) (v := r2.toInt64) h rfl dL_law_1252 ?_
    refine r_lcmp (pc := 1253) (v := lg_cmp (s2.2 143 0) r2.toInt64) h rfl dL_law_1253 ?_
    refine r_if_eq (pc := 1254) (tgt := 1259) h (by decide) dL_law_1254 (fun _ => ?_) (fun c7 => absurd (lg_self _ (ho.trans (by rw [hr]))) c7)
    refine r_goto (pc := 1259) (tgt := 2550) h (by decide) dL_law_1259 ?_
    exact V.wd (by show 144 + 2 * j + 1 + 0 + 0 ≤ 144 + 2 * (j + 1); omega) (by show 18188 + 12 * j + 6 + 0 + 0 ≤ 18188 + 12 * (j + 1); omega) (r_sub [2, 3, 4, 5, 6] rfl (kk _ _ _ _ _ _ _ _ ((hI1 hC0).2.o g2 (Or.inl (by decide))) ((g4 hC0).2)))

set_option maxRecDepth 100000 in
set_option maxHeartbeats 1600000 in
theorem law_c19 {x : Cx} {G : Gl} {Q : State → Prop} {b L : Nat} {xs : Nat → Int32} (LAh : LA x G b L xs) (j : Nat) (hj : 4 * j + 4 ≤ L) (σ : Sg) (n : Nat) (tx : Nat → Nat) (A : Ab) (m : Nat) (H : Nat → Ab) (sv : Nat → Bool) (sl : Nat → Ab) (hC : InvC n tx A m H sv sl σ) (hM : InvM n tx A m H sv sl σ) (kk : NX x G Q b j) : V x G 7 (144 + 2 * j) (18188 + 12 * j) Q σ 1262 [(0, .ref b), (1, .ref (G.2.1 + 0)), (2, .ref (G.2.1 + 134)), (3, .ref (G.2.1 + 143)), (4, .int (nI (4 * j)))] [] := by
  obtain ⟨h, hX, hst, hS0, hbl, hbA, hL⟩ := LAh
  refine r_aload_n (pc := 1262) h 1 rfl rfl dL_law_1262 ?_
  refine r_cVi (pc := 1263) (As := []) (st := []) h lk_RL_201 (c_x_lists x.2.1 G σ A hC.2.1) rc_5 (by decide) rfl rfl (by first | decide | exact Nat.le_of_ble_eq_true rfl) ⟨(by show 144 + 2 * j + 0 ≤ 601024; omega), (by show 18188 + 12 * j + 0 ≤ 7293034; omega)⟩ dL_law_1263 (fun r1 s1 q1 => ?_)
  obtain ⟨e1, e2⟩ := q1
  have k1 : ∀ q, 134 ≤ q → q < 143 → s1.1 q = σ.1 q := fun q _ _ => by rw [e2]
  have k2 : InvC n tx A m H sv sl s1 := by rw [e2]; exact hC
  refine r_aload_n (pc := 1266) h 2 rfl rfl dL_law_1266 ?_
  refine r_cVi (pc := 1267) (As := []) (st := [.int r1]) h lk_RL_204 (c_m_lists x.2.1 G s1 n tx A m H sv sl (keepM hM k1)) rc_6 (by decide) rfl rfl (by first | decide | exact Nat.le_of_ble_eq_true rfl) ⟨(by show 144 + 2 * j + 0 + 0 ≤ 601024; omega), (by show 18188 + 12 * j + 0 + 0 ≤ 7293034; omega)⟩ dL_law_1267 (fun r2 s2 q2 => ?_)
  obtain ⟨g1, g2, g3⟩ := q2
  refine r_icmp_eq (pc := 1270) (tgt := 2550) h (by decide) dL_law_1270 (fun _ => ?_) (fun c9 => absurd (e1.trans g1.symm) c9)
  exact V.wd (by show 144 + 2 * j + 0 + 0 ≤ 144 + 2 * (j + 1); omega) (by show 18188 + 12 * j + 0 + 0 ≤ 18188 + 12 * (j + 1); omega) (r_sub [0, 1, 2, 3, 4] rfl (kk _ _ _ _ _ _ _ _ (k2.o g3 (Or.inl (by decide))) g2))

set_option maxRecDepth 100000 in
set_option maxHeartbeats 1600000 in
theorem law_c20 {x : Cx} {G : Gl} {Q : State → Prop} {b L : Nat} {xs : Nat → Int32} (LAh : LA x G b L xs) (j : Nat) (hj : 4 * j + 4 ≤ L) (σ : Sg) (n : Nat) (tx : Nat → Nat) (A : Ab) (m : Nat) (H : Nat → Ab) (sv : Nat → Bool) (sl : Nat → Ab) (hC : InvC n tx A m H sv sl σ) (hM : InvM n tx A m H sv sl σ) (kk : NX x G Q b j) : V x G 7 (144 + 2 * j) (18188 + 12 * j) Q σ 1275 [(0, .ref b), (1, .ref (G.2.1 + 0)), (2, .ref (G.2.1 + 134)), (3, .ref (G.2.1 + 143)), (4, .int (nI (4 * j)))] [] := by
  obtain ⟨h, hX, hst, hS0, hbl, hbA, hL⟩ := LAh
  refine r_aload_n (pc := 1275) h 1 rfl rfl dL_law_1275 ?_
  refine r_aload_n (pc := 1276) h 0 rfl rfl dL_law_1276 ?_
  refine r_iload (pc := 1277) h 4 rfl dL_law_1277 ?_
  refine r_iconst (pc := 1279) (v := nI 1) h (by decide) dL_law_1279 ?_
  refine r_iadd (pc := 1280) (v := nI (4 * j + 1)) h (nI_add _ _) dL_law_1280 ?_
  refine r_sld (pc := 1281) (j := 4 * j + 1) h hS0 hbl hbA rfl (by omega) (by omega) dL_law_1281 ?_
  refine r_aload_n (pc := 1282) h 0 rfl rfl dL_law_1282 ?_
  refine r_iload (pc := 1283) h 4 rfl dL_law_1283 ?_
  refine r_iconst (pc := 1285) (v := nI 2) h (by decide) dL_law_1285 ?_
  refine r_iadd (pc := 1286) (v := nI (4 * j + 2)) h (nI_add _ _) dL_law_1286 ?_
  refine r_sld (pc := 1287) (j := 4 * j + 2) h hS0 hbl hbA rfl (by omega) (by omega) dL_law_1287 ?_
  refine r_aload_n (pc := 1288) h 3 rfl rfl dL_law_1288 ?_
  refine r_LS (pc := 1289) (n := 4) (As := [.ref (G.2.1 + 0), .int (xs (4 * j + 1)), .int (xs (4 * j + 2)), .ref (G.2.1 + 143)]) (st := []) h hX ⟨mw_29_22, mw_4_9, mw_30_0, ⟨by decide +kernel, by decide +kernel⟩, by decide +kernel, mw_29_23⟩ (l_isMember x.2.1 hst G σ n tx A m H sv sl hC (xs (4 * j + 1)) (xs (4 * j + 2))) rfl rfl (by decide) (by first | decide | exact Nat.le_of_ble_eq_true rfl) ⟨(by show 144 + 2 * j + 2 ≤ 601024; omega), (by show 18188 + 12 * j + 12 ≤ 7293034; omega)⟩ dL_law_1289 (fun r1 s1 q1 => ?_)
  obtain ⟨e1, hk, hI0, hI1⟩ := q1
  refine r_istore (pc := 1292) (lo2 := [(5, .int r1), (0, .ref b), (1, .ref (G.2.1 + 0)), (2, .ref (G.2.1 + 134)), (3, .ref (G.2.1 + 143)), (4, .int (nI (4 * j)))]) h (by decide) rfl dL_law_1292 ?_
  refine r_aload_n (pc := 1294) h 3 rfl rfl dL_law_1294 ?_
  refine r_aload_n (pc := 1295) h 1 rfl rfl dL_law_1295 ?_
  refine r_iload (pc := 1296) h 5 rfl dL_law_1296 ?_
  refine r_iconst (pc := 1298) (v := nI 1) h (by decide) dL_law_1298 ?_
  refine r_iadd (pc := 1299) (v := nI (4 * j + 1)) h (nI_add _ _) dL_law_1299 ?_
  refine r_sld (pc := 1300) (j := 4 * j + 1) h hS0 hbl hbA rfl (by omega) (by omega) dL_law_1300 ?_
  refine r_aload_n (pc := 1301) h 1 rfl rfl dL_law_1301 ?_
  refine r_iload (pc := 1302) h 5 rfl dL_law_1302 ?_
  refine r_iconst (pc := 1304) (v := nI 2) h (by decide) dL_law_1304 ?_
  refine r_iadd (pc := 1305) (v := nI (4 * j + 2)) h (nI_add _ _) dL_law_1305 ?_
  refine r_sld (pc := 1306) (j := 4 * j + 2) h hS0 hbl hbA rfl (by omega) (by omega) dL_law_1306 ?_
  refine r_cVi (pc := 1307) (As := [.int (xs (4 * j + 1)), .int (xs (4 * j + 2))]) (st := []) h lk_RL_207 (c_m_isMember x.2.1 G s1 n tx A m H sv sl (keepM hM hk) (xs (4 * j + 1)) (xs (4 * j + 2))) rc_6 (by decide) rfl rfl (by first | decide | exact Nat.le_of_ble_eq_true rfl) ⟨(by show 144 + 2 * j + 2 + 0 ≤ 601024; omega), (by show 18188 + 12 * j + 12 + 0 ≤ 7293034; omega)⟩ dL_law_1307 (fun r2 s2 q2 => ?_)
  obtain ⟨⟨g1, g2, g3, g4⟩, -⟩ := q2
  refine r_istore (pc := 1310) (lo2 := [(6, .int r2), (5, .int r1), (0, .ref b), (1, .ref (G.2.1 + 0)), (2, .ref (G.2.1 + 134)), (3, .ref (G.2.1 + 143)), (4, .int (nI (4 * j)))]) h (by decide) rfl dL_law_1310 ?_
  refine r_aload_n (pc := 1312) h 4 rfl rfl dL_law_1312 ?_
  refine r_cVi (pc := 1313) (As := []) (st := []) h lk_RL_139 (c_thrown x.2.1 G s2) rc_6 (by decide) rfl rfl (by first | decide | exact Nat.le_of_ble_eq_true rfl) ⟨(by show 144 + 2 * j + 2 + 0 + 0 ≤ 601024; omega), (by show 18188 + 12 * j + 12 + 0 + 0 ≤ 7293034; omega)⟩ dL_law_1313 (fun r3 s3 q3 => ?_)
  rw [q3.1, q3.2, g1]
  refine r_iload (pc := 1316) h 1 rfl dL_law_1316 ?_
  refine r_icmp_eq (pc := 1318) (tgt := 1323) h (by decide) dL_law_1318 (fun _ => ?_) (fun c9 => absurd e1.symm c9)
  refine r_iload (pc := 1323) h 1 rfl dL_law_1323 ?_
  refine r_if_ne (pc := 1325) (tgt := 1347) h (by decide) dL_law_1325 (fun c9 => ?_) (fun c9 => ?_)
  · have hC0 : seqC (cB (liB A (xs (4 * j + 1))) 1) (cB (inB (nI 0) (nI 999) (xs (4 * j + 2))) 2) ≠ 0 := fun q => c9 (by rw [e1, q, kq_0]; rfl)
    refine r_goto (pc := 1347) (tgt := 2550) h (by decide) dL_law_1347 ?_
    exact V.wd (by show 144 + 2 * j + 2 + 0 + 0 ≤ 144 + 2 * (j + 1); omega) (by show 18188 + 12 * j + 12 + 0 + 0 ≤ 18188 + 12 * (j + 1); omega) (r_sub [2, 3, 4, 5, 6] rfl (kk _ _ _ _ _ _ _ _ ((hI0 hC0).o g2 (Or.inl (by decide))) (g3 hC0)))
  · have hC0 : seqC (cB (liB A (xs (4 * j + 1))) 1) (cB (inB (nI 0) (nI 999) (xs (4 * j + 2))) 2) = 0 := (kq_z (by decide)).mp (e1.symm.trans c9)
    have ho := (g2.l 143 0 (by omega)).trans (hI1 hC0).1
    have hr := (g4 hC0).1
    refine r_aload_n (pc := 1328) h 5 rfl rfl dL_law_1328 ?_
    refine r_iconst (pc := 1329) (v := nI 0) h (by decide) dL_law_1329 ?_
    refine r_lald (pc := 1330) h a_out 0 rfl (by decide) dL_law_1330 ?_
    refine r_iload (pc := 1331) h 0 rfl dL_law_1331 ?_
    rw [hr]
    refine r_if_eq (pc := 1333) (tgt := 1340) h (by decide) dL_law_1333 (fun c8 => ?_) (fun c8 => ?_)
    · skip
      refine r_lconst (pc := 1340) (v := 0) h (by decide) dL_law_1340 ?_
      refine r_lcmp (pc := 1341) (v := lg_cmp (s2.2 143 0) 0) h rfl dL_law_1341 ?_
      refine r_if_eq (pc := 1342) (tgt := 1347) h (by decide) dL_law_1342 (fun _ => ?_) (fun c7 => absurd (lg_self _ (ho.trans (bL_f (zB_0.mp c8)))) c7)
      refine r_goto (pc := 1347) (tgt := 2550) h (by decide) dL_law_1347 ?_
      exact V.wd (by show 144 + 2 * j + 2 + 0 + 0 ≤ 144 + 2 * (j + 1); omega) (by show 18188 + 12 * j + 12 + 0 + 0 ≤ 18188 + 12 * (j + 1); omega) (r_sub [2, 3, 4, 5, 6] rfl (kk _ _ _ _ _ _ _ _ ((hI1 hC0).2.o g2 (Or.inl (by decide))) ((g4 hC0).2)))
    · skip
      refine r_lconst (pc := 1336) (v := 1) h (by decide) dL_law_1336 ?_
      refine r_goto (pc := 1337) (tgt := 1341) h (by decide) dL_law_1337 ?_
      refine r_lcmp (pc := 1341) (v := lg_cmp (s2.2 143 0) 1) h rfl dL_law_1341 ?_
      refine r_if_eq (pc := 1342) (tgt := 1347) h (by decide) dL_law_1342 (fun _ => ?_) (fun c7 => absurd (lg_self _ (ho.trans (bL_t (zB_n0.mp c8)))) c7)
      refine r_goto (pc := 1347) (tgt := 2550) h (by decide) dL_law_1347 ?_
      exact V.wd (by show 144 + 2 * j + 2 + 0 + 0 ≤ 144 + 2 * (j + 1); omega) (by show 18188 + 12 * j + 12 + 0 + 0 ≤ 18188 + 12 * (j + 1); omega) (r_sub [2, 3, 4, 5, 6] rfl (kk _ _ _ _ _ _ _ _ ((hI1 hC0).2.o g2 (Or.inl (by decide))) ((g4 hC0).2)))

set_option maxRecDepth 100000 in
set_option maxHeartbeats 1600000 in
theorem law_c21 {x : Cx} {G : Gl} {Q : State → Prop} {b L : Nat} {xs : Nat → Int32} (LAh : LA x G b L xs) (j : Nat) (hj : 4 * j + 4 ≤ L) (σ : Sg) (n : Nat) (tx : Nat → Nat) (A : Ab) (m : Nat) (H : Nat → Ab) (sv : Nat → Bool) (sl : Nat → Ab) (hC : InvC n tx A m H sv sl σ) (hM : InvM n tx A m H sv sl σ) (kk : NX x G Q b j) : V x G 7 (144 + 2 * j) (18188 + 12 * j) Q σ 1350 [(0, .ref b), (1, .ref (G.2.1 + 0)), (2, .ref (G.2.1 + 134)), (3, .ref (G.2.1 + 143)), (4, .int (nI (4 * j)))] [] := by
  obtain ⟨h, hX, hst, hS0, hbl, hbA, hL⟩ := LAh
  refine r_aload_n (pc := 1350) h 1 rfl rfl dL_law_1350 ?_
  refine r_aload_n (pc := 1351) h 0 rfl rfl dL_law_1351 ?_
  refine r_iload (pc := 1352) h 4 rfl dL_law_1352 ?_
  refine r_iconst (pc := 1354) (v := nI 1) h (by decide) dL_law_1354 ?_
  refine r_iadd (pc := 1355) (v := nI (4 * j + 1)) h (nI_add _ _) dL_law_1355 ?_
  refine r_sld (pc := 1356) (j := 4 * j + 1) h hS0 hbl hbA rfl (by omega) (by omega) dL_law_1356 ?_
  refine r_aload_n (pc := 1357) h 0 rfl rfl dL_law_1357 ?_
  refine r_iload (pc := 1358) h 4 rfl dL_law_1358 ?_
  refine r_iconst (pc := 1360) (v := nI 2) h (by decide) dL_law_1360 ?_
  refine r_iadd (pc := 1361) (v := nI (4 * j + 2)) h (nI_add _ _) dL_law_1361 ?_
  refine r_sld (pc := 1362) (j := 4 * j + 2) h hS0 hbl hbA rfl (by omega) (by omega) dL_law_1362 ?_
  refine r_aload_n (pc := 1363) h 3 rfl rfl dL_law_1363 ?_
  refine r_LS (pc := 1364) (n := 4) (As := [.ref (G.2.1 + 0), .int (xs (4 * j + 1)), .int (xs (4 * j + 2)), .ref (G.2.1 + 143)]) (st := []) h hX ⟨mw_30_22, mw_4_9, mw_31_0, ⟨by decide +kernel, by decide +kernel⟩, by decide +kernel, mw_30_23⟩ (l_memberByReading x.2.1 hst G σ n tx A m H sv sl hC (xs (4 * j + 1)) (xs (4 * j + 2))) rfl rfl (by decide) (by first | decide | exact Nat.le_of_ble_eq_true rfl) ⟨(by show 144 + 2 * j + 2 ≤ 601024; omega), (by show 18188 + 12 * j + 12 ≤ 7293034; omega)⟩ dL_law_1364 (fun r1 s1 q1 => ?_)
  obtain ⟨e1, hk, hI0, hI1⟩ := q1
  refine r_istore (pc := 1367) (lo2 := [(5, .int r1), (0, .ref b), (1, .ref (G.2.1 + 0)), (2, .ref (G.2.1 + 134)), (3, .ref (G.2.1 + 143)), (4, .int (nI (4 * j)))]) h (by decide) rfl dL_law_1367 ?_
  refine r_aload_n (pc := 1369) h 3 rfl rfl dL_law_1369 ?_
  refine r_aload_n (pc := 1370) h 1 rfl rfl dL_law_1370 ?_
  refine r_iload (pc := 1371) h 5 rfl dL_law_1371 ?_
  refine r_iconst (pc := 1373) (v := nI 1) h (by decide) dL_law_1373 ?_
  refine r_iadd (pc := 1374) (v := nI (4 * j + 1)) h (nI_add _ _) dL_law_1374 ?_
  refine r_sld (pc := 1375) (j := 4 * j + 1) h hS0 hbl hbA rfl (by omega) (by omega) dL_law_1375 ?_
  refine r_aload_n (pc := 1376) h 1 rfl rfl dL_law_1376 ?_
  refine r_iload (pc := 1377) h 5 rfl dL_law_1377 ?_
  refine r_iconst (pc := 1379) (v := nI 2) h (by decide) dL_law_1379 ?_
  refine r_iadd (pc := 1380) (v := nI (4 * j + 2)) h (nI_add _ _) dL_law_1380 ?_
  refine r_sld (pc := 1381) (j := 4 * j + 2) h hS0 hbl hbA rfl (by omega) (by omega) dL_law_1381 ?_
  refine r_cVi (pc := 1382) (As := [.int (xs (4 * j + 1)), .int (xs (4 * j + 2))]) (st := []) h lk_RL_210 (c_m_memberByReading x.2.1 G s1 n tx A m H sv sl (keepM hM hk) (xs (4 * j + 1)) (xs (4 * j + 2))) rc_6 (by decide) rfl rfl (by first | decide | exact Nat.le_of_ble_eq_true rfl) ⟨(by show 144 + 2 * j + 2 + 0 ≤ 601024; omega), (by show 18188 + 12 * j + 12 + 0 ≤ 7293034; omega)⟩ dL_law_1382 (fun r2 s2 q2 => ?_)
  obtain ⟨g1, g2, g3, g4⟩ := q2
  refine r_istore (pc := 1385) (lo2 := [(6, .int r2), (5, .int r1), (0, .ref b), (1, .ref (G.2.1 + 0)), (2, .ref (G.2.1 + 134)), (3, .ref (G.2.1 + 143)), (4, .int (nI (4 * j)))]) h (by decide) rfl dL_law_1385 ?_
  refine r_aload_n (pc := 1387) h 4 rfl rfl dL_law_1387 ?_
  refine r_cVi (pc := 1388) (As := []) (st := []) h lk_RL_139 (c_thrown x.2.1 G s2) rc_6 (by decide) rfl rfl (by first | decide | exact Nat.le_of_ble_eq_true rfl) ⟨(by show 144 + 2 * j + 2 + 0 + 0 ≤ 601024; omega), (by show 18188 + 12 * j + 12 + 0 + 0 ≤ 7293034; omega)⟩ dL_law_1388 (fun r3 s3 q3 => ?_)
  rw [q3.1, q3.2, g1]
  refine r_iload (pc := 1391) h 1 rfl dL_law_1391 ?_
  refine r_icmp_eq (pc := 1393) (tgt := 1398) h (by decide) dL_law_1393 (fun _ => ?_) (fun c9 => absurd e1.symm c9)
  refine r_iload (pc := 1398) h 1 rfl dL_law_1398 ?_
  refine r_if_ne (pc := 1400) (tgt := 1415) h (by decide) dL_law_1400 (fun c9 => ?_) (fun c9 => ?_)
  · have hC0 : seqC (cB (liB A (xs (4 * j + 1))) 1) (cB (decide (0 ≤ (xs (4 * j + 2)))) 1) ≠ 0 := fun q => c9 (by rw [e1, q, kq_0]; rfl)
    refine r_goto (pc := 1415) (tgt := 2550) h (by decide) dL_law_1415 ?_
    exact V.wd (by show 144 + 2 * j + 2 + 0 + 0 ≤ 144 + 2 * (j + 1); omega) (by show 18188 + 12 * j + 12 + 0 + 0 ≤ 18188 + 12 * (j + 1); omega) (r_sub [2, 3, 4, 5, 6] rfl (kk _ _ _ _ _ _ _ _ ((hI0 hC0).o g2 (Or.inl (by decide))) (g3 hC0)))
  · have hC0 : seqC (cB (liB A (xs (4 * j + 1))) 1) (cB (decide (0 ≤ (xs (4 * j + 2)))) 1) = 0 := (kq_z (by decide)).mp (e1.symm.trans c9)
    have ho := (g2.l 143 0 (by omega)).trans (hI1 hC0).1
    have hr := (g4 hC0).1
    refine r_aload_n (pc := 1403) h 5 rfl rfl dL_law_1403 ?_
    refine r_iconst (pc := 1404) (v := nI 0) h (by decide) dL_law_1404 ?_
    refine r_lald (pc := 1405) h a_out 0 rfl (by decide) dL_law_1405 ?_
    refine r_iload (pc := 1406) h 0 rfl dL_law_1406 ?_
    refine r_i2l (pc := 1408) (v := r2.toInt64) h rfl dL_law_1408 ?_
    refine r_lcmp (pc := 1409) (v := lg_cmp (s2.2 143 0) r2.toInt64) h rfl dL_law_1409 ?_
    refine r_if_eq (pc := 1410) (tgt := 1415) h (by decide) dL_law_1410 (fun _ => ?_) (fun c7 => absurd (lg_self _ (ho.trans (by rw [hr]))) c7)
    refine r_goto (pc := 1415) (tgt := 2550) h (by decide) dL_law_1415 ?_
    exact V.wd (by show 144 + 2 * j + 2 + 0 + 0 ≤ 144 + 2 * (j + 1); omega) (by show 18188 + 12 * j + 12 + 0 + 0 ≤ 18188 + 12 * (j + 1); omega) (r_sub [2, 3, 4, 5, 6] rfl (kk _ _ _ _ _ _ _ _ ((hI1 hC0).2.o g2 (Or.inl (by decide))) ((g4 hC0).2)))

set_option maxRecDepth 100000 in
set_option maxHeartbeats 1600000 in
theorem law_c22 {x : Cx} {G : Gl} {Q : State → Prop} {b L : Nat} {xs : Nat → Int32} (LAh : LA x G b L xs) (j : Nat) (hj : 4 * j + 4 ≤ L) (σ : Sg) (n : Nat) (tx : Nat → Nat) (A : Ab) (m : Nat) (H : Nat → Ab) (sv : Nat → Bool) (sl : Nat → Ab) (hC : InvC n tx A m H sv sl σ) (hM : InvM n tx A m H sv sl σ) (kk : NX x G Q b j) : V x G 7 (144 + 2 * j) (18188 + 12 * j) Q σ 1418 [(0, .ref b), (1, .ref (G.2.1 + 0)), (2, .ref (G.2.1 + 134)), (3, .ref (G.2.1 + 143)), (4, .int (nI (4 * j)))] [] := by
  obtain ⟨h, hX, hst, hS0, hbl, hbA, hL⟩ := LAh
  refine r_aload_n (pc := 1418) h 1 rfl rfl dL_law_1418 ?_
  refine r_aload_n (pc := 1419) h 0 rfl rfl dL_law_1419 ?_
  refine r_iload (pc := 1420) h 4 rfl dL_law_1420 ?_
  refine r_iconst (pc := 1422) (v := nI 1) h (by decide) dL_law_1422 ?_
  refine r_iadd (pc := 1423) (v := nI (4 * j + 1)) h (nI_add _ _) dL_law_1423 ?_
  refine r_sld (pc := 1424) (j := 4 * j + 1) h hS0 hbl hbA rfl (by omega) (by omega) dL_law_1424 ?_
  refine r_aload_n (pc := 1425) h 0 rfl rfl dL_law_1425 ?_
  refine r_iload (pc := 1426) h 4 rfl dL_law_1426 ?_
  refine r_iconst (pc := 1428) (v := nI 2) h (by decide) dL_law_1428 ?_
  refine r_iadd (pc := 1429) (v := nI (4 * j + 2)) h (nI_add _ _) dL_law_1429 ?_
  refine r_sld (pc := 1430) (j := 4 * j + 2) h hS0 hbl hbA rfl (by omega) (by omega) dL_law_1430 ?_
  refine r_aload_n (pc := 1431) h 3 rfl rfl dL_law_1431 ?_
  refine r_LS (pc := 1432) (n := 4) (As := [.ref (G.2.1 + 0), .int (xs (4 * j + 1)), .int (xs (4 * j + 2)), .ref (G.2.1 + 143)]) (st := []) h hX ⟨mw_31_20, mw_4_9, mw_31_22, ⟨by decide +kernel, by decide +kernel⟩, by decide +kernel, mw_31_21⟩ (l_memberByTesting x.2.1 hst G σ n tx A m H sv sl hC (xs (4 * j + 1)) (xs (4 * j + 2))) rfl rfl (by decide) (by first | decide | exact Nat.le_of_ble_eq_true rfl) ⟨(by show 144 + 2 * j + 2 ≤ 601024; omega), (by show 18188 + 12 * j + 12 ≤ 7293034; omega)⟩ dL_law_1432 (fun r1 s1 q1 => ?_)
  obtain ⟨e1, hk, hI0, hI1⟩ := q1
  refine r_istore (pc := 1435) (lo2 := [(5, .int r1), (0, .ref b), (1, .ref (G.2.1 + 0)), (2, .ref (G.2.1 + 134)), (3, .ref (G.2.1 + 143)), (4, .int (nI (4 * j)))]) h (by decide) rfl dL_law_1435 ?_
  refine r_aload_n (pc := 1437) h 3 rfl rfl dL_law_1437 ?_
  refine r_aload_n (pc := 1438) h 1 rfl rfl dL_law_1438 ?_
  refine r_iload (pc := 1439) h 5 rfl dL_law_1439 ?_
  refine r_iconst (pc := 1441) (v := nI 1) h (by decide) dL_law_1441 ?_
  refine r_iadd (pc := 1442) (v := nI (4 * j + 1)) h (nI_add _ _) dL_law_1442 ?_
  refine r_sld (pc := 1443) (j := 4 * j + 1) h hS0 hbl hbA rfl (by omega) (by omega) dL_law_1443 ?_
  refine r_aload_n (pc := 1444) h 1 rfl rfl dL_law_1444 ?_
  refine r_iload (pc := 1445) h 5 rfl dL_law_1445 ?_
  refine r_iconst (pc := 1447) (v := nI 2) h (by decide) dL_law_1447 ?_
  refine r_iadd (pc := 1448) (v := nI (4 * j + 2)) h (nI_add _ _) dL_law_1448 ?_
  refine r_sld (pc := 1449) (j := 4 * j + 2) h hS0 hbl hbA rfl (by omega) (by omega) dL_law_1449 ?_
  refine r_cVi (pc := 1450) (As := [.int (xs (4 * j + 1)), .int (xs (4 * j + 2))]) (st := []) h lk_RL_213 (c_m_memberByTesting x.2.1 G s1 n tx A m H sv sl (keepM hM hk) (xs (4 * j + 1)) (xs (4 * j + 2))) rc_6 (by decide) rfl rfl (by first | decide | exact Nat.le_of_ble_eq_true rfl) ⟨(by show 144 + 2 * j + 2 + 0 ≤ 601024; omega), (by show 18188 + 12 * j + 12 + 0 ≤ 7293034; omega)⟩ dL_law_1450 (fun r2 s2 q2 => ?_)
  obtain ⟨g1, g2, g3, g4⟩ := q2
  refine r_istore (pc := 1453) (lo2 := [(6, .int r2), (5, .int r1), (0, .ref b), (1, .ref (G.2.1 + 0)), (2, .ref (G.2.1 + 134)), (3, .ref (G.2.1 + 143)), (4, .int (nI (4 * j)))]) h (by decide) rfl dL_law_1453 ?_
  refine r_aload_n (pc := 1455) h 4 rfl rfl dL_law_1455 ?_
  refine r_cVi (pc := 1456) (As := []) (st := []) h lk_RL_139 (c_thrown x.2.1 G s2) rc_6 (by decide) rfl rfl (by first | decide | exact Nat.le_of_ble_eq_true rfl) ⟨(by show 144 + 2 * j + 2 + 0 + 0 ≤ 601024; omega), (by show 18188 + 12 * j + 12 + 0 + 0 ≤ 7293034; omega)⟩ dL_law_1456 (fun r3 s3 q3 => ?_)
  rw [q3.1, q3.2, g1]
  refine r_iload (pc := 1459) h 1 rfl dL_law_1459 ?_
  refine r_icmp_eq (pc := 1461) (tgt := 1466) h (by decide) dL_law_1461 (fun _ => ?_) (fun c9 => absurd e1.symm c9)
  refine r_iload (pc := 1466) h 1 rfl dL_law_1466 ?_
  refine r_if_ne (pc := 1468) (tgt := 1483) h (by decide) dL_law_1468 (fun c9 => ?_) (fun c9 => ?_)
  · have hC0 : seqC (cB (liB A (xs (4 * j + 1))) 1) (cB (decide (0 ≤ (xs (4 * j + 2)))) 1) ≠ 0 := fun q => c9 (by rw [e1, q, kq_0]; rfl)
    refine r_goto (pc := 1483) (tgt := 2550) h (by decide) dL_law_1483 ?_
    exact V.wd (by show 144 + 2 * j + 2 + 0 + 0 ≤ 144 + 2 * (j + 1); omega) (by show 18188 + 12 * j + 12 + 0 + 0 ≤ 18188 + 12 * (j + 1); omega) (r_sub [2, 3, 4, 5, 6] rfl (kk _ _ _ _ _ _ _ _ ((hI0 hC0).o g2 (Or.inl (by decide))) (g3 hC0)))
  · have hC0 : seqC (cB (liB A (xs (4 * j + 1))) 1) (cB (decide (0 ≤ (xs (4 * j + 2)))) 1) = 0 := (kq_z (by decide)).mp (e1.symm.trans c9)
    have ho := (g2.l 143 0 (by omega)).trans (hI1 hC0).1
    have hr := (g4 hC0).1
    refine r_aload_n (pc := 1471) h 5 rfl rfl dL_law_1471 ?_
    refine r_iconst (pc := 1472) (v := nI 0) h (by decide) dL_law_1472 ?_
    refine r_lald (pc := 1473) h a_out 0 rfl (by decide) dL_law_1473 ?_
    refine r_iload (pc := 1474) h 0 rfl dL_law_1474 ?_
    refine r_i2l (pc := 1476) (v := r2.toInt64) h rfl dL_law_1476 ?_
    refine r_lcmp (pc := 1477) (v := lg_cmp (s2.2 143 0) r2.toInt64) h rfl dL_law_1477 ?_
    refine r_if_eq (pc := 1478) (tgt := 1483) h (by decide) dL_law_1478 (fun _ => ?_) (fun c7 => absurd (lg_self _ (ho.trans (by rw [hr]))) c7)
    refine r_goto (pc := 1483) (tgt := 2550) h (by decide) dL_law_1483 ?_
    exact V.wd (by show 144 + 2 * j + 2 + 0 + 0 ≤ 144 + 2 * (j + 1); omega) (by show 18188 + 12 * j + 12 + 0 + 0 ≤ 18188 + 12 * (j + 1); omega) (r_sub [2, 3, 4, 5, 6] rfl (kk _ _ _ _ _ _ _ _ ((hI1 hC0).2.o g2 (Or.inl (by decide))) ((g4 hC0).2)))

set_option maxRecDepth 100000 in
set_option maxHeartbeats 1600000 in
theorem law_c23 {x : Cx} {G : Gl} {Q : State → Prop} {b L : Nat} {xs : Nat → Int32} (LAh : LA x G b L xs) (j : Nat) (hj : 4 * j + 4 ≤ L) (σ : Sg) (n : Nat) (tx : Nat → Nat) (A : Ab) (m : Nat) (H : Nat → Ab) (sv : Nat → Bool) (sl : Nat → Ab) (hC : InvC n tx A m H sv sl σ) (hM : InvM n tx A m H sv sl σ) (kk : NX x G Q b j) : V x G 7 (144 + 2 * j) (18188 + 12 * j) Q σ 1486 [(0, .ref b), (1, .ref (G.2.1 + 0)), (2, .ref (G.2.1 + 134)), (3, .ref (G.2.1 + 143)), (4, .int (nI (4 * j)))] [] := by
  obtain ⟨h, hX, hst, hS0, hbl, hbA, hL⟩ := LAh
  refine r_aload_n (pc := 1486) h 1 rfl rfl dL_law_1486 ?_
  refine r_aload_n (pc := 1487) h 0 rfl rfl dL_law_1487 ?_
  refine r_iload (pc := 1488) h 4 rfl dL_law_1488 ?_
  refine r_iconst (pc := 1490) (v := nI 1) h (by decide) dL_law_1490 ?_
  refine r_iadd (pc := 1491) (v := nI (4 * j + 1)) h (nI_add _ _) dL_law_1491 ?_
  refine r_sld (pc := 1492) (j := 4 * j + 1) h hS0 hbl hbA rfl (by omega) (by omega) dL_law_1492 ?_
  refine r_aload_n (pc := 1493) h 0 rfl rfl dL_law_1493 ?_
  refine r_iload (pc := 1494) h 4 rfl dL_law_1494 ?_
  refine r_iconst (pc := 1496) (v := nI 2) h (by decide) dL_law_1496 ?_
  refine r_iadd (pc := 1497) (v := nI (4 * j + 2)) h (nI_add _ _) dL_law_1497 ?_
  refine r_sld (pc := 1498) (j := 4 * j + 2) h hS0 hbl hbA rfl (by omega) (by omega) dL_law_1498 ?_
  refine r_aload_n (pc := 1499) h 3 rfl rfl dL_law_1499 ?_
  refine r_LS (pc := 1500) (n := 4) (As := [.ref (G.2.1 + 0), .int (xs (4 * j + 1)), .int (xs (4 * j + 2)), .ref (G.2.1 + 143)]) (st := []) h hX ⟨mw_32_12, mw_4_9, mw_32_14, ⟨by decide +kernel, by decide +kernel⟩, by decide +kernel, mw_32_13⟩ (l_placeOf x.2.1 hst G σ n tx A m H sv sl hC (xs (4 * j + 1)) (xs (4 * j + 2))) rfl rfl (by decide) (by first | decide | exact Nat.le_of_ble_eq_true rfl) ⟨(by show 144 + 2 * j + 2 ≤ 601024; omega), (by show 18188 + 12 * j + 12 ≤ 7293034; omega)⟩ dL_law_1500 (fun r1 s1 q1 => ?_)
  obtain ⟨e1, hk, hI0, hI1⟩ := q1
  refine r_istore (pc := 1503) (lo2 := [(5, .int r1), (0, .ref b), (1, .ref (G.2.1 + 0)), (2, .ref (G.2.1 + 134)), (3, .ref (G.2.1 + 143)), (4, .int (nI (4 * j)))]) h (by decide) rfl dL_law_1503 ?_
  refine r_aload_n (pc := 1505) h 3 rfl rfl dL_law_1505 ?_
  refine r_aload_n (pc := 1506) h 1 rfl rfl dL_law_1506 ?_
  refine r_iload (pc := 1507) h 5 rfl dL_law_1507 ?_
  refine r_iconst (pc := 1509) (v := nI 1) h (by decide) dL_law_1509 ?_
  refine r_iadd (pc := 1510) (v := nI (4 * j + 1)) h (nI_add _ _) dL_law_1510 ?_
  refine r_sld (pc := 1511) (j := 4 * j + 1) h hS0 hbl hbA rfl (by omega) (by omega) dL_law_1511 ?_
  refine r_aload_n (pc := 1512) h 1 rfl rfl dL_law_1512 ?_
  refine r_iload (pc := 1513) h 5 rfl dL_law_1513 ?_
  refine r_iconst (pc := 1515) (v := nI 2) h (by decide) dL_law_1515 ?_
  refine r_iadd (pc := 1516) (v := nI (4 * j + 2)) h (nI_add _ _) dL_law_1516 ?_
  refine r_sld (pc := 1517) (j := 4 * j + 2) h hS0 hbl hbA rfl (by omega) (by omega) dL_law_1517 ?_
  refine r_cVi (pc := 1518) (As := [.int (xs (4 * j + 1)), .int (xs (4 * j + 2))]) (st := []) h lk_RL_216 (c_m_placeOf x.2.1 G s1 n tx A m H sv sl (keepM hM hk) (xs (4 * j + 1)) (xs (4 * j + 2))) rc_6 (by decide) rfl rfl (by first | decide | exact Nat.le_of_ble_eq_true rfl) ⟨(by show 144 + 2 * j + 2 + 0 ≤ 601024; omega), (by show 18188 + 12 * j + 12 + 0 ≤ 7293034; omega)⟩ dL_law_1518 (fun r2 s2 q2 => ?_)
  obtain ⟨g1, g2, g3, g4⟩ := q2
  refine r_istore (pc := 1521) (lo2 := [(6, .int r2), (5, .int r1), (0, .ref b), (1, .ref (G.2.1 + 0)), (2, .ref (G.2.1 + 134)), (3, .ref (G.2.1 + 143)), (4, .int (nI (4 * j)))]) h (by decide) rfl dL_law_1521 ?_
  refine r_aload_n (pc := 1523) h 4 rfl rfl dL_law_1523 ?_
  refine r_cVi (pc := 1524) (As := []) (st := []) h lk_RL_139 (c_thrown x.2.1 G s2) rc_6 (by decide) rfl rfl (by first | decide | exact Nat.le_of_ble_eq_true rfl) ⟨(by show 144 + 2 * j + 2 + 0 + 0 ≤ 601024; omega), (by show 18188 + 12 * j + 12 + 0 + 0 ≤ 7293034; omega)⟩ dL_law_1524 (fun r3 s3 q3 => ?_)
  rw [q3.1, q3.2, g1]
  refine r_iload (pc := 1527) h 1 rfl dL_law_1527 ?_
  refine r_icmp_eq (pc := 1529) (tgt := 1534) h (by decide) dL_law_1529 (fun _ => ?_) (fun c9 => absurd e1.symm c9)
  refine r_iload (pc := 1534) h 1 rfl dL_law_1534 ?_
  refine r_if_ne (pc := 1536) (tgt := 1551) h (by decide) dL_law_1536 (fun c9 => ?_) (fun c9 => ?_)
  · have hC0 : seqC (cB (liB A (xs (4 * j + 1))) 1) (cB (inB (nI 0) (nI 999) (xs (4 * j + 2))) 2) ≠ 0 := fun q => c9 (by rw [e1, q, kq_0]; rfl)
    refine r_goto (pc := 1551) (tgt := 2550) h (by decide) dL_law_1551 ?_
    exact V.wd (by show 144 + 2 * j + 2 + 0 + 0 ≤ 144 + 2 * (j + 1); omega) (by show 18188 + 12 * j + 12 + 0 + 0 ≤ 18188 + 12 * (j + 1); omega) (r_sub [2, 3, 4, 5, 6] rfl (kk _ _ _ _ _ _ _ _ ((hI0 hC0).o g2 (Or.inl (by decide))) (g3 hC0)))
  · have hC0 : seqC (cB (liB A (xs (4 * j + 1))) 1) (cB (inB (nI 0) (nI 999) (xs (4 * j + 2))) 2) = 0 := (kq_z (by decide)).mp (e1.symm.trans c9)
    have ho := (g2.l 143 0 (by omega)).trans (hI1 hC0).1
    have hr := (g4 hC0).1
    refine r_aload_n (pc := 1539) h 5 rfl rfl dL_law_1539 ?_
    refine r_iconst (pc := 1540) (v := nI 0) h (by decide) dL_law_1540 ?_
    refine r_lald (pc := 1541) h a_out 0 rfl (by decide) dL_law_1541 ?_
    refine r_iload (pc := 1542) h 0 rfl dL_law_1542 ?_
    refine r_i2l (pc := 1544) (v := r2.toInt64) h rfl dL_law_1544 ?_
    refine r_lcmp (pc := 1545) (v := lg_cmp (s2.2 143 0) r2.toInt64) h rfl dL_law_1545 ?_
    refine r_if_eq (pc := 1546) (tgt := 1551) h (by decide) dL_law_1546 (fun _ => ?_) (fun c7 => absurd (lg_self _ (ho.trans (by rw [hr]))) c7)
    refine r_goto (pc := 1551) (tgt := 2550) h (by decide) dL_law_1551 ?_
    exact V.wd (by show 144 + 2 * j + 2 + 0 + 0 ≤ 144 + 2 * (j + 1); omega) (by show 18188 + 12 * j + 12 + 0 + 0 ≤ 18188 + 12 * (j + 1); omega) (r_sub [2, 3, 4, 5, 6] rfl (kk _ _ _ _ _ _ _ _ ((hI1 hC0).2.o g2 (Or.inl (by decide))) ((g4 hC0).2)))

