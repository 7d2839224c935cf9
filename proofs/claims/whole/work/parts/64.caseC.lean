/-! THE LAW: its cases, on -/
set_option maxRecDepth 100000 in
set_option maxHeartbeats 1600000 in
theorem law_c24 {x : Cx} {G : Gl} {Q : State → Prop} {b L : Nat} {xs : Nat → Int32} (LAh : LA x G b L xs) (j : Nat) (hj : 4 * j + 4 ≤ L) (σ : Sg) (n : Nat) (tx : Nat → Nat) (A : Ab) (m : Nat) (H : Nat → Ab) (sv : Nat → Bool) (sl : Nat → Ab) (hC : InvC n tx A m H sv sl σ) (hM : InvM n tx A m H sv sl σ) (kk : NX x G Q b j) : V x G 7 (144 + 2 * j) (18188 + 12 * j) Q σ 1554 [(0, .ref b), (1, .ref (G.2.1 + 0)), (2, .ref (G.2.1 + 134)), (3, .ref (G.2.1 + 143)), (4, .int (nI (4 * j)))] [] := by
  obtain ⟨h, hX, hst, hS0, hbl, hbA, hL⟩ := LAh
  refine r_aload_n (pc := 1554) h 1 rfl rfl dL_law_1554 ?_
  refine r_aload_n (pc := 1555) h 0 rfl rfl dL_law_1555 ?_
  refine r_iload (pc := 1556) h 4 rfl dL_law_1556 ?_
  refine r_iconst (pc := 1558) (v := nI 1) h (by decide) dL_law_1558 ?_
  refine r_iadd (pc := 1559) (v := nI (4 * j + 1)) h (nI_add _ _) dL_law_1559 ?_
  refine r_sld (pc := 1560) (j := 4 * j + 1) h hS0 hbl hbA rfl (by omega) (by omega) dL_law_1560 ?_
  refine r_aload_n (pc := 1561) h 0 rfl rfl dL_law_1561 ?_
  refine r_iload (pc := 1562) h 4 rfl dL_law_1562 ?_
  refine r_iconst (pc := 1564) (v := nI 2) h (by decide) dL_law_1564 ?_
  refine r_iadd (pc := 1565) (v := nI (4 * j + 2)) h (nI_add _ _) dL_law_1565 ?_
  refine r_sld (pc := 1566) (j := 4 * j + 2) h hS0 hbl hbA rfl (by omega) (by omega) dL_law_1566 ?_
  refine r_aload_n (pc := 1567) h 3 rfl rfl dL_law_1567 ?_
  refine r_LS (pc := 1568) (n := 4) (As := [.ref (G.2.1 + 0), .int (xs (4 * j + 1)), .int (xs (4 * j + 2)), .ref (G.2.1 + 143)]) (st := []) h hX ⟨mw_33_10, mw_4_9, mw_33_12, ⟨by decide +kernel, by decide +kernel⟩, by decide +kernel, mw_33_11⟩ (l_membersUpTo x.2.1 hst G σ n tx A m H sv sl hC (xs (4 * j + 1)) (xs (4 * j + 2))) rfl rfl (by decide) (by first | decide | exact Nat.le_of_ble_eq_true rfl) ⟨(by show 144 + 2 * j + 2 ≤ 601024; omega), (by show 18188 + 12 * j + 12 ≤ 7293034; omega)⟩ dL_law_1568 (fun r1 s1 q1 => ?_)
  obtain ⟨e1, hk, hI0, hI1⟩ := q1
  refine r_istore (pc := 1571) (lo2 := [(5, .int r1), (0, .ref b), (1, .ref (G.2.1 + 0)), (2, .ref (G.2.1 + 134)), (3, .ref (G.2.1 + 143)), (4, .int (nI (4 * j)))]) h (by decide) rfl dL_law_1571 ?_
  refine r_aload_n (pc := 1573) h 3 rfl rfl dL_law_1573 ?_
  refine r_aload_n (pc := 1574) h 1 rfl rfl dL_law_1574 ?_
  refine r_iload (pc := 1575) h 5 rfl dL_law_1575 ?_
  refine r_iconst (pc := 1577) (v := nI 1) h (by decide) dL_law_1577 ?_
  refine r_iadd (pc := 1578) (v := nI (4 * j + 1)) h (nI_add _ _) dL_law_1578 ?_
  refine r_sld (pc := 1579) (j := 4 * j + 1) h hS0 hbl hbA rfl (by omega) (by omega) dL_law_1579 ?_
  refine r_aload_n (pc := 1580) h 1 rfl rfl dL_law_1580 ?_
  refine r_iload (pc := 1581) h 5 rfl dL_law_1581 ?_
  refine r_iconst (pc := 1583) (v := nI 2) h (by decide) dL_law_1583 ?_
  refine r_iadd (pc := 1584) (v := nI (4 * j + 2)) h (nI_add _ _) dL_law_1584 ?_
  refine r_sld (pc := 1585) (j := 4 * j + 2) h hS0 hbl hbA rfl (by omega) (by omega) dL_law_1585 ?_
  refine r_cVi (pc := 1586) (As := [.int (xs (4 * j + 1)), .int (xs (4 * j + 2))]) (st := []) h lk_RL_219 (c_m_membersUpTo x.2.1 G s1 n tx A m H sv sl (keepM hM hk) (xs (4 * j + 1)) (xs (4 * j + 2))) rc_6 (by decide) rfl rfl (by first | decide | exact Nat.le_of_ble_eq_true rfl) ⟨(by show 144 + 2 * j + 2 + 0 ≤ 601024; omega), (by show 18188 + 12 * j + 12 + 0 ≤ 7293034; omega)⟩ dL_law_1586 (fun r2 s2 q2 => ?_)
  obtain ⟨g1, g2, g3, g4⟩ := q2
  refine r_istore (pc := 1589) (lo2 := [(6, .int r2), (5, .int r1), (0, .ref b), (1, .ref (G.2.1 + 0)), (2, .ref (G.2.1 + 134)), (3, .ref (G.2.1 + 143)), (4, .int (nI (4 * j)))]) h (by decide) rfl dL_law_1589 ?_
  refine r_aload_n (pc := 1591) h 4 rfl rfl dL_law_1591 ?_
  refine r_cVi (pc := 1592) (As := []) (st := []) h lk_RL_139 (c_thrown x.2.1 G s2) rc_6 (by decide) rfl rfl (by first | decide | exact Nat.le_of_ble_eq_true rfl) ⟨(by show 144 + 2 * j + 2 + 0 + 0 ≤ 601024; omega), (by show 18188 + 12 * j + 12 + 0 + 0 ≤ 7293034; omega)⟩ dL_law_1592 (fun r3 s3 q3 => ?_)
  rw [q3.1, q3.2, g1]
  refine r_iload (pc := 1595) h 1 rfl dL_law_1595 ?_
  refine r_icmp_eq (pc := 1597) (tgt := 1602) h (by decide) dL_law_1597 (fun _ => ?_) (fun c9 => absurd e1.symm c9)
  refine r_iload (pc := 1602) h 1 rfl dL_law_1602 ?_
  refine r_if_ne (pc := 1604) (tgt := 1619) h (by decide) dL_law_1604 (fun c9 => ?_) (fun c9 => ?_)
  · have hC0 : seqC (cB (liB A (xs (4 * j + 1))) 1) (cB (inB (nI 0) (nI 999) (xs (4 * j + 2))) 2) ≠ 0 := fun q => c9 (by rw [e1, q, kq_0]; rfl)
    refine r_goto (pc := 1619) (tgt := 2550) h (by decide) dL_law_1619 ?_
    exact V.wd (by show 144 + 2 * j + 2 + 0 + 0 ≤ 144 + 2 * (j + 1); omega) (by show 18188 + 12 * j + 12 + 0 + 0 ≤ 18188 + 12 * (j + 1); omega) (r_sub [2, 3, 4, 5, 6] rfl (kk _ _ _ _ _ _ _ _ ((hI0 hC0).o g2 (Or.inl (by decide))) (g3 hC0)))
  · have hC0 : seqC (cB (liB A (xs (4 * j + 1))) 1) (cB (inB (nI 0) (nI 999) (xs (4 * j + 2))) 2) = 0 := (kq_z (by decide)).mp (e1.symm.trans c9)
    have ho := (g2.l 143 0 (by omega)).trans (hI1 hC0).1
    have hr := (g4 hC0).1
    refine r_aload_n (pc := 1607) h 5 rfl rfl dL_law_1607 ?_
    refine r_iconst (pc := 1608) (v := nI 0) h (by decide) dL_law_1608 ?_
    refine r_lald (pc := 1609) h a_out 0 rfl (by decide) dL_law_1609 ?_
    refine r_iload (pc := 1610) h 0 rfl dL_law_1610 ?_
    refine r_i2l (pc := 1612) (v := r2.toInt64) h rfl dL_law_1612 ?_
    refine r_lcmp (pc := 1613) (v := lg_cmp (s2.2 143 0) r2.toInt64) h rfl dL_law_1613 ?_
    refine r_if_eq (pc := 1614) (tgt := 1619) h (by decide) dL_law_1614 (fun _ => ?_) (fun c7 => absurd (lg_self _ (ho.trans (by rw [hr]))) c7)
    refine r_goto (pc := 1619) (tgt := 2550) h (by decide) dL_law_1619 ?_
    exact V.wd (by show 144 + 2 * j + 2 + 0 + 0 ≤ 144 + 2 * (j + 1); omega) (by show 18188 + 12 * j + 12 + 0 + 0 ≤ 18188 + 12 * (j + 1); omega) (r_sub [2, 3, 4, 5, 6] rfl (kk _ _ _ _ _ _ _ _ ((hI1 hC0).2.o g2 (Or.inl (by decide))) ((g4 hC0).2)))

set_option maxRecDepth 100000 in
set_option maxHeartbeats 1600000 in
theorem law_c25 {x : Cx} {G : Gl} {Q : State → Prop} {b L : Nat} {xs : Nat → Int32} (LAh : LA x G b L xs) (j : Nat) (hj : 4 * j + 4 ≤ L) (σ : Sg) (n : Nat) (tx : Nat → Nat) (A : Ab) (m : Nat) (H : Nat → Ab) (sv : Nat → Bool) (sl : Nat → Ab) (hC : InvC n tx A m H sv sl σ) (hM : InvM n tx A m H sv sl σ) (kk : NX x G Q b j) : V x G 7 (144 + 2 * j) (18188 + 12 * j) Q σ 1622 [(0, .ref b), (1, .ref (G.2.1 + 0)), (2, .ref (G.2.1 + 134)), (3, .ref (G.2.1 + 143)), (4, .int (nI (4 * j)))] [] := by
  obtain ⟨h, hX, hst, hS0, hbl, hbA, hL⟩ := LAh
  refine r_aload_n (pc := 1622) h 1 rfl rfl dL_law_1622 ?_
  refine r_aload_n (pc := 1623) h 0 rfl rfl dL_law_1623 ?_
  refine r_iload (pc := 1624) h 4 rfl dL_law_1624 ?_
  refine r_iconst (pc := 1626) (v := nI 1) h (by decide) dL_law_1626 ?_
  refine r_iadd (pc := 1627) (v := nI (4 * j + 1)) h (nI_add _ _) dL_law_1627 ?_
  refine r_sld (pc := 1628) (j := 4 * j + 1) h hS0 hbl hbA rfl (by omega) (by omega) dL_law_1628 ?_
  refine r_aload_n (pc := 1629) h 3 rfl rfl dL_law_1629 ?_
  refine r_LS (pc := 1630) (n := 3) (As := [.ref (G.2.1 + 0), .int (xs (4 * j + 1)), .ref (G.2.1 + 143)]) (st := []) h hX ⟨mw_33_21, mw_4_9, mw_33_23, ⟨by decide +kernel, by decide +kernel⟩, by decide +kernel, mw_33_22⟩ (l_lastMember x.2.1 hst G σ n tx A m H sv sl hC (xs (4 * j + 1))) rfl rfl (by decide) (by first | decide | exact Nat.le_of_ble_eq_true rfl) ⟨(by show 144 + 2 * j + 1 ≤ 601024; omega), (by show 18188 + 12 * j + 6 ≤ 7293034; omega)⟩ dL_law_1630 (fun r1 s1 q1 => ?_)
  obtain ⟨e1, hk, hI0, hI1⟩ := q1
  refine r_istore (pc := 1633) (lo2 := [(5, .int r1), (0, .ref b), (1, .ref (G.2.1 + 0)), (2, .ref (G.2.1 + 134)), (3, .ref (G.2.1 + 143)), (4, .int (nI (4 * j)))]) h (by decide) rfl dL_law_1633 ?_
  refine r_aload_n (pc := 1635) h 3 rfl rfl dL_law_1635 ?_
  refine r_aload_n (pc := 1636) h 1 rfl rfl dL_law_1636 ?_
  refine r_iload (pc := 1637) h 5 rfl dL_law_1637 ?_
  refine r_iconst (pc := 1639) (v := nI 1) h (by decide) dL_law_1639 ?_
  refine r_iadd (pc := 1640) (v := nI (4 * j + 1)) h (nI_add _ _) dL_law_1640 ?_
  refine r_sld (pc := 1641) (j := 4 * j + 1) h hS0 hbl hbA rfl (by omega) (by omega) dL_law_1641 ?_
  refine r_cVi (pc := 1642) (As := [.int (xs (4 * j + 1))]) (st := []) h lk_RL_222 (c_m_lastMember x.2.1 G s1 n tx A m H sv sl (keepM hM hk) (xs (4 * j + 1))) rc_6 (by decide) rfl rfl (by first | decide | exact Nat.le_of_ble_eq_true rfl) ⟨(by show 144 + 2 * j + 1 + 0 ≤ 601024; omega), (by show 18188 + 12 * j + 6 + 0 ≤ 7293034; omega)⟩ dL_law_1642 (fun r2 s2 q2 => ?_)
  obtain ⟨g1, g2, g3, g4⟩ := q2
  refine r_istore (pc := 1645) (lo2 := [(6, .int r2), (5, .int r1), (0, .ref b), (1, .ref (G.2.1 + 0)), (2, .ref (G.2.1 + 134)), (3, .ref (G.2.1 + 143)), (4, .int (nI (4 * j)))]) h (by decide) rfl dL_law_1645 ?_
  refine r_aload_n (pc := 1647) h 4 rfl rfl dL_law_1647 ?_
  refine r_cVi (pc := 1648) (As := []) (st := []) h lk_RL_139 (c_thrown x.2.1 G s2) rc_6 (by decide) rfl rfl (by first | decide | exact Nat.le_of_ble_eq_true rfl) ⟨(by show 144 + 2 * j + 1 + 0 + 0 ≤ 601024; omega), (by show 18188 + 12 * j + 6 + 0 + 0 ≤ 7293034; omega)⟩ dL_law_1648 (fun r3 s3 q3 => ?_)
  rw [q3.1, q3.2, g1]
  refine r_iload (pc := 1651) h 1 rfl dL_law_1651 ?_
  refine r_icmp_eq (pc := 1653) (tgt := 1658) h (by decide) dL_law_1653 (fun _ => ?_) (fun c9 => absurd e1.symm c9)
  refine r_iload (pc := 1658) h 1 rfl dL_law_1658 ?_
  refine r_if_ne (pc := 1660) (tgt := 1675) h (by decide) dL_law_1660 (fun c9 => ?_) (fun c9 => ?_)
  · have hC0 : cB (liB A (xs (4 * j + 1))) 1 ≠ 0 := fun q => c9 (by rw [e1, q, kq_0]; rfl)
    refine r_goto (pc := 1675) (tgt := 2550) h (by decide) dL_law_1675 ?_
    exact V.wd (by show 144 + 2 * j + 1 + 0 + 0 ≤ 144 + 2 * (j + 1); omega) (by show 18188 + 12 * j + 6 + 0 + 0 ≤ 18188 + 12 * (j + 1); omega) (r_sub [2, 3, 4, 5, 6] rfl (kk _ _ _ _ _ _ _ _ ((hI0 hC0).o g2 (Or.inl (by decide))) (g3 hC0)))
  · have hC0 : cB (liB A (xs (4 * j + 1))) 1 = 0 := (kq_z (by decide)).mp (e1.symm.trans c9)
    have ho := (g2.l 143 0 (by omega)).trans (hI1 hC0).1
    have hr := (g4 hC0).1
    refine r_aload_n (pc := 1663) h 5 rfl rfl dL_law_1663 ?_
    refine r_iconst (pc := 1664) (v := nI 0) h (by decide) dL_law_1664 ?_
    refine r_lald (pc := 1665) h a_out 0 rfl (by decide) dL_law_1665 ?_
    refine r_iload (pc := 1666) h 0 rfl dL_law_1666 ?_
    refine r_i2l (pc := 1668) (v := r2.toInt64) h rfl dL_law_1668 ?_
    refine r_lcmp (pc := 1669) (v := lg_cmp (s2.2 143 0) r2.toInt64) h rfl dL_law_1669 ?_
    refine r_if_eq (pc := 1670) (tgt := 1675) h (by decide) dL_law_1670 (fun _ => ?_) (fun c7 => absurd (lg_self _ (ho.trans (by rw [hr]))) c7)
    refine r_goto (pc := 1675) (tgt := 2550) h (by decide) dL_law_1675 ?_
    exact V.wd (by show 144 + 2 * j + 1 + 0 + 0 ≤ 144 + 2 * (j + 1); omega) (by show 18188 + 12 * j + 6 + 0 + 0 ≤ 18188 + 12 * (j + 1); omega) (r_sub [2, 3, 4, 5, 6] rfl (kk _ _ _ _ _ _ _ _ ((hI1 hC0).2.o g2 (Or.inl (by decide))) ((g4 hC0).2)))

set_option maxRecDepth 100000 in
set_option maxHeartbeats 1600000 in
theorem law_c26 {x : Cx} {G : Gl} {Q : State → Prop} {b L : Nat} {xs : Nat → Int32} (LAh : LA x G b L xs) (j : Nat) (hj : 4 * j + 4 ≤ L) (σ : Sg) (n : Nat) (tx : Nat → Nat) (A : Ab) (m : Nat) (H : Nat → Ab) (sv : Nat → Bool) (sl : Nat → Ab) (hC : InvC n tx A m H sv sl σ) (hM : InvM n tx A m H sv sl σ) (kk : NX x G Q b j) : V x G 7 (144 + 2 * j) (18188 + 12 * j) Q σ 1678 [(0, .ref b), (1, .ref (G.2.1 + 0)), (2, .ref (G.2.1 + 134)), (3, .ref (G.2.1 + 143)), (4, .int (nI (4 * j)))] [] := by
  obtain ⟨h, hX, hst, hS0, hbl, hbA, hL⟩ := LAh
  refine r_aload_n (pc := 1678) h 1 rfl rfl dL_law_1678 ?_
  refine r_aload_n (pc := 1679) h 0 rfl rfl dL_law_1679 ?_
  refine r_iload (pc := 1680) h 4 rfl dL_law_1680 ?_
  refine r_iconst (pc := 1682) (v := nI 1) h (by decide) dL_law_1682 ?_
  refine r_iadd (pc := 1683) (v := nI (4 * j + 1)) h (nI_add _ _) dL_law_1683 ?_
  refine r_sld (pc := 1684) (j := 4 * j + 1) h hS0 hbl hbA rfl (by omega) (by omega) dL_law_1684 ?_
  refine r_aload_n (pc := 1685) h 0 rfl rfl dL_law_1685 ?_
  refine r_iload (pc := 1686) h 4 rfl dL_law_1686 ?_
  refine r_iconst (pc := 1688) (v := nI 2) h (by decide) dL_law_1688 ?_
  refine r_iadd (pc := 1689) (v := nI (4 * j + 2)) h (nI_add _ _) dL_law_1689 ?_
  refine r_sld (pc := 1690) (j := 4 * j + 2) h hS0 hbl hbA rfl (by omega) (by omega) dL_law_1690 ?_
  refine r_aload_n (pc := 1691) h 3 rfl rfl dL_law_1691 ?_
  refine r_LS (pc := 1692) (n := 4) (As := [.ref (G.2.1 + 0), .int (xs (4 * j + 1)), .int (xs (4 * j + 2)), .ref (G.2.1 + 143)]) (st := []) h hX ⟨mw_34_12, mw_4_9, mw_34_14, ⟨by decide +kernel, by decide +kernel⟩, by decide +kernel, mw_34_13⟩ (l_firstShared x.2.1 hst G σ n tx A m H sv sl hC (xs (4 * j + 1)) (xs (4 * j + 2))) rfl rfl (by decide) (by first | decide | exact Nat.le_of_ble_eq_true rfl) ⟨(by show 144 + 2 * j + 2 ≤ 601024; omega), (by show 18188 + 12 * j + 12 ≤ 7293034; omega)⟩ dL_law_1692 (fun r1 s1 q1 => ?_)
  obtain ⟨e1, hk, hI0, hI1⟩ := q1
  refine r_istore (pc := 1695) (lo2 := [(5, .int r1), (0, .ref b), (1, .ref (G.2.1 + 0)), (2, .ref (G.2.1 + 134)), (3, .ref (G.2.1 + 143)), (4, .int (nI (4 * j)))]) h (by decide) rfl dL_law_1695 ?_
  refine r_aload_n (pc := 1697) h 3 rfl rfl dL_law_1697 ?_
  refine r_aload_n (pc := 1698) h 1 rfl rfl dL_law_1698 ?_
  refine r_iload (pc := 1699) h 5 rfl dL_law_1699 ?_
  refine r_iconst (pc := 1701) (v := nI 1) h (by decide) dL_law_1701 ?_
  refine r_iadd (pc := 1702) (v := nI (4 * j + 1)) h (nI_add _ _) dL_law_1702 ?_
  refine r_sld (pc := 1703) (j := 4 * j + 1) h hS0 hbl hbA rfl (by omega) (by omega) dL_law_1703 ?_
  refine r_aload_n (pc := 1704) h 1 rfl rfl dL_law_1704 ?_
  refine r_iload (pc := 1705) h 5 rfl dL_law_1705 ?_
  refine r_iconst (pc := 1707) (v := nI 2) h (by decide) dL_law_1707 ?_
  refine r_iadd (pc := 1708) (v := nI (4 * j + 2)) h (nI_add _ _) dL_law_1708 ?_
  refine r_sld (pc := 1709) (j := 4 * j + 2) h hS0 hbl hbA rfl (by omega) (by omega) dL_law_1709 ?_
  refine r_cVi (pc := 1710) (As := [.int (xs (4 * j + 1)), .int (xs (4 * j + 2))]) (st := []) h lk_RL_225 (c_m_firstShared x.2.1 G s1 n tx A m H sv sl (keepM hM hk) (xs (4 * j + 1)) (xs (4 * j + 2))) rc_6 (by decide) rfl rfl (by first | decide | exact Nat.le_of_ble_eq_true rfl) ⟨(by show 144 + 2 * j + 2 + 0 ≤ 601024; omega), (by show 18188 + 12 * j + 12 + 0 ≤ 7293034; omega)⟩ dL_law_1710 (fun r2 s2 q2 => ?_)
  obtain ⟨g1, g2, g3, g4⟩ := q2
  refine r_istore (pc := 1713) (lo2 := [(6, .int r2), (5, .int r1), (0, .ref b), (1, .ref (G.2.1 + 0)), (2, .ref (G.2.1 + 134)), (3, .ref (G.2.1 + 143)), (4, .int (nI (4 * j)))]) h (by decide) rfl dL_law_1713 ?_
  refine r_aload_n (pc := 1715) h 4 rfl rfl dL_law_1715 ?_
  refine r_cVi (pc := 1716) (As := []) (st := []) h lk_RL_139 (c_thrown x.2.1 G s2) rc_6 (by decide) rfl rfl (by first | decide | exact Nat.le_of_ble_eq_true rfl) ⟨(by show 144 + 2 * j + 2 + 0 + 0 ≤ 601024; omega), (by show 18188 + 12 * j + 12 + 0 + 0 ≤ 7293034; omega)⟩ dL_law_1716 (fun r3 s3 q3 => ?_)
  rw [q3.1, q3.2, g1]
  refine r_iload (pc := 1719) h 1 rfl dL_law_1719 ?_
  refine r_icmp_eq (pc := 1721) (tgt := 1726) h (by decide) dL_law_1721 (fun _ => ?_) (fun c9 => absurd e1.symm c9)
  refine r_iload (pc := 1726) h 1 rfl dL_law_1726 ?_
  refine r_if_ne (pc := 1728) (tgt := 1743) h (by decide) dL_law_1728 (fun c9 => ?_) (fun c9 => ?_)
  · have hC0 : seqC (cB (liB A (xs (4 * j + 1))) 1) (cB (liB A (xs (4 * j + 2))) 1) ≠ 0 := fun q => c9 (by rw [e1, q, kq_0]; rfl)
    refine r_goto (pc := 1743) (tgt := 2550) h (by decide) dL_law_1743 ?_
    exact V.wd (by show 144 + 2 * j + 2 + 0 + 0 ≤ 144 + 2 * (j + 1); omega) (by show 18188 + 12 * j + 12 + 0 + 0 ≤ 18188 + 12 * (j + 1); omega) (r_sub [2, 3, 4, 5, 6] rfl (kk _ _ _ _ _ _ _ _ ((hI0 hC0).o g2 (Or.inl (by decide))) (g3 hC0)))
  · have hC0 : seqC (cB (liB A (xs (4 * j + 1))) 1) (cB (liB A (xs (4 * j + 2))) 1) = 0 := (kq_z (by decide)).mp (e1.symm.trans c9)
    have ho := (g2.l 143 0 (by omega)).trans (hI1 hC0).1
    have hr := (g4 hC0).1
    refine r_aload_n (pc := 1731) h 5 rfl rfl dL_law_1731 ?_
    refine r_iconst (pc := 1732) (v := nI 0) h (by decide) dL_law_1732 ?_
    refine r_lald (pc := 1733) h a_out 0 rfl (by decide) dL_law_1733 ?_
    refine r_iload (pc := 1734) h 0 rfl dL_law_1734 ?_
    refine r_i2l (pc := 1736) (v := r2.toInt64) h rfl dL_law_1736 ?_
    refine r_lcmp (pc := 1737) (v := lg_cmp (s2.2 143 0) r2.toInt64) h rfl dL_law_1737 ?_
    refine r_if_eq (pc := 1738) (tgt := 1743) h (by decide) dL_law_1738 (fun _ => ?_) (fun c7 => absurd (lg_self _ (ho.trans (by rw [hr]))) c7)
    refine r_goto (pc := 1743) (tgt := 2550) h (by decide) dL_law_1743 ?_
    exact V.wd (by show 144 + 2 * j + 2 + 0 + 0 ≤ 144 + 2 * (j + 1); omega) (by show 18188 + 12 * j + 12 + 0 + 0 ≤ 18188 + 12 * (j + 1); omega) (r_sub [2, 3, 4, 5, 6] rfl (kk _ _ _ _ _ _ _ _ ((hI1 hC0).2.o g2 (Or.inl (by decide))) ((g4 hC0).2)))

set_option maxRecDepth 100000 in
set_option maxHeartbeats 1600000 in
theorem law_c27 {x : Cx} {G : Gl} {Q : State → Prop} {b L : Nat} {xs : Nat → Int32} (LAh : LA x G b L xs) (j : Nat) (hj : 4 * j + 4 ≤ L) (σ : Sg) (n : Nat) (tx : Nat → Nat) (A : Ab) (m : Nat) (H : Nat → Ab) (sv : Nat → Bool) (sl : Nat → Ab) (hC : InvC n tx A m H sv sl σ) (hM : InvM n tx A m H sv sl σ) (kk : NX x G Q b j) : V x G 7 (144 + 2 * j) (18188 + 12 * j) Q σ 1746 [(0, .ref b), (1, .ref (G.2.1 + 0)), (2, .ref (G.2.1 + 134)), (3, .ref (G.2.1 + 143)), (4, .int (nI (4 * j)))] [] := by
  obtain ⟨h, hX, hst, hS0, hbl, hbA, hL⟩ := LAh
  refine r_aload_n (pc := 1746) h 1 rfl rfl dL_law_1746 ?_
  refine r_aload_n (pc := 1747) h 0 rfl rfl dL_law_1747 ?_
  refine r_iload (pc := 1748) h 4 rfl dL_law_1748 ?_
  refine r_iconst (pc := 1750) (v := nI 1) h (by decide) dL_law_1750 ?_
  refine r_iadd (pc := 1751) (v := nI (4 * j + 1)) h (nI_add _ _) dL_law_1751 ?_
  refine r_sld (pc := 1752) (j := 4 * j + 1) h hS0 hbl hbA rfl (by omega) (by omega) dL_law_1752 ?_
  refine r_aload_n (pc := 1753) h 3 rfl rfl dL_law_1753 ?_
  refine r_LS (pc := 1754) (n := 3) (As := [.ref (G.2.1 + 0), .int (xs (4 * j + 1)), .ref (G.2.1 + 143)]) (st := []) h hX ⟨mw_35_3, mw_4_9, mw_35_5, ⟨by decide +kernel, by decide +kernel⟩, by decide +kernel, mw_35_4⟩ (l_widestGap x.2.1 hst G σ n tx A m H sv sl hC (xs (4 * j + 1))) rfl rfl (by decide) (by first | decide | exact Nat.le_of_ble_eq_true rfl) ⟨(by show 144 + 2 * j + 1 ≤ 601024; omega), (by show 18188 + 12 * j + 6 ≤ 7293034; omega)⟩ dL_law_1754 (fun r1 s1 q1 => ?_)
  obtain ⟨e1, hk, hI0, hI1⟩ := q1
  refine r_istore (pc := 1757) (lo2 := [(5, .int r1), (0, .ref b), (1, .ref (G.2.1 + 0)), (2, .ref (G.2.1 + 134)), (3, .ref (G.2.1 + 143)), (4, .int (nI (4 * j)))]) h (by decide) rfl dL_law_1757 ?_
  refine r_aload_n (pc := 1759) h 3 rfl rfl dL_law_1759 ?_
  refine r_aload_n (pc := 1760) h 1 rfl rfl dL_law_1760 ?_
  refine r_iload (pc := 1761) h 5 rfl dL_law_1761 ?_
  refine r_iconst (pc := 1763) (v := nI 1) h (by decide) dL_law_1763 ?_
  refine r_iadd (pc := 1764) (v := nI (4 * j + 1)) h (nI_add _ _) dL_law_1764 ?_
  refine r_sld (pc := 1765) (j := 4 * j + 1) h hS0 hbl hbA rfl (by omega) (by omega) dL_law_1765 ?_
  refine r_cVi (pc := 1766) (As := [.int (xs (4 * j + 1))]) (st := []) h lk_RL_228 (c_m_widestGap x.2.1 G s1 n tx A m H sv sl (keepM hM hk) (xs (4 * j + 1))) rc_6 (by decide) rfl rfl (by first | decide | exact Nat.le_of_ble_eq_true rfl) ⟨(by show 144 + 2 * j + 1 + 0 ≤ 601024; omega), (by show 18188 + 12 * j + 6 + 0 ≤ 7293034; omega)⟩ dL_law_1766 (fun r2 s2 q2 => ?_)
  obtain ⟨g1, g2, g3, g4⟩ := q2
  refine r_istore (pc := 1769) (lo2 := [(6, .int r2), (5, .int r1), (0, .ref b), (1, .ref (G.2.1 + 0)), (2, .ref (G.2.1 + 134)), (3, .ref (G.2.1 + 143)), (4, .int (nI (4 * j)))]) h (by decide) rfl dL_law_1769 ?_
  refine r_aload_n (pc := 1771) h 4 rfl rfl dL_law_1771 ?_
  refine r_cVi (pc := 1772) (As := []) (st := []) h lk_RL_139 (c_thrown x.2.1 G s2) rc_6 (by decide) rfl rfl (by first | decide | exact Nat.le_of_ble_eq_true rfl) ⟨(by show 144 + 2 * j + 1 + 0 + 0 ≤ 601024; omega), (by show 18188 + 12 * j + 6 + 0 + 0 ≤ 7293034; omega)⟩ dL_law_1772 (fun r3 s3 q3 => ?_)
  rw [q3.1, q3.2, g1]
  refine r_iload (pc := 1775) h 1 rfl dL_law_1775 ?_
  refine r_icmp_eq (pc := 1777) (tgt := 1782) h (by decide) dL_law_1777 (fun _ => ?_) (fun c9 => absurd e1.symm c9)
  refine r_iload (pc := 1782) h 1 rfl dL_law_1782 ?_
  refine r_if_ne (pc := 1784) (tgt := 1799) h (by decide) dL_law_1784 (fun c9 => ?_) (fun c9 => ?_)
  · have hC0 : cB (liB A (xs (4 * j + 1))) 1 ≠ 0 := fun q => c9 (by rw [e1, q, kq_0]; rfl)
    refine r_goto (pc := 1799) (tgt := 2550) h (by decide) dL_law_1799 ?_
    exact V.wd (by show 144 + 2 * j + 1 + 0 + 0 ≤ 144 + 2 * (j + 1); omega) (by show 18188 + 12 * j + 6 + 0 + 0 ≤ 18188 + 12 * (j + 1); omega) (r_sub [2, 3, 4, 5, 6] rfl (kk _ _ _ _ _ _ _ _ ((hI0 hC0).o g2 (Or.inl (by decide))) (g3 hC0)))
  · have hC0 : cB (liB A (xs (4 * j + 1))) 1 = 0 := (kq_z (by decide)).mp (e1.symm.trans c9)
    have ho := (g2.l 143 0 (by omega)).trans (hI1 hC0).1
    have hr := (g4 hC0).1
    refine r_aload_n (pc := 1787) h 5 rfl rfl dL_law_1787 ?_
    refine r_iconst (pc := 1788) (v := nI 0) h (by decide) dL_law_1788 ?_
    refine r_lald (pc := 1789) h a_out 0 rfl (by decide) dL_law_1789 ?_
    refine r_iload (pc := 1790) h 0 rfl dL_law_1790 ?_
    refine r_i2l (pc := 1792) (v := r2.toInt64) h rfl dL_law_1792 ?_
    refine r_lcmp (pc := 1793) (v := lg_cmp (s2.2 143 0) r2.toInt64) h rfl dL_law_1793 ?_
    refine r_if_eq (pc := 1794) (tgt := 1799) h (by decide) dL_law_1794 (fun _ => ?_) (fun c7 => absurd (lg_self _ (ho.trans (by rw [hr]))) c7)
    refine r_goto (pc := 1799) (tgt := 2550) h (by decide) dL_law_1799 ?_
    exact V.wd (by show 144 + 2 * j + 1 + 0 + 0 ≤ 144 + 2 * (j + 1); omega) (by show 18188 + 12 * j + 6 + 0 + 0 ≤ 18188 + 12 * (j + 1); omega) (r_sub [2, 3, 4, 5, 6] rfl (kk _ _ _ _ _ _ _ _ ((hI1 hC0).2.o g2 (Or.inl (by decide))) ((g4 hC0).2)))

set_option maxRecDepth 100000 in
set_option maxHeartbeats 1600000 in
theorem law_c28 {x : Cx} {G : Gl} {Q : State → Prop} {b L : Nat} {xs : Nat → Int32} (LAh : LA x G b L xs) (j : Nat) (hj : 4 * j + 4 ≤ L) (σ : Sg) (n : Nat) (tx : Nat → Nat) (A : Ab) (m : Nat) (H : Nat → Ab) (sv : Nat → Bool) (sl : Nat → Ab) (hC : InvC n tx A m H sv sl σ) (hM : InvM n tx A m H sv sl σ) (kk : NX x G Q b j) : V x G 7 (144 + 2 * j) (18188 + 12 * j) Q σ 1802 [(0, .ref b), (1, .ref (G.2.1 + 0)), (2, .ref (G.2.1 + 134)), (3, .ref (G.2.1 + 143)), (4, .int (nI (4 * j)))] [] := by
  obtain ⟨h, hX, hst, hS0, hbl, hbA, hL⟩ := LAh
  refine r_aload_n (pc := 1802) h 1 rfl rfl dL_law_1802 ?_
  refine r_cVi (pc := 1803) (As := []) (st := []) h lk_RL_229 (c_x_readers x.2.1 G σ A hC.2.1) rc_5 (by decide) rfl rfl (by first | decide | exact Nat.le_of_ble_eq_true rfl) ⟨(by show 144 + 2 * j + 0 ≤ 601024; omega), (by show 18188 + 12 * j + 0 ≤ 7293034; omega)⟩ dL_law_1803 (fun r1 s1 q1 => ?_)
  obtain ⟨e1, e2⟩ := q1
  have k1 : ∀ q, 134 ≤ q → q < 143 → s1.1 q = σ.1 q := fun q _ _ => by rw [e2]
  have k2 : InvC n tx A m H sv sl s1 := by rw [e2]; exact hC
  refine r_aload_n (pc := 1806) h 2 rfl rfl dL_law_1806 ?_
  refine r_cVi (pc := 1807) (As := []) (st := [.int r1]) h lk_RL_232 (c_m_readers x.2.1 G s1 n tx A m H sv sl (keepM hM k1)) rc_6 (by decide) rfl rfl (by first | decide | exact Nat.le_of_ble_eq_true rfl) ⟨(by show 144 + 2 * j + 0 + 0 ≤ 601024; omega), (by show 18188 + 12 * j + 0 + 0 ≤ 7293034; omega)⟩ dL_law_1807 (fun r2 s2 q2 => ?_)
  obtain ⟨g1, g2, g3⟩ := q2
  refine r_icmp_eq (pc := 1810) (tgt := 2550) h (by decide) dL_law_1810 (fun _ => ?_) (fun c9 => absurd (e1.trans g1.symm) c9)
  exact V.wd (by show 144 + 2 * j + 0 + 0 ≤ 144 + 2 * (j + 1); omega) (by show 18188 + 12 * j + 0 + 0 ≤ 18188 + 12 * (j + 1); omega) (r_sub [0, 1, 2, 3, 4] rfl (kk _ _ _ _ _ _ _ _ (k2.o g3 (Or.inl (by decide))) g2))

set_option maxRecDepth 100000 in
set_option maxHeartbeats 1600000 in
theorem law_c29 {x : Cx} {G : Gl} {Q : State → Prop} {b L : Nat} {xs : Nat → Int32} (LAh : LA x G b L xs) (j : Nat) (hj : 4 * j + 4 ≤ L) (σ : Sg) (n : Nat) (tx : Nat → Nat) (A : Ab) (m : Nat) (H : Nat → Ab) (sv : Nat → Bool) (sl : Nat → Ab) (hC : InvC n tx A m H sv sl σ) (hM : InvM n tx A m H sv sl σ) (kk : NX x G Q b j) : V x G 7 (144 + 2 * j) (18188 + 12 * j) Q σ 1815 [(0, .ref b), (1, .ref (G.2.1 + 0)), (2, .ref (G.2.1 + 134)), (3, .ref (G.2.1 + 143)), (4, .int (nI (4 * j)))] [] := by
  obtain ⟨h, hX, hst, hS0, hbl, hbA, hL⟩ := LAh
  refine r_aload_n (pc := 1815) h 1 rfl rfl dL_law_1815 ?_
  refine r_aload_n (pc := 1816) h 0 rfl rfl dL_law_1816 ?_
  refine r_iload (pc := 1817) h 4 rfl dL_law_1817 ?_
  refine r_iconst (pc := 1819) (v := nI 1) h (by decide) dL_law_1819 ?_
  refine r_iadd (pc := 1820) (v := nI (4 * j + 1)) h (nI_add _ _) dL_law_1820 ?_
  refine r_sld (pc := 1821) (j := 4 * j + 1) h hS0 hbl hbA rfl (by omega) (by omega) dL_law_1821 ?_
  refine r_aload_n (pc := 1822) h 3 rfl rfl dL_law_1822 ?_
  refine r_LS (pc := 1823) (n := 3) (As := [.ref (G.2.1 + 0), .int (xs (4 * j + 1)), .ref (G.2.1 + 143)]) (st := []) h hX ⟨mw_36_4, mw_4_9, mw_36_6, ⟨by decide +kernel, by decide +kernel⟩, by decide +kernel, mw_36_5⟩ (l_listOf x.2.1 hst G σ n tx A m H sv sl hC (xs (4 * j + 1))) rfl rfl (by decide) (by first | decide | exact Nat.le_of_ble_eq_true rfl) ⟨(by show 144 + 2 * j + 1 ≤ 601024; omega), (by show 18188 + 12 * j + 6 ≤ 7293034; omega)⟩ dL_law_1823 (fun r1 s1 q1 => ?_)
  obtain ⟨e1, hk, hI0, hI1⟩ := q1
  refine r_istore (pc := 1826) (lo2 := [(5, .int r1), (0, .ref b), (1, .ref (G.2.1 + 0)), (2, .ref (G.2.1 + 134)), (3, .ref (G.2.1 + 143)), (4, .int (nI (4 * j)))]) h (by decide) rfl dL_law_1826 ?_
  refine r_aload_n (pc := 1828) h 3 rfl rfl dL_law_1828 ?_
  refine r_aload_n (pc := 1829) h 1 rfl rfl dL_law_1829 ?_
  refine r_iload (pc := 1830) h 5 rfl dL_law_1830 ?_
  refine r_iconst (pc := 1832) (v := nI 1) h (by decide) dL_law_1832 ?_
  refine r_iadd (pc := 1833) (v := nI (4 * j + 1)) h (nI_add _ _) dL_law_1833 ?_
  refine r_sld (pc := 1834) (j := 4 * j + 1) h hS0 hbl hbA rfl (by omega) (by omega) dL_law_1834 ?_
  refine r_cVi (pc := 1835) (As := [.int (xs (4 * j + 1))]) (st := []) h lk_RL_235 (c_m_listOf x.2.1 G s1 n tx A m H sv sl (keepM hM hk) (xs (4 * j + 1))) rc_6 (by decide) rfl rfl (by first | decide | exact Nat.le_of_ble_eq_true rfl) ⟨(by show 144 + 2 * j + 1 + 0 ≤ 601024; omega), (by show 18188 + 12 * j + 6 + 0 ≤ 7293034; omega)⟩ dL_law_1835 (fun r2 s2 q2 => ?_)
  obtain ⟨g1, g2, g3, g4⟩ := q2
  refine r_istore (pc := 1838) (lo2 := [(6, .int r2), (5, .int r1), (0, .ref b), (1, .ref (G.2.1 + 0)), (2, .ref (G.2.1 + 134)), (3, .ref (G.2.1 + 143)), (4, .int (nI (4 * j)))]) h (by decide) rfl dL_law_1838 ?_
  refine r_aload_n (pc := 1840) h 4 rfl rfl dL_law_1840 ?_
  refine r_cVi (pc := 1841) (As := []) (st := []) h lk_RL_139 (c_thrown x.2.1 G s2) rc_6 (by decide) rfl rfl (by first | decide | exact Nat.le_of_ble_eq_true rfl) ⟨(by show 144 + 2 * j + 1 + 0 + 0 ≤ 601024; omega), (by show 18188 + 12 * j + 6 + 0 + 0 ≤ 7293034; omega)⟩ dL_law_1841 (fun r3 s3 q3 => ?_)
  rw [q3.1, q3.2, g1]
  refine r_iload (pc := 1844) h 1 rfl dL_law_1844 ?_
  refine r_icmp_eq (pc := 1846) (tgt := 1851) h (by decide) dL_law_1846 (fun _ => ?_) (fun c9 => absurd e1.symm c9)
  refine r_iload (pc := 1851) h 1 rfl dL_law_1851 ?_
  refine r_if_ne (pc := 1853) (tgt := 1868) h (by decide) dL_law_1853 (fun c9 => ?_) (fun c9 => ?_)
  · have hC0 : cB (rdB A (xs (4 * j + 1))) 1 ≠ 0 := fun q => c9 (by rw [e1, q, kq_0]; rfl)
    refine r_goto (pc := 1868) (tgt := 2550) h (by decide) dL_law_1868 ?_
    exact V.wd (by show 144 + 2 * j + 1 + 0 + 0 ≤ 144 + 2 * (j + 1); omega) (by show 18188 + 12 * j + 6 + 0 + 0 ≤ 18188 + 12 * (j + 1); omega) (r_sub [2, 3, 4, 5, 6] rfl (kk _ _ _ _ _ _ _ _ ((hI0 hC0).o g2 (Or.inl (by decide))) (g3 hC0)))
  · have hC0 : cB (rdB A (xs (4 * j + 1))) 1 = 0 := (kq_z (by decide)).mp (e1.symm.trans c9)
    have ho := (g2.l 143 0 (by omega)).trans (hI1 hC0).1
    have hr := (g4 hC0).1
    refine r_aload_n (pc := 1856) h 5 rfl rfl dL_law_1856 ?_
    refine r_iconst (pc := 1857) (v := nI 0) h (by decide) dL_law_1857 ?_
    refine r_lald (pc := 1858) h a_out 0 rfl (by decide) dL_law_1858 ?_
    refine r_iload (pc := 1859) h 0 rfl dL_law_1859 ?_
    refine r_i2l (pc := 1861) (v := r2.toInt64) h rfl dL_law_1861 ?_
    refine r_lcmp (pc := 1862) (v := lg_cmp (s2.2 143 0) r2.toInt64) h rfl dL_law_1862 ?_
    refine r_if_eq (pc := 1863) (tgt := 1868) h (by decide) dL_law_1863 (fun _ => ?_) (fun c7 => absurd (lg_self _ (ho.trans (by rw [hr]))) c7)
    refine r_goto (pc := 1868) (tgt := 2550) h (by decide) dL_law_1868 ?_
    exact V.wd (by show 144 + 2 * j + 1 + 0 + 0 ≤ 144 + 2 * (j + 1); omega) (by show 18188 + 12 * j + 6 + 0 + 0 ≤ 18188 + 12 * (j + 1); omega) (r_sub [2, 3, 4, 5, 6] rfl (kk _ _ _ _ _ _ _ _ ((hI1 hC0).2.o g2 (Or.inl (by decide))) ((g4 hC0).2)))

set_option maxRecDepth 100000 in
set_option maxHeartbeats 1600000 in
theorem law_c30 {x : Cx} {G : Gl} {Q : State → Prop} {b L : Nat} {xs : Nat → Int32} (LAh : LA x G b L xs) (j : Nat) (hj : 4 * j + 4 ≤ L) (σ : Sg) (n : Nat) (tx : Nat → Nat) (A : Ab) (m : Nat) (H : Nat → Ab) (sv : Nat → Bool) (sl : Nat → Ab) (hC : InvC n tx A m H sv sl σ) (hM : InvM n tx A m H sv sl σ) (kk : NX x G Q b j) : V x G 7 (144 + 2 * j) (18188 + 12 * j) Q σ 1871 [(0, .ref b), (1, .ref (G.2.1 + 0)), (2, .ref (G.2.1 + 134)), (3, .ref (G.2.1 + 143)), (4, .int (nI (4 * j)))] [] := by
  obtain ⟨h, hX, hst, hS0, hbl, hbA, hL⟩ := LAh
  refine r_aload_n (pc := 1871) h 1 rfl rfl dL_law_1871 ?_
  refine r_aload_n (pc := 1872) h 0 rfl rfl dL_law_1872 ?_
  refine r_iload (pc := 1873) h 4 rfl dL_law_1873 ?_
  refine r_iconst (pc := 1875) (v := nI 1) h (by decide) dL_law_1875 ?_
  refine r_iadd (pc := 1876) (v := nI (4 * j + 1)) h (nI_add _ _) dL_law_1876 ?_
  refine r_sld (pc := 1877) (j := 4 * j + 1) h hS0 hbl hbA rfl (by omega) (by omega) dL_law_1877 ?_
  refine r_aload_n (pc := 1878) h 3 rfl rfl dL_law_1878 ?_
  refine r_LS (pc := 1879) (n := 3) (As := [.ref (G.2.1 + 0), .int (xs (4 * j + 1)), .ref (G.2.1 + 143)]) (st := []) h hX ⟨mw_36_21, mw_4_9, mw_36_23, ⟨by decide +kernel, by decide +kernel⟩, by decide +kernel, mw_36_22⟩ (l_readSoFar x.2.1 hst G σ n tx A m H sv sl hC (xs (4 * j + 1))) rfl rfl (by decide) (by first | decide | exact Nat.le_of_ble_eq_true rfl) ⟨(by show 144 + 2 * j + 1 ≤ 601024; omega), (by show 18188 + 12 * j + 6 ≤ 7293034; omega)⟩ dL_law_1879 (fun r1 s1 q1 => ?_)
  obtain ⟨e1, hk, hI0, hI1⟩ := q1
  refine r_istore (pc := 1882) (lo2 := [(5, .int r1), (0, .ref b), (1, .ref (G.2.1 + 0)), (2, .ref (G.2.1 + 134)), (3, .ref (G.2.1 + 143)), (4, .int (nI (4 * j)))]) h (by decide) rfl dL_law_1882 ?_
  refine r_aload_n (pc := 1884) h 3 rfl rfl dL_law_1884 ?_
  refine r_aload_n (pc := 1885) h 1 rfl rfl dL_law_1885 ?_
  refine r_iload (pc := 1886) h 5 rfl dL_law_1886 ?_
  refine r_iconst (pc := 1888) (v := nI 1) h (by decide) dL_law_1888 ?_
  refine r_iadd (pc := 1889) (v := nI (4 * j + 1)) h (nI_add _ _) dL_law_1889 ?_
  refine r_sld (pc := 1890) (j := 4 * j + 1) h hS0 hbl hbA rfl (by omega) (by omega) dL_law_1890 ?_
  refine r_cVi (pc := 1891) (As := [.int (xs (4 * j + 1))]) (st := []) h lk_RL_238 (c_m_readSoFar x.2.1 G s1 n tx A m H sv sl (keepM hM hk) (xs (4 * j + 1))) rc_6 (by decide) rfl rfl (by first | decide | exact Nat.le_of_ble_eq_true rfl) ⟨(by show 144 + 2 * j + 1 + 0 ≤ 601024; omega), (by show 18188 + 12 * j + 6 + 0 ≤ 7293034; omega)⟩ dL_law_1891 (fun r2 s2 q2 => ?_)
  obtain ⟨g1, g2, g3, g4⟩ := q2
  refine r_istore (pc := 1894) (lo2 := [(6, .int r2), (5, .int r1), (0, .ref b), (1, .ref (G.2.1 + 0)), (2, .ref (G.2.1 + 134)), (3, .ref (G.2.1 + 143)), (4, .int (nI (4 * j)))]) h (by decide) rfl dL_law_1894 ?_
  refine r_aload_n (pc := 1896) h 4 rfl rfl dL_law_1896 ?_
  refine r_cVi (pc := 1897) (As := []) (st := []) h lk_RL_139 (c_thrown x.2.1 G s2) rc_6 (by decide) rfl rfl (by first | decide | exact Nat.le_of_ble_eq_true rfl) ⟨(by show 144 + 2 * j + 1 + 0 + 0 ≤ 601024; omega), (by show 18188 + 12 * j + 6 + 0 + 0 ≤ 7293034; omega)⟩ dL_law_1897 (fun r3 s3 q3 => ?_)
  rw [q3.1, q3.2, g1]
  refine r_iload (pc := 1900) h 1 rfl dL_law_1900 ?_
  refine r_icmp_eq (pc := 1902) (tgt := 1907) h (by decide) dL_law_1902 (fun _ => ?_) (fun c9 => absurd e1.symm c9)
  refine r_iload (pc := 1907) h 1 rfl dL_law_1907 ?_
  refine r_if_ne (pc := 1909) (tgt := 1924) h (by decide) dL_law_1909 (fun c9 => ?_) (fun c9 => ?_)
  · have hC0 : cB (rdB A (xs (4 * j + 1))) 1 ≠ 0 := fun q => c9 (by rw [e1, q, kq_0]; rfl)
    refine r_goto (pc := 1924) (tgt := 2550) h (by decide) dL_law_1924 ?_
    exact V.wd (by show 144 + 2 * j + 1 + 0 + 0 ≤ 144 + 2 * (j + 1); omega) (by show 18188 + 12 * j + 6 + 0 + 0 ≤ 18188 + 12 * (j + 1); omega) (r_sub [2, 3, 4, 5, 6] rfl (kk _ _ _ _ _ _ _ _ ((hI0 hC0).o g2 (Or.inl (by decide))) (g3 hC0)))
  · have hC0 : cB (rdB A (xs (4 * j + 1))) 1 = 0 := (kq_z (by decide)).mp (e1.symm.trans c9)
    have ho := (g2.l 143 0 (by omega)).trans (hI1 hC0).1
    have hr := (g4 hC0).1
    refine r_aload_n (pc := 1912) h 5 rfl rfl dL_law_1912 ?_
    refine r_iconst (pc := 1913) (v := nI 0) h (by decide) dL_law_1913 ?_
    refine r_lald (pc := 1914) h a_out 0 rfl (by decide) dL_law_1914 ?_
    refine r_iload (pc := 1915) h 0 rfl dL_law_1915 ?_
    refine r_i2l (pc := 1917) (v := r2.toInt64) h rfl dL_law_1917 ?_
    refine r_lcmp (pc := 1918) (v := lg_cmp (s2.2 143 0) r2.toInt64) h rfl dL_law_1918 ?_
    refine r_if_eq (pc := 1919) (tgt := 1924) h (by decide) dL_law_1919 (fun _ => ?_) (fun c7 => absurd (lg_self _ (ho.trans (by rw [hr]))) c7)
    refine r_goto (pc := 1924) (tgt := 2550) h (by decide) dL_law_1924 ?_
    exact V.wd (by show 144 + 2 * j + 1 + 0 + 0 ≤ 144 + 2 * (j + 1); omega) (by show 18188 + 12 * j + 6 + 0 + 0 ≤ 18188 + 12 * (j + 1); omega) (r_sub [2, 3, 4, 5, 6] rfl (kk _ _ _ _ _ _ _ _ ((hI1 hC0).2.o g2 (Or.inl (by decide))) ((g4 hC0).2)))

set_option maxRecDepth 100000 in
set_option maxHeartbeats 1600000 in
theorem law_c31 {x : Cx} {G : Gl} {Q : State → Prop} {b L : Nat} {xs : Nat → Int32} (LAh : LA x G b L xs) (j : Nat) (hj : 4 * j + 4 ≤ L) (σ : Sg) (n : Nat) (tx : Nat → Nat) (A : Ab) (m : Nat) (H : Nat → Ab) (sv : Nat → Bool) (sl : Nat → Ab) (hC : InvC n tx A m H sv sl σ) (hM : InvM n tx A m H sv sl σ) (kk : NX x G Q b j) : V x G 7 (144 + 2 * j) (18188 + 12 * j) Q σ 1927 [(0, .ref b), (1, .ref (G.2.1 + 0)), (2, .ref (G.2.1 + 134)), (3, .ref (G.2.1 + 143)), (4, .int (nI (4 * j)))] [] := by
  obtain ⟨h, hX, hst, hS0, hbl, hbA, hL⟩ := LAh
  refine r_aload_n (pc := 1927) h 1 rfl rfl dL_law_1927 ?_
  refine r_aload_n (pc := 1928) h 0 rfl rfl dL_law_1928 ?_
  refine r_iload (pc := 1929) h 4 rfl dL_law_1929 ?_
  refine r_iconst (pc := 1931) (v := nI 1) h (by decide) dL_law_1931 ?_
  refine r_iadd (pc := 1932) (v := nI (4 * j + 1)) h (nI_add _ _) dL_law_1932 ?_
  refine r_sld (pc := 1933) (j := 4 * j + 1) h hS0 hbl hbA rfl (by omega) (by omega) dL_law_1933 ?_
  refine r_aload_n (pc := 1934) h 3 rfl rfl dL_law_1934 ?_
  refine r_LS (pc := 1935) (n := 3) (As := [.ref (G.2.1 + 0), .int (xs (4 * j + 1)), .ref (G.2.1 + 143)]) (st := []) h hX ⟨mw_37_9, mw_4_9, mw_37_11, ⟨by decide +kernel, by decide +kernel⟩, by decide +kernel, mw_37_10⟩ (l_nextOf x.2.1 hst G σ n tx A m H sv sl hC (xs (4 * j + 1))) rfl rfl (by decide) (by first | decide | exact Nat.le_of_ble_eq_true rfl) ⟨(by show 144 + 2 * j + 1 ≤ 601024; omega), (by show 18188 + 12 * j + 6 ≤ 7293034; omega)⟩ dL_law_1935 (fun r1 s1 q1 => ?_)
  obtain ⟨e1, hk, hI0, hI1⟩ := q1
  refine r_istore (pc := 1938) (lo2 := [(5, .int r1), (0, .ref b), (1, .ref (G.2.1 + 0)), (2, .ref (G.2.1 + 134)), (3, .ref (G.2.1 + 143)), (4, .int (nI (4 * j)))]) h (by decide) rfl dL_law_1938 ?_
  refine r_aload_n (pc := 1940) h 3 rfl rfl dL_law_1940 ?_
  refine r_aload_n (pc := 1941) h 1 rfl rfl dL_law_1941 ?_
  refine r_iload (pc := 1942) h 5 rfl dL_law_1942 ?_
  refine r_iconst (pc := 1944) (v := nI 1) h (by decide) dL_law_1944 ?_
  refine r_iadd (pc := 1945) (v := nI (4 * j + 1)) h (nI_add _ _) dL_law_1945 ?_
  refine r_sld (pc := 1946) (j := 4 * j + 1) h hS0 hbl hbA rfl (by omega) (by omega) dL_law_1946 ?_
  refine r_cVi (pc := 1947) (As := [.int (xs (4 * j + 1))]) (st := []) h lk_RL_241 (c_m_nextOf x.2.1 G s1 n tx A m H sv sl (keepM hM hk) (xs (4 * j + 1))) rc_6 (by decide) rfl rfl (by first | decide | exact Nat.le_of_ble_eq_true rfl) ⟨(by show 144 + 2 * j + 1 + 0 ≤ 601024; omega), (by show 18188 + 12 * j + 6 + 0 ≤ 7293034; omega)⟩ dL_law_1947 (fun r2 s2 q2 => ?_)
  obtain ⟨g1, g2, g3, g4⟩ := q2
  refine r_istore (pc := 1950) (lo2 := [(6, .int r2), (5, .int r1), (0, .ref b), (1, .ref (G.2.1 + 0)), (2, .ref (G.2.1 + 134)), (3, .ref (G.2.1 + 143)), (4, .int (nI (4 * j)))]) h (by decide) rfl dL_law_1950 ?_
  refine r_aload_n (pc := 1952) h 4 rfl rfl dL_law_1952 ?_
  refine r_cVi (pc := 1953) (As := []) (st := []) h lk_RL_139 (c_thrown x.2.1 G s2) rc_6 (by decide) rfl rfl (by first | decide | exact Nat.le_of_ble_eq_true rfl) ⟨(by show 144 + 2 * j + 1 + 0 + 0 ≤ 601024; omega), (by show 18188 + 12 * j + 6 + 0 + 0 ≤ 7293034; omega)⟩ dL_law_1953 (fun r3 s3 q3 => ?_)
  rw [q3.1, q3.2, g1]
  refine r_iload (pc := 1956) h 1 rfl dL_law_1956 ?_
  refine r_icmp_eq (pc := 1958) (tgt := 1963) h (by decide) dL_law_1958 (fun _ => ?_) (fun c9 => absurd e1.symm c9)
  refine r_iload (pc := 1963) h 1 rfl dL_law_1963 ?_
  refine r_if_ne (pc := 1965) (tgt := 1980) h (by decide) dL_law_1965 (fun c9 => ?_) (fun c9 => ?_)
  · have hC0 : cB (rdB A (xs (4 * j + 1))) 1 ≠ 0 := fun q => c9 (by rw [e1, q, kq_0]; rfl)
    refine r_goto (pc := 1980) (tgt := 2550) h (by decide) dL_law_1980 ?_
    exact V.wd (by show 144 + 2 * j + 1 + 0 + 0 ≤ 144 + 2 * (j + 1); omega) (by show 18188 + 12 * j + 6 + 0 + 0 ≤ 18188 + 12 * (j + 1); omega) (r_sub [2, 3, 4, 5, 6] rfl (kk _ _ _ _ _ _ _ _ ((hI0 hC0).o g2 (Or.inl (by decide))) (g3 hC0)))
  · have hC0 : cB (rdB A (xs (4 * j + 1))) 1 = 0 := (kq_z (by decide)).mp (e1.symm.trans c9)
    have ho := (g2.l 143 0 (by omega)).trans (hI1 hC0).1
    have hr := (g4 hC0).1
    refine r_aload_n (pc := 1968) h 5 rfl rfl dL_law_1968 ?_
    refine r_iconst (pc := 1969) (v := nI 0) h (by decide) dL_law_1969 ?_
    refine r_lald (pc := 1970) h a_out 0 rfl (by decide) dL_law_1970 ?_
    refine r_iload (pc := 1971) h 0 rfl dL_law_1971 ?_
    refine r_i2l (pc := 1973) (v := r2.toInt64) h rfl dL_law_1973 ?_
    refine r_lcmp (pc := 1974) (v := lg_cmp (s2.2 143 0) r2.toInt64) h rfl dL_law_1974 ?_
    refine r_if_eq (pc := 1975) (tgt := 1980) h (by decide) dL_law_1975 (fun _ => ?_) (fun c7 => absurd (lg_self _ (ho.trans (by rw [hr]))) c7)
    refine r_goto (pc := 1980) (tgt := 2550) h (by decide) dL_law_1980 ?_
    exact V.wd (by show 144 + 2 * j + 1 + 0 + 0 ≤ 144 + 2 * (j + 1); omega) (by show 18188 + 12 * j + 6 + 0 + 0 ≤ 18188 + 12 * (j + 1); omega) (r_sub [2, 3, 4, 5, 6] rfl (kk _ _ _ _ _ _ _ _ ((hI1 hC0).2.o g2 (Or.inl (by decide))) ((g4 hC0).2)))

set_option maxRecDepth 100000 in
set_option maxHeartbeats 1600000 in
theorem law_c32 {x : Cx} {G : Gl} {Q : State → Prop} {b L : Nat} {xs : Nat → Int32} (LAh : LA x G b L xs) (j : Nat) (hj : 4 * j + 4 ≤ L) (σ : Sg) (n : Nat) (tx : Nat → Nat) (A : Ab) (m : Nat) (H : Nat → Ab) (sv : Nat → Bool) (sl : Nat → Ab) (hC : InvC n tx A m H sv sl σ) (hM : InvM n tx A m H sv sl σ) (kk : NX x G Q b j) : V x G 7 (144 + 2 * j) (18188 + 12 * j) Q σ 1983 [(0, .ref b), (1, .ref (G.2.1 + 0)), (2, .ref (G.2.1 + 134)), (3, .ref (G.2.1 + 143)), (4, .int (nI (4 * j)))] [] := by
  obtain ⟨h, hX, hst, hS0, hbl, hbA, hL⟩ := LAh
  refine r_aload_n (pc := 1983) h 1 rfl rfl dL_law_1983 ?_
  refine r_cVi (pc := 1984) (As := []) (st := []) h lk_RL_242 (c_x_readings x.2.1 G σ A hC.2.1) rc_5 (by decide) rfl rfl (by first | decide | exact Nat.le_of_ble_eq_true rfl) ⟨(by show 144 + 2 * j + 0 ≤ 601024; omega), (by show 18188 + 12 * j + 0 ≤ 7293034; omega)⟩ dL_law_1984 (fun r1 s1 q1 => ?_)
  obtain ⟨e1, e2⟩ := q1
  have k1 : ∀ q, 134 ≤ q → q < 143 → s1.1 q = σ.1 q := fun q _ _ => by rw [e2]
  have k2 : InvC n tx A m H sv sl s1 := by rw [e2]; exact hC
  refine r_aload_n (pc := 1987) h 2 rfl rfl dL_law_1987 ?_
  refine r_cVi (pc := 1988) (As := []) (st := [.int r1]) h lk_RL_245 (c_m_readings x.2.1 G s1 n tx A m H sv sl (keepM hM k1)) rc_6 (by decide) rfl rfl (by first | decide | exact Nat.le_of_ble_eq_true rfl) ⟨(by show 144 + 2 * j + 0 + 0 ≤ 601024; omega), (by show 18188 + 12 * j + 0 + 0 ≤ 7293034; omega)⟩ dL_law_1988 (fun r2 s2 q2 => ?_)
  obtain ⟨g1, g2, g3⟩ := q2
  refine r_icmp_eq (pc := 1991) (tgt := 2550) h (by decide) dL_law_1991 (fun _ => ?_) (fun c9 => absurd (e1.trans g1.symm) c9)
  exact V.wd (by show 144 + 2 * j + 0 + 0 ≤ 144 + 2 * (j + 1); omega) (by show 18188 + 12 * j + 0 + 0 ≤ 18188 + 12 * (j + 1); omega) (r_sub [0, 1, 2, 3, 4] rfl (kk _ _ _ _ _ _ _ _ (k2.o g3 (Or.inl (by decide))) g2))

set_option maxRecDepth 100000 in
set_option maxHeartbeats 1600000 in
theorem law_c33 {x : Cx} {G : Gl} {Q : State → Prop} {b L : Nat} {xs : Nat → Int32} (LAh : LA x G b L xs) (j : Nat) (hj : 4 * j + 4 ≤ L) (σ : Sg) (n : Nat) (tx : Nat → Nat) (A : Ab) (m : Nat) (H : Nat → Ab) (sv : Nat → Bool) (sl : Nat → Ab) (hC : InvC n tx A m H sv sl σ) (hM : InvM n tx A m H sv sl σ) (kk : NX x G Q b j) : V x G 7 (144 + 2 * j) (18188 + 12 * j) Q σ 1996 [(0, .ref b), (1, .ref (G.2.1 + 0)), (2, .ref (G.2.1 + 134)), (3, .ref (G.2.1 + 143)), (4, .int (nI (4 * j)))] [] := by
  obtain ⟨h, hX, hst, hS0, hbl, hbA, hL⟩ := LAh
  refine r_aload_n (pc := 1996) h 1 rfl rfl dL_law_1996 ?_
  refine r_cVi (pc := 1997) (As := []) (st := []) h lk_RL_246 (c_x_leastNext x.2.1 G σ A hC.2.1) rc_5 (by decide) rfl rfl (by first | decide | exact Nat.le_of_ble_eq_true rfl) ⟨(by show 144 + 2 * j + 0 ≤ 601024; omega), (by show 18188 + 12 * j + 0 ≤ 7293034; omega)⟩ dL_law_1997 (fun r1 s1 q1 => ?_)
  obtain ⟨e1, e2⟩ := q1
  have k1 : ∀ q, 134 ≤ q → q < 143 → s1.1 q = σ.1 q := fun q _ _ => by rw [e2]
  have k2 : InvC n tx A m H sv sl s1 := by rw [e2]; exact hC
  refine r_aload_n (pc := 2000) h 2 rfl rfl dL_law_2000 ?_
  refine r_cVi (pc := 2001) (As := []) (st := [.int r1]) h lk_RL_249 (c_m_leastNext x.2.1 G s1 n tx A m H sv sl (keepM hM k1)) rc_6 (by decide) rfl rfl (by first | decide | exact Nat.le_of_ble_eq_true rfl) ⟨(by show 144 + 2 * j + 0 + 0 ≤ 601024; omega), (by show 18188 + 12 * j + 0 + 0 ≤ 7293034; omega)⟩ dL_law_2001 (fun r2 s2 q2 => ?_)
  obtain ⟨g1, g2, g3⟩ := q2
  refine r_icmp_eq (pc := 2004) (tgt := 2550) h (by decide) dL_law_2004 (fun _ => ?_) (fun c9 => absurd (e1.trans g1.symm) c9)
  exact V.wd (by show 144 + 2 * j + 0 + 0 ≤ 144 + 2 * (j + 1); omega) (by show 18188 + 12 * j + 0 + 0 ≤ 18188 + 12 * (j + 1); omega) (r_sub [0, 1, 2, 3, 4] rfl (kk _ _ _ _ _ _ _ _ (k2.o g3 (Or.inl (by decide))) g2))

