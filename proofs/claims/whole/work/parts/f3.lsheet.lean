section LC
variable {X : rT} {l : Launch} {D9 : va_G} {cI cM cW cS : ClassId} {adK adV : Nat → Nat} {fm : Option Nat} {b9 L9 i9 K9 N9 : Nat} {xs9 : Nat → Int32} {zad zq zqc zqs zqe zsh zra zem : Nat → Nat} {zwr ztn zlw zrz zpn zpw : Nat} {zhi zrg zpg : Int32} {zhp zph : Int64} {zR0 zR1 zR2 zR3 zkf zmf zlf zcf zsf ztf zP0 zP1 zP2 zP3 zpk zpm zpv zpc zps zpt ztp : sF} {zcd zen : Nat → sF} {zso : Nat → Int32} {znz : Nat → Nat} {zgs : Nat → sF} {zin ziw : Nat} {zig : Int32} {zih : Int64} {zsk zmc zms zmt zco zbg zos zoc zss zsz zit : sF} {TT : Nat → sT} {Y : sY} {V : sV}
set_option maxHeartbeats 4000000 in
set_option maxRecDepth 100000 in
theorem L_sheet (C9 : rC X l cL_law 4 RL room_1 D9 (tY cI cM cW cS) (zLw adK adV fm b9 L9 xs9) false) (hL : L9 < 2 ^ 31) (hi : i9 + 6 < L9) (hk : K9 ≤ 600000 ∧ N9 ≤ 7302250) (h : INV zwr ztn zlw zrz zpn zpw zhi zrg zpg zhp zph zR0 zR1 zR2 zR3 zkf zmf zlf zcf zsf ztf zP0 zP1 zP2 zP3 zpk zpm zpv zpc zps zpt ztp zcd zen zso znz zgs zin ziw zig zih zsk zmc zms zmt zco zbg zos zoc zss zsz zit TT) (kk : LH X K9 N9 b9 i9 cI cM cW cS zad zq zqc zqs zqe zsh zra zem 1764) : X K9 N9 (CWo cI cM cW cS zad zq zqc zqs zqe zsh zra id zwr ztn zlw zrz zpn zpw zhi zrg zpg zhp zph zR0 zR1 zR2 zR3 zkf zmf zlf zcf zsf ztf zP0 zP1 zP2 zP3 zpk zpm zpv zpc zps zpt ztp zcd zen zso znz zgs Y ++ MW cI zem zwr ztn zlw zrz zin ziw zhi zrg zig zhp zih zsk zkf zmf zlf zmc zms zmt ztp zco zbg zos zoc zss zsz zit V) [(0, .ref b9), (1, .ref (zad 0)), (2, .ref (zem 0)), (3, .int (nI i9))] 1529 [] := by
  obtain ⟨⟨l1, l2, l3, l4, l5, l6, l7, l8, l9⟩, h2, h3, h4, h5, h6, h7, h8⟩ := id h
  obtain ⟨j9, hj9, hs9⟩ := k_idx (xs9 (i9 + 1))
  refine x_aload_n C9 dL_law_1529 1 rfl ?_
  refine x_arg C9 hL 1 (by omega) (by decide) dL_law_1530 dL_law_1531 dL_law_1532 dL_law_1533 dL_law_1534 ?_
  refine x_arg C9 hL 2 (by omega) (by decide) dL_law_1535 dL_law_1536 dL_law_1537 dL_law_1538 dL_law_1539 ?_
  refine x_arg C9 hL 3 (by omega) (by decide) dL_law_1540 dL_law_1541 dL_law_1542 dL_law_1543 dL_law_1544 ?_
  refine k7_sheet C9 (xs9 (i9 + 1)) (xs9 (i9 + 2)) (xs9 (i9 + 3)) j9 hj9 hs9 (iSh_nz h7) dL_law_1545 hk (Nat.le_of_ble_eq_true rfl) (fun r so' nz' g' hn e7 => ?_)
  refine x_swap C9 ?_
  refine x_aload_n C9 dL_law_1548 2 rfl ?_
  refine x_arg C9 hL 1 (by omega) (by decide) dL_law_1549 dL_law_1550 dL_law_1551 dL_law_1552 dL_law_1553 ?_
  refine x_arg C9 hL 2 (by omega) (by decide) dL_law_1554 dL_law_1555 dL_law_1556 dL_law_1557 dL_law_1558 ?_
  refine x_arg C9 hL 3 (by omega) (by decide) dL_law_1559 dL_law_1560 dL_law_1561 dL_law_1562 dL_law_1563 ?_
  refine k8_sheet C9 (xs9 (i9 + 1)) (xs9 (i9 + 2)) (xs9 (i9 + 3)) dL_law_1564 hk (Nat.le_of_ble_eq_true rfl) (fun r8 a' b' c' e8 => ?_)
  obtain ⟨e8, e8g⟩ := e8
  obtain ⟨e8r, e8⟩ := Prod.mk.inj e8
  obtain ⟨rfl, rfl⟩ := Prod.mk.inj e8
  refine x_swap C9 ?_
  refine x_icmp_eq C9 dL_law_1567 (tgt := 1764) rfl (fun _ => ?_) (fun q9 => absurd ((Prod.mk.inj e7).1.trans e8r.symm) q9)
  exact kk (I_shs h (iS_sheet h7 hj9 hs9 hn e7 e8g))
set_option maxHeartbeats 4000000 in
set_option maxRecDepth 100000 in
theorem L_cell (C9 : rC X l cL_law 4 RL room_1 D9 (tY cI cM cW cS) (zLw adK adV fm b9 L9 xs9) false) (hL : L9 < 2 ^ 31) (hi : i9 + 6 < L9) (hk : K9 ≤ 600000 ∧ N9 ≤ 7302250) (h : INV zwr ztn zlw zrz zpn zpw zhi zrg zpg zhp zph zR0 zR1 zR2 zR3 zkf zmf zlf zcf zsf ztf zP0 zP1 zP2 zP3 zpk zpm zpv zpc zps zpt ztp zcd zen zso znz zgs zin ziw zig zih zsk zmc zms zmt zco zbg zos zoc zss zsz zit TT) (kk : LH X K9 N9 b9 i9 cI cM cW cS zad zq zqc zqs zqe zsh zra zem 1764) : X K9 N9 (CWo cI cM cW cS zad zq zqc zqs zqe zsh zra id zwr ztn zlw zrz zpn zpw zhi zrg zpg zhp zph zR0 zR1 zR2 zR3 zkf zmf zlf zcf zsf ztf zP0 zP1 zP2 zP3 zpk zpm zpv zpc zps zpt ztp zcd zen zso znz zgs Y ++ MW cI zem zwr ztn zlw zrz zin ziw zhi zrg zig zhp zih zsk zkf zmf zlf zmc zms zmt ztp zco zbg zos zoc zss zsz zit V) [(0, .ref b9), (1, .ref (zad 0)), (2, .ref (zem 0)), (3, .int (nI i9))] 1572 [] := by
  obtain ⟨⟨l1, l2, l3, l4, l5, l6, l7, l8, l9⟩, h2, h3, h4, h5, h6, h7, h8⟩ := id h
  obtain ⟨nzf, rfl, hf⟩ := iSh_sz h7
  obtain ⟨j9, hj9, hs9⟩ := k_idx (xs9 (i9 + 1))
  have hq := iS_cell h7 hf hj9 hs9 (xs9 (i9 + 2)) (xs9 (i9 + 3))
  refine x_aload_n C9 dL_law_1572 1 rfl ?_
  refine x_arg C9 hL 1 (by omega) (by decide) dL_law_1573 dL_law_1574 dL_law_1575 dL_law_1576 dL_law_1577 ?_
  refine x_arg C9 hL 2 (by omega) (by decide) dL_law_1578 dL_law_1579 dL_law_1580 dL_law_1581 dL_law_1582 ?_
  refine x_arg C9 hL 3 (by omega) (by decide) dL_law_1583 dL_law_1584 dL_law_1585 dL_law_1586 dL_law_1587 ?_
  refine k7_cell C9 (xs9 (i9 + 1)) (xs9 (i9 + 2)) (xs9 (i9 + 3)) j9 hj9 hs9 (iSh_nz h7) dL_law_1588 hk (Nat.le_of_ble_eq_true rfl) (fun r g' e7 => ?_)
  obtain ⟨rfl, e7_0⟩ := Prod.mk.inj e7
  subst e7_0
  refine x_swap C9 ?_
  refine x_aload_n C9 dL_law_1591 2 rfl ?_
  refine x_arg C9 hL 1 (by omega) (by decide) dL_law_1592 dL_law_1593 dL_law_1594 dL_law_1595 dL_law_1596 ?_
  refine x_arg C9 hL 2 (by omega) (by decide) dL_law_1597 dL_law_1598 dL_law_1599 dL_law_1600 dL_law_1601 ?_
  refine x_arg C9 hL 3 (by omega) (by decide) dL_law_1602 dL_law_1603 dL_law_1604 dL_law_1605 dL_law_1606 ?_
  refine k8_cell (nz := nzf) C9 (xs9 (i9 + 1)) (xs9 (i9 + 2)) (xs9 (i9 + 3)) hf dL_law_1607 hk (Nat.le_of_ble_eq_true rfl) (fun r8 c' e8 => ?_)
  obtain ⟨rfl, e8_0⟩ := Prod.mk.inj e8
  subst e8_0
  refine x_swap C9 ?_
  refine x_icmp_eq C9 dL_law_1610 (tgt := 1764) rfl (fun _ => ?_) (fun q9 => absurd (hq.1) q9)
  exact kk (I_shs h hq.2)
set_option maxHeartbeats 4000000 in
set_option maxRecDepth 100000 in
theorem L_copy (C9 : rC X l cL_law 4 RL room_1 D9 (tY cI cM cW cS) (zLw adK adV fm b9 L9 xs9) false) (hL : L9 < 2 ^ 31) (hi : i9 + 6 < L9) (hk : K9 ≤ 600000 ∧ N9 ≤ 7302250) (h : INV zwr ztn zlw zrz zpn zpw zhi zrg zpg zhp zph zR0 zR1 zR2 zR3 zkf zmf zlf zcf zsf ztf zP0 zP1 zP2 zP3 zpk zpm zpv zpc zps zpt ztp zcd zen zso znz zgs zin ziw zig zih zsk zmc zms zmt zco zbg zos zoc zss zsz zit TT) (kk : LH X K9 N9 b9 i9 cI cM cW cS zad zq zqc zqs zqe zsh zra zem 1764) : X K9 N9 (CWo cI cM cW cS zad zq zqc zqs zqe zsh zra id zwr ztn zlw zrz zpn zpw zhi zrg zpg zhp zph zR0 zR1 zR2 zR3 zkf zmf zlf zcf zsf ztf zP0 zP1 zP2 zP3 zpk zpm zpv zpc zps zpt ztp zcd zen zso znz zgs Y ++ MW cI zem zwr ztn zlw zrz zin ziw zhi zrg zig zhp zih zsk zkf zmf zlf zmc zms zmt ztp zco zbg zos zoc zss zsz zit V) [(0, .ref b9), (1, .ref (zad 0)), (2, .ref (zem 0)), (3, .int (nI i9))] 1615 [] := by
  obtain ⟨⟨l1, l2, l3, l4, l5, l6, l7, l8, l9⟩, h2, h3, h4, h5, h6, h7, h8⟩ := id h
  obtain ⟨nzf, rfl, hf⟩ := iSh_sz h7
  obtain ⟨j9, hj9, hs9⟩ := k_idx (xs9 (i9 + 1))
  obtain ⟨j8, hj8, hs8⟩ := k_idx (xs9 (i9 + 3))
  have hq := iS_copy (n := xs9 (i9 + 5)) h7 hf hj9 hs9 hj8 hs8 (xs9 (i9 + 2)) (xs9 (i9 + 4))
  refine x_aload_n C9 dL_law_1615 1 rfl ?_
  refine x_arg C9 hL 1 (by omega) (by decide) dL_law_1616 dL_law_1617 dL_law_1618 dL_law_1619 dL_law_1620 ?_
  refine x_arg C9 hL 2 (by omega) (by decide) dL_law_1621 dL_law_1622 dL_law_1623 dL_law_1624 dL_law_1625 ?_
  refine x_arg C9 hL 3 (by omega) (by decide) dL_law_1626 dL_law_1627 dL_law_1628 dL_law_1629 dL_law_1630 ?_
  refine x_arg C9 hL 4 (by omega) (by decide) dL_law_1631 dL_law_1632 dL_law_1633 dL_law_1634 dL_law_1635 ?_
  refine x_arg C9 hL 5 (by omega) (by decide) dL_law_1636 dL_law_1637 dL_law_1638 dL_law_1639 dL_law_1640 ?_
  refine x7_copy C9 (xs9 (i9 + 1)) (xs9 (i9 + 2)) (xs9 (i9 + 3)) (xs9 (i9 + 4)) (xs9 (i9 + 5)) j9 hj9 hs9 (iSh_nz h7) j8 hj8 hs8 dL_law_1641 hk (Nat.le_of_ble_eq_true rfl) (fun r g' e7 => ?_)
  obtain ⟨rfl, e7_0⟩ := Prod.mk.inj e7
  subst e7_0
  refine x_swap C9 ?_
  refine x_aload_n C9 dL_law_1644 2 rfl ?_
  refine x_arg C9 hL 1 (by omega) (by decide) dL_law_1645 dL_law_1646 dL_law_1647 dL_law_1648 dL_law_1649 ?_
  refine x_arg C9 hL 2 (by omega) (by decide) dL_law_1650 dL_law_1651 dL_law_1652 dL_law_1653 dL_law_1654 ?_
  refine x_arg C9 hL 3 (by omega) (by decide) dL_law_1655 dL_law_1656 dL_law_1657 dL_law_1658 dL_law_1659 ?_
  refine x_arg C9 hL 4 (by omega) (by decide) dL_law_1660 dL_law_1661 dL_law_1662 dL_law_1663 dL_law_1664 ?_
  refine x_arg C9 hL 5 (by omega) (by decide) dL_law_1665 dL_law_1666 dL_law_1667 dL_law_1668 dL_law_1669 ?_
  refine k8_copy (nzf := nzf) C9 (xs9 (i9 + 1)) (xs9 (i9 + 2)) (xs9 (i9 + 3)) (xs9 (i9 + 4)) (xs9 (i9 + 5)) hf dL_law_1670 hk (Nat.le_of_ble_eq_true rfl) (fun V' r8 c' e8 => ?_)
  obtain ⟨rfl, e8_0⟩ := Prod.mk.inj e8
  subst e8_0
  refine x_swap C9 ?_
  refine x_icmp_eq C9 dL_law_1673 (tgt := 1764) rfl (fun _ => ?_) (fun q9 => absurd (hq.1) q9)
  exact kk (I_shs h hq.2)
set_option maxHeartbeats 4000000 in
set_option maxRecDepth 100000 in
theorem L_treesBy (C9 : rC X l cL_law 4 RL room_1 D9 (tY cI cM cW cS) (zLw adK adV fm b9 L9 xs9) false) (hL : L9 < 2 ^ 31) (hi : i9 + 6 < L9) (hk : K9 ≤ 600000 ∧ N9 ≤ 7302250) (h : INV zwr ztn zlw zrz zpn zpw zhi zrg zpg zhp zph zR0 zR1 zR2 zR3 zkf zmf zlf zcf zsf ztf zP0 zP1 zP2 zP3 zpk zpm zpv zpc zps zpt ztp zcd zen zso znz zgs zin ziw zig zih zsk zmc zms zmt zco zbg zos zoc zss zsz zit TT) (kk : LH X K9 N9 b9 i9 cI cM cW cS zad zq zqc zqs zqe zsh zra zem 1764) : X K9 N9 (CWo cI cM cW cS zad zq zqc zqs zqe zsh zra id zwr ztn zlw zrz zpn zpw zhi zrg zpg zhp zph zR0 zR1 zR2 zR3 zkf zmf zlf zcf zsf ztf zP0 zP1 zP2 zP3 zpk zpm zpv zpc zps zpt ztp zcd zen zso znz zgs Y ++ MW cI zem zwr ztn zlw zrz zin ziw zhi zrg zig zhp zih zsk zkf zmf zlf zmc zms zmt ztp zco zbg zos zoc zss zsz zit V) [(0, .ref b9), (1, .ref (zad 0)), (2, .ref (zem 0)), (3, .int (nI i9))] 1678 [] := by
  obtain ⟨⟨l1, l2, l3, l4, l5, l6, l7, l8, l9⟩, h2, h3, h4, h5, h6, h7, h8⟩ := id h
  obtain ⟨nzf, rfl, hf⟩ := iSh_sz h7
  obtain ⟨j9, hj9, hs9⟩ := k_idx (xs9 (i9 + 1))
  have hB := iS_by h7 hf hj9 hs9 (q := (ztn, zcf, zsf, ztf, 0)) (q' := (ztn, zmc, zms, zmt, 0)) ⟨rfl, h4, rfl⟩ (xs9 (i9 + 2)) (xs9 (i9 + 3)) (xs9 (i9 + 4))
  have hT := kT_by (g := zgs j9) (so := zso j9) (nz := znz j9) (q := (ztn, zcf, zsf, ztf, 0)) (I_kT h) (xs9 (i9 + 1)) (xs9 (i9 + 2)) (xs9 (i9 + 3)) (xs9 (i9 + 4))
  refine x_aload_n C9 dL_law_1678 1 rfl ?_
  refine x_arg C9 hL 1 (by omega) (by decide) dL_law_1679 dL_law_1680 dL_law_1681 dL_law_1682 dL_law_1683 ?_
  refine x_arg C9 hL 2 (by omega) (by decide) dL_law_1684 dL_law_1685 dL_law_1686 dL_law_1687 dL_law_1688 ?_
  refine x_arg C9 hL 3 (by omega) (by decide) dL_law_1689 dL_law_1690 dL_law_1691 dL_law_1692 dL_law_1693 ?_
  refine x_arg C9 hL 4 (by omega) (by decide) dL_law_1694 dL_law_1695 dL_law_1696 dL_law_1697 dL_law_1698 ?_
  refine k7_treesBy C9 (xs9 (i9 + 1)) (xs9 (i9 + 2)) (xs9 (i9 + 3)) (xs9 (i9 + 4)) l1 j9 hj9 hs9 (iSh_nz h7) dL_law_1699 hk (Nat.le_of_ble_eq_true rfl) (fun r n' a' b' c' e' e7 => ?_)
  rw [← e7] at hB hT
  refine x_swap C9 ?_
  refine x_aload_n C9 dL_law_1702 2 rfl ?_
  refine x_arg C9 hL 1 (by omega) (by decide) dL_law_1703 dL_law_1704 dL_law_1705 dL_law_1706 dL_law_1707 ?_
  refine x_arg C9 hL 2 (by omega) (by decide) dL_law_1708 dL_law_1709 dL_law_1710 dL_law_1711 dL_law_1712 ?_
  refine x_arg C9 hL 3 (by omega) (by decide) dL_law_1713 dL_law_1714 dL_law_1715 dL_law_1716 dL_law_1717 ?_
  refine x_arg C9 hL 4 (by omega) (by decide) dL_law_1718 dL_law_1719 dL_law_1720 dL_law_1721 dL_law_1722 ?_
  refine k8_treesBy (nzf := nzf) C9 (xs9 (i9 + 1)) (xs9 (i9 + 2)) (xs9 (i9 + 3)) (xs9 (i9 + 4)) l1 hf dL_law_1723 hk (Nat.le_of_ble_eq_true rfl) (fun r8 n8 a8 b8 c8 e8' e8 => ?_)
  rw [← e8] at hB
  obtain ⟨hr, hn, hg, -⟩ := hB
  have hn : n' = n8 := hn
  subst hn
  refine x_swap C9 ?_
  refine x_icmp_eq C9 dL_law_1726 (tgt := 1764) rfl (fun _ => ?_) (fun q9 => absurd (hr) q9)
  exact kk (I_trees h hT hg)
set_option maxHeartbeats 4000000 in
set_option maxRecDepth 100000 in
theorem L_judge (C9 : rC X l cL_law 4 RL room_1 D9 (tY cI cM cW cS) (zLw adK adV fm b9 L9 xs9) false) (hL : L9 < 2 ^ 31) (hi : i9 + 6 < L9) (hk : K9 ≤ 600000 ∧ N9 ≤ 7302250) (h : INV zwr ztn zlw zrz zpn zpw zhi zrg zpg zhp zph zR0 zR1 zR2 zR3 zkf zmf zlf zcf zsf ztf zP0 zP1 zP2 zP3 zpk zpm zpv zpc zps zpt ztp zcd zen zso znz zgs zin ziw zig zih zsk zmc zms zmt zco zbg zos zoc zss zsz zit TT) (kk : LH X K9 N9 b9 i9 cI cM cW cS zad zq zqc zqs zqe zsh zra zem 1764) : X K9 N9 (CWo cI cM cW cS zad zq zqc zqs zqe zsh zra id zwr ztn zlw zrz zpn zpw zhi zrg zpg zhp zph zR0 zR1 zR2 zR3 zkf zmf zlf zcf zsf ztf zP0 zP1 zP2 zP3 zpk zpm zpv zpc zps zpt ztp zcd zen zso znz zgs Y ++ MW cI zem zwr ztn zlw zrz zin ziw zhi zrg zig zhp zih zsk zkf zmf zlf zmc zms zmt ztp zco zbg zos zoc zss zsz zit V) [(0, .ref b9), (1, .ref (zad 0)), (2, .ref (zem 0)), (3, .int (nI i9))] 1274 [] := by
  obtain ⟨wk, tk, mtk, rfl, rfl, rfl, rfl, q1, q2, q3, q4, q5, q6⟩ := INV_q h
  obtain ⟨⟨l1, l2, l3, l4, l5, l6, l7, l8, l9⟩, h2, h3, h4, h5, h6, h7, h8⟩ := id h
  obtain ⟨t1, t2, t3⟩ := h8 zlw l2.1
  obtain ⟨nzf, rfl, hf⟩ := iSh_sz h7
  obtain ⟨j9, hj9, hs9⟩ := k_idx (xs9 (i9 + 1))
  refine x_aload_n C9 dL_law_1274 1 rfl ?_
  refine x_arg C9 hL 1 (by omega) (by decide) dL_law_1275 dL_law_1276 dL_law_1277 dL_law_1278 dL_law_1279 ?_
  refine x_arg C9 hL 2 (by omega) (by decide) dL_law_1280 dL_law_1281 dL_law_1282 dL_law_1283 dL_law_1284 ?_
  refine k7_judge C9 (xs9 (i9 + 1)) (xs9 (i9 + 2)) l1 q1 q3 (fun j hj => (l5 j hj).1) l9.1 (s_good_hz (q4 (TT zlw))).1 t1 t2 (by omega) j9 hj9 hs9 (iSh_nz h7) dL_law_1285 hk (Nat.le_of_ble_eq_true rfl) (fun Y' r e7 => ?_)
  refine x_swap C9 ?_
  refine x_aload_n C9 dL_law_1288 2 rfl ?_
  refine x_arg C9 hL 1 (by omega) (by decide) dL_law_1289 dL_law_1290 dL_law_1291 dL_law_1292 dL_law_1293 ?_
  refine x_arg C9 hL 2 (by omega) (by decide) dL_law_1294 dL_law_1295 dL_law_1296 dL_law_1297 dL_law_1298 ?_
  refine k8_judge C9 (xs9 (i9 + 1)) (xs9 (i9 + 2)) (by omega) t1 t3 l1 q2 q3 (fun j hj => (l5 j hj).1) l9.2 (q5 (TT zlw)) hf dL_law_1299 hk (Nat.le_of_ble_eq_true rfl) (fun V' r8 e8 => ?_)
  refine x_swap C9 ?_
  refine x_icmp_eq C9 dL_law_1302 (tgt := 1764) rfl (fun _ => ?_) (fun q9 => absurd (e7.trans ((g_judge (q6 (TT zlw)) _ _ _ _ _).trans ((iS_judge h7 hf hj9 hs9).trans e8.symm))) q9)
  exact kk (h)
set_option maxHeartbeats 4000000 in
set_option maxRecDepth 100000 in
theorem L_winds (C9 : rC X l cL_law 4 RL room_1 D9 (tY cI cM cW cS) (zLw adK adV fm b9 L9 xs9) false) (hL : L9 < 2 ^ 31) (hi : i9 + 6 < L9) (hk : K9 ≤ 600000 ∧ N9 ≤ 7302250) (h : INV zwr ztn zlw zrz zpn zpw zhi zrg zpg zhp zph zR0 zR1 zR2 zR3 zkf zmf zlf zcf zsf ztf zP0 zP1 zP2 zP3 zpk zpm zpv zpc zps zpt ztp zcd zen zso znz zgs zin ziw zig zih zsk zmc zms zmt zco zbg zos zoc zss zsz zit TT) (kk : LH X K9 N9 b9 i9 cI cM cW cS zad zq zqc zqs zqe zsh zra zem 1764) : X K9 N9 (CWo cI cM cW cS zad zq zqc zqs zqe zsh zra id zwr ztn zlw zrz zpn zpw zhi zrg zpg zhp zph zR0 zR1 zR2 zR3 zkf zmf zlf zcf zsf ztf zP0 zP1 zP2 zP3 zpk zpm zpv zpc zps zpt ztp zcd zen zso znz zgs Y ++ MW cI zem zwr ztn zlw zrz zin ziw zhi zrg zig zhp zih zsk zkf zmf zlf zmc zms zmt ztp zco zbg zos zoc zss zsz zit V) [(0, .ref b9), (1, .ref (zad 0)), (2, .ref (zem 0)), (3, .int (nI i9))] 1340 [] := by
  obtain ⟨wk, tk, mtk, rfl, rfl, rfl, rfl, q1, q2, q3, q4, q5, q6⟩ := INV_q h
  obtain ⟨⟨l1, l2, l3, l4, l5, l6, l7, l8, l9⟩, h2, h3, h4, h5, h6, h7, h8⟩ := id h
  obtain ⟨t1, t2, t3⟩ := h8 zlw l2.1
  obtain ⟨nzf, rfl, hf⟩ := iSh_sz h7
  obtain ⟨j9, hj9, hs9⟩ := k_idx (xs9 (i9 + 1))
  refine x_aload_n C9 dL_law_1340 1 rfl ?_
  refine x_arg C9 hL 1 (by omega) (by decide) dL_law_1341 dL_law_1342 dL_law_1343 dL_law_1344 dL_law_1345 ?_
  refine x_arg C9 hL 2 (by omega) (by decide) dL_law_1346 dL_law_1347 dL_law_1348 dL_law_1349 dL_law_1350 ?_
  refine k7_winds C9 (xs9 (i9 + 1)) (xs9 (i9 + 2)) l1 q1 q3 (fun j hj => (l5 j hj).1) l9.1 t1 t2 (by omega) (q4 (TT zlw)) j9 hj9 hs9 (iSh_nz h7) dL_law_1351 hk (Nat.le_of_ble_eq_true rfl) (fun Y' r e7 => ?_)
  refine x_swap C9 ?_
  refine x_aload_n C9 dL_law_1354 2 rfl ?_
  refine x_arg C9 hL 1 (by omega) (by decide) dL_law_1355 dL_law_1356 dL_law_1357 dL_law_1358 dL_law_1359 ?_
  refine x_arg C9 hL 2 (by omega) (by decide) dL_law_1360 dL_law_1361 dL_law_1362 dL_law_1363 dL_law_1364 ?_
  refine k8_winds C9 (xs9 (i9 + 1)) (xs9 (i9 + 2)) (by omega) t1 t3 l1 q2 q3 (fun j hj => (l5 j hj).1) l9.2 (q5 (TT zlw)) hf dL_law_1365 hk (Nat.le_of_ble_eq_true rfl) (fun V' r8 e8 => ?_)
  refine x_swap C9 ?_
  refine x_icmp_eq C9 dL_law_1368 (tgt := 1764) rfl (fun _ => ?_) (fun q9 => absurd (e7.trans ((g_winds (q6 (TT zlw)) _ _ _ _ _).trans ((iS_winds h7 hf hj9 hs9).trans e8.symm))) q9)
  exact kk (h)
set_option maxHeartbeats 4000000 in
set_option maxRecDepth 100000 in
theorem L_laws (C9 : rC X l cL_law 4 RL room_1 D9 (tY cI cM cW cS) (zLw adK adV fm b9 L9 xs9) false) (hL : L9 < 2 ^ 31) (hi : i9 + 6 < L9) (hk : K9 ≤ 600000 ∧ N9 ≤ 7302250) (h : INV zwr ztn zlw zrz zpn zpw zhi zrg zpg zhp zph zR0 zR1 zR2 zR3 zkf zmf zlf zcf zsf ztf zP0 zP1 zP2 zP3 zpk zpm zpv zpc zps zpt ztp zcd zen zso znz zgs zin ziw zig zih zsk zmc zms zmt zco zbg zos zoc zss zsz zit TT) (kk : LH X K9 N9 b9 i9 cI cM cW cS zad zq zqc zqs zqe zsh zra zem 1764) : X K9 N9 (CWo cI cM cW cS zad zq zqc zqs zqe zsh zra id zwr ztn zlw zrz zpn zpw zhi zrg zpg zhp zph zR0 zR1 zR2 zR3 zkf zmf zlf zcf zsf ztf zP0 zP1 zP2 zP3 zpk zpm zpv zpc zps zpt ztp zcd zen zso znz zgs Y ++ MW cI zem zwr ztn zlw zrz zin ziw zhi zrg zig zhp zih zsk zkf zmf zlf zmc zms zmt ztp zco zbg zos zoc zss zsz zit V) [(0, .ref b9), (1, .ref (zad 0)), (2, .ref (zem 0)), (3, .int (nI i9))] 1307 [] := by
  obtain ⟨wk, tk, mtk, rfl, rfl, rfl, rfl, q1, q2, q3, q4, q5, q6⟩ := INV_q h
  obtain ⟨⟨l1, l2, l3, l4, l5, l6, l7, l8, l9⟩, h2, h3, h4, h5, h6, h7, h8⟩ := id h
  obtain ⟨t1, t2, t3⟩ := h8 zlw l2.1
  obtain ⟨nzf, rfl, hf⟩ := iSh_sz h7
  obtain ⟨j9, hj9, hs9⟩ := k_idx (xs9 (i9 + 1))
  refine x_aload_n C9 dL_law_1307 1 rfl ?_
  refine x_arg C9 hL 1 (by omega) (by decide) dL_law_1308 dL_law_1309 dL_law_1310 dL_law_1311 dL_law_1312 ?_
  refine x_arg C9 hL 2 (by omega) (by decide) dL_law_1313 dL_law_1314 dL_law_1315 dL_law_1316 dL_law_1317 ?_
  refine k7_laws (T := TT zlw) (TT := TT) C9 (xs9 (i9 + 1)) (xs9 (i9 + 2)) l1 q1 q3 (fun j hj => (l5 j hj).1) l9.1 (q4 (TT zlw)) l2.2 (fun t ht => ⟨(h8 t ht).1, (h8 t ht).2.1⟩) j9 hj9 hs9 (iSh_nz h7) dL_law_1318 hk (Nat.le_of_ble_eq_true rfl) (fun Y' r e7 => ?_)
  refine x_swap C9 ?_
  refine x_aload_n C9 dL_law_1321 2 rfl ?_
  refine x_arg C9 hL 1 (by omega) (by decide) dL_law_1322 dL_law_1323 dL_law_1324 dL_law_1325 dL_law_1326 ?_
  refine x_arg C9 hL 2 (by omega) (by decide) dL_law_1327 dL_law_1328 dL_law_1329 dL_law_1330 dL_law_1331 ?_
  refine k8_laws (T := TT zlw) (TT := TT) C9 (xs9 (i9 + 1)) (xs9 (i9 + 2)) (by omega) t1 t3 l1 q2 q3 (fun j hj => (l5 j hj).1) l9.2 (q5 (TT zlw)) hf l2.2 (fun t ht => ⟨(h8 t ht).1, (h8 t ht).2.2⟩) dL_law_1332 hk (Nat.le_of_ble_eq_true rfl) (fun V' r8 e8 => ?_)
  refine x_swap C9 ?_
  refine x_icmp_eq C9 dL_law_1335 (tgt := 1764) rfl (fun _ => ?_) (fun q9 => absurd (e7.trans ((g_laws (q6 (TT zlw)) _ _ _ _ _ _ _).trans ((iS_laws h7 hf hj9 hs9).trans e8.symm))) q9)
  exact kk (h)
set_option maxHeartbeats 4000000 in
set_option maxRecDepth 100000 in
theorem L_film (C9 : rC X l cL_law 4 RL room_1 D9 (tY cI cM cW cS) (zLw adK adV fm b9 L9 xs9) false) (hL : L9 < 2 ^ 31) (hi : i9 + 6 < L9) (hk : K9 ≤ 600000 ∧ N9 ≤ 7302250) (h : INV zwr ztn zlw zrz zpn zpw zhi zrg zpg zhp zph zR0 zR1 zR2 zR3 zkf zmf zlf zcf zsf ztf zP0 zP1 zP2 zP3 zpk zpm zpv zpc zps zpt ztp zcd zen zso znz zgs zin ziw zig zih zsk zmc zms zmt zco zbg zos zoc zss zsz zit TT) (kk : LH X K9 N9 b9 i9 cI cM cW cS zad zq zqc zqs zqe zsh zra zem 1764) : X K9 N9 (CWo cI cM cW cS zad zq zqc zqs zqe zsh zra id zwr ztn zlw zrz zpn zpw zhi zrg zpg zhp zph zR0 zR1 zR2 zR3 zkf zmf zlf zcf zsf ztf zP0 zP1 zP2 zP3 zpk zpm zpv zpc zps zpt ztp zcd zen zso znz zgs Y ++ MW cI zem zwr ztn zlw zrz zin ziw zhi zrg zig zhp zih zsk zkf zmf zlf zmc zms zmt ztp zco zbg zos zoc zss zsz zit V) [(0, .ref b9), (1, .ref (zad 0)), (2, .ref (zem 0)), (3, .int (nI i9))] 1373 [] := by
  obtain ⟨wk, tk, mtk, rfl, rfl, rfl, rfl, q1, q2, q3, q4, q5, q6⟩ := INV_q h
  obtain ⟨⟨l1, l2, l3, l4, l5, l6, l7, l8, l9⟩, h2, h3, h4, h5, h6, h7, h8⟩ := id h
  obtain ⟨t1, t2, t3⟩ := h8 zlw l2.1
  obtain ⟨nzf, rfl, hf⟩ := iSh_sz h7
  obtain ⟨j9, hj9, hs9⟩ := k_idx (xs9 (i9 + 1))
  refine x_aload_n C9 dL_law_1373 1 rfl ?_
  refine x_arg C9 hL 1 (by omega) (by decide) dL_law_1374 dL_law_1375 dL_law_1376 dL_law_1377 dL_law_1378 ?_
  refine x_arg C9 hL 2 (by omega) (by decide) dL_law_1379 dL_law_1380 dL_law_1381 dL_law_1382 dL_law_1383 ?_
  refine k7_film C9 (xs9 (i9 + 1)) (xs9 (i9 + 2)) l1 q1 q3 (fun j hj => (l5 j hj).1) l9.1 (s_good_hz (q4 (TT zlw))).1 t1 t2 (by omega) j9 hj9 hs9 (iSh_nz h7) dL_law_1384 hk (Nat.le_of_ble_eq_true rfl) (fun Y' r so' nz' g' e7 => ?_)
  obtain ⟨e7, e7g⟩ := e7
  obtain ⟨rfl, e7z⟩ := Prod.mk.inj e7
  obtain ⟨e7a, e7b⟩ := Prod.mk.inj e7z
  refine x_swap C9 ?_
  refine x_aload_n C9 dL_law_1387 2 rfl ?_
  refine x_arg C9 hL 1 (by omega) (by decide) dL_law_1388 dL_law_1389 dL_law_1390 dL_law_1391 dL_law_1392 ?_
  refine x_arg C9 hL 2 (by omega) (by decide) dL_law_1393 dL_law_1394 dL_law_1395 dL_law_1396 dL_law_1397 ?_
  refine k8_film (nzf := nzf) C9 (xs9 (i9 + 1)) (xs9 (i9 + 2)) (by omega) t1 t3 l1 q2 q3 (fun j hj => (l5 j hj).1) l9.2 (q5 (TT zlw)) dL_law_1398 hk (Nat.le_of_ble_eq_true rfl) (fun V' r so8 sz8 it8 e8 => ?_)
  obtain ⟨e8, e8g⟩ := e8
  obtain ⟨rfl, e8z⟩ := Prod.mk.inj e8
  obtain ⟨rfl, rfl⟩ := Prod.mk.inj e8z
  refine x_swap C9 ?_
  refine x_icmp_eq C9 dL_law_1401 (tgt := 1764) rfl (fun _ => ?_) (fun q9 => absurd (rfl) q9)
  exact kk (I_shs h (iS_film (q6 (TT zlw)) h7 hj9 hs9 e7a e7b e7g e8g))
end LC
