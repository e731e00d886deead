/-! THE LAW: its cases -/
theorem dL_law_1600 : decode code 1600 = .ok (.aload_n 1, 1) := by decide +kernel
theorem dL_law_1601 : decode code 1601 = .ok (.aload_n 0, 1) := by decide +kernel
theorem dL_law_1602 : decode code 1602 = .ok (.iload 4, 2) := by decide +kernel
theorem dL_law_1604 : decode code 1604 = .ok (.iconst 1, 1) := by decide +kernel
theorem dL_law_1605 : decode code 1605 = .ok (.iadd, 1) := by decide +kernel
theorem dL_law_1606 : decode code 1606 = .ok (.iaload, 1) := by decide +kernel
theorem dL_law_1607 : decode code 1607 = .ok (.aload_n 3, 1) := by decide +kernel
theorem dL_law_1608 : decode code 1608 = .ok (.invokestatic 221, 3) := by decide +kernel
theorem dL_law_1611 : decode code 1611 = .ok (.istore 5, 2) := by decide +kernel
theorem dL_law_1613 : decode code 1613 = .ok (.aload_n 2, 1) := by decide +kernel
theorem dL_law_1614 : decode code 1614 = .ok (.aload_n 0, 1) := by decide +kernel
theorem dL_law_1615 : decode code 1615 = .ok (.iload 4, 2) := by decide +kernel
theorem dL_law_1617 : decode code 1617 = .ok (.iconst 1, 1) := by decide +kernel
theorem dL_law_1618 : decode code 1618 = .ok (.iadd, 1) := by decide +kernel
theorem dL_law_1619 : decode code 1619 = .ok (.iaload, 1) := by decide +kernel
theorem dL_law_1620 : decode code 1620 = .ok (.invokevirtual 223, 3) := by decide +kernel
theorem dL_law_1623 : decode code 1623 = .ok (.istore 6, 2) := by decide +kernel
theorem dL_law_1625 : decode code 1625 = .ok (.aload_n 2, 1) := by decide +kernel
theorem dL_law_1626 : decode code 1626 = .ok (.invokevirtual 142, 3) := by decide +kernel
theorem dL_law_1629 : decode code 1629 = .ok (.iload 5, 2) := by decide +kernel
theorem dL_law_1631 : decode code 1631 = .ok (.if_icmp .eq 5, 3) := by decide +kernel
theorem dL_law_1634 : decode code 1634 = .ok (.iconst 0, 1) := by decide +kernel
theorem dL_law_1635 : decode code 1635 = .ok (.ireturn, 1) := by decide +kernel
theorem dL_law_1636 : decode code 1636 = .ok (.iload 5, 2) := by decide +kernel
theorem dL_law_1638 : decode code 1638 = .ok (.ifCond .ne 22, 3) := by decide +kernel
theorem dL_law_1641 : decode code 1641 = .ok (.aload_n 3, 1) := by decide +kernel
theorem dL_law_1642 : decode code 1642 = .ok (.iconst 0, 1) := by decide +kernel
theorem dL_law_1643 : decode code 1643 = .ok (.laload, 1) := by decide +kernel
theorem dL_law_1644 : decode code 1644 = .ok (.iload 6, 2) := by decide +kernel
theorem dL_law_1646 : decode code 1646 = .ok (.ifCond .eq 7, 3) := by decide +kernel
theorem dL_law_1649 : decode code 1649 = .ok (.lconst 1, 1) := by decide +kernel
theorem dL_law_1650 : decode code 1650 = .ok (.goto 4, 3) := by decide +kernel
theorem dL_law_1653 : decode code 1653 = .ok (.lconst 0, 1) := by decide +kernel
theorem dL_law_1654 : decode code 1654 = .ok (.lcmp, 1) := by decide +kernel
theorem dL_law_1655 : decode code 1655 = .ok (.ifCond .eq 5, 3) := by decide +kernel
theorem dL_law_1658 : decode code 1658 = .ok (.iconst 0, 1) := by decide +kernel
theorem dL_law_1659 : decode code 1659 = .ok (.ireturn, 1) := by decide +kernel
theorem dL_law_1660 : decode code 1660 = .ok (.goto 957, 3) := by decide +kernel
theorem kLH_221 : a_kSH RL 221 pL_can 3 := ⟨(lw_ok_in (List.mem_of_getElem? (i := 1217) (by decide +kernel)) rfl), (lw_ok_in (List.mem_of_getElem? (i := 109) (by decide +kernel)) rfl), by decide +kernel, (lw_ok_in (List.mem_of_getElem? (i := 1215) (by decide +kernel)) rfl), (lw_ok_in (List.mem_of_getElem? (i := 1216) (by decide +kernel)) rfl)⟩
theorem kL_223 : a_kV RL 223 pX12_can 1 := ⟨cbX12_can, (lw_ok_in (List.mem_of_getElem? (i := 1986) (by decide +kernel)) rfl), (lw_ok_in (List.mem_of_getElem? (i := 1987) (by decide +kernel)) rfl), (lw_ok_in (List.mem_of_getElem? (i := 1988) (by decide +kernel)) rfl)⟩
theorem case_can {l : Launch} {E : aE} {hh : List (Nat × Nat × Nat × Nat)} {n N : Nat} {S : aS} {M A : aM} (hfl : l.stackTraces = false) (h42 : E.2.2.2 42 ≤ 3072) (hi : 6 * (n : Int) + 6 ≤ (E.2.2.2 42 : Int)) (hW : LWI N S M A) (hN9 : N ≤ 140 + 15 * n) (tail : lawTail l E hh n) : aX l E (pL_law hh) QL (200 + 40 * n) (20000 + 400 * n) N S M 1600 [(0, (2, -43)), (1, (2, 0)), (2, (2, 109)), (3, (2, 139)), (4, (0, 6 * (n : Int)))] [] := by
  obtain ⟨hN0, hC, hS9, hO, hR, hRM, hI⟩ := id hW
  have hM := hS9
  have hn : n ≤ 511 := by omega
  refine x_aload_n (pc := 1600) dL_law_1600 rfl rfl ?_
  refine x_aload_n (pc := 1601) dL_law_1601 rfl rfl ?_
  refine x_iload (pc := 1602) dL_law_1602 rfl ?_
  refine x_iconst (pc := 1604) dL_law_1604 (by decide) ?_
  refine x_iadd (pc := 1605) dL_law_1605 (by omega) ?_
  refine x_sld (pc := 1606) dL_law_1606 ⟨by omega, by omega⟩ ?_
  refine x_aload_n (pc := 1607) dL_law_1607 rfl rfl ?_
  refine x_callS3H (pc := 1608) dL_law_1608 kLH_221 (h_can hfl (a_scr E (6 * (n : Int) + 1)) A hW) (a_rmL rfl rfl (by show 200 + 40 * n + 3 ≤ 601024; omega) (by show 20000 + 400 * n + 18 ≤ 7293034; omega)) (Nat.le_of_ble_eq_true rfl) (k_hQ (fun M9 f9 R9 v9 => ?_)) n_hQ
  refine x_room (kc' := 220 + 40 * n) (ks' := 20200 + 400 * n) (by show 200 + 40 * n + 3 ≤ 220 + 40 * n; omega) (by show 20000 + 400 * n + 18 ≤ 20200 + 400 * n; omega) ?_
  have hC9 := hC
  have hM9 := hM
  have hO9 := hO
  have RM9 : RM M9 109 A := hRM.cgo fun a p q i => f9 a i (by omega) (by omega)
  refine x_istore (pc := 1611) dL_law_1611 (by show _ < 8; decide) rfl ?_
  refine x_aload_n (pc := 1613) dL_law_1613 rfl rfl ?_
  refine x_aload_n (pc := 1614) dL_law_1614 rfl rfl ?_
  refine x_iload (pc := 1615) dL_law_1615 rfl ?_
  refine x_iconst (pc := 1617) dL_law_1617 (by decide) ?_
  refine x_iadd (pc := 1618) dL_law_1618 (by omega) ?_
  refine x_sld (pc := 1619) dL_law_1619 ⟨by omega, by omega⟩ ?_
  refine x_callV1N (pc := 1620) dL_law_1620 kL_223 (s_Mcan hfl (a_scr E (6 * (n : Int) + 1)) 109 A hM9 RM9 hI.1) hM9.1 rfl (a_rmL rfl rfl (by show 220 + 40 * n + 0 ≤ 601024; omega) (by show 20200 + 400 * n + 0 ≤ 7293034; omega)) (Nat.le_of_ble_eq_true rfl) (k_G (fun v8 M8 hM8 => ?_)) n_GN
  obtain ⟨kd, t8, e8, R8, F8⟩ := hM8
  obtain ⟨k8, w8⟩ := v8
  have kd : k8 = 0 := kd
  subst kd
  have RC8 : RC M8 N S (spCan A (a_scr E (6 * (n : Int) + 1))).2.2 := R9.cgo fun a q i => F8 a i (by omega)
  refine x_istore (pc := 1623) dL_law_1623 (by show _ < 8; decide) rfl ?_
  refine x_aload_n (pc := 1625) dL_law_1625 rfl rfl ?_
  refine x_callV0N (pc := 1626) dL_law_1626 kL_142 (s_thrown hfl 109 hM9) hM9.1 rfl (a_rmL rfl rfl (by show 220 + 40 * n + 0 + 0 ≤ 601024; omega) (by show 20200 + 400 * n + 0 + 0 ≤ 7293034; omega)) (Nat.le_of_ble_eq_true rfl) (k_R ?_) n_RN
  rw [t8]
  refine x_iload (pc := 1629) dL_law_1629 rfl ?_
  refine x_icmp_eq (tgt := 1636) (pc := 1631) dL_law_1631 (by decide) (fun c_1631 => ?_) (fun c_1631 => ?_)
  · refine x_iload (pc := 1636) dL_law_1636 rfl ?_
    refine x_if_ne (tgt := 1660) (pc := 1638) dL_law_1638 (by decide) (fun c_1638 => ?_) (fun c_1638 => ?_)
    · refine x_goto (tgt := 2617) (pc := 1660) dL_law_1660 (by decide) ?_
      exact x_lo (lo' := [(0, (2, -43)), (1, (2, 0)), (2, (2, 109)), (3, (2, 139)), (4, (0, 6 * (n : Int)))]) ⟨rfl, rfl, rfl, rfl, rfl, trivial⟩ (x_room (by show 220 + 40 * n + 0 + 0 ≤ 200 + 40 * (n + 1); omega) (by show 20200 + 400 * n + 0 + 0 ≤ 20000 + 400 * (n + 1); omega) (tail N S M8 (spCan A (a_scr E (6 * (n : Int) + 1))).2.2 ⟨by omega, hC9, hM9, hO9, RC8, R8, INV.can_ hI (a_scr E (6 * (n : Int) + 1))⟩ (by omega)))
    · have e139 : M8 139 0 = (spCan A (a_scr E (6 * (n : Int) + 1))).2.1 := (F8 139 0 (by omega)).trans (v9 c_1638)
      have ew : w8 = (spCan A (a_scr E (6 * (n : Int) + 1))).2.1 := congrArg Prod.snd (e8 c_1638)
      have hb9 := bb_can A (a_scr E (6 * (n : Int) + 1)) c_1638
      refine x_aload_n (pc := 1641) dL_law_1641 rfl rfl ?_
      refine x_iconst (pc := 1642) dL_law_1642 (by decide) ?_
      refine x_laloadV (pc := 1643) dL_law_1643 hO9 (by omega) (by (repeat (first | rewrite [up_s] | rewrite [up_i (by omega)] | rewrite [up_a (by omega)])); first | exact e139 | rfl) (fun g_1643 => ?_)
      refine x_iload (pc := 1644) dL_law_1644 rfl ?_
      refine x_if_eq (tgt := 1653) (pc := 1646) dL_law_1646 (by decide) (fun c_1646 => ?_) (fun c_1646 => ?_)
      · refine x_lconst0 (pc := 1653) dL_law_1653 ?_
        refine x_leq (tgt := 1660) (pc := 1654) dL_law_1654 dL_law_1655 (by decide) (fun c_1654 => ?_) (fun c_1654 => ?_)
        · refine x_goto (tgt := 2617) (pc := 1660) dL_law_1660 (by decide) ?_
          exact x_lo (lo' := [(0, (2, -43)), (1, (2, 0)), (2, (2, 109)), (3, (2, 139)), (4, (0, 6 * (n : Int)))]) ⟨rfl, rfl, rfl, rfl, rfl, trivial⟩ (x_room (by show 220 + 40 * n + 0 + 0 ≤ 200 + 40 * (n + 1); omega) (by show 20200 + 400 * n + 0 + 0 ≤ 20000 + 400 * (n + 1); omega) (tail N S M8 (spCan A (a_scr E (6 * (n : Int) + 1))).2.2 ⟨by omega, hC9, hM9, hO9, RC8, R8, INV.can_ hI (a_scr E (6 * (n : Int) + 1))⟩ (by omega)))
        · exfalso; omega
      · refine x_lconst1 (pc := 1649) dL_law_1649 ?_
        refine x_goto (tgt := 1654) (pc := 1650) dL_law_1650 (by decide) ?_
        refine x_leq (tgt := 1660) (pc := 1654) dL_law_1654 dL_law_1655 (by decide) (fun c_1654 => ?_) (fun c_1654 => ?_)
        · refine x_goto (tgt := 2617) (pc := 1660) dL_law_1660 (by decide) ?_
          exact x_lo (lo' := [(0, (2, -43)), (1, (2, 0)), (2, (2, 109)), (3, (2, 139)), (4, (0, 6 * (n : Int)))]) ⟨rfl, rfl, rfl, rfl, rfl, trivial⟩ (x_room (by show 220 + 40 * n + 0 + 0 ≤ 200 + 40 * (n + 1); omega) (by show 20200 + 400 * n + 0 + 0 ≤ 20000 + 400 * (n + 1); omega) (tail N S M8 (spCan A (a_scr E (6 * (n : Int) + 1))).2.2 ⟨by omega, hC9, hM9, hO9, RC8, R8, INV.can_ hI (a_scr E (6 * (n : Int) + 1))⟩ (by omega)))
        · exfalso; omega
  · exfalso; omega
theorem dL_law_1663 : decode code 1663 = .ok (.aload_n 1, 1) := by decide +kernel
theorem dL_law_1664 : decode code 1664 = .ok (.aload_n 0, 1) := by decide +kernel
theorem dL_law_1665 : decode code 1665 = .ok (.iload 4, 2) := by decide +kernel
theorem dL_law_1667 : decode code 1667 = .ok (.iconst 1, 1) := by decide +kernel
theorem dL_law_1668 : decode code 1668 = .ok (.iadd, 1) := by decide +kernel
theorem dL_law_1669 : decode code 1669 = .ok (.iaload, 1) := by decide +kernel
theorem dL_law_1670 : decode code 1670 = .ok (.aload_n 0, 1) := by decide +kernel
theorem dL_law_1671 : decode code 1671 = .ok (.iload 4, 2) := by decide +kernel
theorem dL_law_1673 : decode code 1673 = .ok (.iconst 2, 1) := by decide +kernel
theorem dL_law_1674 : decode code 1674 = .ok (.iadd, 1) := by decide +kernel
theorem dL_law_1675 : decode code 1675 = .ok (.iaload, 1) := by decide +kernel
theorem dL_law_1676 : decode code 1676 = .ok (.aload_n 0, 1) := by decide +kernel
theorem dL_law_1677 : decode code 1677 = .ok (.iload 4, 2) := by decide +kernel
theorem dL_law_1679 : decode code 1679 = .ok (.iconst 3, 1) := by decide +kernel
theorem dL_law_1680 : decode code 1680 = .ok (.iadd, 1) := by decide +kernel
theorem dL_law_1681 : decode code 1681 = .ok (.iaload, 1) := by decide +kernel
theorem dL_law_1682 : decode code 1682 = .ok (.ifCond .eq 7, 3) := by decide +kernel
theorem dL_law_1685 : decode code 1685 = .ok (.iconst 1, 1) := by decide +kernel
theorem dL_law_1686 : decode code 1686 = .ok (.goto 4, 3) := by decide +kernel
theorem dL_law_1689 : decode code 1689 = .ok (.iconst 0, 1) := by decide +kernel
theorem dL_law_1690 : decode code 1690 = .ok (.invokestatic 224, 3) := by decide +kernel
theorem dL_law_1693 : decode code 1693 = .ok (.istore 5, 2) := by decide +kernel
theorem dL_law_1695 : decode code 1695 = .ok (.aload_n 2, 1) := by decide +kernel
theorem dL_law_1696 : decode code 1696 = .ok (.aload_n 0, 1) := by decide +kernel
theorem dL_law_1697 : decode code 1697 = .ok (.iload 4, 2) := by decide +kernel
theorem dL_law_1699 : decode code 1699 = .ok (.iconst 1, 1) := by decide +kernel
theorem dL_law_1700 : decode code 1700 = .ok (.iadd, 1) := by decide +kernel
theorem dL_law_1701 : decode code 1701 = .ok (.iaload, 1) := by decide +kernel
theorem dL_law_1702 : decode code 1702 = .ok (.aload_n 0, 1) := by decide +kernel
theorem dL_law_1703 : decode code 1703 = .ok (.iload 4, 2) := by decide +kernel
theorem dL_law_1705 : decode code 1705 = .ok (.iconst 2, 1) := by decide +kernel
theorem dL_law_1706 : decode code 1706 = .ok (.iadd, 1) := by decide +kernel
theorem dL_law_1707 : decode code 1707 = .ok (.iaload, 1) := by decide +kernel
theorem dL_law_1708 : decode code 1708 = .ok (.aload_n 0, 1) := by decide +kernel
theorem dL_law_1709 : decode code 1709 = .ok (.iload 4, 2) := by decide +kernel
theorem dL_law_1711 : decode code 1711 = .ok (.iconst 3, 1) := by decide +kernel
theorem dL_law_1712 : decode code 1712 = .ok (.iadd, 1) := by decide +kernel
theorem dL_law_1713 : decode code 1713 = .ok (.iaload, 1) := by decide +kernel
theorem dL_law_1714 : decode code 1714 = .ok (.ifCond .eq 7, 3) := by decide +kernel
theorem dL_law_1717 : decode code 1717 = .ok (.iconst 1, 1) := by decide +kernel
theorem dL_law_1718 : decode code 1718 = .ok (.goto 4, 3) := by decide +kernel
theorem dL_law_1721 : decode code 1721 = .ok (.iconst 0, 1) := by decide +kernel
theorem dL_law_1722 : decode code 1722 = .ok (.invokevirtual 227, 3) := by decide +kernel
theorem dL_law_1725 : decode code 1725 = .ok (.aload_n 2, 1) := by decide +kernel
theorem dL_law_1726 : decode code 1726 = .ok (.invokevirtual 142, 3) := by decide +kernel
theorem dL_law_1729 : decode code 1729 = .ok (.iload 5, 2) := by decide +kernel
theorem dL_law_1731 : decode code 1731 = .ok (.if_icmp .eq 5, 3) := by decide +kernel
theorem dL_law_1734 : decode code 1734 = .ok (.iconst 0, 1) := by decide +kernel
theorem dL_law_1735 : decode code 1735 = .ok (.ireturn, 1) := by decide +kernel
theorem dL_law_1736 : decode code 1736 = .ok (.goto 881, 3) := by decide +kernel
theorem kLH_224 : a_kSH RL 224 pL_share 4 := ⟨(lw_ok_in (List.mem_of_getElem? (i := 1279) (by decide +kernel)) rfl), (lw_ok_in (List.mem_of_getElem? (i := 109) (by decide +kernel)) rfl), by decide +kernel, (lw_ok_in (List.mem_of_getElem? (i := 1277) (by decide +kernel)) rfl), (lw_ok_in (List.mem_of_getElem? (i := 1278) (by decide +kernel)) rfl)⟩
theorem kL_227 : a_kV RL 227 pX12_share 3 := ⟨cbX12_share, (lw_ok_in (List.mem_of_getElem? (i := 2023) (by decide +kernel)) rfl), (lw_ok_in (List.mem_of_getElem? (i := 2024) (by decide +kernel)) rfl), (lw_ok_in (List.mem_of_getElem? (i := 2025) (by decide +kernel)) rfl)⟩
theorem case_share {l : Launch} {E : aE} {hh : List (Nat × Nat × Nat × Nat)} {n N : Nat} {S : aS} {M A : aM} (hfl : l.stackTraces = false) (h42 : E.2.2.2 42 ≤ 3072) (hi : 6 * (n : Int) + 6 ≤ (E.2.2.2 42 : Int)) (hW : LWI N S M A) (hN9 : N ≤ 140 + 15 * n) (tail : lawTail l E hh n) : aX l E (pL_law hh) QL (200 + 40 * n) (20000 + 400 * n) N S M 1663 [(0, (2, -43)), (1, (2, 0)), (2, (2, 109)), (3, (2, 139)), (4, (0, 6 * (n : Int)))] [] := by
  obtain ⟨hN0, hC, hS9, hO, hR, hRM, hI⟩ := id hW
  have hM := hS9
  have hn : n ≤ 511 := by omega
  refine x_aload_n (pc := 1663) dL_law_1663 rfl rfl ?_
  refine x_aload_n (pc := 1664) dL_law_1664 rfl rfl ?_
  refine x_iload (pc := 1665) dL_law_1665 rfl ?_
  refine x_iconst (pc := 1667) dL_law_1667 (by decide) ?_
  refine x_iadd (pc := 1668) dL_law_1668 (by omega) ?_
  refine x_sld (pc := 1669) dL_law_1669 ⟨by omega, by omega⟩ ?_
  refine x_aload_n (pc := 1670) dL_law_1670 rfl rfl ?_
  refine x_iload (pc := 1671) dL_law_1671 rfl ?_
  refine x_iconst (pc := 1673) dL_law_1673 (by decide) ?_
  refine x_iadd (pc := 1674) dL_law_1674 (by omega) ?_
  refine x_sld (pc := 1675) dL_law_1675 ⟨by omega, by omega⟩ ?_
  refine x_aload_n (pc := 1676) dL_law_1676 rfl rfl ?_
  refine x_iload (pc := 1677) dL_law_1677 rfl ?_
  refine x_iconst (pc := 1679) dL_law_1679 (by decide) ?_
  refine x_iadd (pc := 1680) dL_law_1680 (by omega) ?_
  refine x_sld (pc := 1681) dL_law_1681 ⟨by omega, by omega⟩ ?_
  refine x_if_eq (tgt := 1689) (pc := 1682) dL_law_1682 (by decide) (fun c_1682 => ?_) (fun c_1682 => ?_)
  · refine x_iconst (pc := 1689) dL_law_1689 (by decide) ?_
    refine x_callS4H (pc := 1690) dL_law_1690 kLH_224 (h_share hfl (a_scr E (6 * (n : Int) + 1)) (a_scr E (6 * (n : Int) + 2)) 0 (Or.inl rfl) A hW) (a_rmL rfl rfl (by show 200 + 40 * n + 5 ≤ 601024; omega) (by show 20000 + 400 * n + 30 ≤ 7293034; omega)) (Nat.le_of_ble_eq_true rfl) (k_hQv (fun N9 S9 M9 g1 g2 g3 f9 R9 => ?_)) n_hQv
    refine x_room (kc' := 220 + 40 * n) (ks' := 20200 + 400 * n) (by show 200 + 40 * n + 5 ≤ 220 + 40 * n; omega) (by show 20000 + 400 * n + 30 ≤ 20200 + 400 * n; omega) ?_
    have hC9 : lyC S9 := hC.cg fun k a b => g3 k (by omega)
    have hM9 : lyM S9 109 := hM.cg fun k a b => g3 k (by omega)
    have hO9 : S9 139 = (14, 1, rN) := (g3 139 (by omega)).trans hO
    have RM9 : RM M9 109 A := hRM.cgo fun a p q i => f9 a i (by omega) (by omega)
    refine x_istore (pc := 1693) dL_law_1693 (by show _ < 8; decide) rfl ?_
    refine x_aload_n (pc := 1695) dL_law_1695 rfl rfl ?_
    refine x_aload_n (pc := 1696) dL_law_1696 rfl rfl ?_
    refine x_iload (pc := 1697) dL_law_1697 rfl ?_
    refine x_iconst (pc := 1699) dL_law_1699 (by decide) ?_
    refine x_iadd (pc := 1700) dL_law_1700 (by omega) ?_
    refine x_sld (pc := 1701) dL_law_1701 ⟨by omega, by omega⟩ ?_
    refine x_aload_n (pc := 1702) dL_law_1702 rfl rfl ?_
    refine x_iload (pc := 1703) dL_law_1703 rfl ?_
    refine x_iconst (pc := 1705) dL_law_1705 (by decide) ?_
    refine x_iadd (pc := 1706) dL_law_1706 (by omega) ?_
    refine x_sld (pc := 1707) dL_law_1707 ⟨by omega, by omega⟩ ?_
    refine x_aload_n (pc := 1708) dL_law_1708 rfl rfl ?_
    refine x_iload (pc := 1709) dL_law_1709 rfl ?_
    refine x_iconst (pc := 1711) dL_law_1711 (by decide) ?_
    refine x_iadd (pc := 1712) dL_law_1712 (by omega) ?_
    refine x_sld (pc := 1713) dL_law_1713 ⟨by omega, by omega⟩ ?_
    refine x_if_eq (tgt := 1721) (pc := 1714) dL_law_1714 (by decide) (fun _ => ?_) (fun c => absurd c_1682 c)
    refine x_iconst (pc := 1721) dL_law_1721 (by decide) ?_
    refine x_callV3N (pc := 1722) dL_law_1722 kL_227 (s_Mshare hfl (a_scr E (6 * (n : Int) + 1)) (a_scr E (6 * (n : Int) + 2)) 0 (Or.inl rfl) 109 A hM9 RM9 hI.1) hM9.1 rfl (a_rmL rfl rfl (by show 220 + 40 * n + 0 ≤ 601024; omega) (by show 20200 + 400 * n + 0 ≤ 7293034; omega)) (Nat.le_of_ble_eq_true rfl) (k_U (fun M8 hM8 => ?_)) n_UN
    obtain ⟨t8, R8, F8⟩ := hM8
    have RC8 : RC M8 N9 S9 (spShare A (a_scr E (6 * (n : Int) + 1)) (a_scr E (6 * (n : Int) + 2)) 0).2.2 := R9.cgo fun a q i => F8 a i (by omega)
    refine x_aload_n (pc := 1725) dL_law_1725 rfl rfl ?_
    refine x_callV0N (pc := 1726) dL_law_1726 kL_142 (s_thrown hfl 109 hM9) hM9.1 rfl (a_rmL rfl rfl (by show 220 + 40 * n + 0 + 0 ≤ 601024; omega) (by show 20200 + 400 * n + 0 + 0 ≤ 7293034; omega)) (Nat.le_of_ble_eq_true rfl) (k_R ?_) n_RN
    rw [t8]
    refine x_iload (pc := 1729) dL_law_1729 rfl ?_
    refine x_icmp_eq (tgt := 1736) (pc := 1731) dL_law_1731 (by decide) (fun c_1731 => ?_) (fun c_1731 => ?_)
    · refine x_goto (tgt := 2617) (pc := 1736) dL_law_1736 (by decide) ?_
      exact x_lo (lo' := [(0, (2, -43)), (1, (2, 0)), (2, (2, 109)), (3, (2, 139)), (4, (0, 6 * (n : Int)))]) ⟨rfl, rfl, rfl, rfl, rfl, trivial⟩ (x_room (by show 220 + 40 * n + 0 + 0 ≤ 200 + 40 * (n + 1); omega) (by show 20200 + 400 * n + 0 + 0 ≤ 20000 + 400 * (n + 1); omega) (tail N9 S9 M8 (spShare A (a_scr E (6 * (n : Int) + 1)) (a_scr E (6 * (n : Int) + 2)) 0).2.2 ⟨by omega, hC9, hM9, hO9, RC8, R8, INV.share_ hI (a_scr E (6 * (n : Int) + 1)) (a_scr E (6 * (n : Int) + 2)) 0⟩ (by omega)))
    · exfalso; omega
  · refine x_iconst (pc := 1685) dL_law_1685 (by decide) ?_
    refine x_goto (tgt := 1690) (pc := 1686) dL_law_1686 (by decide) ?_
    refine x_callS4H (pc := 1690) dL_law_1690 kLH_224 (h_share hfl (a_scr E (6 * (n : Int) + 1)) (a_scr E (6 * (n : Int) + 2)) 1 (Or.inr rfl) A hW) (a_rmL rfl rfl (by show 200 + 40 * n + 5 ≤ 601024; omega) (by show 20000 + 400 * n + 30 ≤ 7293034; omega)) (Nat.le_of_ble_eq_true rfl) (k_hQv (fun N9 S9 M9 g1 g2 g3 f9 R9 => ?_)) n_hQv
    refine x_room (kc' := 220 + 40 * n) (ks' := 20200 + 400 * n) (by show 200 + 40 * n + 5 ≤ 220 + 40 * n; omega) (by show 20000 + 400 * n + 30 ≤ 20200 + 400 * n; omega) ?_
    have hC9 : lyC S9 := hC.cg fun k a b => g3 k (by omega)
    have hM9 : lyM S9 109 := hM.cg fun k a b => g3 k (by omega)
    have hO9 : S9 139 = (14, 1, rN) := (g3 139 (by omega)).trans hO
    have RM9 : RM M9 109 A := hRM.cgo fun a p q i => f9 a i (by omega) (by omega)
    refine x_istore (pc := 1693) dL_law_1693 (by show _ < 8; decide) rfl ?_
    refine x_aload_n (pc := 1695) dL_law_1695 rfl rfl ?_
    refine x_aload_n (pc := 1696) dL_law_1696 rfl rfl ?_
    refine x_iload (pc := 1697) dL_law_1697 rfl ?_
    refine x_iconst (pc := 1699) dL_law_1699 (by decide) ?_
    refine x_iadd (pc := 1700) dL_law_1700 (by omega) ?_
    refine x_sld (pc := 1701) dL_law_1701 ⟨by omega, by omega⟩ ?_
    refine x_aload_n (pc := 1702) dL_law_1702 rfl rfl ?_
    refine x_iload (pc := 1703) dL_law_1703 rfl ?_
    refine x_iconst (pc := 1705) dL_law_1705 (by decide) ?_
    refine x_iadd (pc := 1706) dL_law_1706 (by omega) ?_
    refine x_sld (pc := 1707) dL_law_1707 ⟨by omega, by omega⟩ ?_
    refine x_aload_n (pc := 1708) dL_law_1708 rfl rfl ?_
    refine x_iload (pc := 1709) dL_law_1709 rfl ?_
    refine x_iconst (pc := 1711) dL_law_1711 (by decide) ?_
    refine x_iadd (pc := 1712) dL_law_1712 (by omega) ?_
    refine x_sld (pc := 1713) dL_law_1713 ⟨by omega, by omega⟩ ?_
    refine x_if_eq (tgt := 1721) (pc := 1714) dL_law_1714 (by decide) (fun c => absurd c c_1682) (fun _ => ?_)
    refine x_iconst (pc := 1717) dL_law_1717 (by decide) ?_
    refine x_goto (tgt := 1722) (pc := 1718) dL_law_1718 (by decide) ?_
    refine x_callV3N (pc := 1722) dL_law_1722 kL_227 (s_Mshare hfl (a_scr E (6 * (n : Int) + 1)) (a_scr E (6 * (n : Int) + 2)) 1 (Or.inr rfl) 109 A hM9 RM9 hI.1) hM9.1 rfl (a_rmL rfl rfl (by show 220 + 40 * n + 0 ≤ 601024; omega) (by show 20200 + 400 * n + 0 ≤ 7293034; omega)) (Nat.le_of_ble_eq_true rfl) (k_U (fun M8 hM8 => ?_)) n_UN
    obtain ⟨t8, R8, F8⟩ := hM8
    have RC8 : RC M8 N9 S9 (spShare A (a_scr E (6 * (n : Int) + 1)) (a_scr E (6 * (n : Int) + 2)) 1).2.2 := R9.cgo fun a q i => F8 a i (by omega)
    refine x_aload_n (pc := 1725) dL_law_1725 rfl rfl ?_
    refine x_callV0N (pc := 1726) dL_law_1726 kL_142 (s_thrown hfl 109 hM9) hM9.1 rfl (a_rmL rfl rfl (by show 220 + 40 * n + 0 + 0 ≤ 601024; omega) (by show 20200 + 400 * n + 0 + 0 ≤ 7293034; omega)) (Nat.le_of_ble_eq_true rfl) (k_R ?_) n_RN
    rw [t8]
    refine x_iload (pc := 1729) dL_law_1729 rfl ?_
    refine x_icmp_eq (tgt := 1736) (pc := 1731) dL_law_1731 (by decide) (fun c_1731 => ?_) (fun c_1731 => ?_)
    · refine x_goto (tgt := 2617) (pc := 1736) dL_law_1736 (by decide) ?_
      exact x_lo (lo' := [(0, (2, -43)), (1, (2, 0)), (2, (2, 109)), (3, (2, 139)), (4, (0, 6 * (n : Int)))]) ⟨rfl, rfl, rfl, rfl, rfl, trivial⟩ (x_room (by show 220 + 40 * n + 0 + 0 ≤ 200 + 40 * (n + 1); omega) (by show 20200 + 400 * n + 0 + 0 ≤ 20000 + 400 * (n + 1); omega) (tail N9 S9 M8 (spShare A (a_scr E (6 * (n : Int) + 1)) (a_scr E (6 * (n : Int) + 2)) 1).2.2 ⟨by omega, hC9, hM9, hO9, RC8, R8, INV.share_ hI (a_scr E (6 * (n : Int) + 1)) (a_scr E (6 * (n : Int) + 2)) 1⟩ (by omega)))
    · exfalso; omega
theorem dL_law_1739 : decode code 1739 = .ok (.aload_n 1, 1) := by decide +kernel
theorem dL_law_1740 : decode code 1740 = .ok (.aload_n 0, 1) := by decide +kernel
theorem dL_law_1741 : decode code 1741 = .ok (.iload 4, 2) := by decide +kernel
theorem dL_law_1743 : decode code 1743 = .ok (.iconst 1, 1) := by decide +kernel
theorem dL_law_1744 : decode code 1744 = .ok (.iadd, 1) := by decide +kernel
theorem dL_law_1745 : decode code 1745 = .ok (.iaload, 1) := by decide +kernel
theorem dL_law_1746 : decode code 1746 = .ok (.aload_n 0, 1) := by decide +kernel
theorem dL_law_1747 : decode code 1747 = .ok (.iload 4, 2) := by decide +kernel
theorem dL_law_1749 : decode code 1749 = .ok (.iconst 2, 1) := by decide +kernel
theorem dL_law_1750 : decode code 1750 = .ok (.iadd, 1) := by decide +kernel
theorem dL_law_1751 : decode code 1751 = .ok (.iaload, 1) := by decide +kernel
theorem dL_law_1752 : decode code 1752 = .ok (.invokestatic 228, 3) := by decide +kernel
theorem dL_law_1755 : decode code 1755 = .ok (.istore 5, 2) := by decide +kernel
theorem dL_law_1757 : decode code 1757 = .ok (.aload_n 2, 1) := by decide +kernel
theorem dL_law_1758 : decode code 1758 = .ok (.aload_n 0, 1) := by decide +kernel
theorem dL_law_1759 : decode code 1759 = .ok (.iload 4, 2) := by decide +kernel
theorem dL_law_1761 : decode code 1761 = .ok (.iconst 1, 1) := by decide +kernel
theorem dL_law_1762 : decode code 1762 = .ok (.iadd, 1) := by decide +kernel
theorem dL_law_1763 : decode code 1763 = .ok (.iaload, 1) := by decide +kernel
theorem dL_law_1764 : decode code 1764 = .ok (.aload_n 0, 1) := by decide +kernel
theorem dL_law_1765 : decode code 1765 = .ok (.iload 4, 2) := by decide +kernel
theorem dL_law_1767 : decode code 1767 = .ok (.iconst 2, 1) := by decide +kernel
theorem dL_law_1768 : decode code 1768 = .ok (.iadd, 1) := by decide +kernel
theorem dL_law_1769 : decode code 1769 = .ok (.iaload, 1) := by decide +kernel
theorem dL_law_1770 : decode code 1770 = .ok (.invokevirtual 231, 3) := by decide +kernel
theorem dL_law_1773 : decode code 1773 = .ok (.aload_n 2, 1) := by decide +kernel
theorem dL_law_1774 : decode code 1774 = .ok (.invokevirtual 142, 3) := by decide +kernel
theorem dL_law_1777 : decode code 1777 = .ok (.iload 5, 2) := by decide +kernel
theorem dL_law_1779 : decode code 1779 = .ok (.if_icmp .eq 5, 3) := by decide +kernel
theorem dL_law_1782 : decode code 1782 = .ok (.iconst 0, 1) := by decide +kernel
theorem dL_law_1783 : decode code 1783 = .ok (.ireturn, 1) := by decide +kernel
theorem dL_law_1784 : decode code 1784 = .ok (.goto 833, 3) := by decide +kernel
theorem kLH_228 : a_kSH RL 228 pL_row 3 := ⟨(lw_ok_in (List.mem_of_getElem? (i := 1310) (by decide +kernel)) rfl), (lw_ok_in (List.mem_of_getElem? (i := 109) (by decide +kernel)) rfl), by decide +kernel, (lw_ok_in (List.mem_of_getElem? (i := 1308) (by decide +kernel)) rfl), (lw_ok_in (List.mem_of_getElem? (i := 1309) (by decide +kernel)) rfl)⟩
theorem kL_231 : a_kV RL 231 pX12_row 2 := ⟨cbX12_row, (lw_ok_in (List.mem_of_getElem? (i := 2039) (by decide +kernel)) rfl), (lw_ok_in (List.mem_of_getElem? (i := 2040) (by decide +kernel)) rfl), (lw_ok_in (List.mem_of_getElem? (i := 2041) (by decide +kernel)) rfl)⟩
theorem case_row {l : Launch} {E : aE} {hh : List (Nat × Nat × Nat × Nat)} {n N : Nat} {S : aS} {M A : aM} (hfl : l.stackTraces = false) (h42 : E.2.2.2 42 ≤ 3072) (hi : 6 * (n : Int) + 6 ≤ (E.2.2.2 42 : Int)) (hW : LWI N S M A) (hN9 : N ≤ 140 + 15 * n) (tail : lawTail l E hh n) : aX l E (pL_law hh) QL (200 + 40 * n) (20000 + 400 * n) N S M 1739 [(0, (2, -43)), (1, (2, 0)), (2, (2, 109)), (3, (2, 139)), (4, (0, 6 * (n : Int)))] [] := by
  obtain ⟨hN0, hC, hS9, hO, hR, hRM, hI⟩ := id hW
  have hM := hS9
  have hn : n ≤ 511 := by omega
  refine x_aload_n (pc := 1739) dL_law_1739 rfl rfl ?_
  refine x_aload_n (pc := 1740) dL_law_1740 rfl rfl ?_
  refine x_iload (pc := 1741) dL_law_1741 rfl ?_
  refine x_iconst (pc := 1743) dL_law_1743 (by decide) ?_
  refine x_iadd (pc := 1744) dL_law_1744 (by omega) ?_
  refine x_sld (pc := 1745) dL_law_1745 ⟨by omega, by omega⟩ ?_
  refine x_aload_n (pc := 1746) dL_law_1746 rfl rfl ?_
  refine x_iload (pc := 1747) dL_law_1747 rfl ?_
  refine x_iconst (pc := 1749) dL_law_1749 (by decide) ?_
  refine x_iadd (pc := 1750) dL_law_1750 (by omega) ?_
  refine x_sld (pc := 1751) dL_law_1751 ⟨by omega, by omega⟩ ?_
  refine x_callS3H (pc := 1752) dL_law_1752 kLH_228 (h_row hfl (a_scr E (6 * (n : Int) + 1)) (a_scr E (6 * (n : Int) + 2)) A hW) (a_rmL rfl rfl (by show 200 + 40 * n + 5 ≤ 601024; omega) (by show 20000 + 400 * n + 30 ≤ 7293034; omega)) (Nat.le_of_ble_eq_true rfl) (k_hQv (fun N9 S9 M9 g1 g2 g3 f9 R9 => ?_)) n_hQv
  refine x_room (kc' := 220 + 40 * n) (ks' := 20200 + 400 * n) (by show 200 + 40 * n + 5 ≤ 220 + 40 * n; omega) (by show 20000 + 400 * n + 30 ≤ 20200 + 400 * n; omega) ?_
  have hC9 : lyC S9 := hC.cg fun k a b => g3 k (by omega)
  have hM9 : lyM S9 109 := hM.cg fun k a b => g3 k (by omega)
  have hO9 : S9 139 = (14, 1, rN) := (g3 139 (by omega)).trans hO
  have RM9 : RM M9 109 A := hRM.cgo fun a p q i => f9 a i (by omega) (by omega)
  refine x_istore (pc := 1755) dL_law_1755 (by show _ < 8; decide) rfl ?_
  refine x_aload_n (pc := 1757) dL_law_1757 rfl rfl ?_
  refine x_aload_n (pc := 1758) dL_law_1758 rfl rfl ?_
  refine x_iload (pc := 1759) dL_law_1759 rfl ?_
  refine x_iconst (pc := 1761) dL_law_1761 (by decide) ?_
  refine x_iadd (pc := 1762) dL_law_1762 (by omega) ?_
  refine x_sld (pc := 1763) dL_law_1763 ⟨by omega, by omega⟩ ?_
  refine x_aload_n (pc := 1764) dL_law_1764 rfl rfl ?_
  refine x_iload (pc := 1765) dL_law_1765 rfl ?_
  refine x_iconst (pc := 1767) dL_law_1767 (by decide) ?_
  refine x_iadd (pc := 1768) dL_law_1768 (by omega) ?_
  refine x_sld (pc := 1769) dL_law_1769 ⟨by omega, by omega⟩ ?_
  refine x_callV2N (pc := 1770) dL_law_1770 kL_231 (s_Mrow hfl (a_scr E (6 * (n : Int) + 1)) (a_scr E (6 * (n : Int) + 2)) 109 A hM9 RM9 hI.1) hM9.1 rfl (a_rmL rfl rfl (by show 220 + 40 * n + 0 ≤ 601024; omega) (by show 20200 + 400 * n + 0 ≤ 7293034; omega)) (Nat.le_of_ble_eq_true rfl) (k_U (fun M8 hM8 => ?_)) n_UN
  obtain ⟨t8, R8, F8⟩ := hM8
  have RC8 : RC M8 N9 S9 (spRow A (a_scr E (6 * (n : Int) + 1)) (a_scr E (6 * (n : Int) + 2))).2.2 := R9.cgo fun a q i => F8 a i (by omega)
  refine x_aload_n (pc := 1773) dL_law_1773 rfl rfl ?_
  refine x_callV0N (pc := 1774) dL_law_1774 kL_142 (s_thrown hfl 109 hM9) hM9.1 rfl (a_rmL rfl rfl (by show 220 + 40 * n + 0 + 0 ≤ 601024; omega) (by show 20200 + 400 * n + 0 + 0 ≤ 7293034; omega)) (Nat.le_of_ble_eq_true rfl) (k_R ?_) n_RN
  rw [t8]
  refine x_iload (pc := 1777) dL_law_1777 rfl ?_
  refine x_icmp_eq (tgt := 1784) (pc := 1779) dL_law_1779 (by decide) (fun c_1779 => ?_) (fun c_1779 => ?_)
  · refine x_goto (tgt := 2617) (pc := 1784) dL_law_1784 (by decide) ?_
    exact x_lo (lo' := [(0, (2, -43)), (1, (2, 0)), (2, (2, 109)), (3, (2, 139)), (4, (0, 6 * (n : Int)))]) ⟨rfl, rfl, rfl, rfl, rfl, trivial⟩ (x_room (by show 220 + 40 * n + 0 + 0 ≤ 200 + 40 * (n + 1); omega) (by show 20200 + 400 * n + 0 + 0 ≤ 20000 + 400 * (n + 1); omega) (tail N9 S9 M8 (spRow A (a_scr E (6 * (n : Int) + 1)) (a_scr E (6 * (n : Int) + 2))).2.2 ⟨by omega, hC9, hM9, hO9, RC8, R8, INV.row_ hI (a_scr E (6 * (n : Int) + 1)) (a_scr E (6 * (n : Int) + 2))⟩ (by omega)))
  · exfalso; omega
theorem dL_law_1787 : decode code 1787 = .ok (.aload_n 1, 1) := by decide +kernel
theorem dL_law_1788 : decode code 1788 = .ok (.aload_n 0, 1) := by decide +kernel
theorem dL_law_1789 : decode code 1789 = .ok (.iload 4, 2) := by decide +kernel
theorem dL_law_1791 : decode code 1791 = .ok (.iconst 1, 1) := by decide +kernel
theorem dL_law_1792 : decode code 1792 = .ok (.iadd, 1) := by decide +kernel
theorem dL_law_1793 : decode code 1793 = .ok (.iaload, 1) := by decide +kernel
theorem dL_law_1794 : decode code 1794 = .ok (.aload_n 0, 1) := by decide +kernel
theorem dL_law_1795 : decode code 1795 = .ok (.iload 4, 2) := by decide +kernel
theorem dL_law_1797 : decode code 1797 = .ok (.iconst 2, 1) := by decide +kernel
theorem dL_law_1798 : decode code 1798 = .ok (.iadd, 1) := by decide +kernel
theorem dL_law_1799 : decode code 1799 = .ok (.iaload, 1) := by decide +kernel
theorem dL_law_1800 : decode code 1800 = .ok (.aload_n 0, 1) := by decide +kernel
theorem dL_law_1801 : decode code 1801 = .ok (.iload 4, 2) := by decide +kernel
theorem dL_law_1803 : decode code 1803 = .ok (.iconst 3, 1) := by decide +kernel
theorem dL_law_1804 : decode code 1804 = .ok (.iadd, 1) := by decide +kernel
theorem dL_law_1805 : decode code 1805 = .ok (.iaload, 1) := by decide +kernel
theorem dL_law_1806 : decode code 1806 = .ok (.aload_n 3, 1) := by decide +kernel
theorem dL_law_1807 : decode code 1807 = .ok (.invokestatic 232, 3) := by decide +kernel
theorem dL_law_1810 : decode code 1810 = .ok (.istore 5, 2) := by decide +kernel
theorem dL_law_1812 : decode code 1812 = .ok (.aload_n 2, 1) := by decide +kernel
theorem dL_law_1813 : decode code 1813 = .ok (.aload_n 0, 1) := by decide +kernel
theorem dL_law_1814 : decode code 1814 = .ok (.iload 4, 2) := by decide +kernel
theorem dL_law_1816 : decode code 1816 = .ok (.iconst 1, 1) := by decide +kernel
theorem dL_law_1817 : decode code 1817 = .ok (.iadd, 1) := by decide +kernel
theorem dL_law_1818 : decode code 1818 = .ok (.iaload, 1) := by decide +kernel
theorem dL_law_1819 : decode code 1819 = .ok (.aload_n 0, 1) := by decide +kernel
theorem dL_law_1820 : decode code 1820 = .ok (.iload 4, 2) := by decide +kernel
theorem dL_law_1822 : decode code 1822 = .ok (.iconst 2, 1) := by decide +kernel
theorem dL_law_1823 : decode code 1823 = .ok (.iadd, 1) := by decide +kernel
theorem dL_law_1824 : decode code 1824 = .ok (.iaload, 1) := by decide +kernel
theorem dL_law_1825 : decode code 1825 = .ok (.aload_n 0, 1) := by decide +kernel
theorem dL_law_1826 : decode code 1826 = .ok (.iload 4, 2) := by decide +kernel
theorem dL_law_1828 : decode code 1828 = .ok (.iconst 3, 1) := by decide +kernel
theorem dL_law_1829 : decode code 1829 = .ok (.iadd, 1) := by decide +kernel
theorem dL_law_1830 : decode code 1830 = .ok (.iaload, 1) := by decide +kernel
theorem dL_law_1831 : decode code 1831 = .ok (.invokevirtual 234, 3) := by decide +kernel
theorem dL_law_1834 : decode code 1834 = .ok (.istore 6, 2) := by decide +kernel
theorem dL_law_1836 : decode code 1836 = .ok (.aload_n 2, 1) := by decide +kernel
theorem dL_law_1837 : decode code 1837 = .ok (.invokevirtual 142, 3) := by decide +kernel
theorem dL_law_1840 : decode code 1840 = .ok (.iload 5, 2) := by decide +kernel
theorem dL_law_1842 : decode code 1842 = .ok (.if_icmp .eq 5, 3) := by decide +kernel
theorem dL_law_1845 : decode code 1845 = .ok (.iconst 0, 1) := by decide +kernel
theorem dL_law_1846 : decode code 1846 = .ok (.ireturn, 1) := by decide +kernel
theorem dL_law_1847 : decode code 1847 = .ok (.iload 5, 2) := by decide +kernel
theorem dL_law_1849 : decode code 1849 = .ok (.ifCond .ne 22, 3) := by decide +kernel
theorem dL_law_1852 : decode code 1852 = .ok (.aload_n 3, 1) := by decide +kernel
theorem dL_law_1853 : decode code 1853 = .ok (.iconst 0, 1) := by decide +kernel
theorem dL_law_1854 : decode code 1854 = .ok (.laload, 1) := by decide +kernel
theorem dL_law_1855 : decode code 1855 = .ok (.iload 6, 2) := by decide +kernel
theorem dL_law_1857 : decode code 1857 = .ok (.ifCond .eq 7, 3) := by decide +kernel
theorem dL_law_1860 : decode code 1860 = .ok (.lconst 1, 1) := by decide +kernel
theorem dL_law_1861 : decode code 1861 = .ok (.goto 4, 3) := by decide +kernel
theorem dL_law_1864 : decode code 1864 = .ok (.lconst 0, 1) := by decide +kernel
theorem dL_law_1865 : decode code 1865 = .ok (.lcmp, 1) := by decide +kernel
theorem dL_law_1866 : decode code 1866 = .ok (.ifCond .eq 5, 3) := by decide +kernel
theorem dL_law_1869 : decode code 1869 = .ok (.iconst 0, 1) := by decide +kernel
theorem dL_law_1870 : decode code 1870 = .ok (.ireturn, 1) := by decide +kernel
theorem dL_law_1871 : decode code 1871 = .ok (.goto 746, 3) := by decide +kernel
theorem kLH_232 : a_kSH RL 232 pL_proof 5 := ⟨(lw_ok_in (List.mem_of_getElem? (i := 1317) (by decide +kernel)) rfl), (lw_ok_in (List.mem_of_getElem? (i := 109) (by decide +kernel)) rfl), by decide +kernel, (lw_ok_in (List.mem_of_getElem? (i := 1315) (by decide +kernel)) rfl), (lw_ok_in (List.mem_of_getElem? (i := 1316) (by decide +kernel)) rfl)⟩
theorem kL_234 : a_kV RL 234 pX12_proof 3 := ⟨cbX12_proof, (lw_ok_in (List.mem_of_getElem? (i := 2043) (by decide +kernel)) rfl), (lw_ok_in (List.mem_of_getElem? (i := 2044) (by decide +kernel)) rfl), (lw_ok_in (List.mem_of_getElem? (i := 2045) (by decide +kernel)) rfl)⟩
theorem case_proof {l : Launch} {E : aE} {hh : List (Nat × Nat × Nat × Nat)} {n N : Nat} {S : aS} {M A : aM} (hfl : l.stackTraces = false) (h42 : E.2.2.2 42 ≤ 3072) (hi : 6 * (n : Int) + 6 ≤ (E.2.2.2 42 : Int)) (hW : LWI N S M A) (hN9 : N ≤ 140 + 15 * n) (tail : lawTail l E hh n) : aX l E (pL_law hh) QL (200 + 40 * n) (20000 + 400 * n) N S M 1787 [(0, (2, -43)), (1, (2, 0)), (2, (2, 109)), (3, (2, 139)), (4, (0, 6 * (n : Int)))] [] := by
  obtain ⟨hN0, hC, hS9, hO, hR, hRM, hI⟩ := id hW
  have hM := hS9
  have hn : n ≤ 511 := by omega
  refine x_aload_n (pc := 1787) dL_law_1787 rfl rfl ?_
  refine x_aload_n (pc := 1788) dL_law_1788 rfl rfl ?_
  refine x_iload (pc := 1789) dL_law_1789 rfl ?_
  refine x_iconst (pc := 1791) dL_law_1791 (by decide) ?_
  refine x_iadd (pc := 1792) dL_law_1792 (by omega) ?_
  refine x_sld (pc := 1793) dL_law_1793 ⟨by omega, by omega⟩ ?_
  refine x_aload_n (pc := 1794) dL_law_1794 rfl rfl ?_
  refine x_iload (pc := 1795) dL_law_1795 rfl ?_
  refine x_iconst (pc := 1797) dL_law_1797 (by decide) ?_
  refine x_iadd (pc := 1798) dL_law_1798 (by omega) ?_
  refine x_sld (pc := 1799) dL_law_1799 ⟨by omega, by omega⟩ ?_
  refine x_aload_n (pc := 1800) dL_law_1800 rfl rfl ?_
  refine x_iload (pc := 1801) dL_law_1801 rfl ?_
  refine x_iconst (pc := 1803) dL_law_1803 (by decide) ?_
  refine x_iadd (pc := 1804) dL_law_1804 (by omega) ?_
  refine x_sld (pc := 1805) dL_law_1805 ⟨by omega, by omega⟩ ?_
  refine x_aload_n (pc := 1806) dL_law_1806 rfl rfl ?_
  refine x_callS5H (pc := 1807) dL_law_1807 kLH_232 (h_proof hfl (a_scr E (6 * (n : Int) + 1)) (a_scr E (6 * (n : Int) + 2)) (a_scr E (6 * (n : Int) + 3)) A hW) (a_rmL rfl rfl (by show 200 + 40 * n + 5 ≤ 601024; omega) (by show 20000 + 400 * n + 30 ≤ 7293034; omega)) (Nat.le_of_ble_eq_true rfl) (k_hQ (fun M9 f9 R9 v9 => ?_)) n_hQ
  refine x_room (kc' := 220 + 40 * n) (ks' := 20200 + 400 * n) (by show 200 + 40 * n + 5 ≤ 220 + 40 * n; omega) (by show 20000 + 400 * n + 30 ≤ 20200 + 400 * n; omega) ?_
  have hC9 := hC
  have hM9 := hM
  have hO9 := hO
  have RM9 : RM M9 109 A := hRM.cgo fun a p q i => f9 a i (by omega) (by omega)
  refine x_istore (pc := 1810) dL_law_1810 (by show _ < 8; decide) rfl ?_
  refine x_aload_n (pc := 1812) dL_law_1812 rfl rfl ?_
  refine x_aload_n (pc := 1813) dL_law_1813 rfl rfl ?_
  refine x_iload (pc := 1814) dL_law_1814 rfl ?_
  refine x_iconst (pc := 1816) dL_law_1816 (by decide) ?_
  refine x_iadd (pc := 1817) dL_law_1817 (by omega) ?_
  refine x_sld (pc := 1818) dL_law_1818 ⟨by omega, by omega⟩ ?_
  refine x_aload_n (pc := 1819) dL_law_1819 rfl rfl ?_
  refine x_iload (pc := 1820) dL_law_1820 rfl ?_
  refine x_iconst (pc := 1822) dL_law_1822 (by decide) ?_
  refine x_iadd (pc := 1823) dL_law_1823 (by omega) ?_
  refine x_sld (pc := 1824) dL_law_1824 ⟨by omega, by omega⟩ ?_
  refine x_aload_n (pc := 1825) dL_law_1825 rfl rfl ?_
  refine x_iload (pc := 1826) dL_law_1826 rfl ?_
  refine x_iconst (pc := 1828) dL_law_1828 (by decide) ?_
  refine x_iadd (pc := 1829) dL_law_1829 (by omega) ?_
  refine x_sld (pc := 1830) dL_law_1830 ⟨by omega, by omega⟩ ?_
  refine x_callV3N (pc := 1831) dL_law_1831 kL_234 (s_Mproof hfl (a_scr E (6 * (n : Int) + 1)) (a_scr E (6 * (n : Int) + 2)) (a_scr E (6 * (n : Int) + 3)) 109 A hM9 RM9 hI.1 hI.2.2.2.2.1) hM9.1 rfl (a_rmL rfl rfl (by show 220 + 40 * n + 0 ≤ 601024; omega) (by show 20200 + 400 * n + 0 ≤ 7293034; omega)) (Nat.le_of_ble_eq_true rfl) (k_G (fun v8 M8 hM8 => ?_)) n_GN
  obtain ⟨kd, t8, e8, R8, F8⟩ := hM8
  obtain ⟨k8, w8⟩ := v8
  have kd : k8 = 0 := kd
  subst kd
  have RC8 : RC M8 N S (spProof A (a_scr E (6 * (n : Int) + 1)) (a_scr E (6 * (n : Int) + 2)) (a_scr E (6 * (n : Int) + 3))).2.2 := R9.cgo fun a q i => F8 a i (by omega)
  refine x_istore (pc := 1834) dL_law_1834 (by show _ < 8; decide) rfl ?_
  refine x_aload_n (pc := 1836) dL_law_1836 rfl rfl ?_
  refine x_callV0N (pc := 1837) dL_law_1837 kL_142 (s_thrown hfl 109 hM9) hM9.1 rfl (a_rmL rfl rfl (by show 220 + 40 * n + 0 + 0 ≤ 601024; omega) (by show 20200 + 400 * n + 0 + 0 ≤ 7293034; omega)) (Nat.le_of_ble_eq_true rfl) (k_R ?_) n_RN
  rw [t8]
  refine x_iload (pc := 1840) dL_law_1840 rfl ?_
  refine x_icmp_eq (tgt := 1847) (pc := 1842) dL_law_1842 (by decide) (fun c_1842 => ?_) (fun c_1842 => ?_)
  · refine x_iload (pc := 1847) dL_law_1847 rfl ?_
    refine x_if_ne (tgt := 1871) (pc := 1849) dL_law_1849 (by decide) (fun c_1849 => ?_) (fun c_1849 => ?_)
    · refine x_goto (tgt := 2617) (pc := 1871) dL_law_1871 (by decide) ?_
      exact x_lo (lo' := [(0, (2, -43)), (1, (2, 0)), (2, (2, 109)), (3, (2, 139)), (4, (0, 6 * (n : Int)))]) ⟨rfl, rfl, rfl, rfl, rfl, trivial⟩ (x_room (by show 220 + 40 * n + 0 + 0 ≤ 200 + 40 * (n + 1); omega) (by show 20200 + 400 * n + 0 + 0 ≤ 20000 + 400 * (n + 1); omega) (tail N S M8 (spProof A (a_scr E (6 * (n : Int) + 1)) (a_scr E (6 * (n : Int) + 2)) (a_scr E (6 * (n : Int) + 3))).2.2 ⟨by omega, hC9, hM9, hO9, RC8, R8, INV.proof_ hI (a_scr E (6 * (n : Int) + 1)) (a_scr E (6 * (n : Int) + 2)) (a_scr E (6 * (n : Int) + 3))⟩ (by omega)))
    · have e139 : M8 139 0 = (spProof A (a_scr E (6 * (n : Int) + 1)) (a_scr E (6 * (n : Int) + 2)) (a_scr E (6 * (n : Int) + 3))).2.1 := (F8 139 0 (by omega)).trans (v9 c_1849)
      have ew : w8 = (spProof A (a_scr E (6 * (n : Int) + 1)) (a_scr E (6 * (n : Int) + 2)) (a_scr E (6 * (n : Int) + 3))).2.1 := congrArg Prod.snd (e8 c_1849)
      have hb9 := bb_proof A (a_scr E (6 * (n : Int) + 1)) (a_scr E (6 * (n : Int) + 2)) (a_scr E (6 * (n : Int) + 3)) c_1849
      refine x_aload_n (pc := 1852) dL_law_1852 rfl rfl ?_
      refine x_iconst (pc := 1853) dL_law_1853 (by decide) ?_
      refine x_laloadV (pc := 1854) dL_law_1854 hO9 (by omega) (by (repeat (first | rewrite [up_s] | rewrite [up_i (by omega)] | rewrite [up_a (by omega)])); first | exact e139 | rfl) (fun g_1854 => ?_)
      refine x_iload (pc := 1855) dL_law_1855 rfl ?_
      refine x_if_eq (tgt := 1864) (pc := 1857) dL_law_1857 (by decide) (fun c_1857 => ?_) (fun c_1857 => ?_)
      · refine x_lconst0 (pc := 1864) dL_law_1864 ?_
        refine x_leq (tgt := 1871) (pc := 1865) dL_law_1865 dL_law_1866 (by decide) (fun c_1865 => ?_) (fun c_1865 => ?_)
        · refine x_goto (tgt := 2617) (pc := 1871) dL_law_1871 (by decide) ?_
          exact x_lo (lo' := [(0, (2, -43)), (1, (2, 0)), (2, (2, 109)), (3, (2, 139)), (4, (0, 6 * (n : Int)))]) ⟨rfl, rfl, rfl, rfl, rfl, trivial⟩ (x_room (by show 220 + 40 * n + 0 + 0 ≤ 200 + 40 * (n + 1); omega) (by show 20200 + 400 * n + 0 + 0 ≤ 20000 + 400 * (n + 1); omega) (tail N S M8 (spProof A (a_scr E (6 * (n : Int) + 1)) (a_scr E (6 * (n : Int) + 2)) (a_scr E (6 * (n : Int) + 3))).2.2 ⟨by omega, hC9, hM9, hO9, RC8, R8, INV.proof_ hI (a_scr E (6 * (n : Int) + 1)) (a_scr E (6 * (n : Int) + 2)) (a_scr E (6 * (n : Int) + 3))⟩ (by omega)))
        · exfalso; omega
      · refine x_lconst1 (pc := 1860) dL_law_1860 ?_
        refine x_goto (tgt := 1865) (pc := 1861) dL_law_1861 (by decide) ?_
        refine x_leq (tgt := 1871) (pc := 1865) dL_law_1865 dL_law_1866 (by decide) (fun c_1865 => ?_) (fun c_1865 => ?_)
        · refine x_goto (tgt := 2617) (pc := 1871) dL_law_1871 (by decide) ?_
          exact x_lo (lo' := [(0, (2, -43)), (1, (2, 0)), (2, (2, 109)), (3, (2, 139)), (4, (0, 6 * (n : Int)))]) ⟨rfl, rfl, rfl, rfl, rfl, trivial⟩ (x_room (by show 220 + 40 * n + 0 + 0 ≤ 200 + 40 * (n + 1); omega) (by show 20200 + 400 * n + 0 + 0 ≤ 20000 + 400 * (n + 1); omega) (tail N S M8 (spProof A (a_scr E (6 * (n : Int) + 1)) (a_scr E (6 * (n : Int) + 2)) (a_scr E (6 * (n : Int) + 3))).2.2 ⟨by omega, hC9, hM9, hO9, RC8, R8, INV.proof_ hI (a_scr E (6 * (n : Int) + 1)) (a_scr E (6 * (n : Int) + 2)) (a_scr E (6 * (n : Int) + 3))⟩ (by omega)))
        · exfalso; omega
  · exfalso; omega
