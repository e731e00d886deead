/-! THE LAW: its cases -/
theorem dL_law_718 : decode code 718 = .ok (.aload_n 1, 1) := by decide +kernel
theorem dL_law_719 : decode code 719 = .ok (.aload_n 0, 1) := by decide +kernel
theorem dL_law_720 : decode code 720 = .ok (.iload 4, 2) := by decide +kernel
theorem dL_law_722 : decode code 722 = .ok (.iconst 1, 1) := by decide +kernel
theorem dL_law_723 : decode code 723 = .ok (.iadd, 1) := by decide +kernel
theorem dL_law_724 : decode code 724 = .ok (.iaload, 1) := by decide +kernel
theorem dL_law_725 : decode code 725 = .ok (.aload_n 0, 1) := by decide +kernel
theorem dL_law_726 : decode code 726 = .ok (.iload 4, 2) := by decide +kernel
theorem dL_law_728 : decode code 728 = .ok (.iconst 2, 1) := by decide +kernel
theorem dL_law_729 : decode code 729 = .ok (.iadd, 1) := by decide +kernel
theorem dL_law_730 : decode code 730 = .ok (.iaload, 1) := by decide +kernel
theorem dL_law_731 : decode code 731 = .ok (.aload_n 0, 1) := by decide +kernel
theorem dL_law_732 : decode code 732 = .ok (.iload 4, 2) := by decide +kernel
theorem dL_law_734 : decode code 734 = .ok (.iconst 3, 1) := by decide +kernel
theorem dL_law_735 : decode code 735 = .ok (.iadd, 1) := by decide +kernel
theorem dL_law_736 : decode code 736 = .ok (.iaload, 1) := by decide +kernel
theorem dL_law_737 : decode code 737 = .ok (.aload_n 0, 1) := by decide +kernel
theorem dL_law_738 : decode code 738 = .ok (.iload 4, 2) := by decide +kernel
theorem dL_law_740 : decode code 740 = .ok (.iconst 4, 1) := by decide +kernel
theorem dL_law_741 : decode code 741 = .ok (.iadd, 1) := by decide +kernel
theorem dL_law_742 : decode code 742 = .ok (.iaload, 1) := by decide +kernel
theorem dL_law_743 : decode code 743 = .ok (.aload_n 0, 1) := by decide +kernel
theorem dL_law_744 : decode code 744 = .ok (.iload 4, 2) := by decide +kernel
theorem dL_law_746 : decode code 746 = .ok (.iconst 5, 1) := by decide +kernel
theorem dL_law_747 : decode code 747 = .ok (.iadd, 1) := by decide +kernel
theorem dL_law_748 : decode code 748 = .ok (.iaload, 1) := by decide +kernel
theorem dL_law_749 : decode code 749 = .ok (.invokevirtual 167, 3) := by decide +kernel
theorem dL_law_752 : decode code 752 = .ok (.aload_n 2, 1) := by decide +kernel
theorem dL_law_753 : decode code 753 = .ok (.aload_n 0, 1) := by decide +kernel
theorem dL_law_754 : decode code 754 = .ok (.iload 4, 2) := by decide +kernel
theorem dL_law_756 : decode code 756 = .ok (.iconst 1, 1) := by decide +kernel
theorem dL_law_757 : decode code 757 = .ok (.iadd, 1) := by decide +kernel
theorem dL_law_758 : decode code 758 = .ok (.iaload, 1) := by decide +kernel
theorem dL_law_759 : decode code 759 = .ok (.aload_n 0, 1) := by decide +kernel
theorem dL_law_760 : decode code 760 = .ok (.iload 4, 2) := by decide +kernel
theorem dL_law_762 : decode code 762 = .ok (.iconst 2, 1) := by decide +kernel
theorem dL_law_763 : decode code 763 = .ok (.iadd, 1) := by decide +kernel
theorem dL_law_764 : decode code 764 = .ok (.iaload, 1) := by decide +kernel
theorem dL_law_765 : decode code 765 = .ok (.aload_n 0, 1) := by decide +kernel
theorem dL_law_766 : decode code 766 = .ok (.iload 4, 2) := by decide +kernel
theorem dL_law_768 : decode code 768 = .ok (.iconst 3, 1) := by decide +kernel
theorem dL_law_769 : decode code 769 = .ok (.iadd, 1) := by decide +kernel
theorem dL_law_770 : decode code 770 = .ok (.iaload, 1) := by decide +kernel
theorem dL_law_771 : decode code 771 = .ok (.aload_n 0, 1) := by decide +kernel
theorem dL_law_772 : decode code 772 = .ok (.iload 4, 2) := by decide +kernel
theorem dL_law_774 : decode code 774 = .ok (.iconst 4, 1) := by decide +kernel
theorem dL_law_775 : decode code 775 = .ok (.iadd, 1) := by decide +kernel
theorem dL_law_776 : decode code 776 = .ok (.iaload, 1) := by decide +kernel
theorem dL_law_777 : decode code 777 = .ok (.aload_n 0, 1) := by decide +kernel
theorem dL_law_778 : decode code 778 = .ok (.iload 4, 2) := by decide +kernel
theorem dL_law_780 : decode code 780 = .ok (.iconst 5, 1) := by decide +kernel
theorem dL_law_781 : decode code 781 = .ok (.iadd, 1) := by decide +kernel
theorem dL_law_782 : decode code 782 = .ok (.iaload, 1) := by decide +kernel
theorem dL_law_783 : decode code 783 = .ok (.invokevirtual 171, 3) := by decide +kernel
theorem dL_law_786 : decode code 786 = .ok (.if_icmp .eq 1831, 3) := by decide +kernel
theorem dL_law_789 : decode code 789 = .ok (.iconst 0, 1) := by decide +kernel
theorem dL_law_790 : decode code 790 = .ok (.ireturn, 1) := by decide +kernel
theorem kL_167 : a_kV RL 167 pX11_feed 5 := ⟨cbX11_feed, (lw_ok_in (List.mem_of_getElem? (i := 604) (by decide +kernel)) rfl), (lw_ok_in (List.mem_of_getElem? (i := 605) (by decide +kernel)) rfl), (lw_ok_in (List.mem_of_getElem? (i := 606) (by decide +kernel)) rfl)⟩
theorem kL_171 : a_kV RL 171 pX12_feed 5 := ⟨cbX12_feed, (lw_ok_in (List.mem_of_getElem? (i := 1769) (by decide +kernel)) rfl), (lw_ok_in (List.mem_of_getElem? (i := 1770) (by decide +kernel)) rfl), (lw_ok_in (List.mem_of_getElem? (i := 1771) (by decide +kernel)) rfl)⟩
theorem case_feed {l : Launch} {E : aE} {hh : List (Nat × Nat × Nat × Nat)} {n N : Nat} {S : aS} {M A : aM} (hfl : l.stackTraces = false) (h42 : E.2.2.2 42 ≤ 3072) (hi : 6 * (n : Int) + 6 ≤ (E.2.2.2 42 : Int)) (hW : LWI N S M A) (hN9 : N ≤ 140 + 15 * n) (tail : lawTail l E hh n) : aX l E (pL_law hh) QL (200 + 40 * n) (20000 + 400 * n) N S M 718 [(0, (2, -43)), (1, (2, 0)), (2, (2, 109)), (3, (2, 139)), (4, (0, 6 * (n : Int)))] [] := by
  obtain ⟨hN, hC, hS9, hO, hR, hRM, hI⟩ := id hW
  have hM := hS9
  have hn : n ≤ 511 := by omega
  refine x_aload_n (pc := 718) dL_law_718 rfl rfl ?_
  refine x_aload_n (pc := 719) dL_law_719 rfl rfl ?_
  refine x_iload (pc := 720) dL_law_720 rfl ?_
  refine x_iconst (pc := 722) dL_law_722 (by decide) ?_
  refine x_iadd (pc := 723) dL_law_723 (by omega) ?_
  refine x_sld (pc := 724) dL_law_724 ⟨by omega, by omega⟩ ?_
  refine x_aload_n (pc := 725) dL_law_725 rfl rfl ?_
  refine x_iload (pc := 726) dL_law_726 rfl ?_
  refine x_iconst (pc := 728) dL_law_728 (by decide) ?_
  refine x_iadd (pc := 729) dL_law_729 (by omega) ?_
  refine x_sld (pc := 730) dL_law_730 ⟨by omega, by omega⟩ ?_
  refine x_aload_n (pc := 731) dL_law_731 rfl rfl ?_
  refine x_iload (pc := 732) dL_law_732 rfl ?_
  refine x_iconst (pc := 734) dL_law_734 (by decide) ?_
  refine x_iadd (pc := 735) dL_law_735 (by omega) ?_
  refine x_sld (pc := 736) dL_law_736 ⟨by omega, by omega⟩ ?_
  refine x_aload_n (pc := 737) dL_law_737 rfl rfl ?_
  refine x_iload (pc := 738) dL_law_738 rfl ?_
  refine x_iconst (pc := 740) dL_law_740 (by decide) ?_
  refine x_iadd (pc := 741) dL_law_741 (by omega) ?_
  refine x_sld (pc := 742) dL_law_742 ⟨by omega, by omega⟩ ?_
  refine x_aload_n (pc := 743) dL_law_743 rfl rfl ?_
  refine x_iload (pc := 744) dL_law_744 rfl ?_
  refine x_iconst (pc := 746) dL_law_746 (by decide) ?_
  refine x_iadd (pc := 747) dL_law_747 (by omega) ?_
  refine x_sld (pc := 748) dL_law_748 ⟨by omega, by omega⟩ ?_
  have h0 : (spFeed A (a_scr E (6 * (n : Int) + 1)) (a_scr E (6 * (n : Int) + 2)) (a_scr E (6 * (n : Int) + 3)) (a_scr E (6 * (n : Int) + 4)) (a_scr E (6 * (n : Int) + 5))).1 = 0 := by
    unfold spFeed
    (repeat' split) <;> rfl
  refine x_callV5N (pc := 749) dL_law_749 kL_167 (s_Cfeed hfl (a_scr E (6 * (n : Int) + 1)) (a_scr E (6 * (n : Int) + 2)) (a_scr E (6 * (n : Int) + 3)) (a_scr E (6 * (n : Int) + 4)) (a_scr E (6 * (n : Int) + 5)) hC A hR hI.1 hI.2.2.1) (sC_0 hC) rfl (a_rmL rfl rfl (by show 200 + 40 * n + 0 ≤ 601024; omega) (by show 20000 + 400 * n + 0 ≤ 7293034; omega)) (Nat.le_of_ble_eq_true rfl) (k_op (fun M9 hz hf R9 => ?_)) (n_opN h0)
  refine x_room (kc' := 220 + 40 * n) (ks' := 20200 + 400 * n) (by show 200 + 40 * n + 0 ≤ 220 + 40 * n; omega) (by show 20000 + 400 * n + 0 ≤ 20200 + 400 * n; omega) ?_
  have hC9 := hC
  have hM9 := hM
  have hO9 := hO
  have RM9 : RM M9 109 A := hRM.cgo fun a p q i => hf a i (by omega) (by omega)
  refine x_aload_n (pc := 752) dL_law_752 rfl rfl ?_
  refine x_aload_n (pc := 753) dL_law_753 rfl rfl ?_
  refine x_iload (pc := 754) dL_law_754 rfl ?_
  refine x_iconst (pc := 756) dL_law_756 (by decide) ?_
  refine x_iadd (pc := 757) dL_law_757 (by omega) ?_
  refine x_sld (pc := 758) dL_law_758 ⟨by omega, by omega⟩ ?_
  refine x_aload_n (pc := 759) dL_law_759 rfl rfl ?_
  refine x_iload (pc := 760) dL_law_760 rfl ?_
  refine x_iconst (pc := 762) dL_law_762 (by decide) ?_
  refine x_iadd (pc := 763) dL_law_763 (by omega) ?_
  refine x_sld (pc := 764) dL_law_764 ⟨by omega, by omega⟩ ?_
  refine x_aload_n (pc := 765) dL_law_765 rfl rfl ?_
  refine x_iload (pc := 766) dL_law_766 rfl ?_
  refine x_iconst (pc := 768) dL_law_768 (by decide) ?_
  refine x_iadd (pc := 769) dL_law_769 (by omega) ?_
  refine x_sld (pc := 770) dL_law_770 ⟨by omega, by omega⟩ ?_
  refine x_aload_n (pc := 771) dL_law_771 rfl rfl ?_
  refine x_iload (pc := 772) dL_law_772 rfl ?_
  refine x_iconst (pc := 774) dL_law_774 (by decide) ?_
  refine x_iadd (pc := 775) dL_law_775 (by omega) ?_
  refine x_sld (pc := 776) dL_law_776 ⟨by omega, by omega⟩ ?_
  refine x_aload_n (pc := 777) dL_law_777 rfl rfl ?_
  refine x_iload (pc := 778) dL_law_778 rfl ?_
  refine x_iconst (pc := 780) dL_law_780 (by decide) ?_
  refine x_iadd (pc := 781) dL_law_781 (by omega) ?_
  refine x_sld (pc := 782) dL_law_782 ⟨by omega, by omega⟩ ?_
  refine x_callV5N (pc := 783) dL_law_783 kL_171 (s_Mfeed hfl (a_scr E (6 * (n : Int) + 1)) (a_scr E (6 * (n : Int) + 2)) (a_scr E (6 * (n : Int) + 3)) (a_scr E (6 * (n : Int) + 4)) (a_scr E (6 * (n : Int) + 5)) 109 A hM9 RM9 hI.1 hI.2.2.1) hM9.1 rfl (a_rmL rfl rfl (by show 220 + 40 * n + 0 ≤ 601024; omega) (by show 20200 + 400 * n + 0 ≤ 7293034; omega)) (Nat.le_of_ble_eq_true rfl) (k_G (fun v8 M8 hM8 => ?_)) n_GN
  obtain ⟨kd, t8, e8, R8, F8⟩ := hM8
  rw [e8 h0]
  have RC8 : RC M8 N S (spFeed A (a_scr E (6 * (n : Int) + 1)) (a_scr E (6 * (n : Int) + 2)) (a_scr E (6 * (n : Int) + 3)) (a_scr E (6 * (n : Int) + 4)) (a_scr E (6 * (n : Int) + 5))).2.2 := R9.cgo fun a q i => F8 a i (by omega)
  refine x_icmp_eq (tgt := 2617) (pc := 786) dL_law_786 (by decide) (fun c_786 => ?_) (fun c_786 => ?_)
  · exact x_lo (lo' := [(0, (2, -43)), (1, (2, 0)), (2, (2, 109)), (3, (2, 139)), (4, (0, 6 * (n : Int)))]) ⟨rfl, rfl, rfl, rfl, rfl, trivial⟩ (x_room (by show 220 + 40 * n + 0 ≤ 200 + 40 * (n + 1); omega) (by show 20200 + 400 * n + 0 ≤ 20000 + 400 * (n + 1); omega) (tail N S M8 (spFeed A (a_scr E (6 * (n : Int) + 1)) (a_scr E (6 * (n : Int) + 2)) (a_scr E (6 * (n : Int) + 3)) (a_scr E (6 * (n : Int) + 4)) (a_scr E (6 * (n : Int) + 5))).2.2 ⟨by omega, hC9, hM9, hO9, RC8, R8, INV.feed hI (a_scr E (6 * (n : Int) + 1)) (a_scr E (6 * (n : Int) + 2)) (a_scr E (6 * (n : Int) + 3)) (a_scr E (6 * (n : Int) + 4)) (a_scr E (6 * (n : Int) + 5))⟩ (by omega)))
  · exfalso; omega
theorem dL_law_791 : decode code 791 = .ok (.aload_n 1, 1) := by decide +kernel
theorem dL_law_792 : decode code 792 = .ok (.aload_n 0, 1) := by decide +kernel
theorem dL_law_793 : decode code 793 = .ok (.iload 4, 2) := by decide +kernel
theorem dL_law_795 : decode code 795 = .ok (.iconst 1, 1) := by decide +kernel
theorem dL_law_796 : decode code 796 = .ok (.iadd, 1) := by decide +kernel
theorem dL_law_797 : decode code 797 = .ok (.iaload, 1) := by decide +kernel
theorem dL_law_798 : decode code 798 = .ok (.aload_n 3, 1) := by decide +kernel
theorem dL_law_799 : decode code 799 = .ok (.invokestatic 172, 3) := by decide +kernel
theorem dL_law_802 : decode code 802 = .ok (.istore 5, 2) := by decide +kernel
theorem dL_law_804 : decode code 804 = .ok (.aload_n 2, 1) := by decide +kernel
theorem dL_law_805 : decode code 805 = .ok (.aload_n 0, 1) := by decide +kernel
theorem dL_law_806 : decode code 806 = .ok (.iload 4, 2) := by decide +kernel
theorem dL_law_808 : decode code 808 = .ok (.iconst 1, 1) := by decide +kernel
theorem dL_law_809 : decode code 809 = .ok (.iadd, 1) := by decide +kernel
theorem dL_law_810 : decode code 810 = .ok (.iaload, 1) := by decide +kernel
theorem dL_law_811 : decode code 811 = .ok (.invokevirtual 174, 3) := by decide +kernel
theorem dL_law_814 : decode code 814 = .ok (.istore 6, 2) := by decide +kernel
theorem dL_law_816 : decode code 816 = .ok (.aload_n 2, 1) := by decide +kernel
theorem dL_law_817 : decode code 817 = .ok (.invokevirtual 142, 3) := by decide +kernel
theorem dL_law_820 : decode code 820 = .ok (.iload 5, 2) := by decide +kernel
theorem dL_law_822 : decode code 822 = .ok (.if_icmp .eq 5, 3) := by decide +kernel
theorem dL_law_825 : decode code 825 = .ok (.iconst 0, 1) := by decide +kernel
theorem dL_law_826 : decode code 826 = .ok (.ireturn, 1) := by decide +kernel
theorem dL_law_827 : decode code 827 = .ok (.iload 5, 2) := by decide +kernel
theorem dL_law_829 : decode code 829 = .ok (.ifCond .ne 15, 3) := by decide +kernel
theorem dL_law_832 : decode code 832 = .ok (.aload_n 3, 1) := by decide +kernel
theorem dL_law_833 : decode code 833 = .ok (.iconst 0, 1) := by decide +kernel
theorem dL_law_834 : decode code 834 = .ok (.laload, 1) := by decide +kernel
theorem dL_law_835 : decode code 835 = .ok (.iload 6, 2) := by decide +kernel
theorem dL_law_837 : decode code 837 = .ok (.i2l, 1) := by decide +kernel
theorem dL_law_838 : decode code 838 = .ok (.lcmp, 1) := by decide +kernel
theorem dL_law_839 : decode code 839 = .ok (.ifCond .eq 5, 3) := by decide +kernel
theorem dL_law_842 : decode code 842 = .ok (.iconst 0, 1) := by decide +kernel
theorem dL_law_843 : decode code 843 = .ok (.ireturn, 1) := by decide +kernel
theorem dL_law_844 : decode code 844 = .ok (.goto 1773, 3) := by decide +kernel
theorem kLH_172 : a_kSH RL 172 pL_text 3 := ⟨(lw_ok_in (List.mem_of_getElem? (i := 825) (by decide +kernel)) rfl), (lw_ok_in (List.mem_of_getElem? (i := 109) (by decide +kernel)) rfl), by decide +kernel, (lw_ok_in (List.mem_of_getElem? (i := 823) (by decide +kernel)) rfl), (lw_ok_in (List.mem_of_getElem? (i := 824) (by decide +kernel)) rfl)⟩
theorem kL_174 : a_kV RL 174 pX12_text 1 := ⟨cbX12_text, (lw_ok_in (List.mem_of_getElem? (i := 1773) (by decide +kernel)) rfl), (lw_ok_in (List.mem_of_getElem? (i := 1774) (by decide +kernel)) rfl), (lw_ok_in (List.mem_of_getElem? (i := 1775) (by decide +kernel)) rfl)⟩
theorem case_text {l : Launch} {E : aE} {hh : List (Nat × Nat × Nat × Nat)} {n N : Nat} {S : aS} {M A : aM} (hfl : l.stackTraces = false) (h42 : E.2.2.2 42 ≤ 3072) (hi : 6 * (n : Int) + 6 ≤ (E.2.2.2 42 : Int)) (hW : LWI N S M A) (hN9 : N ≤ 140 + 15 * n) (tail : lawTail l E hh n) : aX l E (pL_law hh) QL (200 + 40 * n) (20000 + 400 * n) N S M 791 [(0, (2, -43)), (1, (2, 0)), (2, (2, 109)), (3, (2, 139)), (4, (0, 6 * (n : Int)))] [] := by
  obtain ⟨hN0, hC, hS9, hO, hR, hRM, hI⟩ := id hW
  have hM := hS9
  have hn : n ≤ 511 := by omega
  refine x_aload_n (pc := 791) dL_law_791 rfl rfl ?_
  refine x_aload_n (pc := 792) dL_law_792 rfl rfl ?_
  refine x_iload (pc := 793) dL_law_793 rfl ?_
  refine x_iconst (pc := 795) dL_law_795 (by decide) ?_
  refine x_iadd (pc := 796) dL_law_796 (by omega) ?_
  refine x_sld (pc := 797) dL_law_797 ⟨by omega, by omega⟩ ?_
  refine x_aload_n (pc := 798) dL_law_798 rfl rfl ?_
  refine x_callS3H (pc := 799) dL_law_799 kLH_172 (h_text hfl (a_scr E (6 * (n : Int) + 1)) A hW) (a_rmL rfl rfl (by show 200 + 40 * n + 1 ≤ 601024; omega) (by show 20000 + 400 * n + 6 ≤ 7293034; omega)) (Nat.le_of_ble_eq_true rfl) (k_hQ (fun M9 f9 R9 v9 => ?_)) n_hQ
  refine x_room (kc' := 220 + 40 * n) (ks' := 20200 + 400 * n) (by show 200 + 40 * n + 1 ≤ 220 + 40 * n; omega) (by show 20000 + 400 * n + 6 ≤ 20200 + 400 * n; omega) ?_
  have hC9 := hC
  have hM9 := hM
  have hO9 := hO
  have RM9 : RM M9 109 A := hRM.cgo fun a p q i => f9 a i (by omega) (by omega)
  refine x_istore (pc := 802) dL_law_802 (by show _ < 8; decide) rfl ?_
  refine x_aload_n (pc := 804) dL_law_804 rfl rfl ?_
  refine x_aload_n (pc := 805) dL_law_805 rfl rfl ?_
  refine x_iload (pc := 806) dL_law_806 rfl ?_
  refine x_iconst (pc := 808) dL_law_808 (by decide) ?_
  refine x_iadd (pc := 809) dL_law_809 (by omega) ?_
  refine x_sld (pc := 810) dL_law_810 ⟨by omega, by omega⟩ ?_
  refine x_callV1N (pc := 811) dL_law_811 kL_174 (s_Mtext hfl (a_scr E (6 * (n : Int) + 1)) 109 A hM9 RM9 hI.1 hI.2.2.1) hM9.1 rfl (a_rmL rfl rfl (by show 220 + 40 * n + 0 ≤ 601024; omega) (by show 20200 + 400 * n + 0 ≤ 7293034; omega)) (Nat.le_of_ble_eq_true rfl) (k_G (fun v8 M8 hM8 => ?_)) n_GN
  obtain ⟨kd, t8, e8, R8, F8⟩ := hM8
  obtain ⟨k8, w8⟩ := v8
  have kd : k8 = 0 := kd
  subst kd
  have RC8 : RC M8 N S (spText A (a_scr E (6 * (n : Int) + 1))).2.2 := R9.cgo fun a q i => F8 a i (by omega)
  refine x_istore (pc := 814) dL_law_814 (by show _ < 8; decide) rfl ?_
  refine x_aload_n (pc := 816) dL_law_816 rfl rfl ?_
  refine x_callV0N (pc := 817) dL_law_817 kL_142 (s_thrown hfl 109 hM9) hM9.1 rfl (a_rmL rfl rfl (by show 220 + 40 * n + 0 + 0 ≤ 601024; omega) (by show 20200 + 400 * n + 0 + 0 ≤ 7293034; omega)) (Nat.le_of_ble_eq_true rfl) (k_R ?_) n_RN
  rw [t8]
  refine x_iload (pc := 820) dL_law_820 rfl ?_
  refine x_icmp_eq (tgt := 827) (pc := 822) dL_law_822 (by decide) (fun c_822 => ?_) (fun c_822 => ?_)
  · refine x_iload (pc := 827) dL_law_827 rfl ?_
    refine x_if_ne (tgt := 844) (pc := 829) dL_law_829 (by decide) (fun c_829 => ?_) (fun c_829 => ?_)
    · refine x_goto (tgt := 2617) (pc := 844) dL_law_844 (by decide) ?_
      exact x_lo (lo' := [(0, (2, -43)), (1, (2, 0)), (2, (2, 109)), (3, (2, 139)), (4, (0, 6 * (n : Int)))]) ⟨rfl, rfl, rfl, rfl, rfl, trivial⟩ (x_room (by show 220 + 40 * n + 0 + 0 ≤ 200 + 40 * (n + 1); omega) (by show 20200 + 400 * n + 0 + 0 ≤ 20000 + 400 * (n + 1); omega) (tail N S M8 (spText A (a_scr E (6 * (n : Int) + 1))).2.2 ⟨by omega, hC9, hM9, hO9, RC8, R8, INV.text hI (a_scr E (6 * (n : Int) + 1))⟩ (by omega)))
    · have e139 : M8 139 0 = (spText A (a_scr E (6 * (n : Int) + 1))).2.1 := (F8 139 0 (by omega)).trans (v9 c_829)
      have ew : w8 = (spText A (a_scr E (6 * (n : Int) + 1))).2.1 := congrArg Prod.snd (e8 c_829)
      refine x_aload_n (pc := 832) dL_law_832 rfl rfl ?_
      refine x_iconst (pc := 833) dL_law_833 (by decide) ?_
      refine x_laloadV (pc := 834) dL_law_834 hO9 (by omega) (by (repeat (first | rewrite [up_s] | rewrite [up_i (by omega)] | rewrite [up_a (by omega)])); first | exact e139 | rfl) (fun g_834 => ?_)
      refine x_iload (pc := 835) dL_law_835 rfl ?_
      refine x_i2l (pc := 837) dL_law_837 ?_
      refine x_leq (tgt := 844) (pc := 838) dL_law_838 dL_law_839 (by decide) (fun c_838 => ?_) (fun c_838 => ?_)
      · refine x_goto (tgt := 2617) (pc := 844) dL_law_844 (by decide) ?_
        exact x_lo (lo' := [(0, (2, -43)), (1, (2, 0)), (2, (2, 109)), (3, (2, 139)), (4, (0, 6 * (n : Int)))]) ⟨rfl, rfl, rfl, rfl, rfl, trivial⟩ (x_room (by show 220 + 40 * n + 0 + 0 ≤ 200 + 40 * (n + 1); omega) (by show 20200 + 400 * n + 0 + 0 ≤ 20000 + 400 * (n + 1); omega) (tail N S M8 (spText A (a_scr E (6 * (n : Int) + 1))).2.2 ⟨by omega, hC9, hM9, hO9, RC8, R8, INV.text hI (a_scr E (6 * (n : Int) + 1))⟩ (by omega)))
      · exfalso; omega
  · exfalso; omega
theorem dL_law_847 : decode code 847 = .ok (.aload_n 1, 1) := by decide +kernel
theorem dL_law_848 : decode code 848 = .ok (.aload_n 0, 1) := by decide +kernel
theorem dL_law_849 : decode code 849 = .ok (.iload 4, 2) := by decide +kernel
theorem dL_law_851 : decode code 851 = .ok (.iconst 1, 1) := by decide +kernel
theorem dL_law_852 : decode code 852 = .ok (.iadd, 1) := by decide +kernel
theorem dL_law_853 : decode code 853 = .ok (.iaload, 1) := by decide +kernel
theorem dL_law_854 : decode code 854 = .ok (.invokevirtual 175, 3) := by decide +kernel
theorem dL_law_857 : decode code 857 = .ok (.aload_n 2, 1) := by decide +kernel
theorem dL_law_858 : decode code 858 = .ok (.aload_n 0, 1) := by decide +kernel
theorem dL_law_859 : decode code 859 = .ok (.iload 4, 2) := by decide +kernel
theorem dL_law_861 : decode code 861 = .ok (.iconst 1, 1) := by decide +kernel
theorem dL_law_862 : decode code 862 = .ok (.iadd, 1) := by decide +kernel
theorem dL_law_863 : decode code 863 = .ok (.iaload, 1) := by decide +kernel
theorem dL_law_864 : decode code 864 = .ok (.invokevirtual 178, 3) := by decide +kernel
theorem dL_law_867 : decode code 867 = .ok (.if_icmp .eq 1750, 3) := by decide +kernel
theorem dL_law_870 : decode code 870 = .ok (.iconst 0, 1) := by decide +kernel
theorem dL_law_871 : decode code 871 = .ok (.ireturn, 1) := by decide +kernel
theorem kL_175 : a_kV RL 175 pX11_fault 1 := ⟨cbX11_fault, (lw_ok_in (List.mem_of_getElem? (i := 612) (by decide +kernel)) rfl), (lw_ok_in (List.mem_of_getElem? (i := 613) (by decide +kernel)) rfl), (lw_ok_in (List.mem_of_getElem? (i := 614) (by decide +kernel)) rfl)⟩
theorem kL_178 : a_kV RL 178 pX12_fault 1 := ⟨cbX12_fault, (lw_ok_in (List.mem_of_getElem? (i := 1847) (by decide +kernel)) rfl), (lw_ok_in (List.mem_of_getElem? (i := 1848) (by decide +kernel)) rfl), (lw_ok_in (List.mem_of_getElem? (i := 1849) (by decide +kernel)) rfl)⟩
theorem case_fault {l : Launch} {E : aE} {hh : List (Nat × Nat × Nat × Nat)} {n N : Nat} {S : aS} {M A : aM} (hfl : l.stackTraces = false) (h42 : E.2.2.2 42 ≤ 3072) (hi : 6 * (n : Int) + 6 ≤ (E.2.2.2 42 : Int)) (hW : LWI N S M A) (hN9 : N ≤ 140 + 15 * n) (tail : lawTail l E hh n) : aX l E (pL_law hh) QL (200 + 40 * n) (20000 + 400 * n) N S M 847 [(0, (2, -43)), (1, (2, 0)), (2, (2, 109)), (3, (2, 139)), (4, (0, 6 * (n : Int)))] [] := by
  obtain ⟨hN, hC, hS9, hO, hR, hRM, hI⟩ := id hW
  have hM := hS9
  have hn : n ≤ 511 := by omega
  refine x_aload_n (pc := 847) dL_law_847 rfl rfl ?_
  refine x_aload_n (pc := 848) dL_law_848 rfl rfl ?_
  refine x_iload (pc := 849) dL_law_849 rfl ?_
  refine x_iconst (pc := 851) dL_law_851 (by decide) ?_
  refine x_iadd (pc := 852) dL_law_852 (by omega) ?_
  refine x_sld (pc := 853) dL_law_853 ⟨by omega, by omega⟩ ?_
  have h0 : (spFault A (a_scr E (6 * (n : Int) + 1))).1 = 0 := by
    unfold spFault
    (repeat' split) <;> rfl
  refine x_callV1N (pc := 854) dL_law_854 kL_175 (s_Cfault hfl (a_scr E (6 * (n : Int) + 1)) hC A hR hI.1) (sC_0 hC) rfl (a_rmL rfl rfl (by show 200 + 40 * n + 0 ≤ 601024; omega) (by show 20000 + 400 * n + 0 ≤ 7293034; omega)) (Nat.le_of_ble_eq_true rfl) (k_op (fun M9 hz hf R9 => ?_)) (n_opN h0)
  refine x_room (kc' := 220 + 40 * n) (ks' := 20200 + 400 * n) (by show 200 + 40 * n + 0 ≤ 220 + 40 * n; omega) (by show 20000 + 400 * n + 0 ≤ 20200 + 400 * n; omega) ?_
  have hC9 := hC
  have hM9 := hM
  have hO9 := hO
  have RM9 : RM M9 109 A := hRM.cgo fun a p q i => hf a i (by omega) (by omega)
  refine x_aload_n (pc := 857) dL_law_857 rfl rfl ?_
  refine x_aload_n (pc := 858) dL_law_858 rfl rfl ?_
  refine x_iload (pc := 859) dL_law_859 rfl ?_
  refine x_iconst (pc := 861) dL_law_861 (by decide) ?_
  refine x_iadd (pc := 862) dL_law_862 (by omega) ?_
  refine x_sld (pc := 863) dL_law_863 ⟨by omega, by omega⟩ ?_
  refine x_callV1N (pc := 864) dL_law_864 kL_178 (s_Mfault hfl (a_scr E (6 * (n : Int) + 1)) 109 A hM9 RM9 hI.1) hM9.1 rfl (a_rmL rfl rfl (by show 220 + 40 * n + 0 ≤ 601024; omega) (by show 20200 + 400 * n + 0 ≤ 7293034; omega)) (Nat.le_of_ble_eq_true rfl) (k_G (fun v8 M8 hM8 => ?_)) n_GN
  obtain ⟨kd, t8, e8, R8, F8⟩ := hM8
  rw [e8 h0]
  have RC8 : RC M8 N S (spFault A (a_scr E (6 * (n : Int) + 1))).2.2 := R9.cgo fun a q i => F8 a i (by omega)
  refine x_icmp_eq (tgt := 2617) (pc := 867) dL_law_867 (by decide) (fun c_867 => ?_) (fun c_867 => ?_)
  · exact x_lo (lo' := [(0, (2, -43)), (1, (2, 0)), (2, (2, 109)), (3, (2, 139)), (4, (0, 6 * (n : Int)))]) ⟨rfl, rfl, rfl, rfl, rfl, trivial⟩ (x_room (by show 220 + 40 * n + 0 ≤ 200 + 40 * (n + 1); omega) (by show 20200 + 400 * n + 0 ≤ 20000 + 400 * (n + 1); omega) (tail N S M8 (spFault A (a_scr E (6 * (n : Int) + 1))).2.2 ⟨by omega, hC9, hM9, hO9, RC8, R8, INV.fault_ hI (a_scr E (6 * (n : Int) + 1))⟩ (by omega)))
  · exfalso; omega
theorem dL_law_872 : decode code 872 = .ok (.aload_n 1, 1) := by decide +kernel
theorem dL_law_873 : decode code 873 = .ok (.aload_n 0, 1) := by decide +kernel
theorem dL_law_874 : decode code 874 = .ok (.iload 4, 2) := by decide +kernel
theorem dL_law_876 : decode code 876 = .ok (.iconst 1, 1) := by decide +kernel
theorem dL_law_877 : decode code 877 = .ok (.iadd, 1) := by decide +kernel
theorem dL_law_878 : decode code 878 = .ok (.iaload, 1) := by decide +kernel
theorem dL_law_879 : decode code 879 = .ok (.aload_n 3, 1) := by decide +kernel
theorem dL_law_880 : decode code 880 = .ok (.invokestatic 179, 3) := by decide +kernel
theorem dL_law_883 : decode code 883 = .ok (.istore 5, 2) := by decide +kernel
theorem dL_law_885 : decode code 885 = .ok (.aload_n 2, 1) := by decide +kernel
theorem dL_law_886 : decode code 886 = .ok (.aload_n 0, 1) := by decide +kernel
theorem dL_law_887 : decode code 887 = .ok (.iload 4, 2) := by decide +kernel
theorem dL_law_889 : decode code 889 = .ok (.iconst 1, 1) := by decide +kernel
theorem dL_law_890 : decode code 890 = .ok (.iadd, 1) := by decide +kernel
theorem dL_law_891 : decode code 891 = .ok (.iaload, 1) := by decide +kernel
theorem dL_law_892 : decode code 892 = .ok (.invokevirtual 181, 3) := by decide +kernel
theorem dL_law_895 : decode code 895 = .ok (.istore 6, 2) := by decide +kernel
theorem dL_law_897 : decode code 897 = .ok (.aload_n 2, 1) := by decide +kernel
theorem dL_law_898 : decode code 898 = .ok (.invokevirtual 142, 3) := by decide +kernel
theorem dL_law_901 : decode code 901 = .ok (.iload 5, 2) := by decide +kernel
theorem dL_law_903 : decode code 903 = .ok (.if_icmp .eq 5, 3) := by decide +kernel
theorem dL_law_906 : decode code 906 = .ok (.iconst 0, 1) := by decide +kernel
theorem dL_law_907 : decode code 907 = .ok (.ireturn, 1) := by decide +kernel
theorem dL_law_908 : decode code 908 = .ok (.iload 5, 2) := by decide +kernel
theorem dL_law_910 : decode code 910 = .ok (.ifCond .ne 15, 3) := by decide +kernel
theorem dL_law_913 : decode code 913 = .ok (.aload_n 3, 1) := by decide +kernel
theorem dL_law_914 : decode code 914 = .ok (.iconst 0, 1) := by decide +kernel
theorem dL_law_915 : decode code 915 = .ok (.laload, 1) := by decide +kernel
theorem dL_law_916 : decode code 916 = .ok (.iload 6, 2) := by decide +kernel
theorem dL_law_918 : decode code 918 = .ok (.i2l, 1) := by decide +kernel
theorem dL_law_919 : decode code 919 = .ok (.lcmp, 1) := by decide +kernel
theorem dL_law_920 : decode code 920 = .ok (.ifCond .eq 5, 3) := by decide +kernel
theorem dL_law_923 : decode code 923 = .ok (.iconst 0, 1) := by decide +kernel
theorem dL_law_924 : decode code 924 = .ok (.ireturn, 1) := by decide +kernel
theorem dL_law_925 : decode code 925 = .ok (.goto 1692, 3) := by decide +kernel
theorem kLH_179 : a_kSH RL 179 pL_price 3 := ⟨(lw_ok_in (List.mem_of_getElem? (i := 998) (by decide +kernel)) rfl), (lw_ok_in (List.mem_of_getElem? (i := 109) (by decide +kernel)) rfl), by decide +kernel, (lw_ok_in (List.mem_of_getElem? (i := 996) (by decide +kernel)) rfl), (lw_ok_in (List.mem_of_getElem? (i := 997) (by decide +kernel)) rfl)⟩
theorem kL_181 : a_kV RL 181 pX12_price 1 := ⟨cbX12_price, (lw_ok_in (List.mem_of_getElem? (i := 1851) (by decide +kernel)) rfl), (lw_ok_in (List.mem_of_getElem? (i := 1852) (by decide +kernel)) rfl), (lw_ok_in (List.mem_of_getElem? (i := 1853) (by decide +kernel)) rfl)⟩
theorem case_price {l : Launch} {E : aE} {hh : List (Nat × Nat × Nat × Nat)} {n N : Nat} {S : aS} {M A : aM} (hfl : l.stackTraces = false) (h42 : E.2.2.2 42 ≤ 3072) (hi : 6 * (n : Int) + 6 ≤ (E.2.2.2 42 : Int)) (hW : LWI N S M A) (hN9 : N ≤ 140 + 15 * n) (tail : lawTail l E hh n) : aX l E (pL_law hh) QL (200 + 40 * n) (20000 + 400 * n) N S M 872 [(0, (2, -43)), (1, (2, 0)), (2, (2, 109)), (3, (2, 139)), (4, (0, 6 * (n : Int)))] [] := by
  obtain ⟨hN0, hC, hS9, hO, hR, hRM, hI⟩ := id hW
  have hM := hS9
  have hn : n ≤ 511 := by omega
  refine x_aload_n (pc := 872) dL_law_872 rfl rfl ?_
  refine x_aload_n (pc := 873) dL_law_873 rfl rfl ?_
  refine x_iload (pc := 874) dL_law_874 rfl ?_
  refine x_iconst (pc := 876) dL_law_876 (by decide) ?_
  refine x_iadd (pc := 877) dL_law_877 (by omega) ?_
  refine x_sld (pc := 878) dL_law_878 ⟨by omega, by omega⟩ ?_
  refine x_aload_n (pc := 879) dL_law_879 rfl rfl ?_
  refine x_callS3H (pc := 880) dL_law_880 kLH_179 (h_price hfl (a_scr E (6 * (n : Int) + 1)) A hW) (a_rmL rfl rfl (by show 200 + 40 * n + 1 ≤ 601024; omega) (by show 20000 + 400 * n + 6 ≤ 7293034; omega)) (Nat.le_of_ble_eq_true rfl) (k_hQ (fun M9 f9 R9 v9 => ?_)) n_hQ
  refine x_room (kc' := 220 + 40 * n) (ks' := 20200 + 400 * n) (by show 200 + 40 * n + 1 ≤ 220 + 40 * n; omega) (by show 20000 + 400 * n + 6 ≤ 20200 + 400 * n; omega) ?_
  have hC9 := hC
  have hM9 := hM
  have hO9 := hO
  have RM9 : RM M9 109 A := hRM.cgo fun a p q i => f9 a i (by omega) (by omega)
  refine x_istore (pc := 883) dL_law_883 (by show _ < 8; decide) rfl ?_
  refine x_aload_n (pc := 885) dL_law_885 rfl rfl ?_
  refine x_aload_n (pc := 886) dL_law_886 rfl rfl ?_
  refine x_iload (pc := 887) dL_law_887 rfl ?_
  refine x_iconst (pc := 889) dL_law_889 (by decide) ?_
  refine x_iadd (pc := 890) dL_law_890 (by omega) ?_
  refine x_sld (pc := 891) dL_law_891 ⟨by omega, by omega⟩ ?_
  refine x_callV1N (pc := 892) dL_law_892 kL_181 (s_Mprice hfl (a_scr E (6 * (n : Int) + 1)) 109 A hM9 RM9 hI.1) hM9.1 rfl (a_rmL rfl rfl (by show 220 + 40 * n + 0 ≤ 601024; omega) (by show 20200 + 400 * n + 0 ≤ 7293034; omega)) (Nat.le_of_ble_eq_true rfl) (k_G (fun v8 M8 hM8 => ?_)) n_GN
  obtain ⟨kd, t8, e8, R8, F8⟩ := hM8
  obtain ⟨k8, w8⟩ := v8
  have kd : k8 = 0 := kd
  subst kd
  have RC8 : RC M8 N S (spPrice A (a_scr E (6 * (n : Int) + 1))).2.2 := R9.cgo fun a q i => F8 a i (by omega)
  refine x_istore (pc := 895) dL_law_895 (by show _ < 8; decide) rfl ?_
  refine x_aload_n (pc := 897) dL_law_897 rfl rfl ?_
  refine x_callV0N (pc := 898) dL_law_898 kL_142 (s_thrown hfl 109 hM9) hM9.1 rfl (a_rmL rfl rfl (by show 220 + 40 * n + 0 + 0 ≤ 601024; omega) (by show 20200 + 400 * n + 0 + 0 ≤ 7293034; omega)) (Nat.le_of_ble_eq_true rfl) (k_R ?_) n_RN
  rw [t8]
  refine x_iload (pc := 901) dL_law_901 rfl ?_
  refine x_icmp_eq (tgt := 908) (pc := 903) dL_law_903 (by decide) (fun c_903 => ?_) (fun c_903 => ?_)
  · refine x_iload (pc := 908) dL_law_908 rfl ?_
    refine x_if_ne (tgt := 925) (pc := 910) dL_law_910 (by decide) (fun c_910 => ?_) (fun c_910 => ?_)
    · refine x_goto (tgt := 2617) (pc := 925) dL_law_925 (by decide) ?_
      exact x_lo (lo' := [(0, (2, -43)), (1, (2, 0)), (2, (2, 109)), (3, (2, 139)), (4, (0, 6 * (n : Int)))]) ⟨rfl, rfl, rfl, rfl, rfl, trivial⟩ (x_room (by show 220 + 40 * n + 0 + 0 ≤ 200 + 40 * (n + 1); omega) (by show 20200 + 400 * n + 0 + 0 ≤ 20000 + 400 * (n + 1); omega) (tail N S M8 (spPrice A (a_scr E (6 * (n : Int) + 1))).2.2 ⟨by omega, hC9, hM9, hO9, RC8, R8, INV.price_ hI (a_scr E (6 * (n : Int) + 1))⟩ (by omega)))
    · have e139 : M8 139 0 = (spPrice A (a_scr E (6 * (n : Int) + 1))).2.1 := (F8 139 0 (by omega)).trans (v9 c_910)
      have ew : w8 = (spPrice A (a_scr E (6 * (n : Int) + 1))).2.1 := congrArg Prod.snd (e8 c_910)
      refine x_aload_n (pc := 913) dL_law_913 rfl rfl ?_
      refine x_iconst (pc := 914) dL_law_914 (by decide) ?_
      refine x_laloadV (pc := 915) dL_law_915 hO9 (by omega) (by (repeat (first | rewrite [up_s] | rewrite [up_i (by omega)] | rewrite [up_a (by omega)])); first | exact e139 | rfl) (fun g_915 => ?_)
      refine x_iload (pc := 916) dL_law_916 rfl ?_
      refine x_i2l (pc := 918) dL_law_918 ?_
      refine x_leq (tgt := 925) (pc := 919) dL_law_919 dL_law_920 (by decide) (fun c_919 => ?_) (fun c_919 => ?_)
      · refine x_goto (tgt := 2617) (pc := 925) dL_law_925 (by decide) ?_
        exact x_lo (lo' := [(0, (2, -43)), (1, (2, 0)), (2, (2, 109)), (3, (2, 139)), (4, (0, 6 * (n : Int)))]) ⟨rfl, rfl, rfl, rfl, rfl, trivial⟩ (x_room (by show 220 + 40 * n + 0 + 0 ≤ 200 + 40 * (n + 1); omega) (by show 20200 + 400 * n + 0 + 0 ≤ 20000 + 400 * (n + 1); omega) (tail N S M8 (spPrice A (a_scr E (6 * (n : Int) + 1))).2.2 ⟨by omega, hC9, hM9, hO9, RC8, R8, INV.price_ hI (a_scr E (6 * (n : Int) + 1))⟩ (by omega)))
      · exfalso; omega
  · exfalso; omega
theorem dL_law_928 : decode code 928 = .ok (.aload_n 1, 1) := by decide +kernel
theorem dL_law_929 : decode code 929 = .ok (.aload_n 0, 1) := by decide +kernel
theorem dL_law_930 : decode code 930 = .ok (.iload 4, 2) := by decide +kernel
theorem dL_law_932 : decode code 932 = .ok (.iconst 1, 1) := by decide +kernel
theorem dL_law_933 : decode code 933 = .ok (.iadd, 1) := by decide +kernel
theorem dL_law_934 : decode code 934 = .ok (.iaload, 1) := by decide +kernel
theorem dL_law_935 : decode code 935 = .ok (.aload_n 0, 1) := by decide +kernel
theorem dL_law_936 : decode code 936 = .ok (.iload 4, 2) := by decide +kernel
theorem dL_law_938 : decode code 938 = .ok (.iconst 2, 1) := by decide +kernel
theorem dL_law_939 : decode code 939 = .ok (.iadd, 1) := by decide +kernel
theorem dL_law_940 : decode code 940 = .ok (.iaload, 1) := by decide +kernel
theorem dL_law_941 : decode code 941 = .ok (.aload_n 3, 1) := by decide +kernel
theorem dL_law_942 : decode code 942 = .ok (.invokestatic 182, 3) := by decide +kernel
theorem dL_law_945 : decode code 945 = .ok (.istore 5, 2) := by decide +kernel
theorem dL_law_947 : decode code 947 = .ok (.aload_n 2, 1) := by decide +kernel
theorem dL_law_948 : decode code 948 = .ok (.aload_n 0, 1) := by decide +kernel
theorem dL_law_949 : decode code 949 = .ok (.iload 4, 2) := by decide +kernel
theorem dL_law_951 : decode code 951 = .ok (.iconst 1, 1) := by decide +kernel
theorem dL_law_952 : decode code 952 = .ok (.iadd, 1) := by decide +kernel
theorem dL_law_953 : decode code 953 = .ok (.iaload, 1) := by decide +kernel
theorem dL_law_954 : decode code 954 = .ok (.aload_n 0, 1) := by decide +kernel
theorem dL_law_955 : decode code 955 = .ok (.iload 4, 2) := by decide +kernel
theorem dL_law_957 : decode code 957 = .ok (.iconst 2, 1) := by decide +kernel
theorem dL_law_958 : decode code 958 = .ok (.iadd, 1) := by decide +kernel
theorem dL_law_959 : decode code 959 = .ok (.iaload, 1) := by decide +kernel
theorem dL_law_960 : decode code 960 = .ok (.invokevirtual 184, 3) := by decide +kernel
theorem dL_law_963 : decode code 963 = .ok (.istore 6, 2) := by decide +kernel
theorem dL_law_965 : decode code 965 = .ok (.aload_n 2, 1) := by decide +kernel
theorem dL_law_966 : decode code 966 = .ok (.invokevirtual 142, 3) := by decide +kernel
theorem dL_law_969 : decode code 969 = .ok (.iload 5, 2) := by decide +kernel
theorem dL_law_971 : decode code 971 = .ok (.if_icmp .eq 5, 3) := by decide +kernel
theorem dL_law_974 : decode code 974 = .ok (.iconst 0, 1) := by decide +kernel
theorem dL_law_975 : decode code 975 = .ok (.ireturn, 1) := by decide +kernel
theorem dL_law_976 : decode code 976 = .ok (.iload 5, 2) := by decide +kernel
theorem dL_law_978 : decode code 978 = .ok (.ifCond .ne 15, 3) := by decide +kernel
theorem dL_law_981 : decode code 981 = .ok (.aload_n 3, 1) := by decide +kernel
theorem dL_law_982 : decode code 982 = .ok (.iconst 0, 1) := by decide +kernel
theorem dL_law_983 : decode code 983 = .ok (.laload, 1) := by decide +kernel
theorem dL_law_984 : decode code 984 = .ok (.iload 6, 2) := by decide +kernel
theorem dL_law_986 : decode code 986 = .ok (.i2l, 1) := by decide +kernel
theorem dL_law_987 : decode code 987 = .ok (.lcmp, 1) := by decide +kernel
theorem dL_law_988 : decode code 988 = .ok (.ifCond .eq 5, 3) := by decide +kernel
theorem dL_law_991 : decode code 991 = .ok (.iconst 0, 1) := by decide +kernel
theorem dL_law_992 : decode code 992 = .ok (.ireturn, 1) := by decide +kernel
theorem dL_law_993 : decode code 993 = .ok (.goto 1624, 3) := by decide +kernel
theorem kLH_182 : a_kSH RL 182 pL_buys 4 := ⟨(lw_ok_in (List.mem_of_getElem? (i := 1035) (by decide +kernel)) rfl), (lw_ok_in (List.mem_of_getElem? (i := 109) (by decide +kernel)) rfl), by decide +kernel, (lw_ok_in (List.mem_of_getElem? (i := 1033) (by decide +kernel)) rfl), (lw_ok_in (List.mem_of_getElem? (i := 1034) (by decide +kernel)) rfl)⟩
theorem kL_184 : a_kV RL 184 pX12_buys 2 := ⟨cbX12_buys, (lw_ok_in (List.mem_of_getElem? (i := 1867) (by decide +kernel)) rfl), (lw_ok_in (List.mem_of_getElem? (i := 1868) (by decide +kernel)) rfl), (lw_ok_in (List.mem_of_getElem? (i := 1869) (by decide +kernel)) rfl)⟩
theorem case_buys {l : Launch} {E : aE} {hh : List (Nat × Nat × Nat × Nat)} {n N : Nat} {S : aS} {M A : aM} (hfl : l.stackTraces = false) (h42 : E.2.2.2 42 ≤ 3072) (hi : 6 * (n : Int) + 6 ≤ (E.2.2.2 42 : Int)) (hW : LWI N S M A) (hN9 : N ≤ 140 + 15 * n) (tail : lawTail l E hh n) : aX l E (pL_law hh) QL (200 + 40 * n) (20000 + 400 * n) N S M 928 [(0, (2, -43)), (1, (2, 0)), (2, (2, 109)), (3, (2, 139)), (4, (0, 6 * (n : Int)))] [] := by
  obtain ⟨hN0, hC, hS9, hO, hR, hRM, hI⟩ := id hW
  have hM := hS9
  have hn : n ≤ 511 := by omega
  refine x_aload_n (pc := 928) dL_law_928 rfl rfl ?_
  refine x_aload_n (pc := 929) dL_law_929 rfl rfl ?_
  refine x_iload (pc := 930) dL_law_930 rfl ?_
  refine x_iconst (pc := 932) dL_law_932 (by decide) ?_
  refine x_iadd (pc := 933) dL_law_933 (by omega) ?_
  refine x_sld (pc := 934) dL_law_934 ⟨by omega, by omega⟩ ?_
  refine x_aload_n (pc := 935) dL_law_935 rfl rfl ?_
  refine x_iload (pc := 936) dL_law_936 rfl ?_
  refine x_iconst (pc := 938) dL_law_938 (by decide) ?_
  refine x_iadd (pc := 939) dL_law_939 (by omega) ?_
  refine x_sld (pc := 940) dL_law_940 ⟨by omega, by omega⟩ ?_
  refine x_aload_n (pc := 941) dL_law_941 rfl rfl ?_
  refine x_callS4H (pc := 942) dL_law_942 kLH_182 (h_buys hfl (a_scr E (6 * (n : Int) + 1)) (a_scr E (6 * (n : Int) + 2)) A hW) (a_rmL rfl rfl (by show 200 + 40 * n + 2 ≤ 601024; omega) (by show 20000 + 400 * n + 12 ≤ 7293034; omega)) (Nat.le_of_ble_eq_true rfl) (k_hQ (fun M9 f9 R9 v9 => ?_)) n_hQ
  refine x_room (kc' := 220 + 40 * n) (ks' := 20200 + 400 * n) (by show 200 + 40 * n + 2 ≤ 220 + 40 * n; omega) (by show 20000 + 400 * n + 12 ≤ 20200 + 400 * n; omega) ?_
  have hC9 := hC
  have hM9 := hM
  have hO9 := hO
  have RM9 : RM M9 109 A := hRM.cgo fun a p q i => f9 a i (by omega) (by omega)
  refine x_istore (pc := 945) dL_law_945 (by show _ < 8; decide) rfl ?_
  refine x_aload_n (pc := 947) dL_law_947 rfl rfl ?_
  refine x_aload_n (pc := 948) dL_law_948 rfl rfl ?_
  refine x_iload (pc := 949) dL_law_949 rfl ?_
  refine x_iconst (pc := 951) dL_law_951 (by decide) ?_
  refine x_iadd (pc := 952) dL_law_952 (by omega) ?_
  refine x_sld (pc := 953) dL_law_953 ⟨by omega, by omega⟩ ?_
  refine x_aload_n (pc := 954) dL_law_954 rfl rfl ?_
  refine x_iload (pc := 955) dL_law_955 rfl ?_
  refine x_iconst (pc := 957) dL_law_957 (by decide) ?_
  refine x_iadd (pc := 958) dL_law_958 (by omega) ?_
  refine x_sld (pc := 959) dL_law_959 ⟨by omega, by omega⟩ ?_
  refine x_callV2N (pc := 960) dL_law_960 kL_184 (s_Mbuys hfl (a_scr E (6 * (n : Int) + 1)) (a_scr E (6 * (n : Int) + 2)) 109 A hM9 RM9 hI.1) hM9.1 rfl (a_rmL rfl rfl (by show 220 + 40 * n + 0 ≤ 601024; omega) (by show 20200 + 400 * n + 0 ≤ 7293034; omega)) (Nat.le_of_ble_eq_true rfl) (k_G (fun v8 M8 hM8 => ?_)) n_GN
  obtain ⟨kd, t8, e8, R8, F8⟩ := hM8
  obtain ⟨k8, w8⟩ := v8
  have kd : k8 = 0 := kd
  subst kd
  have RC8 : RC M8 N S (spBuys A (a_scr E (6 * (n : Int) + 1)) (a_scr E (6 * (n : Int) + 2))).2.2 := R9.cgo fun a q i => F8 a i (by omega)
  refine x_istore (pc := 963) dL_law_963 (by show _ < 8; decide) rfl ?_
  refine x_aload_n (pc := 965) dL_law_965 rfl rfl ?_
  refine x_callV0N (pc := 966) dL_law_966 kL_142 (s_thrown hfl 109 hM9) hM9.1 rfl (a_rmL rfl rfl (by show 220 + 40 * n + 0 + 0 ≤ 601024; omega) (by show 20200 + 400 * n + 0 + 0 ≤ 7293034; omega)) (Nat.le_of_ble_eq_true rfl) (k_R ?_) n_RN
  rw [t8]
  refine x_iload (pc := 969) dL_law_969 rfl ?_
  refine x_icmp_eq (tgt := 976) (pc := 971) dL_law_971 (by decide) (fun c_971 => ?_) (fun c_971 => ?_)
  · refine x_iload (pc := 976) dL_law_976 rfl ?_
    refine x_if_ne (tgt := 993) (pc := 978) dL_law_978 (by decide) (fun c_978 => ?_) (fun c_978 => ?_)
    · refine x_goto (tgt := 2617) (pc := 993) dL_law_993 (by decide) ?_
      exact x_lo (lo' := [(0, (2, -43)), (1, (2, 0)), (2, (2, 109)), (3, (2, 139)), (4, (0, 6 * (n : Int)))]) ⟨rfl, rfl, rfl, rfl, rfl, trivial⟩ (x_room (by show 220 + 40 * n + 0 + 0 ≤ 200 + 40 * (n + 1); omega) (by show 20200 + 400 * n + 0 + 0 ≤ 20000 + 400 * (n + 1); omega) (tail N S M8 (spBuys A (a_scr E (6 * (n : Int) + 1)) (a_scr E (6 * (n : Int) + 2))).2.2 ⟨by omega, hC9, hM9, hO9, RC8, R8, INV.buys_ hI (a_scr E (6 * (n : Int) + 1)) (a_scr E (6 * (n : Int) + 2))⟩ (by omega)))
    · have e139 : M8 139 0 = (spBuys A (a_scr E (6 * (n : Int) + 1)) (a_scr E (6 * (n : Int) + 2))).2.1 := (F8 139 0 (by omega)).trans (v9 c_978)
      have ew : w8 = (spBuys A (a_scr E (6 * (n : Int) + 1)) (a_scr E (6 * (n : Int) + 2))).2.1 := congrArg Prod.snd (e8 c_978)
      refine x_aload_n (pc := 981) dL_law_981 rfl rfl ?_
      refine x_iconst (pc := 982) dL_law_982 (by decide) ?_
      refine x_laloadV (pc := 983) dL_law_983 hO9 (by omega) (by (repeat (first | rewrite [up_s] | rewrite [up_i (by omega)] | rewrite [up_a (by omega)])); first | exact e139 | rfl) (fun g_983 => ?_)
      refine x_iload (pc := 984) dL_law_984 rfl ?_
      refine x_i2l (pc := 986) dL_law_986 ?_
      refine x_leq (tgt := 993) (pc := 987) dL_law_987 dL_law_988 (by decide) (fun c_987 => ?_) (fun c_987 => ?_)
      · refine x_goto (tgt := 2617) (pc := 993) dL_law_993 (by decide) ?_
        exact x_lo (lo' := [(0, (2, -43)), (1, (2, 0)), (2, (2, 109)), (3, (2, 139)), (4, (0, 6 * (n : Int)))]) ⟨rfl, rfl, rfl, rfl, rfl, trivial⟩ (x_room (by show 220 + 40 * n + 0 + 0 ≤ 200 + 40 * (n + 1); omega) (by show 20200 + 400 * n + 0 + 0 ≤ 20000 + 400 * (n + 1); omega) (tail N S M8 (spBuys A (a_scr E (6 * (n : Int) + 1)) (a_scr E (6 * (n : Int) + 2))).2.2 ⟨by omega, hC9, hM9, hO9, RC8, R8, INV.buys_ hI (a_scr E (6 * (n : Int) + 1)) (a_scr E (6 * (n : Int) + 2))⟩ (by omega)))
      · exfalso; omega
  · exfalso; omega
theorem dL_law_996 : decode code 996 = .ok (.aload_n 1, 1) := by decide +kernel
theorem dL_law_997 : decode code 997 = .ok (.aload_n 0, 1) := by decide +kernel
theorem dL_law_998 : decode code 998 = .ok (.iload 4, 2) := by decide +kernel
theorem dL_law_1000 : decode code 1000 = .ok (.iconst 1, 1) := by decide +kernel
theorem dL_law_1001 : decode code 1001 = .ok (.iadd, 1) := by decide +kernel
theorem dL_law_1002 : decode code 1002 = .ok (.iaload, 1) := by decide +kernel
theorem dL_law_1003 : decode code 1003 = .ok (.aload_n 3, 1) := by decide +kernel
theorem dL_law_1004 : decode code 1004 = .ok (.invokestatic 185, 3) := by decide +kernel
theorem dL_law_1007 : decode code 1007 = .ok (.istore 5, 2) := by decide +kernel
theorem dL_law_1009 : decode code 1009 = .ok (.aload_n 2, 1) := by decide +kernel
theorem dL_law_1010 : decode code 1010 = .ok (.aload_n 0, 1) := by decide +kernel
theorem dL_law_1011 : decode code 1011 = .ok (.iload 4, 2) := by decide +kernel
theorem dL_law_1013 : decode code 1013 = .ok (.iconst 1, 1) := by decide +kernel
theorem dL_law_1014 : decode code 1014 = .ok (.iadd, 1) := by decide +kernel
theorem dL_law_1015 : decode code 1015 = .ok (.iaload, 1) := by decide +kernel
theorem dL_law_1016 : decode code 1016 = .ok (.invokevirtual 187, 3) := by decide +kernel
theorem dL_law_1019 : decode code 1019 = .ok (.istore 6, 2) := by decide +kernel
theorem dL_law_1021 : decode code 1021 = .ok (.aload_n 2, 1) := by decide +kernel
theorem dL_law_1022 : decode code 1022 = .ok (.invokevirtual 142, 3) := by decide +kernel
theorem dL_law_1025 : decode code 1025 = .ok (.iload 5, 2) := by decide +kernel
theorem dL_law_1027 : decode code 1027 = .ok (.if_icmp .eq 5, 3) := by decide +kernel
theorem dL_law_1030 : decode code 1030 = .ok (.iconst 0, 1) := by decide +kernel
theorem dL_law_1031 : decode code 1031 = .ok (.ireturn, 1) := by decide +kernel
theorem dL_law_1032 : decode code 1032 = .ok (.iload 5, 2) := by decide +kernel
theorem dL_law_1034 : decode code 1034 = .ok (.ifCond .ne 15, 3) := by decide +kernel
theorem dL_law_1037 : decode code 1037 = .ok (.aload_n 3, 1) := by decide +kernel
theorem dL_law_1038 : decode code 1038 = .ok (.iconst 0, 1) := by decide +kernel
theorem dL_law_1039 : decode code 1039 = .ok (.laload, 1) := by decide +kernel
theorem dL_law_1040 : decode code 1040 = .ok (.iload 6, 2) := by decide +kernel
theorem dL_law_1042 : decode code 1042 = .ok (.i2l, 1) := by decide +kernel
theorem dL_law_1043 : decode code 1043 = .ok (.lcmp, 1) := by decide +kernel
theorem dL_law_1044 : decode code 1044 = .ok (.ifCond .eq 5, 3) := by decide +kernel
theorem dL_law_1047 : decode code 1047 = .ok (.iconst 0, 1) := by decide +kernel
theorem dL_law_1048 : decode code 1048 = .ok (.ireturn, 1) := by decide +kernel
theorem dL_law_1049 : decode code 1049 = .ok (.goto 1568, 3) := by decide +kernel
theorem kLH_185 : a_kSH RL 185 pL_cost 3 := ⟨(lw_ok_in (List.mem_of_getElem? (i := 1046) (by decide +kernel)) rfl), (lw_ok_in (List.mem_of_getElem? (i := 109) (by decide +kernel)) rfl), by decide +kernel, (lw_ok_in (List.mem_of_getElem? (i := 1044) (by decide +kernel)) rfl), (lw_ok_in (List.mem_of_getElem? (i := 1045) (by decide +kernel)) rfl)⟩
theorem kL_187 : a_kV RL 187 pX12_cost 1 := ⟨cbX12_cost, (lw_ok_in (List.mem_of_getElem? (i := 1875) (by decide +kernel)) rfl), (lw_ok_in (List.mem_of_getElem? (i := 1876) (by decide +kernel)) rfl), (lw_ok_in (List.mem_of_getElem? (i := 1877) (by decide +kernel)) rfl)⟩
theorem case_cost {l : Launch} {E : aE} {hh : List (Nat × Nat × Nat × Nat)} {n N : Nat} {S : aS} {M A : aM} (hfl : l.stackTraces = false) (h42 : E.2.2.2 42 ≤ 3072) (hi : 6 * (n : Int) + 6 ≤ (E.2.2.2 42 : Int)) (hW : LWI N S M A) (hN9 : N ≤ 140 + 15 * n) (tail : lawTail l E hh n) : aX l E (pL_law hh) QL (200 + 40 * n) (20000 + 400 * n) N S M 996 [(0, (2, -43)), (1, (2, 0)), (2, (2, 109)), (3, (2, 139)), (4, (0, 6 * (n : Int)))] [] := by
  obtain ⟨hN0, hC, hS9, hO, hR, hRM, hI⟩ := id hW
  have hM := hS9
  have hn : n ≤ 511 := by omega
  refine x_aload_n (pc := 996) dL_law_996 rfl rfl ?_
  refine x_aload_n (pc := 997) dL_law_997 rfl rfl ?_
  refine x_iload (pc := 998) dL_law_998 rfl ?_
  refine x_iconst (pc := 1000) dL_law_1000 (by decide) ?_
  refine x_iadd (pc := 1001) dL_law_1001 (by omega) ?_
  refine x_sld (pc := 1002) dL_law_1002 ⟨by omega, by omega⟩ ?_
  refine x_aload_n (pc := 1003) dL_law_1003 rfl rfl ?_
  refine x_callS3H (pc := 1004) dL_law_1004 kLH_185 (h_cost hfl (a_scr E (6 * (n : Int) + 1)) A hW) (a_rmL rfl rfl (by show 200 + 40 * n + 1 ≤ 601024; omega) (by show 20000 + 400 * n + 6 ≤ 7293034; omega)) (Nat.le_of_ble_eq_true rfl) (k_hQ (fun M9 f9 R9 v9 => ?_)) n_hQ
  refine x_room (kc' := 220 + 40 * n) (ks' := 20200 + 400 * n) (by show 200 + 40 * n + 1 ≤ 220 + 40 * n; omega) (by show 20000 + 400 * n + 6 ≤ 20200 + 400 * n; omega) ?_
  have hC9 := hC
  have hM9 := hM
  have hO9 := hO
  have RM9 : RM M9 109 A := hRM.cgo fun a p q i => f9 a i (by omega) (by omega)
  refine x_istore (pc := 1007) dL_law_1007 (by show _ < 8; decide) rfl ?_
  refine x_aload_n (pc := 1009) dL_law_1009 rfl rfl ?_
  refine x_aload_n (pc := 1010) dL_law_1010 rfl rfl ?_
  refine x_iload (pc := 1011) dL_law_1011 rfl ?_
  refine x_iconst (pc := 1013) dL_law_1013 (by decide) ?_
  refine x_iadd (pc := 1014) dL_law_1014 (by omega) ?_
  refine x_sld (pc := 1015) dL_law_1015 ⟨by omega, by omega⟩ ?_
  refine x_callV1N (pc := 1016) dL_law_1016 kL_187 (s_Mcost hfl (a_scr E (6 * (n : Int) + 1)) 109 A hM9 RM9 hI.1) hM9.1 rfl (a_rmL rfl rfl (by show 220 + 40 * n + 0 ≤ 601024; omega) (by show 20200 + 400 * n + 0 ≤ 7293034; omega)) (Nat.le_of_ble_eq_true rfl) (k_G (fun v8 M8 hM8 => ?_)) n_GN
  obtain ⟨kd, t8, e8, R8, F8⟩ := hM8
  obtain ⟨k8, w8⟩ := v8
  have kd : k8 = 0 := kd
  subst kd
  have RC8 : RC M8 N S (spCost A (a_scr E (6 * (n : Int) + 1))).2.2 := R9.cgo fun a q i => F8 a i (by omega)
  refine x_istore (pc := 1019) dL_law_1019 (by show _ < 8; decide) rfl ?_
  refine x_aload_n (pc := 1021) dL_law_1021 rfl rfl ?_
  refine x_callV0N (pc := 1022) dL_law_1022 kL_142 (s_thrown hfl 109 hM9) hM9.1 rfl (a_rmL rfl rfl (by show 220 + 40 * n + 0 + 0 ≤ 601024; omega) (by show 20200 + 400 * n + 0 + 0 ≤ 7293034; omega)) (Nat.le_of_ble_eq_true rfl) (k_R ?_) n_RN
  rw [t8]
  refine x_iload (pc := 1025) dL_law_1025 rfl ?_
  refine x_icmp_eq (tgt := 1032) (pc := 1027) dL_law_1027 (by decide) (fun c_1027 => ?_) (fun c_1027 => ?_)
  · refine x_iload (pc := 1032) dL_law_1032 rfl ?_
    refine x_if_ne (tgt := 1049) (pc := 1034) dL_law_1034 (by decide) (fun c_1034 => ?_) (fun c_1034 => ?_)
    · refine x_goto (tgt := 2617) (pc := 1049) dL_law_1049 (by decide) ?_
      exact x_lo (lo' := [(0, (2, -43)), (1, (2, 0)), (2, (2, 109)), (3, (2, 139)), (4, (0, 6 * (n : Int)))]) ⟨rfl, rfl, rfl, rfl, rfl, trivial⟩ (x_room (by show 220 + 40 * n + 0 + 0 ≤ 200 + 40 * (n + 1); omega) (by show 20200 + 400 * n + 0 + 0 ≤ 20000 + 400 * (n + 1); omega) (tail N S M8 (spCost A (a_scr E (6 * (n : Int) + 1))).2.2 ⟨by omega, hC9, hM9, hO9, RC8, R8, INV.cost_ hI (a_scr E (6 * (n : Int) + 1))⟩ (by omega)))
    · have e139 : M8 139 0 = (spCost A (a_scr E (6 * (n : Int) + 1))).2.1 := (F8 139 0 (by omega)).trans (v9 c_1034)
      have ew : w8 = (spCost A (a_scr E (6 * (n : Int) + 1))).2.1 := congrArg Prod.snd (e8 c_1034)
      refine x_aload_n (pc := 1037) dL_law_1037 rfl rfl ?_
      refine x_iconst (pc := 1038) dL_law_1038 (by decide) ?_
      refine x_laloadV (pc := 1039) dL_law_1039 hO9 (by omega) (by (repeat (first | rewrite [up_s] | rewrite [up_i (by omega)] | rewrite [up_a (by omega)])); first | exact e139 | rfl) (fun g_1039 => ?_)
      refine x_iload (pc := 1040) dL_law_1040 rfl ?_
      refine x_i2l (pc := 1042) dL_law_1042 ?_
      refine x_leq (tgt := 1049) (pc := 1043) dL_law_1043 dL_law_1044 (by decide) (fun c_1043 => ?_) (fun c_1043 => ?_)
      · refine x_goto (tgt := 2617) (pc := 1049) dL_law_1049 (by decide) ?_
        exact x_lo (lo' := [(0, (2, -43)), (1, (2, 0)), (2, (2, 109)), (3, (2, 139)), (4, (0, 6 * (n : Int)))]) ⟨rfl, rfl, rfl, rfl, rfl, trivial⟩ (x_room (by show 220 + 40 * n + 0 + 0 ≤ 200 + 40 * (n + 1); omega) (by show 20200 + 400 * n + 0 + 0 ≤ 20000 + 400 * (n + 1); omega) (tail N S M8 (spCost A (a_scr E (6 * (n : Int) + 1))).2.2 ⟨by omega, hC9, hM9, hO9, RC8, R8, INV.cost_ hI (a_scr E (6 * (n : Int) + 1))⟩ (by omega)))
      · exfalso; omega
  · exfalso; omega
