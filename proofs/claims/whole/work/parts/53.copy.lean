/-! copies, fills, restore -/
theorem dX8_copyFrom_0 : decode cX8_copyFrom 0 = .ok (.aload_n 0, 1) := by decide +kernel
theorem dX8_copyFrom_1 : decode cX8_copyFrom 1 = .ok (.aload_n 1, 1) := by decide +kernel
theorem dX8_copyFrom_2 : decode cX8_copyFrom 2 = .ok (.getfield 31, 3) := by decide +kernel
theorem dX8_copyFrom_5 : decode cX8_copyFrom 5 = .ok (.putfield 31, 3) := by decide +kernel
theorem dX8_copyFrom_8 : decode cX8_copyFrom 8 = .ok (.aload_n 0, 1) := by decide +kernel
theorem dX8_copyFrom_9 : decode cX8_copyFrom 9 = .ok (.aload_n 1, 1) := by decide +kernel
theorem dX8_copyFrom_10 : decode cX8_copyFrom 10 = .ok (.getfield 35, 3) := by decide +kernel
theorem dX8_copyFrom_13 : decode cX8_copyFrom 13 = .ok (.putfield 35, 3) := by decide +kernel
theorem dX8_copyFrom_16 : decode cX8_copyFrom 16 = .ok (.aload_n 1, 1) := by decide +kernel
theorem dX8_copyFrom_17 : decode cX8_copyFrom 17 = .ok (.getfield 11, 3) := by decide +kernel
theorem dX8_copyFrom_20 : decode cX8_copyFrom 20 = .ok (.iconst 0, 1) := by decide +kernel
theorem dX8_copyFrom_21 : decode cX8_copyFrom 21 = .ok (.aload_n 0, 1) := by decide +kernel
theorem dX8_copyFrom_22 : decode cX8_copyFrom 22 = .ok (.getfield 11, 3) := by decide +kernel
theorem dX8_copyFrom_25 : decode cX8_copyFrom 25 = .ok (.iconst 0, 1) := by decide +kernel
theorem dX8_copyFrom_26 : decode cX8_copyFrom 26 = .ok (.bipush 6, 2) := by decide +kernel
theorem dX8_copyFrom_28 : decode cX8_copyFrom 28 = .ok (.invokestatic 59, 3) := by decide +kernel
theorem dX8_copyFrom_31 : decode cX8_copyFrom 31 = .ok (.aload_n 1, 1) := by decide +kernel
theorem dX8_copyFrom_32 : decode cX8_copyFrom 32 = .ok (.getfield 15, 3) := by decide +kernel
theorem dX8_copyFrom_35 : decode cX8_copyFrom 35 = .ok (.iconst 0, 1) := by decide +kernel
theorem dX8_copyFrom_36 : decode cX8_copyFrom 36 = .ok (.aload_n 0, 1) := by decide +kernel
theorem dX8_copyFrom_37 : decode cX8_copyFrom 37 = .ok (.getfield 15, 3) := by decide +kernel
theorem dX8_copyFrom_40 : decode cX8_copyFrom 40 = .ok (.iconst 0, 1) := by decide +kernel
theorem dX8_copyFrom_41 : decode cX8_copyFrom 41 = .ok (.bipush 6, 2) := by decide +kernel
theorem dX8_copyFrom_43 : decode cX8_copyFrom 43 = .ok (.invokestatic 59, 3) := by decide +kernel
theorem dX8_copyFrom_46 : decode cX8_copyFrom 46 = .ok (.aload_n 0, 1) := by decide +kernel
theorem dX8_copyFrom_47 : decode cX8_copyFrom 47 = .ok (.aload_n 1, 1) := by decide +kernel
theorem dX8_copyFrom_48 : decode cX8_copyFrom 48 = .ok (.getfield 38, 3) := by decide +kernel
theorem dX8_copyFrom_51 : decode cX8_copyFrom 51 = .ok (.putfield 38, 3) := by decide +kernel
theorem dX8_copyFrom_54 : decode cX8_copyFrom 54 = .ok (.aload_n 1, 1) := by decide +kernel
theorem dX8_copyFrom_55 : decode cX8_copyFrom 55 = .ok (.getfield 18, 3) := by decide +kernel
theorem dX8_copyFrom_58 : decode cX8_copyFrom 58 = .ok (.iconst 0, 1) := by decide +kernel
theorem dX8_copyFrom_59 : decode cX8_copyFrom 59 = .ok (.aload_n 0, 1) := by decide +kernel
theorem dX8_copyFrom_60 : decode cX8_copyFrom 60 = .ok (.getfield 18, 3) := by decide +kernel
theorem dX8_copyFrom_63 : decode cX8_copyFrom 63 = .ok (.iconst 0, 1) := by decide +kernel
theorem dX8_copyFrom_64 : decode cX8_copyFrom 64 = .ok (.iconst 4, 1) := by decide +kernel
theorem dX8_copyFrom_65 : decode cX8_copyFrom 65 = .ok (.invokestatic 59, 3) := by decide +kernel
theorem dX8_copyFrom_68 : decode cX8_copyFrom 68 = .ok (.aload_n 1, 1) := by decide +kernel
theorem dX8_copyFrom_69 : decode cX8_copyFrom 69 = .ok (.getfield 21, 3) := by decide +kernel
theorem dX8_copyFrom_72 : decode cX8_copyFrom 72 = .ok (.iconst 0, 1) := by decide +kernel
theorem dX8_copyFrom_73 : decode cX8_copyFrom 73 = .ok (.aload_n 0, 1) := by decide +kernel
theorem dX8_copyFrom_74 : decode cX8_copyFrom 74 = .ok (.getfield 21, 3) := by decide +kernel
theorem dX8_copyFrom_77 : decode cX8_copyFrom 77 = .ok (.iconst 0, 1) := by decide +kernel
theorem dX8_copyFrom_78 : decode cX8_copyFrom 78 = .ok (.iconst 4, 1) := by decide +kernel
theorem dX8_copyFrom_79 : decode cX8_copyFrom 79 = .ok (.invokestatic 59, 3) := by decide +kernel
theorem dX8_copyFrom_82 : decode cX8_copyFrom 82 = .ok (.aload_n 0, 1) := by decide +kernel
theorem dX8_copyFrom_83 : decode cX8_copyFrom 83 = .ok (.aload_n 1, 1) := by decide +kernel
theorem dX8_copyFrom_84 : decode cX8_copyFrom 84 = .ok (.getfield 41, 3) := by decide +kernel
theorem dX8_copyFrom_87 : decode cX8_copyFrom 87 = .ok (.putfield 41, 3) := by decide +kernel
theorem dX8_copyFrom_90 : decode cX8_copyFrom 90 = .ok (.aload_n 0, 1) := by decide +kernel
theorem dX8_copyFrom_91 : decode cX8_copyFrom 91 = .ok (.aload_n 1, 1) := by decide +kernel
theorem dX8_copyFrom_92 : decode cX8_copyFrom 92 = .ok (.getfield 44, 3) := by decide +kernel
theorem dX8_copyFrom_95 : decode cX8_copyFrom 95 = .ok (.putfield 44, 3) := by decide +kernel
theorem dX8_copyFrom_98 : decode cX8_copyFrom 98 = .ok (.aload_n 0, 1) := by decide +kernel
theorem dX8_copyFrom_99 : decode cX8_copyFrom 99 = .ok (.aload_n 1, 1) := by decide +kernel
theorem dX8_copyFrom_100 : decode cX8_copyFrom 100 = .ok (.getfield 24, 3) := by decide +kernel
theorem dX8_copyFrom_103 : decode cX8_copyFrom 103 = .ok (.putfield 24, 3) := by decide +kernel
theorem dX8_copyFrom_106 : decode cX8_copyFrom 106 = .ok (.aload_n 1, 1) := by decide +kernel
theorem dX8_copyFrom_107 : decode cX8_copyFrom 107 = .ok (.getfield 28, 3) := by decide +kernel
theorem dX8_copyFrom_110 : decode cX8_copyFrom 110 = .ok (.iconst 0, 1) := by decide +kernel
theorem dX8_copyFrom_111 : decode cX8_copyFrom 111 = .ok (.aload_n 0, 1) := by decide +kernel
theorem dX8_copyFrom_112 : decode cX8_copyFrom 112 = .ok (.getfield 28, 3) := by decide +kernel
theorem dX8_copyFrom_115 : decode cX8_copyFrom 115 = .ok (.iconst 0, 1) := by decide +kernel
theorem dX8_copyFrom_116 : decode cX8_copyFrom 116 = .ok (.bipush 6, 2) := by decide +kernel
theorem dX8_copyFrom_118 : decode cX8_copyFrom 118 = .ok (.invokestatic 59, 3) := by decide +kernel
theorem dX8_copyFrom_121 : decode cX8_copyFrom 121 = .ok (.aload_n 0, 1) := by decide +kernel
theorem dX8_copyFrom_122 : decode cX8_copyFrom 122 = .ok (.aload_n 1, 1) := by decide +kernel
theorem dX8_copyFrom_123 : decode cX8_copyFrom 123 = .ok (.getfield 53, 3) := by decide +kernel
theorem dX8_copyFrom_126 : decode cX8_copyFrom 126 = .ok (.putfield 53, 3) := by decide +kernel
theorem dX8_copyFrom_129 : decode cX8_copyFrom 129 = .ok (.aload_n 0, 1) := by decide +kernel
theorem dX8_copyFrom_130 : decode cX8_copyFrom 130 = .ok (.aload_n 1, 1) := by decide +kernel
theorem dX8_copyFrom_131 : decode cX8_copyFrom 131 = .ok (.getfield 56, 3) := by decide +kernel
theorem dX8_copyFrom_134 : decode cX8_copyFrom 134 = .ok (.putfield 56, 3) := by decide +kernel
theorem dX8_copyFrom_137 : decode cX8_copyFrom 137 = .ok (.return_, 1) := by decide +kernel
theorem dX7_copyFrom_0 : decode cX7_copyFrom 0 = .ok (.aload_n 0, 1) := by decide +kernel
theorem dX7_copyFrom_1 : decode cX7_copyFrom 1 = .ok (.getfield 12, 3) := by decide +kernel
theorem dX7_copyFrom_4 : decode cX7_copyFrom 4 = .ok (.aload_n 1, 1) := by decide +kernel
theorem dX7_copyFrom_5 : decode cX7_copyFrom 5 = .ok (.getfield 12, 3) := by decide +kernel
theorem dX7_copyFrom_8 : decode cX7_copyFrom 8 = .ok (.invokevirtual 47, 3) := by decide +kernel
theorem dX7_copyFrom_11 : decode cX7_copyFrom 11 = .ok (.aload_n 0, 1) := by decide +kernel
theorem dX7_copyFrom_12 : decode cX7_copyFrom 12 = .ok (.aload_n 1, 1) := by decide +kernel
theorem dX7_copyFrom_13 : decode cX7_copyFrom 13 = .ok (.getfield 51, 3) := by decide +kernel
theorem dX7_copyFrom_16 : decode cX7_copyFrom 16 = .ok (.putfield 51, 3) := by decide +kernel
theorem dX7_copyFrom_19 : decode cX7_copyFrom 19 = .ok (.aload_n 1, 1) := by decide +kernel
theorem dX7_copyFrom_20 : decode cX7_copyFrom 20 = .ok (.getfield 18, 3) := by decide +kernel
theorem dX7_copyFrom_23 : decode cX7_copyFrom 23 = .ok (.iconst 0, 1) := by decide +kernel
theorem dX7_copyFrom_24 : decode cX7_copyFrom 24 = .ok (.aload_n 0, 1) := by decide +kernel
theorem dX7_copyFrom_25 : decode cX7_copyFrom 25 = .ok (.getfield 18, 3) := by decide +kernel
theorem dX7_copyFrom_28 : decode cX7_copyFrom 28 = .ok (.iconst 0, 1) := by decide +kernel
theorem dX7_copyFrom_29 : decode cX7_copyFrom 29 = .ok (.bipush 7, 2) := by decide +kernel
theorem dX7_copyFrom_31 : decode cX7_copyFrom 31 = .ok (.invokestatic 54, 3) := by decide +kernel
theorem dX7_copyFrom_34 : decode cX7_copyFrom 34 = .ok (.aload_n 1, 1) := by decide +kernel
theorem dX7_copyFrom_35 : decode cX7_copyFrom 35 = .ok (.getfield 22, 3) := by decide +kernel
theorem dX7_copyFrom_38 : decode cX7_copyFrom 38 = .ok (.iconst 0, 1) := by decide +kernel
theorem dX7_copyFrom_39 : decode cX7_copyFrom 39 = .ok (.aload_n 0, 1) := by decide +kernel
theorem dX7_copyFrom_40 : decode cX7_copyFrom 40 = .ok (.getfield 22, 3) := by decide +kernel
theorem dX7_copyFrom_43 : decode cX7_copyFrom 43 = .ok (.iconst 0, 1) := by decide +kernel
theorem dX7_copyFrom_44 : decode cX7_copyFrom 44 = .ok (.bipush 42, 2) := by decide +kernel
theorem dX7_copyFrom_46 : decode cX7_copyFrom 46 = .ok (.invokestatic 54, 3) := by decide +kernel
theorem dX7_copyFrom_49 : decode cX7_copyFrom 49 = .ok (.aload_n 1, 1) := by decide +kernel
theorem dX7_copyFrom_50 : decode cX7_copyFrom 50 = .ok (.getfield 25, 3) := by decide +kernel
theorem dX7_copyFrom_53 : decode cX7_copyFrom 53 = .ok (.iconst 0, 1) := by decide +kernel
theorem dX7_copyFrom_54 : decode cX7_copyFrom 54 = .ok (.aload_n 0, 1) := by decide +kernel
theorem dX7_copyFrom_55 : decode cX7_copyFrom 55 = .ok (.getfield 25, 3) := by decide +kernel
theorem dX7_copyFrom_58 : decode cX7_copyFrom 58 = .ok (.iconst 0, 1) := by decide +kernel
theorem dX7_copyFrom_59 : decode cX7_copyFrom 59 = .ok (.bipush 7, 2) := by decide +kernel
theorem dX7_copyFrom_61 : decode cX7_copyFrom 61 = .ok (.invokestatic 54, 3) := by decide +kernel
theorem dX7_copyFrom_64 : decode cX7_copyFrom 64 = .ok (.aload_n 1, 1) := by decide +kernel
theorem dX7_copyFrom_65 : decode cX7_copyFrom 65 = .ok (.getfield 28, 3) := by decide +kernel
theorem dX7_copyFrom_68 : decode cX7_copyFrom 68 = .ok (.iconst 0, 1) := by decide +kernel
theorem dX7_copyFrom_69 : decode cX7_copyFrom 69 = .ok (.aload_n 0, 1) := by decide +kernel
theorem dX7_copyFrom_70 : decode cX7_copyFrom 70 = .ok (.getfield 28, 3) := by decide +kernel
theorem dX7_copyFrom_73 : decode cX7_copyFrom 73 = .ok (.iconst 0, 1) := by decide +kernel
theorem dX7_copyFrom_74 : decode cX7_copyFrom 74 = .ok (.bipush 7, 2) := by decide +kernel
theorem dX7_copyFrom_76 : decode cX7_copyFrom 76 = .ok (.invokestatic 54, 3) := by decide +kernel
theorem dX7_copyFrom_79 : decode cX7_copyFrom 79 = .ok (.aload_n 1, 1) := by decide +kernel
theorem dX7_copyFrom_80 : decode cX7_copyFrom 80 = .ok (.getfield 31, 3) := by decide +kernel
theorem dX7_copyFrom_83 : decode cX7_copyFrom 83 = .ok (.iconst 0, 1) := by decide +kernel
theorem dX7_copyFrom_84 : decode cX7_copyFrom 84 = .ok (.aload_n 0, 1) := by decide +kernel
theorem dX7_copyFrom_85 : decode cX7_copyFrom 85 = .ok (.getfield 31, 3) := by decide +kernel
theorem dX7_copyFrom_88 : decode cX7_copyFrom 88 = .ok (.iconst 0, 1) := by decide +kernel
theorem dX7_copyFrom_89 : decode cX7_copyFrom 89 = .ok (.bipush 7, 2) := by decide +kernel
theorem dX7_copyFrom_91 : decode cX7_copyFrom 91 = .ok (.invokestatic 54, 3) := by decide +kernel
theorem dX7_copyFrom_94 : decode cX7_copyFrom 94 = .ok (.aload_n 0, 1) := by decide +kernel
theorem dX7_copyFrom_95 : decode cX7_copyFrom 95 = .ok (.aload_n 1, 1) := by decide +kernel
theorem dX7_copyFrom_96 : decode cX7_copyFrom 96 = .ok (.getfield 34, 3) := by decide +kernel
theorem dX7_copyFrom_99 : decode cX7_copyFrom 99 = .ok (.putfield 34, 3) := by decide +kernel
theorem dX7_copyFrom_102 : decode cX7_copyFrom 102 = .ok (.aload_n 1, 1) := by decide +kernel
theorem dX7_copyFrom_103 : decode cX7_copyFrom 103 = .ok (.getfield 38, 3) := by decide +kernel
theorem dX7_copyFrom_106 : decode cX7_copyFrom 106 = .ok (.iconst 0, 1) := by decide +kernel
theorem dX7_copyFrom_107 : decode cX7_copyFrom 107 = .ok (.aload_n 0, 1) := by decide +kernel
theorem dX7_copyFrom_108 : decode cX7_copyFrom 108 = .ok (.getfield 38, 3) := by decide +kernel
theorem dX7_copyFrom_111 : decode cX7_copyFrom 111 = .ok (.iconst 0, 1) := by decide +kernel
theorem dX7_copyFrom_112 : decode cX7_copyFrom 112 = .ok (.bipush 7, 2) := by decide +kernel
theorem dX7_copyFrom_114 : decode cX7_copyFrom 114 = .ok (.invokestatic 54, 3) := by decide +kernel
theorem dX7_copyFrom_117 : decode cX7_copyFrom 117 = .ok (.aload_n 1, 1) := by decide +kernel
theorem dX7_copyFrom_118 : decode cX7_copyFrom 118 = .ok (.getfield 41, 3) := by decide +kernel
theorem dX7_copyFrom_121 : decode cX7_copyFrom 121 = .ok (.iconst 0, 1) := by decide +kernel
theorem dX7_copyFrom_122 : decode cX7_copyFrom 122 = .ok (.aload_n 0, 1) := by decide +kernel
theorem dX7_copyFrom_123 : decode cX7_copyFrom 123 = .ok (.getfield 41, 3) := by decide +kernel
theorem dX7_copyFrom_126 : decode cX7_copyFrom 126 = .ok (.iconst 0, 1) := by decide +kernel
theorem dX7_copyFrom_127 : decode cX7_copyFrom 127 = .ok (.bipush 28, 2) := by decide +kernel
theorem dX7_copyFrom_129 : decode cX7_copyFrom 129 = .ok (.invokestatic 54, 3) := by decide +kernel
theorem dX7_copyFrom_132 : decode cX7_copyFrom 132 = .ok (.aload_n 1, 1) := by decide +kernel
theorem dX7_copyFrom_133 : decode cX7_copyFrom 133 = .ok (.getfield 44, 3) := by decide +kernel
theorem dX7_copyFrom_136 : decode cX7_copyFrom 136 = .ok (.iconst 0, 1) := by decide +kernel
theorem dX7_copyFrom_137 : decode cX7_copyFrom 137 = .ok (.aload_n 0, 1) := by decide +kernel
theorem dX7_copyFrom_138 : decode cX7_copyFrom 138 = .ok (.getfield 44, 3) := by decide +kernel
theorem dX7_copyFrom_141 : decode cX7_copyFrom 141 = .ok (.iconst 0, 1) := by decide +kernel
theorem dX7_copyFrom_142 : decode cX7_copyFrom 142 = .ok (.bipush 28, 2) := by decide +kernel
theorem dX7_copyFrom_144 : decode cX7_copyFrom 144 = .ok (.invokestatic 54, 3) := by decide +kernel
theorem dX7_copyFrom_147 : decode cX7_copyFrom 147 = .ok (.return_, 1) := by decide +kernel
theorem dX11_restore_0 : decode cX11_restore 0 = .ok (.aload_n 0, 1) := by decide +kernel
theorem dX11_restore_1 : decode cX11_restore 1 = .ok (.iload_n 1, 1) := by decide +kernel
theorem dX11_restore_2 : decode cX11_restore 2 = .ok (.invokevirtual 347, 3) := by decide +kernel
theorem dX11_restore_5 : decode cX11_restore 5 = .ok (.aload_n 0, 1) := by decide +kernel
theorem dX11_restore_6 : decode cX11_restore 6 = .ok (.getfield 16, 3) := by decide +kernel
theorem dX11_restore_9 : decode cX11_restore 9 = .ok (.iload_n 1, 1) := by decide +kernel
theorem dX11_restore_10 : decode cX11_restore 10 = .ok (.aaload, 1) := by decide +kernel
theorem dX11_restore_11 : decode cX11_restore 11 = .ok (.ifnonnull 11, 3) := by decide +kernel
theorem dX11_restore_14 : decode cX11_restore 14 = .ok (.new 352, 3) := by decide +kernel
theorem dX11_restore_17 : decode cX11_restore 17 = .ok (.dup, 1) := by decide +kernel
theorem dX11_restore_18 : decode cX11_restore 18 = .ok (.invokespecial 354, 3) := by decide +kernel
theorem dX11_restore_21 : decode cX11_restore 21 = .ok (.athrow, 1) := by decide +kernel
theorem dX11_restore_22 : decode cX11_restore 22 = .ok (.aload_n 0, 1) := by decide +kernel
theorem dX11_restore_23 : decode cX11_restore 23 = .ok (.getfield 10, 3) := by decide +kernel
theorem dX11_restore_26 : decode cX11_restore 26 = .ok (.aload_n 0, 1) := by decide +kernel
theorem dX11_restore_27 : decode cX11_restore 27 = .ok (.getfield 16, 3) := by decide +kernel
theorem dX11_restore_30 : decode cX11_restore 30 = .ok (.iload_n 1, 1) := by decide +kernel
theorem dX11_restore_31 : decode cX11_restore 31 = .ok (.aaload, 1) := by decide +kernel
theorem dX11_restore_32 : decode cX11_restore 32 = .ok (.invokevirtual 350, 3) := by decide +kernel
theorem dX11_restore_35 : decode cX11_restore 35 = .ok (.aload_n 0, 1) := by decide +kernel
theorem dX11_restore_36 : decode cX11_restore 36 = .ok (.invokevirtual 163, 3) := by decide +kernel
theorem dX11_restore_39 : decode cX11_restore 39 = .ok (.return_, 1) := by decide +kernel
theorem cpy_a {M : aM} {a0 a1 n b j : Int} (h : b ≠ a1) : cpy M a0 a1 n b j = M b j := if_neg fun q => h q.1
theorem cpy_s {M : aM} {a0 a1 n j : Int} (h : 0 ≤ j ∧ j < n) : cpy M a0 a1 n a1 j = M a0 j := if_pos ⟨rfl, h.1, h.2⟩
def flM (M : aM) (a v n : Int) : aM := fun b j => if b = a ∧ 0 ≤ j ∧ j < n then v else M b j
theorem flM_a {M : aM} {a v n b j : Int} (h : b ≠ a) : flM M a v n b j = M b j := if_neg fun q => h q.1
theorem flM_s {M : aM} {a v n j : Int} (h : 0 ≤ j ∧ j < n) : flM M a v n a j = v := if_pos ⟨rfl, h.1, h.2⟩
theorem s_fill {l : Launch} {E : aE} {N : Nat} {S : aS} {M : aM} (hfl : l.stackTraces = false) (a v n : Int) (r : Int → Int) (hS : S a = (13, n, r)) (hn : 0 ≤ n ∧ n ≤ 2147483647) : aMt l E pJ7_fill_53178 [(2, a), (0, v)] N S M (aU N S (fun M' => M' = flM M a v n)) := by
  refine a_met hfl rfl (by decide +kernel) (Nat.le_of_ble_eq_true rfl) ?_
  refine x_iconst (pc := 0) dJ7_fill_53178_0 (by decide) ?_
  refine x_istore_n (pc := 1) dJ7_fill_53178_1 rfl (by decide) rfl ?_
  refine x_aload_n (pc := 2) dJ7_fill_53178_2 rfl rfl ?_
  refine x_alen (pc := 3) dJ7_fill_53178_3 hS (by decide) (by first | decide | omega) ?_
  refine x_istore_n (pc := 4) dJ7_fill_53178_4 rfl (by decide) rfl ?_
  have loop := a_loop2 (fun i M1 => 0 ≤ i ∧ i ≤ n ∧ M1 = flM M a v i) (fun i _ => (n - i).toNat) (fun i M1 => aX l E pJ7_fill_53178 (aU N S (fun M' => M' = flM M a v n)) 0 0 N S M1 5 [(0, (2, a)), (1, (0, v)), (2, (0, i)), (3, (0, n))] []) (by
    intro i M1 hI ih
    have i0 := hI.1
    have i1 := hI.2.1
    refine x_iload_n (pc := 5) dJ7_fill_53178_5 rfl rfl ?_
    refine x_iload_n (pc := 6) dJ7_fill_53178_6 rfl rfl ?_
    refine x_icmp_ge (tgt := 20) (pc := 7) dJ7_fill_53178_7 (by decide) (fun c_7 => ?_) (fun c_7 => ?_)
    · refine x_return (pc := 20) dJ7_fill_53178_20 rfl (by decide) ?_
      exact ⟨rfl, rfl, rfl, by rw [hI.2.2, show i = n by omega]⟩
    · refine x_aload_n (pc := 10) dJ7_fill_53178_10 rfl rfl ?_
      refine x_iload_n (pc := 11) dJ7_fill_53178_11 rfl rfl ?_
      refine x_iload_n (pc := 12) dJ7_fill_53178_12 rfl rfl ?_
      refine x_iastore (pc := 13) dJ7_fill_53178_13 hS (by omega) ?_
      refine x_iinc (pc := 14) dJ7_fill_53178_14 rfl (by omega) (by decide) rfl ?_
      refine x_goto (tgt := 5) (pc := 17) dJ7_fill_53178_17 (by decide) ?_
      refine x_lo (lo' := [(0, (2, a)), (1, (0, v)), (2, (0, i + 1)), (3, (0, n))]) ⟨rfl, rfl, rfl, rfl, trivial⟩ (ih (i + 1) _ ⟨by omega, by omega, ?_⟩ (by omega))
      rw [hI.2.2]
      funext b j
      unfold flM up
      dsimp only
      by_cases e : b = a ∧ j = i
      · rw [if_pos e, if_pos (by omega)]
      · rw [if_neg e]
        by_cases e2 : b = a ∧ 0 ≤ j ∧ j < i
        · rw [if_pos e2, if_pos (by omega)]
        · rw [if_neg e2, if_neg (show ¬ (b = a ∧ 0 ≤ j ∧ j < i + 1) by omega)])
  refine x_lo (lo' := [(0, (2, a)), (1, (0, v)), (2, (0, 0)), (3, (0, n))]) ⟨rfl, rfl, rfl, rfl, trivial⟩ (loop 0 _ ⟨by omega, by omega, ?_⟩)
  funext b j
  unfold flM
  rw [if_neg (by omega)]
theorem s_X8copy {l : Launch} {E : aE} {N : Nat} {S : aS} {M : aM} (hfl : l.stackTraces = false) (u w : Int) (hT : lyT S u) (hU : lyT S w) (hd : u + 6 ≤ w ∨ w + 6 ≤ u) (hz : M w 0 = 0 ∨ M w 0 = 1) : aMt l E pX8_copyFrom [(2, u), (2, w)] N S M (aU N S (fun M' => (∀ a, ¬ (u ≤ a ∧ a < u + 6) → eqR M M' a) ∧ ∀ t : Int → Int, t 220 ≤ 6 → t 233 ≤ 4 → RTar M w t → RTar M' u t)) := by
  refine a_met hfl rfl (by decide +kernel) (Nat.le_of_ble_eq_true rfl) ?_
  refine x_aload_n (pc := 0) dX8_copyFrom_0 rfl rfl ?_
  refine x_aload_n (pc := 1) dX8_copyFrom_1 rfl rfl ?_
  refine x_getIV (jj := 0) (pc := 2) dX8_copyFrom_2 fX8_31 (hU).1 rfl (by decide) rfl (by (repeat (first | rewrite [up_s] | rewrite [up_i (by omega)] | rewrite [up_a (by omega)] | rewrite [cpy_a (by omega)])); rfl) ?_
  refine x_putZ (jj := 0) (pc := 5) dX8_copyFrom_5 fX8_31 (hT).1 rfl (by decide) rfl (by omega) ?_
  refine x_aload_n (pc := 8) dX8_copyFrom_8 rfl rfl ?_
  refine x_aload_n (pc := 9) dX8_copyFrom_9 rfl rfl ?_
  refine x_getIV (jj := 1) (pc := 10) dX8_copyFrom_10 fX8_35 (hU).1 rfl (by decide) rfl (by (repeat (first | rewrite [up_s] | rewrite [up_i (by omega)] | rewrite [up_a (by omega)] | rewrite [cpy_a (by omega)])); rfl) ?_
  refine x_putI (jj := 1) (pc := 13) dX8_copyFrom_13 fX8_35 (hT).1 rfl (by decide) rfl ?_
  refine x_aload_n (pc := 16) dX8_copyFrom_16 rfl rfl ?_
  refine x_getR (jj := 2) (pc := 17) dX8_copyFrom_17 fX8_11 (hU).1 rfl (by decide) rfl rT_2 ?_
  refine x_iconst (pc := 20) dX8_copyFrom_20 (by decide) ?_
  refine x_aload_n (pc := 21) dX8_copyFrom_21 rfl rfl ?_
  refine x_getR (jj := 2) (pc := 22) dX8_copyFrom_22 fX8_11 (hT).1 rfl (by decide) rfl rT_2 ?_
  refine x_iconst (pc := 25) dX8_copyFrom_25 (by decide) ?_
  refine x_bipush (pc := 26) dX8_copyFrom_26 (by decide) ?_
  refine x_copyi (pc := 28) mcX8_59 dX8_copyFrom_28 (hU).2.1 (hT).2.1 (by omega) (by decide) (Nat.le_of_ble_eq_true rfl) ?_
  refine x_aload_n (pc := 31) dX8_copyFrom_31 rfl rfl ?_
  refine x_getR (jj := 3) (pc := 32) dX8_copyFrom_32 fX8_15 (hU).1 rfl (by decide) rfl rT_3 ?_
  refine x_iconst (pc := 35) dX8_copyFrom_35 (by decide) ?_
  refine x_aload_n (pc := 36) dX8_copyFrom_36 rfl rfl ?_
  refine x_getR (jj := 3) (pc := 37) dX8_copyFrom_37 fX8_15 (hT).1 rfl (by decide) rfl rT_3 ?_
  refine x_iconst (pc := 40) dX8_copyFrom_40 (by decide) ?_
  refine x_bipush (pc := 41) dX8_copyFrom_41 (by decide) ?_
  refine x_copyi (pc := 43) mcX8_59 dX8_copyFrom_43 (hU).2.2.1 (hT).2.2.1 (by omega) (by decide) (Nat.le_of_ble_eq_true rfl) ?_
  refine x_aload_n (pc := 46) dX8_copyFrom_46 rfl rfl ?_
  refine x_aload_n (pc := 47) dX8_copyFrom_47 rfl rfl ?_
  refine x_getIV (jj := 4) (pc := 48) dX8_copyFrom_48 fX8_38 (hU).1 rfl (by decide) rfl (by (repeat (first | rewrite [up_s] | rewrite [up_i (by omega)] | rewrite [up_a (by omega)] | rewrite [cpy_a (by omega)])); rfl) ?_
  refine x_putI (jj := 4) (pc := 51) dX8_copyFrom_51 fX8_38 (hT).1 rfl (by decide) rfl ?_
  refine x_aload_n (pc := 54) dX8_copyFrom_54 rfl rfl ?_
  refine x_getR (jj := 5) (pc := 55) dX8_copyFrom_55 fX8_18 (hU).1 rfl (by decide) rfl rT_5 ?_
  refine x_iconst (pc := 58) dX8_copyFrom_58 (by decide) ?_
  refine x_aload_n (pc := 59) dX8_copyFrom_59 rfl rfl ?_
  refine x_getR (jj := 5) (pc := 60) dX8_copyFrom_60 fX8_18 (hT).1 rfl (by decide) rfl rT_5 ?_
  refine x_iconst (pc := 63) dX8_copyFrom_63 (by decide) ?_
  refine x_iconst (pc := 64) dX8_copyFrom_64 (by decide) ?_
  refine x_copyi (pc := 65) mcX8_59 dX8_copyFrom_65 (hU).2.2.2.1 (hT).2.2.2.1 (by omega) (by decide) (Nat.le_of_ble_eq_true rfl) ?_
  refine x_aload_n (pc := 68) dX8_copyFrom_68 rfl rfl ?_
  refine x_getR (jj := 6) (pc := 69) dX8_copyFrom_69 fX8_21 (hU).1 rfl (by decide) rfl rT_6 ?_
  refine x_iconst (pc := 72) dX8_copyFrom_72 (by decide) ?_
  refine x_aload_n (pc := 73) dX8_copyFrom_73 rfl rfl ?_
  refine x_getR (jj := 6) (pc := 74) dX8_copyFrom_74 fX8_21 (hT).1 rfl (by decide) rfl rT_6 ?_
  refine x_iconst (pc := 77) dX8_copyFrom_77 (by decide) ?_
  refine x_iconst (pc := 78) dX8_copyFrom_78 (by decide) ?_
  refine x_copyi (pc := 79) mcX8_59 dX8_copyFrom_79 (hU).2.2.2.2.1 (hT).2.2.2.2.1 (by omega) (by decide) (Nat.le_of_ble_eq_true rfl) ?_
  refine x_aload_n (pc := 82) dX8_copyFrom_82 rfl rfl ?_
  refine x_aload_n (pc := 83) dX8_copyFrom_83 rfl rfl ?_
  refine x_getIV (jj := 7) (pc := 84) dX8_copyFrom_84 fX8_41 (hU).1 rfl (by decide) rfl (by (repeat (first | rewrite [up_s] | rewrite [up_i (by omega)] | rewrite [up_a (by omega)] | rewrite [cpy_a (by omega)])); rfl) ?_
  refine x_putI (jj := 7) (pc := 87) dX8_copyFrom_87 fX8_41 (hT).1 rfl (by decide) rfl ?_
  refine x_aload_n (pc := 90) dX8_copyFrom_90 rfl rfl ?_
  refine x_aload_n (pc := 91) dX8_copyFrom_91 rfl rfl ?_
  refine x_getIV (jj := 8) (pc := 92) dX8_copyFrom_92 fX8_44 (hU).1 rfl (by decide) rfl (by (repeat (first | rewrite [up_s] | rewrite [up_i (by omega)] | rewrite [up_a (by omega)] | rewrite [cpy_a (by omega)])); rfl) ?_
  refine x_putI (jj := 8) (pc := 95) dX8_copyFrom_95 fX8_44 (hT).1 rfl (by decide) rfl ?_
  refine x_aload_n (pc := 98) dX8_copyFrom_98 rfl rfl ?_
  refine x_aload_n (pc := 99) dX8_copyFrom_99 rfl rfl ?_
  refine x_getIV (jj := 9) (pc := 100) dX8_copyFrom_100 fX8_24 (hU).1 rfl (by decide) rfl (by (repeat (first | rewrite [up_s] | rewrite [up_i (by omega)] | rewrite [up_a (by omega)] | rewrite [cpy_a (by omega)])); rfl) ?_
  refine x_putI (jj := 9) (pc := 103) dX8_copyFrom_103 fX8_24 (hT).1 rfl (by decide) rfl ?_
  refine x_aload_n (pc := 106) dX8_copyFrom_106 rfl rfl ?_
  refine x_getR (jj := 10) (pc := 107) dX8_copyFrom_107 fX8_28 (hU).1 rfl (by decide) rfl rT_10 ?_
  refine x_iconst (pc := 110) dX8_copyFrom_110 (by decide) ?_
  refine x_aload_n (pc := 111) dX8_copyFrom_111 rfl rfl ?_
  refine x_getR (jj := 10) (pc := 112) dX8_copyFrom_112 fX8_28 (hT).1 rfl (by decide) rfl rT_10 ?_
  refine x_iconst (pc := 115) dX8_copyFrom_115 (by decide) ?_
  refine x_bipush (pc := 116) dX8_copyFrom_116 (by decide) ?_
  refine x_copyi (pc := 118) mcX8_59 dX8_copyFrom_118 (hU).2.2.2.2.2 (hT).2.2.2.2.2 (by omega) (by decide) (Nat.le_of_ble_eq_true rfl) ?_
  refine x_aload_n (pc := 121) dX8_copyFrom_121 rfl rfl ?_
  refine x_aload_n (pc := 122) dX8_copyFrom_122 rfl rfl ?_
  refine x_getIV (jj := 11) (pc := 123) dX8_copyFrom_123 fX8_53 (hU).1 rfl (by decide) rfl (by (repeat (first | rewrite [up_s] | rewrite [up_i (by omega)] | rewrite [up_a (by omega)] | rewrite [cpy_a (by omega)])); rfl) ?_
  refine x_putI (jj := 11) (pc := 126) dX8_copyFrom_126 fX8_53 (hT).1 rfl (by decide) rfl ?_
  refine x_aload_n (pc := 129) dX8_copyFrom_129 rfl rfl ?_
  refine x_aload_n (pc := 130) dX8_copyFrom_130 rfl rfl ?_
  refine x_getIV (jj := 12) (pc := 131) dX8_copyFrom_131 fX8_56 (hU).1 rfl (by decide) rfl (by (repeat (first | rewrite [up_s] | rewrite [up_i (by omega)] | rewrite [up_a (by omega)] | rewrite [cpy_a (by omega)])); rfl) ?_
  refine x_putI (jj := 12) (pc := 134) dX8_copyFrom_134 fX8_56 (hT).1 rfl (by decide) rfl ?_
  refine x_return (pc := 137) dX8_copyFrom_137 rfl (by decide) ?_
  refine ⟨rfl, rfl, rfl, fun a x j => ?_, fun t q1 q2 h => ?_⟩
  · (repeat (first | rewrite [up_s] | rewrite [up_i (by omega)] | rewrite [up_a (by omega)] | rewrite [cpy_s (by omega)] | rewrite [cpy_a (by omega)]))
    rfl
  obtain ⟨h1, h2, h3, h4, h5, h6, h7, h8, h9, h10, h11⟩ := h
  refine ⟨?_, ?_, fun k a b => ⟨?_, ?_⟩, ?_, fun k a b => ⟨?_, ?_⟩, ?_, ?_, ?_, fun k a b => ?_, ?_, ?_⟩
  · (repeat (first | rewrite [up_s] | rewrite [up_i (by omega)] | rewrite [up_a (by omega)] | rewrite [cpy_s (by omega)] | rewrite [cpy_a (by omega)]))
    exact h1
  · (repeat (first | rewrite [up_s] | rewrite [up_i (by omega)] | rewrite [up_a (by omega)] | rewrite [cpy_s (by omega)] | rewrite [cpy_a (by omega)]))
    exact h2
  · (repeat (first | rewrite [up_s] | rewrite [up_i (by omega)] | rewrite [up_a (by omega)] | rewrite [cpy_s (by omega)] | rewrite [cpy_a (by omega)]))
    exact (h3 k a b).1
  · (repeat (first | rewrite [up_s] | rewrite [up_i (by omega)] | rewrite [up_a (by omega)] | rewrite [cpy_s (by omega)] | rewrite [cpy_a (by omega)]))
    exact (h3 k a b).2
  · (repeat (first | rewrite [up_s] | rewrite [up_i (by omega)] | rewrite [up_a (by omega)] | rewrite [cpy_s (by omega)] | rewrite [cpy_a (by omega)]))
    exact h4
  · (repeat (first | rewrite [up_s] | rewrite [up_i (by omega)] | rewrite [up_a (by omega)] | rewrite [cpy_s (by omega)] | rewrite [cpy_a (by omega)]))
    exact (h5 k a b).1
  · (repeat (first | rewrite [up_s] | rewrite [up_i (by omega)] | rewrite [up_a (by omega)] | rewrite [cpy_s (by omega)] | rewrite [cpy_a (by omega)]))
    exact (h5 k a b).2
  · (repeat (first | rewrite [up_s] | rewrite [up_i (by omega)] | rewrite [up_a (by omega)] | rewrite [cpy_s (by omega)] | rewrite [cpy_a (by omega)]))
    exact h6
  · (repeat (first | rewrite [up_s] | rewrite [up_i (by omega)] | rewrite [up_a (by omega)] | rewrite [cpy_s (by omega)] | rewrite [cpy_a (by omega)]))
    exact h7
  · (repeat (first | rewrite [up_s] | rewrite [up_i (by omega)] | rewrite [up_a (by omega)] | rewrite [cpy_s (by omega)] | rewrite [cpy_a (by omega)]))
    exact h8
  · (repeat (first | rewrite [up_s] | rewrite [up_i (by omega)] | rewrite [up_a (by omega)] | rewrite [cpy_s (by omega)] | rewrite [cpy_a (by omega)]))
    exact h9 k a b
  · (repeat (first | rewrite [up_s] | rewrite [up_i (by omega)] | rewrite [up_a (by omega)] | rewrite [cpy_s (by omega)] | rewrite [cpy_a (by omega)]))
    exact h10
  · (repeat (first | rewrite [up_s] | rewrite [up_i (by omega)] | rewrite [up_a (by omega)] | rewrite [cpy_s (by omega)] | rewrite [cpy_a (by omega)]))
    exact h11
theorem s_X7copy {l : Launch} {E : aE} {N : Nat} {S : aS} {M : aM} (hfl : l.stackTraces = false) (s w : Int) (hT : lyS S s) (hU : lyS S w) (hd : s + 15 ≤ w ∨ w + 15 ≤ s) (hz : M (w + 1) 0 = 0 ∨ M (w + 1) 0 = 1) : aMt l E pX7_copyFrom [(2, s), (2, w)] N S M (aU N S (fun M' => (∀ a, ¬ (s ≤ a ∧ a < s + 15) → eqR M M' a) ∧ ∀ t : Int → Int, t 220 ≤ 6 → t 233 ≤ 4 → RStr M w t → RStr M' s t)) := by
  refine a_met hfl rfl (by decide +kernel) (Nat.le_of_ble_eq_true rfl) ?_
  refine x_aload_n (pc := 0) dX7_copyFrom_0 rfl rfl ?_
  refine x_getR (jj := 0) (pc := 1) dX7_copyFrom_1 fX7_12 (hT).2.1 rfl (by decide) rfl rS_0 ?_
  refine x_aload_n (pc := 4) dX7_copyFrom_4 rfl rfl ?_
  refine x_getR (jj := 0) (pc := 5) dX7_copyFrom_5 fX7_12 (hU).2.1 rfl (by decide) rfl rS_0 ?_
  refine x_callV1 (pc := 8) dX7_copyFrom_8 rfl kX7_47 (s_X8copy hfl (s + 1) (w + 1) hT.1 hU.1 (by omega) hz) ((hT).1).1 rfl rfl (Nat.le_of_ble_eq_true rfl) (k_U (fun M9 hM9 => ?_)) n_U
  obtain ⟨f9, g9⟩ := hM9
  refine x_aload_n (pc := 11) dX7_copyFrom_11 rfl rfl ?_
  refine x_aload_n (pc := 12) dX7_copyFrom_12 rfl rfl ?_
  refine x_getIV (jj := 1) (pc := 13) dX7_copyFrom_13 fX7_51 (hU).2.1 rfl (by decide) rfl (by (repeat (first | rewrite [up_s] | rewrite [up_i (by omega)] | rewrite [up_a (by omega)] | rewrite [cpy_a (by omega)])); rfl) ?_
  refine x_putI (jj := 1) (pc := 16) dX7_copyFrom_16 fX7_51 (hT).2.1 rfl (by decide) rfl ?_
  refine x_aload_n (pc := 19) dX7_copyFrom_19 rfl rfl ?_
  refine x_getR (jj := 2) (pc := 20) dX7_copyFrom_20 fX7_18 (hU).2.1 rfl (by decide) rfl rS_2 ?_
  refine x_iconst (pc := 23) dX7_copyFrom_23 (by decide) ?_
  refine x_aload_n (pc := 24) dX7_copyFrom_24 rfl rfl ?_
  refine x_getR (jj := 2) (pc := 25) dX7_copyFrom_25 fX7_18 (hT).2.1 rfl (by decide) rfl rS_2 ?_
  refine x_iconst (pc := 28) dX7_copyFrom_28 (by decide) ?_
  refine x_bipush (pc := 29) dX7_copyFrom_29 (by decide) ?_
  refine x_copyi (pc := 31) mcX7_54 dX7_copyFrom_31 (hU).2.2.1 (hT).2.2.1 (by omega) (by decide) (Nat.le_of_ble_eq_true rfl) ?_
  refine x_aload_n (pc := 34) dX7_copyFrom_34 rfl rfl ?_
  refine x_getR (jj := 3) (pc := 35) dX7_copyFrom_35 fX7_22 (hU).2.1 rfl (by decide) rfl rS_3 ?_
  refine x_iconst (pc := 38) dX7_copyFrom_38 (by decide) ?_
  refine x_aload_n (pc := 39) dX7_copyFrom_39 rfl rfl ?_
  refine x_getR (jj := 3) (pc := 40) dX7_copyFrom_40 fX7_22 (hT).2.1 rfl (by decide) rfl rS_3 ?_
  refine x_iconst (pc := 43) dX7_copyFrom_43 (by decide) ?_
  refine x_bipush (pc := 44) dX7_copyFrom_44 (by decide) ?_
  refine x_copyi (pc := 46) mcX7_54 dX7_copyFrom_46 (hU).2.2.2.1 (hT).2.2.2.1 (by omega) (by decide) (Nat.le_of_ble_eq_true rfl) ?_
  refine x_aload_n (pc := 49) dX7_copyFrom_49 rfl rfl ?_
  refine x_getR (jj := 4) (pc := 50) dX7_copyFrom_50 fX7_25 (hU).2.1 rfl (by decide) rfl rS_4 ?_
  refine x_iconst (pc := 53) dX7_copyFrom_53 (by decide) ?_
  refine x_aload_n (pc := 54) dX7_copyFrom_54 rfl rfl ?_
  refine x_getR (jj := 4) (pc := 55) dX7_copyFrom_55 fX7_25 (hT).2.1 rfl (by decide) rfl rS_4 ?_
  refine x_iconst (pc := 58) dX7_copyFrom_58 (by decide) ?_
  refine x_bipush (pc := 59) dX7_copyFrom_59 (by decide) ?_
  refine x_copyi (pc := 61) mcX7_54 dX7_copyFrom_61 (hU).2.2.2.2.1 (hT).2.2.2.2.1 (by omega) (by decide) (Nat.le_of_ble_eq_true rfl) ?_
  refine x_aload_n (pc := 64) dX7_copyFrom_64 rfl rfl ?_
  refine x_getR (jj := 5) (pc := 65) dX7_copyFrom_65 fX7_28 (hU).2.1 rfl (by decide) rfl rS_5 ?_
  refine x_iconst (pc := 68) dX7_copyFrom_68 (by decide) ?_
  refine x_aload_n (pc := 69) dX7_copyFrom_69 rfl rfl ?_
  refine x_getR (jj := 5) (pc := 70) dX7_copyFrom_70 fX7_28 (hT).2.1 rfl (by decide) rfl rS_5 ?_
  refine x_iconst (pc := 73) dX7_copyFrom_73 (by decide) ?_
  refine x_bipush (pc := 74) dX7_copyFrom_74 (by decide) ?_
  refine x_copyi (pc := 76) mcX7_54 dX7_copyFrom_76 (hU).2.2.2.2.2.1 (hT).2.2.2.2.2.1 (by omega) (by decide) (Nat.le_of_ble_eq_true rfl) ?_
  refine x_aload_n (pc := 79) dX7_copyFrom_79 rfl rfl ?_
  refine x_getR (jj := 6) (pc := 80) dX7_copyFrom_80 fX7_31 (hU).2.1 rfl (by decide) rfl rS_6 ?_
  refine x_iconst (pc := 83) dX7_copyFrom_83 (by decide) ?_
  refine x_aload_n (pc := 84) dX7_copyFrom_84 rfl rfl ?_
  refine x_getR (jj := 6) (pc := 85) dX7_copyFrom_85 fX7_31 (hT).2.1 rfl (by decide) rfl rS_6 ?_
  refine x_iconst (pc := 88) dX7_copyFrom_88 (by decide) ?_
  refine x_bipush (pc := 89) dX7_copyFrom_89 (by decide) ?_
  refine x_copyi (pc := 91) mcX7_54 dX7_copyFrom_91 (hU).2.2.2.2.2.2.1 (hT).2.2.2.2.2.2.1 (by omega) (by decide) (Nat.le_of_ble_eq_true rfl) ?_
  refine x_aload_n (pc := 94) dX7_copyFrom_94 rfl rfl ?_
  refine x_aload_n (pc := 95) dX7_copyFrom_95 rfl rfl ?_
  refine x_getIV (jj := 7) (pc := 96) dX7_copyFrom_96 fX7_34 (hU).2.1 rfl (by decide) rfl (by (repeat (first | rewrite [up_s] | rewrite [up_i (by omega)] | rewrite [up_a (by omega)] | rewrite [cpy_a (by omega)])); rfl) ?_
  refine x_putI (jj := 7) (pc := 99) dX7_copyFrom_99 fX7_34 (hT).2.1 rfl (by decide) rfl ?_
  refine x_aload_n (pc := 102) dX7_copyFrom_102 rfl rfl ?_
  refine x_getR (jj := 8) (pc := 103) dX7_copyFrom_103 fX7_38 (hU).2.1 rfl (by decide) rfl rS_8 ?_
  refine x_iconst (pc := 106) dX7_copyFrom_106 (by decide) ?_
  refine x_aload_n (pc := 107) dX7_copyFrom_107 rfl rfl ?_
  refine x_getR (jj := 8) (pc := 108) dX7_copyFrom_108 fX7_38 (hT).2.1 rfl (by decide) rfl rS_8 ?_
  refine x_iconst (pc := 111) dX7_copyFrom_111 (by decide) ?_
  refine x_bipush (pc := 112) dX7_copyFrom_112 (by decide) ?_
  refine x_copyi (pc := 114) mcX7_54 dX7_copyFrom_114 (hU).2.2.2.2.2.2.2.1 (hT).2.2.2.2.2.2.2.1 (by omega) (by decide) (Nat.le_of_ble_eq_true rfl) ?_
  refine x_aload_n (pc := 117) dX7_copyFrom_117 rfl rfl ?_
  refine x_getR (jj := 9) (pc := 118) dX7_copyFrom_118 fX7_41 (hU).2.1 rfl (by decide) rfl rS_9 ?_
  refine x_iconst (pc := 121) dX7_copyFrom_121 (by decide) ?_
  refine x_aload_n (pc := 122) dX7_copyFrom_122 rfl rfl ?_
  refine x_getR (jj := 9) (pc := 123) dX7_copyFrom_123 fX7_41 (hT).2.1 rfl (by decide) rfl rS_9 ?_
  refine x_iconst (pc := 126) dX7_copyFrom_126 (by decide) ?_
  refine x_bipush (pc := 127) dX7_copyFrom_127 (by decide) ?_
  refine x_copyi (pc := 129) mcX7_54 dX7_copyFrom_129 (hU).2.2.2.2.2.2.2.2.1 (hT).2.2.2.2.2.2.2.2.1 (by omega) (by decide) (Nat.le_of_ble_eq_true rfl) ?_
  refine x_aload_n (pc := 132) dX7_copyFrom_132 rfl rfl ?_
  refine x_getR (jj := 10) (pc := 133) dX7_copyFrom_133 fX7_44 (hU).2.1 rfl (by decide) rfl rS_10 ?_
  refine x_iconst (pc := 136) dX7_copyFrom_136 (by decide) ?_
  refine x_aload_n (pc := 137) dX7_copyFrom_137 rfl rfl ?_
  refine x_getR (jj := 10) (pc := 138) dX7_copyFrom_138 fX7_44 (hT).2.1 rfl (by decide) rfl rS_10 ?_
  refine x_iconst (pc := 141) dX7_copyFrom_141 (by decide) ?_
  refine x_bipush (pc := 142) dX7_copyFrom_142 (by decide) ?_
  refine x_copyi (pc := 144) mcX7_54 dX7_copyFrom_144 (hU).2.2.2.2.2.2.2.2.2 (hT).2.2.2.2.2.2.2.2.2 (by omega) (by decide) (Nat.le_of_ble_eq_true rfl) ?_
  refine x_return (pc := 147) dX7_copyFrom_147 rfl (by decide) ?_
  refine ⟨rfl, rfl, rfl, fun a x j => ?_, fun t q1 q2 h => ⟨?_, (g9 t q1 q2 h.2).cg fun a x y j => ?_⟩⟩
  · (repeat (first | rewrite [up_s] | rewrite [up_i (by omega)] | rewrite [up_a (by omega)] | rewrite [cpy_s (by omega)] | rewrite [cpy_a (by omega)]))
    exact f9 a (by omega) j
  · have h' := h.1.cg (M' := M9) fun a x y => f9 a (by omega)
    clear h g9 f9
    obtain ⟨h1, h2, h3, h4, h5, h6, h7, h8, h9⟩ := h'
    refine ⟨?_, fun k a b => ?_, fun k a b => ?_, fun k a b => ?_, fun k a b => ?_, fun k a b => ?_, ?_, fun k a b => ?_, fun k a b => ⟨?_, ?_⟩⟩
    · (repeat (first | rewrite [up_s] | rewrite [up_i (by omega)] | rewrite [up_a (by omega)] | rewrite [cpy_s (by omega)] | rewrite [cpy_a (by omega)]))
      exact h1
    · (repeat (first | rewrite [up_s] | rewrite [up_i (by omega)] | rewrite [up_a (by omega)] | rewrite [cpy_s (by omega)] | rewrite [cpy_a (by omega)]))
      exact h2 k a b
    · (repeat (first | rewrite [up_s] | rewrite [up_i (by omega)] | rewrite [up_a (by omega)] | rewrite [cpy_s (by omega)] | rewrite [cpy_a (by omega)]))
      exact h3 k a b
    · (repeat (first | rewrite [up_s] | rewrite [up_i (by omega)] | rewrite [up_a (by omega)] | rewrite [cpy_s (by omega)] | rewrite [cpy_a (by omega)]))
      exact h4 k a b
    · (repeat (first | rewrite [up_s] | rewrite [up_i (by omega)] | rewrite [up_a (by omega)] | rewrite [cpy_s (by omega)] | rewrite [cpy_a (by omega)]))
      exact h5 k a b
    · (repeat (first | rewrite [up_s] | rewrite [up_i (by omega)] | rewrite [up_a (by omega)] | rewrite [cpy_s (by omega)] | rewrite [cpy_a (by omega)]))
      exact h6 k a b
    · (repeat (first | rewrite [up_s] | rewrite [up_i (by omega)] | rewrite [up_a (by omega)] | rewrite [cpy_s (by omega)] | rewrite [cpy_a (by omega)]))
      exact h7
    · (repeat (first | rewrite [up_s] | rewrite [up_i (by omega)] | rewrite [up_a (by omega)] | rewrite [cpy_s (by omega)] | rewrite [cpy_a (by omega)]))
      exact h8 k a b
    · (repeat (first | rewrite [up_s] | rewrite [up_i (by omega)] | rewrite [up_a (by omega)] | rewrite [cpy_s (by omega)] | rewrite [cpy_a (by omega)]))
      exact (h9 k a b).1
    · (repeat (first | rewrite [up_s] | rewrite [up_i (by omega)] | rewrite [up_a (by omega)] | rewrite [cpy_s (by omega)] | rewrite [cpy_a (by omega)]))
      exact (h9 k a b).2
  · (repeat (first | rewrite [up_s] | rewrite [up_i (by omega)] | rewrite [up_a (by omega)] | rewrite [cpy_s (by omega)] | rewrite [cpy_a (by omega)]))
    rfl
theorem s_X3forgetAll {l : Launch} {E : aE} {N : Nat} {S : aS} {M : aM} (hfl : l.stackTraces = false) (hC : lyC S) : aMt l E pX3_forgetAll [(2, 30)] N S M (aU N S (fun M' => M' = flM M 31 (-1) 128)) := by
  refine a_met hfl rfl (by decide +kernel) (Nat.le_of_ble_eq_true rfl) ?_
  refine x_aload_n (pc := 0) dX3_forgetAll_0 rfl rfl ?_
  refine x_getR (jj := 3) (pc := 1) dX3_forgetAll_1 fX3_9 (sC_30 hC) rfl (by decide) rfl rC_30_3 ?_
  refine x_iconst (pc := 4) dX3_forgetAll_4 (by decide) ?_
  refine x_callS2 (pc := 5) dX3_forgetAll_5 rfl kX3_33 (s_fill hfl 31 _ _ _ (sC_31 hC) (by omega)) rfl (Nat.le_of_ble_eq_true rfl) (k_U (fun M9 hM9 => ?_)) n_U
  subst hM9
  refine x_return (pc := 8) dX3_forgetAll_8 rfl (by decide) ?_
  exact ⟨rfl, rfl, rfl, rfl⟩
theorem s_forgetAll {l : Launch} {E : aE} {N : Nat} {S : aS} {M : aM} (hfl : l.stackTraces = false) (hC : lyC S) : aMt l E pX11_forgetAll [(2, 0)] N S M (aU N S (fun M' => M' = up (flM (up M 25 5 0) 31 (-1) 128) 82 5 0)) := by
  refine a_met hfl rfl (by decide +kernel) (Nat.le_of_ble_eq_true rfl) ?_
  refine x_aload_n (pc := 0) dX11_forgetAll_0 rfl rfl ?_
  refine x_getR (jj := 3) (pc := 1) dX11_forgetAll_1 fX11_36 (sC_0 hC) rfl (by decide) rfl rC_0_3 ?_
  refine x_callV0 (pc := 4) dX11_forgetAll_4 rfl kX11_397 (s_X4forget hfl 25 0 rC_25 (sC_25 hC)) (sC_25 hC) rfl rfl (Nat.le_of_ble_eq_true rfl) (k_U (fun M9 hM9 => ?_)) n_U
  subst hM9
  refine x_aload_n (pc := 7) dX11_forgetAll_7 rfl rfl ?_
  refine x_getR (jj := 4) (pc := 8) dX11_forgetAll_8 fX11_45 (sC_0 hC) rfl (by decide) rfl rC_0_4 ?_
  refine x_callV0 (pc := 11) dX11_forgetAll_11 rfl kX11_398 (s_X3forgetAll hfl hC) (sC_30 hC) rfl rfl (Nat.le_of_ble_eq_true rfl) (k_U (fun M9 hM9 => ?_)) n_U
  subst hM9
  refine x_aload_n (pc := 14) dX11_forgetAll_14 rfl rfl ?_
  refine x_getR (jj := 8) (pc := 15) dX11_forgetAll_15 fX11_79 (sC_0 hC) rfl (by decide) rfl rC_0_8 ?_
  refine x_callV0 (pc := 18) dX11_forgetAll_18 rfl kX11_125 (s_X6forget hfl 82 0 rC_82 (sC_82 hC)) (sC_82 hC) rfl rfl (Nat.le_of_ble_eq_true rfl) (k_U (fun M9 hM9 => ?_)) n_U
  subst hM9
  refine x_return (pc := 21) dX11_forgetAll_21 rfl (by decide) ?_
  exact ⟨rfl, rfl, rfl, rfl⟩
