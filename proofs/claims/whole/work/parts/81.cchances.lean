/-! doubts: the class's way -/
theorem shiftV_c {L : Int → Int} {s c k : Int} (h : ¬ s ≤ k) : shiftV L s c k = 0 := if_neg h
theorem dX0_spread_0 : decode cX0_spread 0 = .ok (.aload_n 0, 1) := by decide +kernel
theorem dX0_spread_1 : decode cX0_spread 1 = .ok (.getfield 11, 3) := by decide +kernel
theorem dX0_spread_4 : decode cX0_spread 4 = .ok (.lconst 0, 1) := by decide +kernel
theorem dX0_spread_5 : decode cX0_spread 5 = .ok (.invokestatic 22, 3) := by decide +kernel
theorem dX0_spread_8 : decode cX0_spread 8 = .ok (.aload_n 0, 1) := by decide +kernel
theorem dX0_spread_9 : decode cX0_spread 9 = .ok (.getfield 11, 3) := by decide +kernel
theorem dX0_spread_12 : decode cX0_spread 12 = .ok (.iconst 0, 1) := by decide +kernel
theorem dX0_spread_13 : decode cX0_spread 13 = .ok (.lconst 1, 1) := by decide +kernel
theorem dX0_spread_14 : decode cX0_spread 14 = .ok (.lastore, 1) := by decide +kernel
theorem dX0_spread_15 : decode cX0_spread 15 = .ok (.aload_n 0, 1) := by decide +kernel
theorem dX0_spread_16 : decode cX0_spread 16 = .ok (.lconst 1, 1) := by decide +kernel
theorem dX0_spread_17 : decode cX0_spread 17 = .ok (.putfield 28, 3) := by decide +kernel
theorem dX0_spread_20 : decode cX0_spread 20 = .ok (.iconst 0, 1) := by decide +kernel
theorem dX0_spread_21 : decode cX0_spread 21 = .ok (.istore_n 2, 1) := by decide +kernel
theorem dX0_spread_22 : decode cX0_spread 22 = .ok (.iload_n 2, 1) := by decide +kernel
theorem dX0_spread_23 : decode cX0_spread 23 = .ok (.bipush 7, 2) := by decide +kernel
theorem dX0_spread_25 : decode cX0_spread 25 = .ok (.if_icmp .ge 22, 3) := by decide +kernel
theorem dX0_spread_28 : decode cX0_spread 28 = .ok (.iload_n 1, 1) := by decide +kernel
theorem dX0_spread_29 : decode cX0_spread 29 = .ok (.iload_n 2, 1) := by decide +kernel
theorem dX0_spread_30 : decode cX0_spread 30 = .ok (.invokestatic 32, 3) := by decide +kernel
theorem dX0_spread_33 : decode cX0_spread 33 = .ok (.ifCond .eq 8, 3) := by decide +kernel
theorem dX0_spread_36 : decode cX0_spread 36 = .ok (.aload_n 0, 1) := by decide +kernel
theorem dX0_spread_37 : decode cX0_spread 37 = .ok (.iload_n 2, 1) := by decide +kernel
theorem dX0_spread_38 : decode cX0_spread 38 = .ok (.invokevirtual 36, 3) := by decide +kernel
theorem dX0_spread_41 : decode cX0_spread 41 = .ok (.iinc 2 1, 3) := by decide +kernel
theorem dX0_spread_44 : decode cX0_spread 44 = .ok (.goto (-22), 3) := by decide +kernel
theorem dX0_spread_47 : decode cX0_spread 47 = .ok (.return_, 1) := by decide +kernel
theorem dX0_spreadBy_0 : decode cX0_spreadBy 0 = .ok (.aload_n 0, 1) := by decide +kernel
theorem dX0_spreadBy_1 : decode cX0_spreadBy 1 = .ok (.getfield 11, 3) := by decide +kernel
theorem dX0_spreadBy_4 : decode cX0_spreadBy 4 = .ok (.iconst 0, 1) := by decide +kernel
theorem dX0_spreadBy_5 : decode cX0_spreadBy 5 = .ok (.aload_n 0, 1) := by decide +kernel
theorem dX0_spreadBy_6 : decode cX0_spreadBy 6 = .ok (.getfield 15, 3) := by decide +kernel
theorem dX0_spreadBy_9 : decode cX0_spreadBy 9 = .ok (.iconst 0, 1) := by decide +kernel
theorem dX0_spreadBy_10 : decode cX0_spreadBy 10 = .ok (.bipush 57, 2) := by decide +kernel
theorem dX0_spreadBy_12 : decode cX0_spreadBy 12 = .ok (.invokestatic 40, 3) := by decide +kernel
theorem dX0_spreadBy_15 : decode cX0_spreadBy 15 = .ok (.aload_n 0, 1) := by decide +kernel
theorem dX0_spreadBy_16 : decode cX0_spreadBy 16 = .ok (.getfield 11, 3) := by decide +kernel
theorem dX0_spreadBy_19 : decode cX0_spreadBy 19 = .ok (.lconst 0, 1) := by decide +kernel
theorem dX0_spreadBy_20 : decode cX0_spreadBy 20 = .ok (.invokestatic 22, 3) := by decide +kernel
theorem dX0_spreadBy_23 : decode cX0_spreadBy 23 = .ok (.aload_n 0, 1) := by decide +kernel
theorem dX0_spreadBy_24 : decode cX0_spreadBy 24 = .ok (.getfield 18, 3) := by decide +kernel
theorem dX0_spreadBy_27 : decode cX0_spreadBy 27 = .ok (.getfield 46, 3) := by decide +kernel
theorem dX0_spreadBy_30 : decode cX0_spreadBy 30 = .ok (.iload_n 1, 1) := by decide +kernel
theorem dX0_spreadBy_31 : decode cX0_spreadBy 31 = .ok (.iaload, 1) := by decide +kernel
theorem dX0_spreadBy_32 : decode cX0_spreadBy 32 = .ok (.istore_n 2, 1) := by decide +kernel
theorem dX0_spreadBy_33 : decode cX0_spreadBy 33 = .ok (.iload_n 2, 1) := by decide +kernel
theorem dX0_spreadBy_34 : decode cX0_spreadBy 34 = .ok (.ifCond .ne 21, 3) := by decide +kernel
theorem dX0_spreadBy_37 : decode cX0_spreadBy 37 = .ok (.aload_n 0, 1) := by decide +kernel
theorem dX0_spreadBy_38 : decode cX0_spreadBy 38 = .ok (.aload_n 0, 1) := by decide +kernel
theorem dX0_spreadBy_39 : decode cX0_spreadBy 39 = .ok (.getfield 18, 3) := by decide +kernel
theorem dX0_spreadBy_42 : decode cX0_spreadBy 42 = .ok (.getfield 52, 3) := by decide +kernel
theorem dX0_spreadBy_45 : decode cX0_spreadBy 45 = .ok (.iload_n 1, 1) := by decide +kernel
theorem dX0_spreadBy_46 : decode cX0_spreadBy 46 = .ok (.bipush 6, 2) := by decide +kernel
theorem dX0_spreadBy_48 : decode cX0_spreadBy 48 = .ok (.imul, 1) := by decide +kernel
theorem dX0_spreadBy_49 : decode cX0_spreadBy 49 = .ok (.iaload, 1) := by decide +kernel
theorem dX0_spreadBy_50 : decode cX0_spreadBy 50 = .ok (.iconst 1, 1) := by decide +kernel
theorem dX0_spreadBy_51 : decode cX0_spreadBy 51 = .ok (.invokevirtual 55, 3) := by decide +kernel
theorem dX0_spreadBy_54 : decode cX0_spreadBy 54 = .ok (.return_, 1) := by decide +kernel
theorem dX0_spreadBy_55 : decode cX0_spreadBy 55 = .ok (.iconst 0, 1) := by decide +kernel
theorem dX0_spreadBy_56 : decode cX0_spreadBy 56 = .ok (.istore_n 3, 1) := by decide +kernel
theorem dX0_spreadBy_57 : decode cX0_spreadBy 57 = .ok (.iconst 0, 1) := by decide +kernel
theorem dX0_spreadBy_58 : decode cX0_spreadBy 58 = .ok (.istore 4, 2) := by decide +kernel
theorem dX0_spreadBy_60 : decode cX0_spreadBy 60 = .ok (.iload 4, 2) := by decide +kernel
theorem dX0_spreadBy_62 : decode cX0_spreadBy 62 = .ok (.iload_n 2, 1) := by decide +kernel
theorem dX0_spreadBy_63 : decode cX0_spreadBy 63 = .ok (.if_icmp .ge 54, 3) := by decide +kernel
theorem dX0_spreadBy_66 : decode cX0_spreadBy 66 = .ok (.iload_n 1, 1) := by decide +kernel
theorem dX0_spreadBy_67 : decode cX0_spreadBy 67 = .ok (.iconst 4, 1) := by decide +kernel
theorem dX0_spreadBy_68 : decode cX0_spreadBy 68 = .ok (.imul, 1) := by decide +kernel
theorem dX0_spreadBy_69 : decode cX0_spreadBy 69 = .ok (.iload 4, 2) := by decide +kernel
theorem dX0_spreadBy_71 : decode cX0_spreadBy 71 = .ok (.iadd, 1) := by decide +kernel
theorem dX0_spreadBy_72 : decode cX0_spreadBy 72 = .ok (.istore 5, 2) := by decide +kernel
theorem dX0_spreadBy_74 : decode cX0_spreadBy 74 = .ok (.aload_n 0, 1) := by decide +kernel
theorem dX0_spreadBy_75 : decode cX0_spreadBy 75 = .ok (.aload_n 0, 1) := by decide +kernel
theorem dX0_spreadBy_76 : decode cX0_spreadBy 76 = .ok (.getfield 18, 3) := by decide +kernel
theorem dX0_spreadBy_79 : decode cX0_spreadBy 79 = .ok (.getfield 59, 3) := by decide +kernel
theorem dX0_spreadBy_82 : decode cX0_spreadBy 82 = .ok (.iload 5, 2) := by decide +kernel
theorem dX0_spreadBy_84 : decode cX0_spreadBy 84 = .ok (.iaload, 1) := by decide +kernel
theorem dX0_spreadBy_85 : decode cX0_spreadBy 85 = .ok (.aload_n 0, 1) := by decide +kernel
theorem dX0_spreadBy_86 : decode cX0_spreadBy 86 = .ok (.getfield 18, 3) := by decide +kernel
theorem dX0_spreadBy_89 : decode cX0_spreadBy 89 = .ok (.getfield 62, 3) := by decide +kernel
theorem dX0_spreadBy_92 : decode cX0_spreadBy 92 = .ok (.iload 5, 2) := by decide +kernel
theorem dX0_spreadBy_94 : decode cX0_spreadBy 94 = .ok (.iaload, 1) := by decide +kernel
theorem dX0_spreadBy_95 : decode cX0_spreadBy 95 = .ok (.invokevirtual 55, 3) := by decide +kernel
theorem dX0_spreadBy_98 : decode cX0_spreadBy 98 = .ok (.iload_n 3, 1) := by decide +kernel
theorem dX0_spreadBy_99 : decode cX0_spreadBy 99 = .ok (.aload_n 0, 1) := by decide +kernel
theorem dX0_spreadBy_100 : decode cX0_spreadBy 100 = .ok (.getfield 18, 3) := by decide +kernel
theorem dX0_spreadBy_103 : decode cX0_spreadBy 103 = .ok (.getfield 62, 3) := by decide +kernel
theorem dX0_spreadBy_106 : decode cX0_spreadBy 106 = .ok (.iload 5, 2) := by decide +kernel
theorem dX0_spreadBy_108 : decode cX0_spreadBy 108 = .ok (.iaload, 1) := by decide +kernel
theorem dX0_spreadBy_109 : decode cX0_spreadBy 109 = .ok (.iadd, 1) := by decide +kernel
theorem dX0_spreadBy_110 : decode cX0_spreadBy 110 = .ok (.istore_n 3, 1) := by decide +kernel
theorem dX0_spreadBy_111 : decode cX0_spreadBy 111 = .ok (.iinc 4 1, 3) := by decide +kernel
theorem dX0_spreadBy_114 : decode cX0_spreadBy 114 = .ok (.goto (-54), 3) := by decide +kernel
theorem dX0_spreadBy_117 : decode cX0_spreadBy 117 = .ok (.aload_n 0, 1) := by decide +kernel
theorem dX0_spreadBy_118 : decode cX0_spreadBy 118 = .ok (.dup, 1) := by decide +kernel
theorem dX0_spreadBy_119 : decode cX0_spreadBy 119 = .ok (.getfield 28, 3) := by decide +kernel
theorem dX0_spreadBy_122 : decode cX0_spreadBy 122 = .ok (.iload_n 3, 1) := by decide +kernel
theorem dX0_spreadBy_123 : decode cX0_spreadBy 123 = .ok (.i2l, 1) := by decide +kernel
theorem dX0_spreadBy_124 : decode cX0_spreadBy 124 = .ok (.lmul, 1) := by decide +kernel
theorem dX0_spreadBy_125 : decode cX0_spreadBy 125 = .ok (.putfield 28, 3) := by decide +kernel
theorem dX0_spreadBy_128 : decode cX0_spreadBy 128 = .ok (.return_, 1) := by decide +kernel
theorem dX0_add_0 : decode cX0_add 0 = .ok (.iconst 0, 1) := by decide +kernel
theorem dX0_add_1 : decode cX0_add 1 = .ok (.istore_n 3, 1) := by decide +kernel
theorem dX0_add_2 : decode cX0_add 2 = .ok (.iload_n 3, 1) := by decide +kernel
theorem dX0_add_3 : decode cX0_add 3 = .ok (.iload_n 1, 1) := by decide +kernel
theorem dX0_add_4 : decode cX0_add 4 = .ok (.iadd, 1) := by decide +kernel
theorem dX0_add_5 : decode cX0_add 5 = .ok (.bipush 57, 2) := by decide +kernel
theorem dX0_add_7 : decode cX0_add 7 = .ok (.if_icmp .ge 29, 3) := by decide +kernel
theorem dX0_add_10 : decode cX0_add 10 = .ok (.aload_n 0, 1) := by decide +kernel
theorem dX0_add_11 : decode cX0_add 11 = .ok (.getfield 11, 3) := by decide +kernel
theorem dX0_add_14 : decode cX0_add 14 = .ok (.iload_n 3, 1) := by decide +kernel
theorem dX0_add_15 : decode cX0_add 15 = .ok (.iload_n 1, 1) := by decide +kernel
theorem dX0_add_16 : decode cX0_add 16 = .ok (.iadd, 1) := by decide +kernel
theorem dX0_add_17 : decode cX0_add 17 = .ok (.dup2, 1) := by decide +kernel
theorem dX0_add_18 : decode cX0_add 18 = .ok (.laload, 1) := by decide +kernel
theorem dX0_add_19 : decode cX0_add 19 = .ok (.aload_n 0, 1) := by decide +kernel
theorem dX0_add_20 : decode cX0_add 20 = .ok (.getfield 15, 3) := by decide +kernel
theorem dX0_add_23 : decode cX0_add 23 = .ok (.iload_n 3, 1) := by decide +kernel
theorem dX0_add_24 : decode cX0_add 24 = .ok (.laload, 1) := by decide +kernel
theorem dX0_add_25 : decode cX0_add 25 = .ok (.iload_n 2, 1) := by decide +kernel
theorem dX0_add_26 : decode cX0_add 26 = .ok (.i2l, 1) := by decide +kernel
theorem dX0_add_27 : decode cX0_add 27 = .ok (.lmul, 1) := by decide +kernel
theorem dX0_add_28 : decode cX0_add 28 = .ok (.ladd, 1) := by decide +kernel
theorem dX0_add_29 : decode cX0_add 29 = .ok (.lastore, 1) := by decide +kernel
theorem dX0_add_30 : decode cX0_add 30 = .ok (.iinc 3 1, 3) := by decide +kernel
theorem dX0_add_33 : decode cX0_add 33 = .ok (.goto (-31), 3) := by decide +kernel
theorem dX0_add_36 : decode cX0_add 36 = .ok (.return_, 1) := by decide +kernel
theorem dX0_riskOf_0 : decode cX0_riskOf 0 = .ok (.aload_n 0, 1) := by decide +kernel
theorem dX0_riskOf_1 : decode cX0_riskOf 1 = .ok (.getfield 28, 3) := by decide +kernel
theorem dX0_riskOf_4 : decode cX0_riskOf 4 = .ok (.iload_n 2, 1) := by decide +kernel
theorem dX0_riskOf_5 : decode cX0_riskOf 5 = .ok (.i2l, 1) := by decide +kernel
theorem dX0_riskOf_6 : decode cX0_riskOf 6 = .ok (.lmul, 1) := by decide +kernel
theorem dX0_riskOf_7 : decode cX0_riskOf 7 = .ok (.lstore_n 3, 1) := by decide +kernel
theorem dX0_riskOf_8 : decode cX0_riskOf 8 = .ok (.iconst 0, 1) := by decide +kernel
theorem dX0_riskOf_9 : decode cX0_riskOf 9 = .ok (.istore 5, 2) := by decide +kernel
theorem dX0_riskOf_11 : decode cX0_riskOf 11 = .ok (.iload 5, 2) := by decide +kernel
theorem dX0_riskOf_13 : decode cX0_riskOf 13 = .ok (.bipush 57, 2) := by decide +kernel
theorem dX0_riskOf_15 : decode cX0_riskOf 15 = .ok (.if_icmp .ge 64, 3) := by decide +kernel
theorem dX0_riskOf_18 : decode cX0_riskOf 18 = .ok (.iload 5, 2) := by decide +kernel
theorem dX0_riskOf_20 : decode cX0_riskOf 20 = .ok (.iload_n 1, 1) := by decide +kernel
theorem dX0_riskOf_21 : decode cX0_riskOf 21 = .ok (.if_icmp .le 21, 3) := by decide +kernel
theorem dX0_riskOf_24 : decode cX0_riskOf 24 = .ok (.iload 5, 2) := by decide +kernel
theorem dX0_riskOf_26 : decode cX0_riskOf 26 = .ok (.iload_n 1, 1) := by decide +kernel
theorem dX0_riskOf_27 : decode cX0_riskOf 27 = .ok (.isub, 1) := by decide +kernel
theorem dX0_riskOf_28 : decode cX0_riskOf 28 = .ok (.aload_n 0, 1) := by decide +kernel
theorem dX0_riskOf_29 : decode cX0_riskOf 29 = .ok (.getfield 18, 3) := by decide +kernel
theorem dX0_riskOf_32 : decode cX0_riskOf 32 = .ok (.getfield 65, 3) := by decide +kernel
theorem dX0_riskOf_35 : decode cX0_riskOf 35 = .ok (.getfield 69, 3) := by decide +kernel
theorem dX0_riskOf_38 : decode cX0_riskOf 38 = .ok (.imul, 1) := by decide +kernel
theorem dX0_riskOf_39 : decode cX0_riskOf 39 = .ok (.goto 18, 3) := by decide +kernel
theorem dX0_riskOf_42 : decode cX0_riskOf 42 = .ok (.iload_n 1, 1) := by decide +kernel
theorem dX0_riskOf_43 : decode cX0_riskOf 43 = .ok (.iload 5, 2) := by decide +kernel
theorem dX0_riskOf_45 : decode cX0_riskOf 45 = .ok (.isub, 1) := by decide +kernel
theorem dX0_riskOf_46 : decode cX0_riskOf 46 = .ok (.aload_n 0, 1) := by decide +kernel
theorem dX0_riskOf_47 : decode cX0_riskOf 47 = .ok (.getfield 18, 3) := by decide +kernel
theorem dX0_riskOf_50 : decode cX0_riskOf 50 = .ok (.getfield 65, 3) := by decide +kernel
theorem dX0_riskOf_53 : decode cX0_riskOf 53 = .ok (.getfield 75, 3) := by decide +kernel
theorem dX0_riskOf_56 : decode cX0_riskOf 56 = .ok (.imul, 1) := by decide +kernel
theorem dX0_riskOf_57 : decode cX0_riskOf 57 = .ok (.istore 6, 2) := by decide +kernel
theorem dX0_riskOf_59 : decode cX0_riskOf 59 = .ok (.lload_n 3, 1) := by decide +kernel
theorem dX0_riskOf_60 : decode cX0_riskOf 60 = .ok (.aload_n 0, 1) := by decide +kernel
theorem dX0_riskOf_61 : decode cX0_riskOf 61 = .ok (.getfield 11, 3) := by decide +kernel
theorem dX0_riskOf_64 : decode cX0_riskOf 64 = .ok (.iload 5, 2) := by decide +kernel
theorem dX0_riskOf_66 : decode cX0_riskOf 66 = .ok (.laload, 1) := by decide +kernel
theorem dX0_riskOf_67 : decode cX0_riskOf 67 = .ok (.iload 6, 2) := by decide +kernel
theorem dX0_riskOf_69 : decode cX0_riskOf 69 = .ok (.i2l, 1) := by decide +kernel
theorem dX0_riskOf_70 : decode cX0_riskOf 70 = .ok (.lmul, 1) := by decide +kernel
theorem dX0_riskOf_71 : decode cX0_riskOf 71 = .ok (.ladd, 1) := by decide +kernel
theorem dX0_riskOf_72 : decode cX0_riskOf 72 = .ok (.lstore_n 3, 1) := by decide +kernel
theorem dX0_riskOf_73 : decode cX0_riskOf 73 = .ok (.iinc 5 1, 3) := by decide +kernel
theorem dX0_riskOf_76 : decode cX0_riskOf 76 = .ok (.goto (-65), 3) := by decide +kernel
theorem dX0_riskOf_79 : decode cX0_riskOf 79 = .ok (.lload_n 3, 1) := by decide +kernel
theorem dX0_riskOf_80 : decode cX0_riskOf 80 = .ok (.lreturn, 1) := by decide +kernel
theorem s_fillJ {l : Launch} {E : aE} {N : Nat} {S : aS} {M : aM} (hfl : l.stackTraces = false) (a v n : Int) (r : Int → Int) (hS : S a = (14, n, r)) (hn : 0 ≤ n ∧ n ≤ 10000) : aMt l E pJ7_fill_d0a16 [(2, a), (1, v)] N S M (aU N S (fun M' => M' = fun b j => if b = a ∧ 0 ≤ j ∧ j < n then v else M b j)) := by
  refine a_met hfl rfl (by decide +kernel) (Nat.le_of_ble_eq_true rfl) ?_
  have loop := a_loop2 (fun i M1 => 0 ≤ i ∧ i ≤ n ∧ M1 = fun b j => if b = a ∧ 0 ≤ j ∧ j < i then v else M b j) (fun i M1 => (n - i).toNat) (fun i M1 => aX l E pJ7_fill_d0a16 (aU N S (fun M' => M' = fun b j => if b = a ∧ 0 ≤ j ∧ j < n then v else M b j)) 0 0 N S M1 6 [(0, (2, a)), (1, (1, v)), (3, (0, i)), (4, (0, n))] []) (by
    intro i M1 hI ih
    obtain ⟨h1, h2, h3⟩ := hI
    refine x_iload_n (pc := 6) dJ7_fill_d0a16_6 rfl rfl ?_
    refine x_iload (pc := 7) dJ7_fill_d0a16_7 rfl ?_
    refine x_icmp_ge (tgt := 22) (pc := 9) dJ7_fill_d0a16_9 (by decide) (fun c_9 => ?_) (fun c_9 => ?_)
    · refine x_return (pc := 22) dJ7_fill_d0a16_22 rfl (by decide) ?_
      refine ⟨rfl, rfl, rfl, ?_⟩
      rw [h3, show i = n by omega]
    · refine x_aload_n (pc := 12) dJ7_fill_d0a16_12 rfl rfl ?_
      refine x_iload_n (pc := 13) dJ7_fill_d0a16_13 rfl rfl ?_
      refine x_lload_n (pc := 14) dJ7_fill_d0a16_14 rfl rfl ?_
      refine x_lastore (pc := 15) dJ7_fill_d0a16_15 hS (by omega) ?_
      refine x_iinc (pc := 16) dJ7_fill_d0a16_16 rfl (by omega) (by decide) rfl ?_
      refine x_goto (tgt := 6) (pc := 19) dJ7_fill_d0a16_19 (by decide) ?_
      refine x_lo (lo' := [(0, (2, a)), (1, (1, v)), (3, (0, (i + 1))), (4, (0, n))]) ⟨rfl, rfl, rfl, rfl, trivial⟩ (ih (i + 1) _ ⟨by omega, by omega, ?_⟩ (by omega))
      rw [h3]
      funext b j
      unfold up
      dsimp only
      by_cases e : b = a ∧ j = i
      · rw [if_pos e, if_pos ⟨e.1, by omega, by omega⟩]
      · rw [if_neg e]
        by_cases e2 : b = a ∧ 0 ≤ j ∧ j < i
        · rw [if_pos e2, if_pos ⟨e2.1, e2.2.1, by omega⟩]
        · rw [if_neg e2, if_neg]
          rintro ⟨u, v9, w⟩
          exact e2 ⟨u, v9, by have : j ≠ i := fun z => e ⟨u, z⟩; omega⟩)
  refine x_iconst (pc := 0) dJ7_fill_d0a16_0 (by decide) ?_
  refine x_istore_n (pc := 1) dJ7_fill_d0a16_1 rfl (by decide) rfl ?_
  refine x_aload_n (pc := 2) dJ7_fill_d0a16_2 rfl rfl ?_
  refine x_alen (pc := 3) dJ7_fill_d0a16_3 hS (by decide) (by first | decide | omega) ?_
  refine x_istore (pc := 4) dJ7_fill_d0a16_4 (by decide) rfl ?_
  refine x_lo (lo' := [(0, (2, a)), (1, (1, v)), (3, (0, 0)), (4, (0, n))]) ⟨rfl, rfl, rfl, rfl, trivial⟩ (loop (0) _ ⟨by omega, by omega, ?_⟩)
  funext b j
  rw [if_neg (by omega)]
theorem s_addC {l : Launch} {E : aE} {N : Nat} {S : aS} {M : aM} (hfl : l.stackTraces = false) (s c : Int) (O L : Int → Int) (hC : lyC S) (hs : 0 ≤ s ∧ s ≤ 8) (hc : 0 ≤ c ∧ c ≤ 9) (hO : ∀ k, 0 ≤ k → k < 57 → 0 ≤ O k ∧ O k ≤ 4000000000000) (hL : ∀ k, 0 ≤ k → k < 57 → 0 ≤ L k ∧ L k ≤ 78364164096) (hO0 : ∀ k, 0 ≤ k → k < 57 → M 80 k = O k) (hL0 : ∀ k, 0 ≤ k → k < 57 → M 81 k = L k) : aMt l E pX0_add [(2, 79), (0, s), (0, c)] N S M (aU N S (fun M' => (∀ a i, a ≠ 80 → M' a i = M a i) ∧ ∀ k, 0 ≤ k → k < 57 → M' 80 k = O k + shiftV L s c k)) := by
  refine a_met hfl rfl (by decide +kernel) (Nat.le_of_ble_eq_true rfl) ?_
  have loop := a_loop2 (fun i M1 => (0 ≤ i ∧ i + s ≤ 57) ∧ (∀ a i, a ≠ 80 → M1 a i = M a i) ∧ (∀ k, 0 ≤ k → k < 57 → k < i + s → M1 80 k = O k + shiftV L s c k) ∧ ∀ k, 0 ≤ k → k < 57 → i + s ≤ k → M1 80 k = O k) (fun i M1 => (57 - s - i).toNat) (fun i M1 => aX l E pX0_add (aU N S (fun M' => (∀ a i, a ≠ 80 → M' a i = M a i) ∧ ∀ k, 0 ≤ k → k < 57 → M' 80 k = O k + shiftV L s c k)) 0 0 N S M1 2 [(0, (2, 79)), (1, (0, s)), (2, (0, c)), (3, (0, i))] []) (by
    intro i M1 hI ih
    obtain ⟨h1, h2, h3, h4⟩ := hI
    refine x_iload_n (pc := 2) dX0_add_2 rfl rfl ?_
    refine x_iload_n (pc := 3) dX0_add_3 rfl rfl ?_
    refine x_iadd (pc := 4) dX0_add_4 (by omega) ?_
    refine x_bipush (pc := 5) dX0_add_5 (by decide) ?_
    refine x_icmp_ge (tgt := 36) (pc := 7) dX0_add_7 (by decide) (fun c_7 => ?_) (fun c_7 => ?_)
    · refine x_return (pc := 36) dX0_add_36 rfl (by decide) ?_
      refine ⟨rfl, rfl, rfl, h2, fun k x y => ?_⟩
      exact h3 k x y (by omega)
    · refine x_aload_n (pc := 10) dX0_add_10 rfl rfl ?_
      refine x_getR (jj := 1) (pc := 11) dX0_add_11 fX0_11 (sC_79 hC) rfl (by decide) rfl rC_79_1 ?_
      refine x_iload_n (pc := 14) dX0_add_14 rfl rfl ?_
      refine x_iload_n (pc := 15) dX0_add_15 rfl rfl ?_
      refine x_iadd (pc := 16) dX0_add_16 (by omega) ?_
      refine x_dup2 (pc := 17) dX0_add_17 rfl rfl ?_
      refine x_laloadV (pc := 18) dX0_add_18 (sC_80 hC) (by omega) (by (repeat (first | rewrite [up_s] | rewrite [up_i (by omega)] | rewrite [up_a (by omega)])); first | exact h4 _ (by omega) (by omega) (by omega) | exact (h2 81 i (by omega)).trans (hL0 i (by omega) (by omega)) | rfl) (fun g_18 => ?_)
      refine x_aload_n (pc := 19) dX0_add_19 rfl rfl ?_
      refine x_getR (jj := 2) (pc := 20) dX0_add_20 fX0_15 (sC_79 hC) rfl (by decide) rfl rC_79_2 ?_
      refine x_iload_n (pc := 23) dX0_add_23 rfl rfl ?_
      refine x_laloadV (pc := 24) dX0_add_24 (sC_81 hC) (by omega) (by (repeat (first | rewrite [up_s] | rewrite [up_i (by omega)] | rewrite [up_a (by omega)])); first | exact h4 _ (by omega) (by omega) (by omega) | exact (h2 81 i (by omega)).trans (hL0 i (by omega) (by omega)) | rfl) (fun g_24 => ?_)
      refine x_iload_n (pc := 25) dX0_add_25 rfl rfl ?_
      refine x_i2l (pc := 26) dX0_add_26 ?_
      have hm1 : 0 ≤ L i * c := Int.mul_nonneg (hL i (by omega) (by omega)).1 hc.1
      have hm2 : L i * c ≤ L i * 9 := Int.mul_le_mul_of_nonneg_left hc.2 (hL i (by omega) (by omega)).1
      have hm3 := hL i (by omega) (by omega)
      have hm4 := hO (i + s) (by omega) (by omega)
      refine x_lmul (pc := 27) dX0_add_27 (by omega) ?_
      refine x_ladd (pc := 28) dX0_add_28 (by omega) ?_
      refine x_lastore (pc := 29) dX0_add_29 (sC_80 hC) (by omega) ?_
      refine x_iinc (pc := 30) dX0_add_30 rfl (by omega) (by decide) rfl ?_
      refine x_goto (tgt := 2) (pc := 33) dX0_add_33 (by decide) ?_
      refine x_lo (lo' := [(0, (2, 79)), (1, (0, s)), (2, (0, c)), (3, (0, (i + 1)))]) ⟨rfl, rfl, rfl, rfl, trivial⟩ (ih (i + 1) _ ⟨by omega, fun a i x => (up_a x).trans (h2 a i x), fun k x y z => ?_, fun k x y z => (up_i (by omega)).trans (h4 k x y (by omega))⟩ (by omega))
      by_cases e : k = i + s
      · subst e
        rw [up_s]
        unfold shiftV
        rw [if_pos (by omega), show i + s - s = i by omega]
      · exact (up_i e).trans (h3 k x y (by omega)))
  refine x_iconst (pc := 0) dX0_add_0 (by decide) ?_
  refine x_istore_n (pc := 1) dX0_add_1 rfl (by decide) rfl ?_
  refine x_lo (lo' := [(0, (2, 79)), (1, (0, s)), (2, (0, c)), (3, (0, 0))]) ⟨rfl, rfl, rfl, rfl, trivial⟩ (loop (0) _ ⟨by omega, fun _ _ _ => rfl, fun k x y z => ?_, fun k x y z => hO0 k x y⟩)
  rw [shiftV_c (by omega), Int.add_zero]
  exact hO0 k x y
theorem csum_r {t : Int → Int} (hD : TD t) {h : Int} (hh : 0 ≤ h ∧ h < 7) (n : Nat) (hn : (n : Int) ≤ t (156 + h)) : 0 ≤ sumN (fun d => t (191 + 4 * h + d)) n ∧ sumN (fun d => t (191 + 4 * h + d)) n ≤ 36 := by
  have z := sumN_le (f := fun d => t (191 + 4 * h + d)) (c := 9) (n := n) (fun d a b => by
    have := hD.2.2.2.1 h d hh.1 hh.2 a (by omega)
    omega)
  have := hD.2.1 h hh.1 hh.2
  omega
theorem s_spreadBy {l : Launch} {E : aE} {N : Nat} {S : aS} {M : aM} (hfl : l.stackTraces = false) (h : Int) (t L : Int → Int) (hC : lyC S) (hH : RHs M 1 t) (hD : TD t) (hh : 0 ≤ h ∧ h < 7) (hL : ∀ k, 0 ≤ k → k < 57 → 0 ≤ L k ∧ L k ≤ 2176782336) (hL0 : ∀ k, 0 ≤ k → k < 57 → M 80 k = L k) (ha : 1 ≤ M 79 3 ∧ M 79 3 ≤ 2176782336) : aMt l E pX0_spreadBy [(2, 79), (0, h)] N S M (aU N S (fun M' => (∀ a i, (a = 79 → i ≠ 3) → a ≠ 80 → a ≠ 81 → M' a i = M a i) ∧ (∀ k, 0 ≤ k → k < 57 → M' 80 k = convV t h L k) ∧ M' 79 3 = M 79 3 * chV t h)) := by
  refine a_met hfl rfl (by decide +kernel) (Nat.le_of_ble_eq_true rfl) ?_
  refine x_aload_n (pc := 0) dX0_spreadBy_0 rfl rfl ?_
  refine x_getR (jj := 1) (pc := 1) dX0_spreadBy_1 fX0_11 (sC_79 hC) rfl (by decide) rfl rC_79_1 ?_
  refine x_iconst (pc := 4) dX0_spreadBy_4 (by decide) ?_
  refine x_aload_n (pc := 5) dX0_spreadBy_5 rfl rfl ?_
  refine x_getR (jj := 2) (pc := 6) dX0_spreadBy_6 fX0_15 (sC_79 hC) rfl (by decide) rfl rC_79_2 ?_
  refine x_iconst (pc := 9) dX0_spreadBy_9 (by decide) ?_
  refine x_bipush (pc := 10) dX0_spreadBy_10 (by decide) ?_
  refine x_copyl (pc := 12) mcX0_40 dX0_spreadBy_12 (sC_80 hC) (sC_81 hC) (by omega) (by decide) (Nat.le_of_ble_eq_true rfl) ?_
  refine x_aload_n (pc := 15) dX0_spreadBy_15 rfl rfl ?_
  refine x_getR (jj := 1) (pc := 16) dX0_spreadBy_16 fX0_11 (sC_79 hC) rfl (by decide) rfl rC_79_1 ?_
  refine x_lconst0 (pc := 19) dX0_spreadBy_19 ?_
  refine x_callS2 (pc := 20) dX0_spreadBy_20 rfl kX0_22 (s_fillJ hfl 80 0 57 rN (sC_80 hC) (by omega)) rfl (Nat.le_of_ble_eq_true rfl) (k_U (fun M9 hM9 => ?_)) n_U
  subst hM9
  refine x_memI (fun M2 hM2 => ?_)
  have k2 : ∀ a i, a ≠ 80 → a ≠ 81 → M2 a i = M a i := fun a i x y => by rw [hM2]; dsimp only; rw [if_neg (fun z => x z.1)]; exact if_neg (fun z => y z.1)
  have k3 : ∀ k, 0 ≤ k → k < 57 → M2 81 k = L k := fun k x y => by
    rw [hM2]
    dsimp only
    rw [if_neg (by omega)]
    show (if (81 : Int) = 81 ∧ 0 ≤ k ∧ k < 57 then M 80 k else M 81 k) = L k
    rw [if_pos ⟨rfl, x, y⟩]
    exact hL0 k x y
  have k4 : ∀ k, 0 ≤ k → k < 57 → M2 80 k = 0 := fun k x y => by rw [hM2]; exact if_pos ⟨rfl, x, y⟩
  clear hM2
  have hdr := hD.2.1 h hh.1 hh.2
  have v0 : M2 (1 + 12) h = t (156 + h) := (k2 _ _ (by omega) (by omega)).trans (hH.2.2.2.2.2.2.2.1 h hh.1 hh.2)
  refine x_aload_n (pc := 23) dX0_spreadBy_23 rfl rfl ?_
  refine x_getR (jj := 0) (pc := 24) dX0_spreadBy_24 fX0_18 (sC_79 hC) rfl (by decide) rfl rC_79_0 ?_
  refine x_getR (jj := 8) (pc := 27) dX0_spreadBy_27 fX0_46 (hC.2.1).2.1 rfl (by decide) rfl rS_8 ?_
  refine x_iload_n (pc := 30) dX0_spreadBy_30 rfl rfl ?_
  refine x_ialoadV (pc := 31) dX0_spreadBy_31 (hC.2.1).2.2.2.2.2.2.2.1 (by omega) (by (repeat (first | rewrite [up_s] | rewrite [up_i (by omega)] | rewrite [up_a (by omega)])); first | exact v0 | exact v1 | rfl) (fun g_31 => ?_)
  refine x_istore_n (pc := 32) dX0_spreadBy_32 rfl (by decide) rfl ?_
  refine x_iload_n (pc := 33) dX0_spreadBy_33 rfl rfl ?_
  refine x_if_ne (tgt := 55) (pc := 34) dX0_spreadBy_34 (by decide) (fun c_34 => ?_) (fun c_34 => ?_)
  · have hnz : t (156 + h) ≠ 0 := by assumption
    have loop := a_loop2 (fun d M1 => (0 ≤ d ∧ d ≤ t (156 + h)) ∧ (∀ a i, a ≠ 80 → a ≠ 81 → M1 a i = M a i) ∧ (∀ k, 0 ≤ k → k < 57 → M1 81 k = L k) ∧ ∀ k, 0 ≤ k → k < 57 → M1 80 k = sumN (fun d => shiftV L (t (163 + 4 * h + d)) (t (191 + 4 * h + d)) k) d.toNat) (fun d M1 => (t (156 + h) - d).toNat) (fun d M1 => aX l E pX0_spreadBy (aU N S (fun M' => (∀ a i, (a = 79 → i ≠ 3) → a ≠ 80 → a ≠ 81 → M' a i = M a i) ∧ (∀ k, 0 ≤ k → k < 57 → M' 80 k = convV t h L k) ∧ M' 79 3 = M 79 3 * chV t h)) 0 0 N S M1 60 [(0, (2, 79)), (1, (0, h)), (2, (0, t (156 + h))), (3, (0, sumN (fun d => t (191 + 4 * h + d)) d.toNat)), (4, (0, d))] []) (by
      intro d M1 hI ih
      obtain ⟨k1, k2, k3, k4⟩ := hI
      refine x_iload (pc := 60) dX0_spreadBy_60 rfl ?_
      refine x_iload_n (pc := 62) dX0_spreadBy_62 rfl rfl ?_
      refine x_icmp_ge (tgt := 117) (pc := 63) dX0_spreadBy_63 (by decide) (fun c_63 => ?_) (fun c_63 => ?_)
      · have hcr := csum_r hD hh d.toNat (by omega)
        have hm1 : 0 ≤ M 79 3 * sumN (fun d => t (191 + 4 * h + d)) d.toNat := Int.mul_nonneg (by omega) hcr.1
        have hm2 : M 79 3 * sumN (fun d => t (191 + 4 * h + d)) d.toNat ≤ M 79 3 * 36 := Int.mul_le_mul_of_nonneg_left hcr.2 (by omega)
        refine x_aload_n (pc := 117) dX0_spreadBy_117 rfl rfl ?_
        refine x_dup (pc := 118) dX0_spreadBy_118 rfl ?_
        refine x_getJV (jj := 3) (pc := 119) dX0_spreadBy_119 fX0_28 (sC_79 hC) rfl (by decide) rfl (by (repeat (first | rewrite [up_s] | rewrite [up_i (by omega)] | rewrite [up_a (by omega)])); first | exact v3 | exact v1 | exact v2 | exact k2 79 3 (by omega) (by omega) | rfl) ?_
        refine x_iload_n (pc := 122) dX0_spreadBy_122 rfl rfl ?_
        refine x_i2l (pc := 123) dX0_spreadBy_123 ?_
        refine x_lmul (pc := 124) dX0_spreadBy_124 (by omega) ?_
        refine x_putJ (jj := 3) (pc := 125) dX0_spreadBy_125 fX0_28 (sC_79 hC) rfl (by decide) rfl ?_
        refine x_return (pc := 128) dX0_spreadBy_128 rfl (by decide) ?_
        have hn0 : t (156 + h) ≠ 0 := hnz
        have hchv : chV t h = sumN (fun d => t (191 + 4 * h + d)) d.toNat := by
          unfold chV
          rw [if_neg hn0, show d = t (156 + h) by omega]
        rw [← hchv]
        refine ⟨rfl, rfl, rfl, fun a i x y z => (up_a2 (by omega)).trans (k2 a i y z), fun k x y => ?_, ?_⟩
        · rw [up_a (by omega), k4 k x y]
          unfold convV
          rw [if_neg hn0, show d = t (156 + h) by omega]
        · rw [up_s]
      · have z1 := hD.2.2.2.1 h d hh.1 hh.2 (by omega) (by omega)
        have z3 := hD.2.2.1 (4 * h + d) (by omega) (by omega)
        rw [show 163 + (4 * h + d) = 163 + 4 * h + d by omega] at z3
        have hps : ∀ k, 0 ≤ k → k < 57 → 0 ≤ (fun k => sumN (fun d => shiftV L (t (163 + 4 * h + d)) (t (191 + 4 * h + d)) k) d.toNat) k ∧ (fun k => sumN (fun d => shiftV L (t (163 + 4 * h + d)) (t (191 + 4 * h + d)) k) d.toNat) k ≤ 4000000000000 := fun k x y => by
          have w := part_r hD hh (b := 2176782336) (by omega) hL (k := k) ⟨x, y⟩ d.toNat (by omega)
          have e : (9 * (2176782336 : Int)) * ((d.toNat : Nat) : Int) ≤ (9 * 2176782336) * 4 := Int.mul_le_mul_of_nonneg_left (by omega) (by omega)
          dsimp only
          omega
        have v1 : M1 (1 + 13) (h * 4 + d) = t (163 + 4 * h + d) := by
          rw [k2 _ _ (by omega) (by omega), (hH.2.2.2.2.2.2.2.2 (h * 4 + d) (by omega) (by omega)).1]
          congr 1
          omega
        have v2 : M1 (1 + 14) (h * 4 + d) = t (191 + 4 * h + d) := by
          rw [k2 _ _ (by omega) (by omega), (hH.2.2.2.2.2.2.2.2 (h * 4 + d) (by omega) (by omega)).2]
          congr 1
          omega
        have hsr := csum_r hD hh d.toNat (by omega)
        refine x_iload_n (pc := 66) dX0_spreadBy_66 rfl rfl ?_
        refine x_iconst (pc := 67) dX0_spreadBy_67 (by decide) ?_
        refine x_imul (pc := 68) dX0_spreadBy_68 (by omega) ?_
        refine x_iload (pc := 69) dX0_spreadBy_69 rfl ?_
        refine x_iadd (pc := 71) dX0_spreadBy_71 (by omega) ?_
        refine x_istore (pc := 72) dX0_spreadBy_72 (by decide) rfl ?_
        refine x_aload_n (pc := 74) dX0_spreadBy_74 rfl rfl ?_
        refine x_aload_n (pc := 75) dX0_spreadBy_75 rfl rfl ?_
        refine x_getR (jj := 0) (pc := 76) dX0_spreadBy_76 fX0_18 (sC_79 hC) rfl (by decide) rfl rC_79_0 ?_
        refine x_getR (jj := 9) (pc := 79) dX0_spreadBy_79 fX0_59 (hC.2.1).2.1 rfl (by decide) rfl rS_9 ?_
        refine x_iload (pc := 82) dX0_spreadBy_82 rfl ?_
        refine x_ialoadV (pc := 84) dX0_spreadBy_84 (hC.2.1).2.2.2.2.2.2.2.2.1 (by omega) (by (repeat (first | rewrite [up_s] | rewrite [up_i (by omega)] | rewrite [up_a (by omega)])); first | exact v3 | exact v1 | exact v2 | exact k2 79 3 (by omega) (by omega) | rfl) (fun g_84 => ?_)
        refine x_aload_n (pc := 85) dX0_spreadBy_85 rfl rfl ?_
        refine x_getR (jj := 0) (pc := 86) dX0_spreadBy_86 fX0_18 (sC_79 hC) rfl (by decide) rfl rC_79_0 ?_
        refine x_getR (jj := 10) (pc := 89) dX0_spreadBy_89 fX0_62 (hC.2.1).2.1 rfl (by decide) rfl rS_10 ?_
        refine x_iload (pc := 92) dX0_spreadBy_92 rfl ?_
        refine x_ialoadV (pc := 94) dX0_spreadBy_94 (hC.2.1).2.2.2.2.2.2.2.2.2 (by omega) (by (repeat (first | rewrite [up_s] | rewrite [up_i (by omega)] | rewrite [up_a (by omega)])); first | exact v3 | exact v1 | exact v2 | exact k2 79 3 (by omega) (by omega) | rfl) (fun g_94 => ?_)
        refine x_callV2 (pc := 95) dX0_spreadBy_95 rfl kX0_55 (s_addC hfl (t (163 + 4 * h + d)) (t (191 + 4 * h + d)) (fun k => sumN (fun d => shiftV L (t (163 + 4 * h + d)) (t (191 + 4 * h + d)) k) d.toNat) L hC z3 ⟨by omega, z1.2⟩ hps (fun k x y => by have := hL k x y; omega) k4 k3) (sC_79 hC) rfl rfl (Nat.le_of_ble_eq_true rfl) (k_U (fun M9 hM9 => ?_)) n_U
        obtain ⟨n1, n2⟩ := hM9
        have v3 : M9 (1 + 14) (h * 4 + d) = t (191 + 4 * h + d) := (n1 _ _ (by omega)).trans v2
        have e := sumN_1 (fun d => t (191 + 4 * h + d)) k1.1
        refine x_iload_n (pc := 98) dX0_spreadBy_98 rfl rfl ?_
        refine x_aload_n (pc := 99) dX0_spreadBy_99 rfl rfl ?_
        refine x_getR (jj := 0) (pc := 100) dX0_spreadBy_100 fX0_18 (sC_79 hC) rfl (by decide) rfl rC_79_0 ?_
        refine x_getR (jj := 10) (pc := 103) dX0_spreadBy_103 fX0_62 (hC.2.1).2.1 rfl (by decide) rfl rS_10 ?_
        refine x_iload (pc := 106) dX0_spreadBy_106 rfl ?_
        refine x_ialoadV (pc := 108) dX0_spreadBy_108 (hC.2.1).2.2.2.2.2.2.2.2.2 (by omega) (by (repeat (first | rewrite [up_s] | rewrite [up_i (by omega)] | rewrite [up_a (by omega)])); first | exact v3 | exact v1 | exact v2 | exact k2 79 3 (by omega) (by omega) | rfl) (fun g_108 => ?_)
        refine x_iadd (pc := 109) dX0_spreadBy_109 (by omega) ?_
        refine x_istore_n (pc := 110) dX0_spreadBy_110 rfl (by decide) rfl ?_
        refine x_iinc (pc := 111) dX0_spreadBy_111 rfl (by omega) (by decide) rfl ?_
        refine x_goto (tgt := 60) (pc := 114) dX0_spreadBy_114 (by decide) ?_
        refine x_lo (lo' := [(0, (2, 79)), (1, (0, h)), (2, (0, t (156 + h))), (3, (0, sumN (fun d => t (191 + 4 * h + d)) d.toNat + t (191 + 4 * h + d))), (4, (0, d + 1))]) ⟨rfl, rfl, rfl, rfl, rfl, trivial⟩ ?_
        have z := ih (d + 1) M9 ⟨by omega, fun a i x y => (n1 a i x).trans (k2 a i x y), fun k x y => (n1 81 k (by omega)).trans (k3 k x y), fun k x y => by rw [n2 k x y, sumN_1 _ k1.1]⟩ (by omega)
        rw [e] at z
        exact z)
    refine x_iconst (pc := 55) dX0_spreadBy_55 (by decide) ?_
    refine x_istore_n (pc := 56) dX0_spreadBy_56 rfl (by decide) rfl ?_
    refine x_iconst (pc := 57) dX0_spreadBy_57 (by decide) ?_
    refine x_istore (pc := 58) dX0_spreadBy_58 (by decide) rfl ?_
    refine x_lo (lo' := [(0, (2, 79)), (1, (0, h)), (2, (0, t (156 + h))), (3, (0, sumN (fun d => t (191 + 4 * h + d)) (0 : Int).toNat)), (4, (0, 0))]) ⟨rfl, rfl, rfl, rfl, rfl, trivial⟩ (loop (0) _ ⟨by omega, k2, k3, fun k x y => k4 k x y⟩)
  · have w1 := hD.1 (6 * h) (by omega) (by omega)
    have v1 : M2 (1 + 8) (h * 6) = t (8 + 6 * h) := by
      rw [k2 _ _ (by omega) (by omega), hH.2.2.1 (h * 6) (by omega) (by omega)]
      congr 1
      omega
    refine x_aload_n (pc := 37) dX0_spreadBy_37 rfl rfl ?_
    refine x_aload_n (pc := 38) dX0_spreadBy_38 rfl rfl ?_
    refine x_getR (jj := 0) (pc := 39) dX0_spreadBy_39 fX0_18 (sC_79 hC) rfl (by decide) rfl rC_79_0 ?_
    refine x_getR (jj := 3) (pc := 42) dX0_spreadBy_42 fX0_52 (hC.2.1).2.1 rfl (by decide) rfl rS_3 ?_
    refine x_iload_n (pc := 45) dX0_spreadBy_45 rfl rfl ?_
    refine x_bipush (pc := 46) dX0_spreadBy_46 (by decide) ?_
    refine x_imul (pc := 48) dX0_spreadBy_48 (by omega) ?_
    refine x_ialoadV (pc := 49) dX0_spreadBy_49 (hC.2.1).2.2.2.1 (by omega) (by (repeat (first | rewrite [up_s] | rewrite [up_i (by omega)] | rewrite [up_a (by omega)])); first | exact v0 | exact v1 | rfl) (fun g_49 => ?_)
    refine x_iconst (pc := 50) dX0_spreadBy_50 (by decide) ?_
    refine x_callV2 (pc := 51) dX0_spreadBy_51 rfl kX0_55 (s_addC hfl (t (8 + 6 * h)) 1 (fun _ => 0) L hC w1 (by omega) (fun _ _ _ => by omega) (fun k x y => by have := hL k x y; omega) k4 k3) (sC_79 hC) rfl rfl (Nat.le_of_ble_eq_true rfl) (k_U (fun M9 hM9 => ?_)) n_U
    obtain ⟨n1, n2⟩ := hM9
    refine x_return (pc := 54) dX0_spreadBy_54 rfl (by decide) ?_
    have hch : chV t h = 1 := if_pos (by assumption)
    refine ⟨rfl, rfl, rfl, fun a i x y z => (n1 a i y).trans (k2 a i y z), fun k x y => ?_, ?_⟩
    · rw [n2 k x y, Int.zero_add]
      exact (if_pos (by assumption)).symm
    · rw [n1 79 3 (by omega), k2 79 3 (by omega) (by omega), hch, Int.mul_one]
theorem p36_6 (n : Nat) (hn : n ≤ 6) : 1 ≤ p36 n ∧ p36 n ≤ 2176782336 := by
  rcases (show n = 0 ∨ n = 1 ∨ n = 2 ∨ n = 3 ∨ n = 4 ∨ n = 5 ∨ n = 6 by omega) with rfl | rfl | rfl | rfl | rfl | rfl | rfl <;> decide
theorem oddsV_1 {t : Int → Int} {set h : Int} (hh : 0 ≤ h) : oddsV t set (h + 1).toNat = if hb set h = 1 then convV t h (oddsV t set h.toNat) else oddsV t set h.toNat := by
  rw [show (h + 1).toNat = h.toNat + 1 by omega]
  show (if hb set ((h.toNat : Nat) : Int) = 1 then convV t ((h.toNat : Nat) : Int) (oddsV t set h.toNat) else oddsV t set h.toNat) = _
  rw [show ((h.toNat : Nat) : Int) = h by omega]
theorem allC_1 {t : Int → Int} {set h : Int} (hh : 0 ≤ h) : allC t set (h + 1).toNat = if hb set h = 1 then allC t set h.toNat * chV t h else allC t set h.toNat := by
  rw [show (h + 1).toNat = h.toNat + 1 by omega]
  show (if hb set ((h.toNat : Nat) : Int) = 1 then allC t set h.toNat * chV t ((h.toNat : Nat) : Int) else allC t set h.toNat) = _
  rw [show ((h.toNat : Nat) : Int) = h by omega]
theorem s_spread {l : Launch} {E : aE} {N : Nat} {S : aS} {M : aM} (hfl : l.stackTraces = false) (set : Int) (t : Int → Int) (hC : lyC S) (hH : RHs M 1 t) (hD : TD t) : aMt l E pX0_spread [(2, 79), (0, set)] N S M (aU N S (fun M' => (∀ a i, (a = 79 → i ≠ 3) → a ≠ 80 → a ≠ 81 → M' a i = M a i) ∧ (∀ k, 0 ≤ k → k < 57 → M' 80 k = oddsV t set 7 k) ∧ M' 79 3 = allC t set 7)) := by
  refine a_met hfl rfl (by decide +kernel) (Nat.le_of_ble_eq_true rfl) ?_
  have loop := a_loop2 (fun h M1 => (0 ≤ h ∧ h ≤ 7) ∧ (∀ a i, (a = 79 → i ≠ 3) → a ≠ 80 → a ≠ 81 → M1 a i = M a i) ∧ (∀ k, 0 ≤ k → k < 57 → M1 80 k = oddsV t set h.toNat k) ∧ M1 79 3 = allC t set h.toNat) (fun h M1 => (7 - h).toNat) (fun h M1 => aX l E pX0_spread (aU N S (fun M' => (∀ a i, (a = 79 → i ≠ 3) → a ≠ 80 → a ≠ 81 → M' a i = M a i) ∧ (∀ k, 0 ≤ k → k < 57 → M' 80 k = oddsV t set 7 k) ∧ M' 79 3 = allC t set 7)) 0 0 N S M1 22 [(0, (2, 79)), (1, (0, set)), (2, (0, h))] []) (by
    intro h M1 hI ih
    obtain ⟨k1, k2, k3, k4⟩ := hI
    refine x_iload_n (pc := 22) dX0_spread_22 rfl rfl ?_
    refine x_bipush (pc := 23) dX0_spread_23 (by decide) ?_
    refine x_icmp_ge (tgt := 47) (pc := 25) dX0_spread_25 (by decide) (fun c_25 => ?_) (fun c_25 => ?_)
    · refine x_return (pc := 47) dX0_spread_47 rfl (by decide) ?_
      refine ⟨rfl, rfl, rfl, k2, fun k x y => ?_, ?_⟩
      · rw [k3 k x y, show h.toNat = 7 by omega]
      · rw [k4, show h.toNat = 7 by omega]
    · refine x_iload_n (pc := 28) dX0_spread_28 rfl rfl ?_
      refine x_iload_n (pc := 29) dX0_spread_29 rfl rfl ?_
      refine x_callSN2 (pc := 30) dX0_spread_30 rfl kX0_32 (s_isOf hfl _ _) rfl (Nat.le_of_ble_eq_true rfl) (k_R ?_) n_R
      have his := isOf_iff (x := set) (h := h) ⟨by omega, by omega⟩
      have his1 := isOfV01 set h
      refine x_if_eq (tgt := 41) (pc := 33) dX0_spread_33 (by decide) (fun c_33 => ?_) (fun c_33 => ?_)
      · refine x_iinc (pc := 41) dX0_spread_41 rfl (by omega) (by decide) rfl ?_
        refine x_goto (tgt := 22) (pc := 44) dX0_spread_44 (by decide) ?_
        refine x_lo (lo' := [(0, (2, 79)), (1, (0, set)), (2, (0, (h + 1)))]) ⟨rfl, rfl, rfl, trivial⟩ (ih (h + 1) _ ⟨by omega, k2, fun k x y => ?_, ?_⟩ (by omega))
        · rw [oddsV_1 k1.1, if_neg (by omega)]; exact k3 k x y
        · rw [allC_1 k1.1, if_neg (by omega)]; exact k4
      · refine x_aload_n (pc := 36) dX0_spread_36 rfl rfl ?_
        refine x_iload_n (pc := 37) dX0_spread_37 rfl rfl ?_
        refine x_callV1 (pc := 38) dX0_spread_38 rfl kX0_36 (s_spreadBy hfl h t (oddsV t set h.toNat) hC (hH.cg fun a x y i => k2 a i (by omega) (by omega) (by omega)) hD ⟨by omega, by omega⟩ (fun k x y => by have := oddsV_r hD (set := set) h.toNat (by omega) k x y; have := p36_6 h.toNat (by omega); omega) k3 (by rw [k4]; have := allC_r hD (set := set) h.toNat (by omega); have := p36_6 h.toNat (by omega); omega)) (sC_79 hC) rfl rfl (Nat.le_of_ble_eq_true rfl) (k_U (fun M9 hM9 => ?_)) n_U
        obtain ⟨n1, n2, n3⟩ := hM9
        refine x_iinc (pc := 41) dX0_spread_41 rfl (by omega) (by decide) rfl ?_
        refine x_goto (tgt := 22) (pc := 44) dX0_spread_44 (by decide) ?_
        refine x_lo (lo' := [(0, (2, 79)), (1, (0, set)), (2, (0, (h + 1)))]) ⟨rfl, rfl, rfl, trivial⟩ (ih (h + 1) _ ⟨by omega, fun a i x y z => (n1 a i x y z).trans (k2 a i x y z), fun k x y => ?_, ?_⟩ (by omega))
        · rw [oddsV_1 k1.1, if_pos (by omega)]; exact n2 k x y
        · rw [allC_1 k1.1, if_pos (by omega), n3, k4])
  refine x_aload_n (pc := 0) dX0_spread_0 rfl rfl ?_
  refine x_getR (jj := 1) (pc := 1) dX0_spread_1 fX0_11 (sC_79 hC) rfl (by decide) rfl rC_79_1 ?_
  refine x_lconst0 (pc := 4) dX0_spread_4 ?_
  refine x_callS2 (pc := 5) dX0_spread_5 rfl kX0_22 (s_fillJ hfl 80 0 57 rN (sC_80 hC) (by omega)) rfl (Nat.le_of_ble_eq_true rfl) (k_U (fun M9 hM9 => ?_)) n_U
  subst hM9
  refine x_aload_n (pc := 8) dX0_spread_8 rfl rfl ?_
  refine x_getR (jj := 1) (pc := 9) dX0_spread_9 fX0_11 (sC_79 hC) rfl (by decide) rfl rC_79_1 ?_
  refine x_iconst (pc := 12) dX0_spread_12 (by decide) ?_
  refine x_lconst1 (pc := 13) dX0_spread_13 ?_
  refine x_lastore (pc := 14) dX0_spread_14 (sC_80 hC) (by omega) ?_
  refine x_aload_n (pc := 15) dX0_spread_15 rfl rfl ?_
  refine x_lconst1 (pc := 16) dX0_spread_16 ?_
  refine x_putJ (jj := 3) (pc := 17) dX0_spread_17 fX0_28 (sC_79 hC) rfl (by decide) rfl ?_
  refine x_iconst (pc := 20) dX0_spread_20 (by decide) ?_
  refine x_istore_n (pc := 21) dX0_spread_21 rfl (by decide) rfl ?_
  refine x_lo (lo' := [(0, (2, 79)), (1, (0, set)), (2, (0, 0))]) ⟨rfl, rfl, rfl, trivial⟩ (loop (0) _ ⟨by omega, fun a i x y z => ?_, fun k x y => ?_, ?_⟩)
  · rw [up_a2 (by omega), up_a2 (by omega)]; exact if_neg (fun w => y w.1)
  · rw [up_a (by omega)]
    show _ = if k = 0 then (1 : Int) else 0
    by_cases e : k = 0
    · subst e; rw [up_s]; rfl
    · rw [up_i e, if_neg e]; exact if_pos ⟨rfl, x, y⟩
  · rw [up_s]; rfl
theorem s_riskC {l : Launch} {E : aE} {N : Nat} {S : aS} {M : aM} (hfl : l.stackTraces = false) (set q cost : Int) (t : Int → Int) (hC : lyC S) (hT : RTar M (1 + 1) t) (hD : TD t) (hq : 0 ≤ q ∧ q ≤ 56) (hc : 0 ≤ cost ∧ cost ≤ 60000) (hO : ∀ k, 0 ≤ k → k < 57 → M 80 k = oddsV t set 7 k) (hA : M 79 3 = allC t set 7) : aMt l E pX0_riskOf [(2, 79), (0, q), (0, cost)] N S M (aR (1, riskC t set q cost) N S M) := by
  refine a_met hfl rfl (by decide +kernel) (Nat.le_of_ble_eq_true rfl) ?_
  have hac0 := acost_r hD (set := set) hc
  have loop := a_loop1 (fun k => 0 ≤ k ∧ k ≤ 57) (fun k => (57 - k).toNat) (fun k => aX l E pX0_riskOf (aR (1, riskC t set q cost) N S M) 0 0 N S M 11 [(0, (2, 79)), (1, (0, q)), (3, (1, allC t set 7 * cost + sumN (fun k => oddsV t set 7 k * missV t q k) k.toNat)), (5, (0, k))] []) (by
    intro k hI ih
    have hso := rsum_r hD (set := set) hq k.toNat (by omega)
    have hac := acost_r hD (set := set) hc
    have J57 : k < 57 → ∀ x : Int, x = missV t q k → aX l E pX0_riskOf (aR (1, riskC t set q cost) N S M) 0 0 N S M 57 [(0, (2, 79)), (1, (0, q)), (3, (1, allC t set 7 * cost + sumN (fun k => oddsV t set 7 k * missV t q k) k.toNat)), (5, (0, k))] [(0, x)] := by
      intro hk9 x hx
      have htr := term_r hD (set := set) hq (k := k) ⟨hI.1, hk9⟩
      refine x_istore (pc := 57) dX0_riskOf_57 (by decide) rfl ?_
      refine x_lload_n (pc := 59) dX0_riskOf_59 rfl rfl ?_
      refine x_aload_n (pc := 60) dX0_riskOf_60 rfl rfl ?_
      refine x_getR (jj := 1) (pc := 61) dX0_riskOf_61 fX0_11 (sC_79 hC) rfl (by decide) rfl rC_79_1 ?_
      refine x_iload (pc := 64) dX0_riskOf_64 rfl ?_
      refine x_laloadV (pc := 66) dX0_riskOf_66 (sC_80 hC) (by omega) (by (repeat (first | rewrite [up_s] | rewrite [up_i (by omega)] | rewrite [up_a (by omega)])); first | exact hO k hI.1 hk9 | rfl) (fun g_66 => ?_)
      refine x_iload (pc := 67) dX0_riskOf_67 rfl ?_
      refine x_i2l (pc := 69) dX0_riskOf_69 ?_
      refine x_lmul (pc := 70) dX0_riskOf_70 (by rw [hx]; omega) ?_
      refine x_ladd (pc := 71) dX0_riskOf_71 (by rw [hx]; omega) ?_
      refine x_lstore_n (pc := 72) dX0_riskOf_72 rfl (by decide) rfl ?_
      refine x_iinc (pc := 73) dX0_riskOf_73 rfl (by omega) (by decide) rfl ?_
      refine x_goto (tgt := 11) (pc := 76) dX0_riskOf_76 (by decide) ?_
      have e := sumN_1 (fun k => oddsV t set 7 k * missV t q k) hI.1
      rw [hx]
      refine x_lo (lo' := [(0, (2, 79)), (1, (0, q)), (3, (1, allC t set 7 * cost + sumN (fun k => oddsV t set 7 k * missV t q k) k.toNat + oddsV t set 7 k * missV t q k)), (5, (0, k + 1))]) ⟨rfl, rfl, rfl, rfl, trivial⟩ ?_
      have z := ih (k + 1) ⟨by omega, by omega⟩ (by omega)
      rw [e, ← Int.add_assoc] at z
      exact z
    refine x_iload (pc := 11) dX0_riskOf_11 rfl ?_
    refine x_bipush (pc := 13) dX0_riskOf_13 (by decide) ?_
    refine x_icmp_ge (tgt := 79) (pc := 15) dX0_riskOf_15 (by decide) (fun c_15 => ?_) (fun c_15 => ?_)
    · refine x_lload_n (pc := 79) dX0_riskOf_79 rfl rfl ?_
      refine x_lreturn (pc := 80) dX0_riskOf_80 rfl (by decide) ?_
      refine ⟨?_, rfl, rfl, rfl⟩
      unfold riskC
      rw [show k.toNat = 57 by omega]
    · refine x_iload (pc := 18) dX0_riskOf_18 rfl ?_
      refine x_iload_n (pc := 20) dX0_riskOf_20 rfl rfl ?_
      refine x_icmp_le (tgt := 42) (pc := 21) dX0_riskOf_21 (by decide) (fun c_21 => ?_) (fun c_21 => ?_)
      · refine x_iload_n (pc := 42) dX0_riskOf_42 rfl rfl ?_
        refine x_iload (pc := 43) dX0_riskOf_43 rfl ?_
        refine x_isub (pc := 45) dX0_riskOf_45 (by omega) ?_
        refine x_aload_n (pc := 46) dX0_riskOf_46 rfl rfl ?_
        refine x_getR (jj := 0) (pc := 47) dX0_riskOf_47 fX0_18 (sC_79 hC) rfl (by decide) rfl rC_79_0 ?_
        refine x_getR (jj := 0) (pc := 50) dX0_riskOf_50 fX0_65 (hC.2.1).2.1 rfl (by decide) rfl rS_0 ?_
        refine x_getIV (jj := 8) (pc := 53) dX0_riskOf_53 fX0_75 ((hC.2.1).1).1 rfl (by decide) rfl (by (repeat (first | rewrite [up_s] | rewrite [up_i (by omega)] | rewrite [up_a (by omega)])); first | exact hT.2.2.2.2.2.2.2.2.2.1 | exact hT.2.2.2.2.2.2.1 | rfl) ?_
        refine x_imul (pc := 56) dX0_riskOf_56 (by have z := missV_r hD hq (k := k) ⟨hI.1, by omega⟩; unfold missV at z; rw [if_neg (by omega)] at z; omega) ?_
        exact x_lo (lo' := [(0, (2, 79)), (1, (0, q)), (3, (1, allC t set 7 * cost + sumN (fun k => oddsV t set 7 k * missV t q k) k.toNat)), (5, (0, k))]) ⟨rfl, rfl, rfl, rfl, trivial⟩ (J57 (by omega) _ (by unfold missV; rw [if_neg (by omega)]))
      · refine x_iload (pc := 24) dX0_riskOf_24 rfl ?_
        refine x_iload_n (pc := 26) dX0_riskOf_26 rfl rfl ?_
        refine x_isub (pc := 27) dX0_riskOf_27 (by omega) ?_
        refine x_aload_n (pc := 28) dX0_riskOf_28 rfl rfl ?_
        refine x_getR (jj := 0) (pc := 29) dX0_riskOf_29 fX0_18 (sC_79 hC) rfl (by decide) rfl rC_79_0 ?_
        refine x_getR (jj := 0) (pc := 32) dX0_riskOf_32 fX0_65 (hC.2.1).2.1 rfl (by decide) rfl rS_0 ?_
        refine x_getIV (jj := 11) (pc := 35) dX0_riskOf_35 fX0_69 ((hC.2.1).1).1 rfl (by decide) rfl (by (repeat (first | rewrite [up_s] | rewrite [up_i (by omega)] | rewrite [up_a (by omega)])); first | exact hT.2.2.2.2.2.2.2.2.2.1 | exact hT.2.2.2.2.2.2.1 | rfl) ?_
        refine x_imul (pc := 38) dX0_riskOf_38 (by have z := missV_r hD hq (k := k) ⟨hI.1, by omega⟩; unfold missV at z; rw [if_pos (by omega)] at z; omega) ?_
        refine x_goto (tgt := 57) (pc := 39) dX0_riskOf_39 (by decide) ?_
        exact x_lo (lo' := [(0, (2, 79)), (1, (0, q)), (3, (1, allC t set 7 * cost + sumN (fun k => oddsV t set 7 k * missV t q k) k.toNat)), (5, (0, k))]) ⟨rfl, rfl, rfl, rfl, trivial⟩ (J57 (by omega) _ (by unfold missV; rw [if_pos (by omega)])))
  refine x_aload_n (pc := 0) dX0_riskOf_0 rfl rfl ?_
  refine x_getJV (jj := 3) (pc := 1) dX0_riskOf_1 fX0_28 (sC_79 hC) rfl (by decide) rfl (by (repeat (first | rewrite [up_s] | rewrite [up_i (by omega)] | rewrite [up_a (by omega)])); first | exact hA | rfl) ?_
  refine x_iload_n (pc := 4) dX0_riskOf_4 rfl rfl ?_
  refine x_i2l (pc := 5) dX0_riskOf_5 ?_
  refine x_lmul (pc := 6) dX0_riskOf_6 (by omega) ?_
  refine x_lstore_n (pc := 7) dX0_riskOf_7 rfl (by decide) rfl ?_
  refine x_iconst (pc := 8) dX0_riskOf_8 (by decide) ?_
  refine x_istore (pc := 9) dX0_riskOf_9 (by decide) rfl ?_
  refine x_lo (lo' := [(0, (2, 79)), (1, (0, q)), (3, (1, allC t set 7 * cost + sumN (fun k => oddsV t set 7 k * missV t q k) (0 : Int).toNat)), (5, (0, 0))]) ⟨rfl, rfl, ?_, rfl, trivial⟩ (loop 0 ⟨by omega, by omega⟩)
  show some (1, allC t set 7 * cost) = some (1, allC t set 7 * cost + 0)
  rw [Int.add_zero]
