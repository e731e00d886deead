/-! the class's simplex algorithm -/
theorem r41_v {x : Int} (h : 0 ≤ x ∧ x < 32) : r41 x = 42 + x := if_pos h
/-- a vector of an aim -/
def bdV (w : Nat) (Z : Nat → Int) : Prop := (∀ c, c < w → (Z c).natAbs ≤ 1) ∧ (Z w).natAbs ≤ 1048576
/-- the class's rows are the tableau -/
def RTc (M : aM) (w h : Nat) (F : Nat → Nat → Int) (st : sx) (Z : Nat → Int) (fx : Nat → Bool) : Prop := (M 40 7 = w ∧ M 40 8 = h ∧ M 40 10 = ov w F st) ∧ (∀ i k : Nat, i < h → k < w + 1 → M (42 + i) k = ta w F st (F (st.2.1 i)) k) ∧ (∀ k : Nat, k < w + 1 → M (42 + h) k = ta w F st Z k) ∧ (∀ i : Nat, i < h → M 74 i = st.2.1 i) ∧ (∀ j : Nat, j < w → M 75 j = st.1 j) ∧ ∀ j : Nat, j < w → M 76 j = if fx j = true then 1 else 0
theorem mul_bd {a b : Int} (ha : a.natAbs ≤ 754974720) (hb : b.natAbs ≤ 754974720) : -569986827839078400 ≤ a * b ∧ a * b ≤ 569986827839078400 := by
  have h : (a * b).natAbs ≤ 754974720 * 754974720 := by
    rw [Int.natAbs_mul]
    exact Nat.mul_le_mul ha hb
  omega
section RT
variable {M : aM} {w h : Nat} {F : Nat → Nat → Int} {st : sx} {Z : Nat → Int} {fx : Nat → Bool}
theorem RTc.bd (hP : PBx w h F 1048576) (hw : w ≤ 5) (hO : OKx w h F st) {i k : Nat} (hi : i < h) (hk : k < w + 1) : (ta w F st (F (st.2.1 i)) k).natAbs ≤ 754974720 :=
  ta_bd (C := 1048576) hw (by omega) hP hO hk (FV_bd hP (by omega) (hO.2.2.2.1.2.1 i hi))
theorem RTc.bdZ (hP : PBx w h F 1048576) (hw : w ≤ 5) (hO : OKx w h F st) (hZ : bdV w Z) {k : Nat} (hk : k < w + 1) : (ta w F st Z k).natAbs ≤ 754974720 := ta_bd (C := 1048576) hw (by omega) hP hO hk hZ
theorem RTc.bdo (hP : PBx w h F 1048576) (hw : w ≤ 5) (hO : OKx w h F st) : 0 < ov w F st ∧ ov w F st ≤ 754974720 := by
  have := ov_bd (C := 1048576) hw (by omega) hP hO
  have := hO.2.1
  omega
end RT
theorem dX2_columnToEnter_0 : decode cX2_columnToEnter 0 = .ok (.iconst (-1), 1) := by decide +kernel
theorem dX2_columnToEnter_1 : decode cX2_columnToEnter 1 = .ok (.istore_n 1, 1) := by decide +kernel
theorem dX2_columnToEnter_2 : decode cX2_columnToEnter 2 = .ok (.iconst 0, 1) := by decide +kernel
theorem dX2_columnToEnter_3 : decode cX2_columnToEnter 3 = .ok (.istore_n 2, 1) := by decide +kernel
theorem dX2_columnToEnter_4 : decode cX2_columnToEnter 4 = .ok (.iload_n 2, 1) := by decide +kernel
theorem dX2_columnToEnter_5 : decode cX2_columnToEnter 5 = .ok (.aload_n 0, 1) := by decide +kernel
theorem dX2_columnToEnter_6 : decode cX2_columnToEnter 6 = .ok (.getfield 68, 3) := by decide +kernel
theorem dX2_columnToEnter_9 : decode cX2_columnToEnter 9 = .ok (.if_icmp .ge 56, 3) := by decide +kernel
theorem dX2_columnToEnter_12 : decode cX2_columnToEnter 12 = .ok (.aload_n 0, 1) := by decide +kernel
theorem dX2_columnToEnter_13 : decode cX2_columnToEnter 13 = .ok (.getfield 23, 3) := by decide +kernel
theorem dX2_columnToEnter_16 : decode cX2_columnToEnter 16 = .ok (.iload_n 2, 1) := by decide +kernel
theorem dX2_columnToEnter_17 : decode cX2_columnToEnter 17 = .ok (.baload, 1) := by decide +kernel
theorem dX2_columnToEnter_18 : decode cX2_columnToEnter 18 = .ok (.ifCond .ne 41, 3) := by decide +kernel
theorem dX2_columnToEnter_21 : decode cX2_columnToEnter 21 = .ok (.aload_n 0, 1) := by decide +kernel
theorem dX2_columnToEnter_22 : decode cX2_columnToEnter 22 = .ok (.getfield 13, 3) := by decide +kernel
theorem dX2_columnToEnter_25 : decode cX2_columnToEnter 25 = .ok (.aload_n 0, 1) := by decide +kernel
theorem dX2_columnToEnter_26 : decode cX2_columnToEnter 26 = .ok (.getfield 65, 3) := by decide +kernel
theorem dX2_columnToEnter_29 : decode cX2_columnToEnter 29 = .ok (.aaload, 1) := by decide +kernel
theorem dX2_columnToEnter_30 : decode cX2_columnToEnter 30 = .ok (.iload_n 2, 1) := by decide +kernel
theorem dX2_columnToEnter_31 : decode cX2_columnToEnter 31 = .ok (.laload, 1) := by decide +kernel
theorem dX2_columnToEnter_32 : decode cX2_columnToEnter 32 = .ok (.lconst 0, 1) := by decide +kernel
theorem dX2_columnToEnter_33 : decode cX2_columnToEnter 33 = .ok (.lcmp, 1) := by decide +kernel
theorem dX2_columnToEnter_34 : decode cX2_columnToEnter 34 = .ok (.ifCond .ge 25, 3) := by decide +kernel
theorem dX2_columnToEnter_37 : decode cX2_columnToEnter 37 = .ok (.iload_n 1, 1) := by decide +kernel
theorem dX2_columnToEnter_38 : decode cX2_columnToEnter 38 = .ok (.iconst (-1), 1) := by decide +kernel
theorem dX2_columnToEnter_39 : decode cX2_columnToEnter 39 = .ok (.if_icmp .eq 18, 3) := by decide +kernel
theorem dX2_columnToEnter_42 : decode cX2_columnToEnter 42 = .ok (.aload_n 0, 1) := by decide +kernel
theorem dX2_columnToEnter_43 : decode cX2_columnToEnter 43 = .ok (.getfield 20, 3) := by decide +kernel
theorem dX2_columnToEnter_46 : decode cX2_columnToEnter 46 = .ok (.iload_n 2, 1) := by decide +kernel
theorem dX2_columnToEnter_47 : decode cX2_columnToEnter 47 = .ok (.iaload, 1) := by decide +kernel
theorem dX2_columnToEnter_48 : decode cX2_columnToEnter 48 = .ok (.aload_n 0, 1) := by decide +kernel
theorem dX2_columnToEnter_49 : decode cX2_columnToEnter 49 = .ok (.getfield 20, 3) := by decide +kernel
theorem dX2_columnToEnter_52 : decode cX2_columnToEnter 52 = .ok (.iload_n 1, 1) := by decide +kernel
theorem dX2_columnToEnter_53 : decode cX2_columnToEnter 53 = .ok (.iaload, 1) := by decide +kernel
theorem dX2_columnToEnter_54 : decode cX2_columnToEnter 54 = .ok (.if_icmp .ge 5, 3) := by decide +kernel
theorem dX2_columnToEnter_57 : decode cX2_columnToEnter 57 = .ok (.iload_n 2, 1) := by decide +kernel
theorem dX2_columnToEnter_58 : decode cX2_columnToEnter 58 = .ok (.istore_n 1, 1) := by decide +kernel
theorem dX2_columnToEnter_59 : decode cX2_columnToEnter 59 = .ok (.iinc 2 1, 3) := by decide +kernel
theorem dX2_columnToEnter_62 : decode cX2_columnToEnter 62 = .ok (.goto (-58), 3) := by decide +kernel
theorem dX2_columnToEnter_65 : decode cX2_columnToEnter 65 = .ok (.iload_n 1, 1) := by decide +kernel
theorem dX2_columnToEnter_66 : decode cX2_columnToEnter 66 = .ok (.ireturn, 1) := by decide +kernel
theorem dX2_rowToLeave_0 : decode cX2_rowToLeave 0 = .ok (.iconst (-1), 1) := by decide +kernel
theorem dX2_rowToLeave_1 : decode cX2_rowToLeave 1 = .ok (.istore_n 2, 1) := by decide +kernel
theorem dX2_rowToLeave_2 : decode cX2_rowToLeave 2 = .ok (.iconst 0, 1) := by decide +kernel
theorem dX2_rowToLeave_3 : decode cX2_rowToLeave 3 = .ok (.istore_n 3, 1) := by decide +kernel
theorem dX2_rowToLeave_4 : decode cX2_rowToLeave 4 = .ok (.iload_n 3, 1) := by decide +kernel
theorem dX2_rowToLeave_5 : decode cX2_rowToLeave 5 = .ok (.aload_n 0, 1) := by decide +kernel
theorem dX2_rowToLeave_6 : decode cX2_rowToLeave 6 = .ok (.getfield 65, 3) := by decide +kernel
theorem dX2_rowToLeave_9 : decode cX2_rowToLeave 9 = .ok (.if_icmp .ge 110, 3) := by decide +kernel
theorem dX2_rowToLeave_12 : decode cX2_rowToLeave 12 = .ok (.aload_n 0, 1) := by decide +kernel
theorem dX2_rowToLeave_13 : decode cX2_rowToLeave 13 = .ok (.getfield 13, 3) := by decide +kernel
theorem dX2_rowToLeave_16 : decode cX2_rowToLeave 16 = .ok (.iload_n 3, 1) := by decide +kernel
theorem dX2_rowToLeave_17 : decode cX2_rowToLeave 17 = .ok (.aaload, 1) := by decide +kernel
theorem dX2_rowToLeave_18 : decode cX2_rowToLeave 18 = .ok (.iload_n 1, 1) := by decide +kernel
theorem dX2_rowToLeave_19 : decode cX2_rowToLeave 19 = .ok (.laload, 1) := by decide +kernel
theorem dX2_rowToLeave_20 : decode cX2_rowToLeave 20 = .ok (.lconst 0, 1) := by decide +kernel
theorem dX2_rowToLeave_21 : decode cX2_rowToLeave 21 = .ok (.lcmp, 1) := by decide +kernel
theorem dX2_rowToLeave_22 : decode cX2_rowToLeave 22 = .ok (.ifCond .gt 6, 3) := by decide +kernel
theorem dX2_rowToLeave_25 : decode cX2_rowToLeave 25 = .ok (.goto 88, 3) := by decide +kernel
theorem dX2_rowToLeave_28 : decode cX2_rowToLeave 28 = .ok (.iload_n 2, 1) := by decide +kernel
theorem dX2_rowToLeave_29 : decode cX2_rowToLeave 29 = .ok (.iconst (-1), 1) := by decide +kernel
theorem dX2_rowToLeave_30 : decode cX2_rowToLeave 30 = .ok (.if_icmp .ne 9, 3) := by decide +kernel
theorem dX2_rowToLeave_33 : decode cX2_rowToLeave 33 = .ok (.ldc2_w 81, 3) := by decide +kernel
theorem dX2_rowToLeave_36 : decode cX2_rowToLeave 36 = .ok (.goto 44, 3) := by decide +kernel
theorem dX2_rowToLeave_39 : decode cX2_rowToLeave 39 = .ok (.aload_n 0, 1) := by decide +kernel
theorem dX2_rowToLeave_40 : decode cX2_rowToLeave 40 = .ok (.getfield 13, 3) := by decide +kernel
theorem dX2_rowToLeave_43 : decode cX2_rowToLeave 43 = .ok (.iload_n 3, 1) := by decide +kernel
theorem dX2_rowToLeave_44 : decode cX2_rowToLeave 44 = .ok (.aaload, 1) := by decide +kernel
theorem dX2_rowToLeave_45 : decode cX2_rowToLeave 45 = .ok (.aload_n 0, 1) := by decide +kernel
theorem dX2_rowToLeave_46 : decode cX2_rowToLeave 46 = .ok (.getfield 68, 3) := by decide +kernel
theorem dX2_rowToLeave_49 : decode cX2_rowToLeave 49 = .ok (.laload, 1) := by decide +kernel
theorem dX2_rowToLeave_50 : decode cX2_rowToLeave 50 = .ok (.aload_n 0, 1) := by decide +kernel
theorem dX2_rowToLeave_51 : decode cX2_rowToLeave 51 = .ok (.getfield 13, 3) := by decide +kernel
theorem dX2_rowToLeave_54 : decode cX2_rowToLeave 54 = .ok (.iload_n 2, 1) := by decide +kernel
theorem dX2_rowToLeave_55 : decode cX2_rowToLeave 55 = .ok (.aaload, 1) := by decide +kernel
theorem dX2_rowToLeave_56 : decode cX2_rowToLeave 56 = .ok (.iload_n 1, 1) := by decide +kernel
theorem dX2_rowToLeave_57 : decode cX2_rowToLeave 57 = .ok (.laload, 1) := by decide +kernel
theorem dX2_rowToLeave_58 : decode cX2_rowToLeave 58 = .ok (.lmul, 1) := by decide +kernel
theorem dX2_rowToLeave_59 : decode cX2_rowToLeave 59 = .ok (.aload_n 0, 1) := by decide +kernel
theorem dX2_rowToLeave_60 : decode cX2_rowToLeave 60 = .ok (.getfield 13, 3) := by decide +kernel
theorem dX2_rowToLeave_63 : decode cX2_rowToLeave 63 = .ok (.iload_n 2, 1) := by decide +kernel
theorem dX2_rowToLeave_64 : decode cX2_rowToLeave 64 = .ok (.aaload, 1) := by decide +kernel
theorem dX2_rowToLeave_65 : decode cX2_rowToLeave 65 = .ok (.aload_n 0, 1) := by decide +kernel
theorem dX2_rowToLeave_66 : decode cX2_rowToLeave 66 = .ok (.getfield 68, 3) := by decide +kernel
theorem dX2_rowToLeave_69 : decode cX2_rowToLeave 69 = .ok (.laload, 1) := by decide +kernel
theorem dX2_rowToLeave_70 : decode cX2_rowToLeave 70 = .ok (.aload_n 0, 1) := by decide +kernel
theorem dX2_rowToLeave_71 : decode cX2_rowToLeave 71 = .ok (.getfield 13, 3) := by decide +kernel
theorem dX2_rowToLeave_74 : decode cX2_rowToLeave 74 = .ok (.iload_n 3, 1) := by decide +kernel
theorem dX2_rowToLeave_75 : decode cX2_rowToLeave 75 = .ok (.aaload, 1) := by decide +kernel
theorem dX2_rowToLeave_76 : decode cX2_rowToLeave 76 = .ok (.iload_n 1, 1) := by decide +kernel
theorem dX2_rowToLeave_77 : decode cX2_rowToLeave 77 = .ok (.laload, 1) := by decide +kernel
theorem dX2_rowToLeave_78 : decode cX2_rowToLeave 78 = .ok (.lmul, 1) := by decide +kernel
theorem dX2_rowToLeave_79 : decode cX2_rowToLeave 79 = .ok (.lsub, 1) := by decide +kernel
theorem dX2_rowToLeave_80 : decode cX2_rowToLeave 80 = .ok (.lstore 4, 2) := by decide +kernel
theorem dX2_rowToLeave_82 : decode cX2_rowToLeave 82 = .ok (.lload 4, 2) := by decide +kernel
theorem dX2_rowToLeave_84 : decode cX2_rowToLeave 84 = .ok (.lconst 0, 1) := by decide +kernel
theorem dX2_rowToLeave_85 : decode cX2_rowToLeave 85 = .ok (.lcmp, 1) := by decide +kernel
theorem dX2_rowToLeave_86 : decode cX2_rowToLeave 86 = .ok (.ifCond .lt 25, 3) := by decide +kernel
theorem dX2_rowToLeave_89 : decode cX2_rowToLeave 89 = .ok (.lload 4, 2) := by decide +kernel
theorem dX2_rowToLeave_91 : decode cX2_rowToLeave 91 = .ok (.lconst 0, 1) := by decide +kernel
theorem dX2_rowToLeave_92 : decode cX2_rowToLeave 92 = .ok (.lcmp, 1) := by decide +kernel
theorem dX2_rowToLeave_93 : decode cX2_rowToLeave 93 = .ok (.ifCond .ne 20, 3) := by decide +kernel
theorem dX2_rowToLeave_96 : decode cX2_rowToLeave 96 = .ok (.aload_n 0, 1) := by decide +kernel
theorem dX2_rowToLeave_97 : decode cX2_rowToLeave 97 = .ok (.getfield 16, 3) := by decide +kernel
theorem dX2_rowToLeave_100 : decode cX2_rowToLeave 100 = .ok (.iload_n 3, 1) := by decide +kernel
theorem dX2_rowToLeave_101 : decode cX2_rowToLeave 101 = .ok (.iaload, 1) := by decide +kernel
theorem dX2_rowToLeave_102 : decode cX2_rowToLeave 102 = .ok (.aload_n 0, 1) := by decide +kernel
theorem dX2_rowToLeave_103 : decode cX2_rowToLeave 103 = .ok (.getfield 16, 3) := by decide +kernel
theorem dX2_rowToLeave_106 : decode cX2_rowToLeave 106 = .ok (.iload_n 2, 1) := by decide +kernel
theorem dX2_rowToLeave_107 : decode cX2_rowToLeave 107 = .ok (.iaload, 1) := by decide +kernel
theorem dX2_rowToLeave_108 : decode cX2_rowToLeave 108 = .ok (.if_icmp .ge 5, 3) := by decide +kernel
theorem dX2_rowToLeave_111 : decode cX2_rowToLeave 111 = .ok (.iload_n 3, 1) := by decide +kernel
theorem dX2_rowToLeave_112 : decode cX2_rowToLeave 112 = .ok (.istore_n 2, 1) := by decide +kernel
theorem dX2_rowToLeave_113 : decode cX2_rowToLeave 113 = .ok (.iinc 3 1, 3) := by decide +kernel
theorem dX2_rowToLeave_116 : decode cX2_rowToLeave 116 = .ok (.goto (-112), 3) := by decide +kernel
theorem dX2_rowToLeave_119 : decode cX2_rowToLeave 119 = .ok (.iload_n 2, 1) := by decide +kernel
theorem dX2_rowToLeave_120 : decode cX2_rowToLeave 120 = .ok (.ireturn, 1) := by decide +kernel
theorem dX2_turn_0 : decode cX2_turn 0 = .ok (.aload_n 0, 1) := by decide +kernel
theorem dX2_turn_1 : decode cX2_turn 1 = .ok (.getfield 13, 3) := by decide +kernel
theorem dX2_turn_4 : decode cX2_turn 4 = .ok (.iload_n 1, 1) := by decide +kernel
theorem dX2_turn_5 : decode cX2_turn 5 = .ok (.aaload, 1) := by decide +kernel
theorem dX2_turn_6 : decode cX2_turn 6 = .ok (.iload_n 2, 1) := by decide +kernel
theorem dX2_turn_7 : decode cX2_turn 7 = .ok (.laload, 1) := by decide +kernel
theorem dX2_turn_8 : decode cX2_turn 8 = .ok (.lstore_n 3, 1) := by decide +kernel
theorem dX2_turn_9 : decode cX2_turn 9 = .ok (.lload_n 3, 1) := by decide +kernel
theorem dX2_turn_10 : decode cX2_turn 10 = .ok (.lconst 0, 1) := by decide +kernel
theorem dX2_turn_11 : decode cX2_turn 11 = .ok (.lcmp, 1) := by decide +kernel
theorem dX2_turn_12 : decode cX2_turn 12 = .ok (.ifCond .le 12, 3) := by decide +kernel
theorem dX2_turn_15 : decode cX2_turn 15 = .ok (.aload_n 0, 1) := by decide +kernel
theorem dX2_turn_16 : decode cX2_turn 16 = .ok (.getfield 61, 3) := by decide +kernel
theorem dX2_turn_19 : decode cX2_turn 19 = .ok (.lconst 0, 1) := by decide +kernel
theorem dX2_turn_20 : decode cX2_turn 20 = .ok (.lcmp, 1) := by decide +kernel
theorem dX2_turn_21 : decode cX2_turn 21 = .ok (.ifCond .gt 4, 3) := by decide +kernel
theorem dX2_turn_24 : decode cX2_turn 24 = .ok (.return_, 1) := by decide +kernel
theorem dX2_turn_25 : decode cX2_turn 25 = .ok (.iconst 0, 1) := by decide +kernel
theorem dX2_turn_26 : decode cX2_turn 26 = .ok (.istore 5, 2) := by decide +kernel
theorem dX2_turn_28 : decode cX2_turn 28 = .ok (.iload 5, 2) := by decide +kernel
theorem dX2_turn_30 : decode cX2_turn 30 = .ok (.aload_n 0, 1) := by decide +kernel
theorem dX2_turn_31 : decode cX2_turn 31 = .ok (.getfield 65, 3) := by decide +kernel
theorem dX2_turn_34 : decode cX2_turn 34 = .ok (.if_icmp .gt 33, 3) := by decide +kernel
theorem dX2_turn_37 : decode cX2_turn 37 = .ok (.iload 5, 2) := by decide +kernel
theorem dX2_turn_39 : decode cX2_turn 39 = .ok (.iload_n 1, 1) := by decide +kernel
theorem dX2_turn_40 : decode cX2_turn 40 = .ok (.if_icmp .eq 21, 3) := by decide +kernel
theorem dX2_turn_43 : decode cX2_turn 43 = .ok (.aload_n 0, 1) := by decide +kernel
theorem dX2_turn_44 : decode cX2_turn 44 = .ok (.aload_n 0, 1) := by decide +kernel
theorem dX2_turn_45 : decode cX2_turn 45 = .ok (.getfield 13, 3) := by decide +kernel
theorem dX2_turn_48 : decode cX2_turn 48 = .ok (.iload 5, 2) := by decide +kernel
theorem dX2_turn_50 : decode cX2_turn 50 = .ok (.aaload, 1) := by decide +kernel
theorem dX2_turn_51 : decode cX2_turn 51 = .ok (.aload_n 0, 1) := by decide +kernel
theorem dX2_turn_52 : decode cX2_turn 52 = .ok (.getfield 13, 3) := by decide +kernel
theorem dX2_turn_55 : decode cX2_turn 55 = .ok (.iload_n 1, 1) := by decide +kernel
theorem dX2_turn_56 : decode cX2_turn 56 = .ok (.aaload, 1) := by decide +kernel
theorem dX2_turn_57 : decode cX2_turn 57 = .ok (.iload_n 2, 1) := by decide +kernel
theorem dX2_turn_58 : decode cX2_turn 58 = .ok (.invokevirtual 105, 3) := by decide +kernel
theorem dX2_turn_61 : decode cX2_turn 61 = .ok (.iinc 5 1, 3) := by decide +kernel
theorem dX2_turn_64 : decode cX2_turn 64 = .ok (.goto (-36), 3) := by decide +kernel
theorem dX2_turn_67 : decode cX2_turn 67 = .ok (.aload_n 0, 1) := by decide +kernel
theorem dX2_turn_68 : decode cX2_turn 68 = .ok (.getfield 13, 3) := by decide +kernel
theorem dX2_turn_71 : decode cX2_turn 71 = .ok (.iload_n 1, 1) := by decide +kernel
theorem dX2_turn_72 : decode cX2_turn 72 = .ok (.aaload, 1) := by decide +kernel
theorem dX2_turn_73 : decode cX2_turn 73 = .ok (.iload_n 2, 1) := by decide +kernel
theorem dX2_turn_74 : decode cX2_turn 74 = .ok (.aload_n 0, 1) := by decide +kernel
theorem dX2_turn_75 : decode cX2_turn 75 = .ok (.getfield 61, 3) := by decide +kernel
theorem dX2_turn_78 : decode cX2_turn 78 = .ok (.lastore, 1) := by decide +kernel
theorem dX2_turn_79 : decode cX2_turn 79 = .ok (.aload_n 0, 1) := by decide +kernel
theorem dX2_turn_80 : decode cX2_turn 80 = .ok (.lload_n 3, 1) := by decide +kernel
theorem dX2_turn_81 : decode cX2_turn 81 = .ok (.putfield 61, 3) := by decide +kernel
theorem dX2_turn_84 : decode cX2_turn 84 = .ok (.aload_n 0, 1) := by decide +kernel
theorem dX2_turn_85 : decode cX2_turn 85 = .ok (.getfield 16, 3) := by decide +kernel
theorem dX2_turn_88 : decode cX2_turn 88 = .ok (.iload_n 1, 1) := by decide +kernel
theorem dX2_turn_89 : decode cX2_turn 89 = .ok (.iaload, 1) := by decide +kernel
theorem dX2_turn_90 : decode cX2_turn 90 = .ok (.istore 5, 2) := by decide +kernel
theorem dX2_turn_92 : decode cX2_turn 92 = .ok (.aload_n 0, 1) := by decide +kernel
theorem dX2_turn_93 : decode cX2_turn 93 = .ok (.getfield 16, 3) := by decide +kernel
theorem dX2_turn_96 : decode cX2_turn 96 = .ok (.iload_n 1, 1) := by decide +kernel
theorem dX2_turn_97 : decode cX2_turn 97 = .ok (.aload_n 0, 1) := by decide +kernel
theorem dX2_turn_98 : decode cX2_turn 98 = .ok (.getfield 20, 3) := by decide +kernel
theorem dX2_turn_101 : decode cX2_turn 101 = .ok (.iload_n 2, 1) := by decide +kernel
theorem dX2_turn_102 : decode cX2_turn 102 = .ok (.iaload, 1) := by decide +kernel
theorem dX2_turn_103 : decode cX2_turn 103 = .ok (.iastore, 1) := by decide +kernel
theorem dX2_turn_104 : decode cX2_turn 104 = .ok (.aload_n 0, 1) := by decide +kernel
theorem dX2_turn_105 : decode cX2_turn 105 = .ok (.getfield 20, 3) := by decide +kernel
theorem dX2_turn_108 : decode cX2_turn 108 = .ok (.iload_n 2, 1) := by decide +kernel
theorem dX2_turn_109 : decode cX2_turn 109 = .ok (.iload 5, 2) := by decide +kernel
theorem dX2_turn_111 : decode cX2_turn 111 = .ok (.iastore, 1) := by decide +kernel
theorem dX2_turn_112 : decode cX2_turn 112 = .ok (.return_, 1) := by decide +kernel
theorem dX2_turnRow_0 : decode cX2_turnRow 0 = .ok (.aload_n 0, 1) := by decide +kernel
theorem dX2_turnRow_1 : decode cX2_turnRow 1 = .ok (.getfield 61, 3) := by decide +kernel
theorem dX2_turnRow_4 : decode cX2_turnRow 4 = .ok (.lconst 0, 1) := by decide +kernel
theorem dX2_turnRow_5 : decode cX2_turnRow 5 = .ok (.lcmp, 1) := by decide +kernel
theorem dX2_turnRow_6 : decode cX2_turnRow 6 = .ok (.ifCond .ne 4, 3) := by decide +kernel
theorem dX2_turnRow_9 : decode cX2_turnRow 9 = .ok (.return_, 1) := by decide +kernel
theorem dX2_turnRow_10 : decode cX2_turnRow 10 = .ok (.aload_n 2, 1) := by decide +kernel
theorem dX2_turnRow_11 : decode cX2_turnRow 11 = .ok (.iload_n 3, 1) := by decide +kernel
theorem dX2_turnRow_12 : decode cX2_turnRow 12 = .ok (.laload, 1) := by decide +kernel
theorem dX2_turnRow_13 : decode cX2_turnRow 13 = .ok (.lstore 4, 2) := by decide +kernel
theorem dX2_turnRow_15 : decode cX2_turnRow 15 = .ok (.aload_n 1, 1) := by decide +kernel
theorem dX2_turnRow_16 : decode cX2_turnRow 16 = .ok (.iload_n 3, 1) := by decide +kernel
theorem dX2_turnRow_17 : decode cX2_turnRow 17 = .ok (.laload, 1) := by decide +kernel
theorem dX2_turnRow_18 : decode cX2_turnRow 18 = .ok (.lstore 6, 2) := by decide +kernel
theorem dX2_turnRow_20 : decode cX2_turnRow 20 = .ok (.iconst 0, 1) := by decide +kernel
theorem dX2_turnRow_21 : decode cX2_turnRow 21 = .ok (.istore 8, 2) := by decide +kernel
theorem dX2_turnRow_23 : decode cX2_turnRow 23 = .ok (.iload 8, 2) := by decide +kernel
theorem dX2_turnRow_25 : decode cX2_turnRow 25 = .ok (.aload_n 0, 1) := by decide +kernel
theorem dX2_turnRow_26 : decode cX2_turnRow 26 = .ok (.getfield 68, 3) := by decide +kernel
theorem dX2_turnRow_29 : decode cX2_turnRow 29 = .ok (.if_icmp .gt 39, 3) := by decide +kernel
theorem dX2_turnRow_32 : decode cX2_turnRow 32 = .ok (.iload 8, 2) := by decide +kernel
theorem dX2_turnRow_34 : decode cX2_turnRow 34 = .ok (.iload_n 3, 1) := by decide +kernel
theorem dX2_turnRow_35 : decode cX2_turnRow 35 = .ok (.if_icmp .eq 27, 3) := by decide +kernel
theorem dX2_turnRow_38 : decode cX2_turnRow 38 = .ok (.aload_n 1, 1) := by decide +kernel
theorem dX2_turnRow_39 : decode cX2_turnRow 39 = .ok (.iload 8, 2) := by decide +kernel
theorem dX2_turnRow_41 : decode cX2_turnRow 41 = .ok (.aload_n 1, 1) := by decide +kernel
theorem dX2_turnRow_42 : decode cX2_turnRow 42 = .ok (.iload 8, 2) := by decide +kernel
theorem dX2_turnRow_44 : decode cX2_turnRow 44 = .ok (.laload, 1) := by decide +kernel
theorem dX2_turnRow_45 : decode cX2_turnRow 45 = .ok (.lload 4, 2) := by decide +kernel
theorem dX2_turnRow_47 : decode cX2_turnRow 47 = .ok (.lmul, 1) := by decide +kernel
theorem dX2_turnRow_48 : decode cX2_turnRow 48 = .ok (.lload 6, 2) := by decide +kernel
theorem dX2_turnRow_50 : decode cX2_turnRow 50 = .ok (.aload_n 2, 1) := by decide +kernel
theorem dX2_turnRow_51 : decode cX2_turnRow 51 = .ok (.iload 8, 2) := by decide +kernel
theorem dX2_turnRow_53 : decode cX2_turnRow 53 = .ok (.laload, 1) := by decide +kernel
theorem dX2_turnRow_54 : decode cX2_turnRow 54 = .ok (.lmul, 1) := by decide +kernel
theorem dX2_turnRow_55 : decode cX2_turnRow 55 = .ok (.lsub, 1) := by decide +kernel
theorem dX2_turnRow_56 : decode cX2_turnRow 56 = .ok (.aload_n 0, 1) := by decide +kernel
theorem dX2_turnRow_57 : decode cX2_turnRow 57 = .ok (.getfield 61, 3) := by decide +kernel
theorem dX2_turnRow_60 : decode cX2_turnRow 60 = .ok (.ldiv, 1) := by decide +kernel
theorem dX2_turnRow_61 : decode cX2_turnRow 61 = .ok (.lastore, 1) := by decide +kernel
theorem dX2_turnRow_62 : decode cX2_turnRow 62 = .ok (.iinc 8 1, 3) := by decide +kernel
theorem dX2_turnRow_65 : decode cX2_turnRow 65 = .ok (.goto (-42), 3) := by decide +kernel
theorem dX2_turnRow_68 : decode cX2_turnRow 68 = .ok (.aload_n 1, 1) := by decide +kernel
theorem dX2_turnRow_69 : decode cX2_turnRow 69 = .ok (.iload_n 3, 1) := by decide +kernel
theorem dX2_turnRow_70 : decode cX2_turnRow 70 = .ok (.lload 6, 2) := by decide +kernel
theorem dX2_turnRow_72 : decode cX2_turnRow 72 = .ok (.lneg, 1) := by decide +kernel
theorem dX2_turnRow_73 : decode cX2_turnRow 73 = .ok (.lastore, 1) := by decide +kernel
theorem dX2_turnRow_74 : decode cX2_turnRow 74 = .ok (.return_, 1) := by decide +kernel
theorem dX2_climb_0 : decode cX2_climb 0 = .ok (.iconst 0, 1) := by decide +kernel
theorem dX2_climb_1 : decode cX2_climb 1 = .ok (.istore_n 1, 1) := by decide +kernel
theorem dX2_climb_2 : decode cX2_climb 2 = .ok (.iload_n 1, 1) := by decide +kernel
theorem dX2_climb_3 : decode cX2_climb 3 = .ok (.ldc 93, 2) := by decide +kernel
theorem dX2_climb_5 : decode cX2_climb 5 = .ok (.if_icmp .ge 38, 3) := by decide +kernel
theorem dX2_climb_8 : decode cX2_climb 8 = .ok (.aload_n 0, 1) := by decide +kernel
theorem dX2_climb_9 : decode cX2_climb 9 = .ok (.invokevirtual 94, 3) := by decide +kernel
theorem dX2_climb_12 : decode cX2_climb 12 = .ok (.istore_n 2, 1) := by decide +kernel
theorem dX2_climb_13 : decode cX2_climb 13 = .ok (.iload_n 2, 1) := by decide +kernel
theorem dX2_climb_14 : decode cX2_climb 14 = .ok (.iconst (-1), 1) := by decide +kernel
theorem dX2_climb_15 : decode cX2_climb 15 = .ok (.if_icmp .ne 4, 3) := by decide +kernel
theorem dX2_climb_18 : decode cX2_climb 18 = .ok (.return_, 1) := by decide +kernel
theorem dX2_climb_19 : decode cX2_climb 19 = .ok (.aload_n 0, 1) := by decide +kernel
theorem dX2_climb_20 : decode cX2_climb 20 = .ok (.iload_n 2, 1) := by decide +kernel
theorem dX2_climb_21 : decode cX2_climb 21 = .ok (.invokevirtual 98, 3) := by decide +kernel
theorem dX2_climb_24 : decode cX2_climb 24 = .ok (.istore_n 3, 1) := by decide +kernel
theorem dX2_climb_25 : decode cX2_climb 25 = .ok (.iload_n 3, 1) := by decide +kernel
theorem dX2_climb_26 : decode cX2_climb 26 = .ok (.iconst (-1), 1) := by decide +kernel
theorem dX2_climb_27 : decode cX2_climb 27 = .ok (.if_icmp .ne 4, 3) := by decide +kernel
theorem dX2_climb_30 : decode cX2_climb 30 = .ok (.return_, 1) := by decide +kernel
theorem dX2_climb_31 : decode cX2_climb 31 = .ok (.aload_n 0, 1) := by decide +kernel
theorem dX2_climb_32 : decode cX2_climb 32 = .ok (.iload_n 3, 1) := by decide +kernel
theorem dX2_climb_33 : decode cX2_climb 33 = .ok (.iload_n 2, 1) := by decide +kernel
theorem dX2_climb_34 : decode cX2_climb 34 = .ok (.invokevirtual 101, 3) := by decide +kernel
theorem dX2_climb_37 : decode cX2_climb 37 = .ok (.iinc 1 1, 3) := by decide +kernel
theorem dX2_climb_40 : decode cX2_climb 40 = .ok (.goto (-38), 3) := by decide +kernel
theorem dX2_climb_43 : decode cX2_climb 43 = .ok (.return_, 1) := by decide +kernel
theorem dX2_rowOf_0 : decode cX2_rowOf 0 = .ok (.iconst 0, 1) := by decide +kernel
theorem dX2_rowOf_1 : decode cX2_rowOf 1 = .ok (.istore_n 2, 1) := by decide +kernel
theorem dX2_rowOf_2 : decode cX2_rowOf 2 = .ok (.iload_n 2, 1) := by decide +kernel
theorem dX2_rowOf_3 : decode cX2_rowOf 3 = .ok (.aload_n 0, 1) := by decide +kernel
theorem dX2_rowOf_4 : decode cX2_rowOf 4 = .ok (.getfield 65, 3) := by decide +kernel
theorem dX2_rowOf_7 : decode cX2_rowOf 7 = .ok (.if_icmp .ge 21, 3) := by decide +kernel
theorem dX2_rowOf_10 : decode cX2_rowOf 10 = .ok (.aload_n 0, 1) := by decide +kernel
theorem dX2_rowOf_11 : decode cX2_rowOf 11 = .ok (.getfield 16, 3) := by decide +kernel
theorem dX2_rowOf_14 : decode cX2_rowOf 14 = .ok (.iload_n 2, 1) := by decide +kernel
theorem dX2_rowOf_15 : decode cX2_rowOf 15 = .ok (.iaload, 1) := by decide +kernel
theorem dX2_rowOf_16 : decode cX2_rowOf 16 = .ok (.iload_n 1, 1) := by decide +kernel
theorem dX2_rowOf_17 : decode cX2_rowOf 17 = .ok (.if_icmp .ne 5, 3) := by decide +kernel
theorem dX2_rowOf_20 : decode cX2_rowOf 20 = .ok (.iload_n 2, 1) := by decide +kernel
theorem dX2_rowOf_21 : decode cX2_rowOf 21 = .ok (.ireturn, 1) := by decide +kernel
theorem dX2_rowOf_22 : decode cX2_rowOf 22 = .ok (.iinc 2 1, 3) := by decide +kernel
theorem dX2_rowOf_25 : decode cX2_rowOf 25 = .ok (.goto (-23), 3) := by decide +kernel
theorem dX2_rowOf_28 : decode cX2_rowOf 28 = .ok (.iconst (-1), 1) := by decide +kernel
theorem dX2_rowOf_29 : decode cX2_rowOf 29 = .ok (.ireturn, 1) := by decide +kernel
theorem dX2_valueOf_0 : decode cX2_valueOf 0 = .ok (.aload_n 0, 1) := by decide +kernel
theorem dX2_valueOf_1 : decode cX2_valueOf 1 = .ok (.iload_n 1, 1) := by decide +kernel
theorem dX2_valueOf_2 : decode cX2_valueOf 2 = .ok (.invokevirtual 89, 3) := by decide +kernel
theorem dX2_valueOf_5 : decode cX2_valueOf 5 = .ok (.istore_n 2, 1) := by decide +kernel
theorem dX2_valueOf_6 : decode cX2_valueOf 6 = .ok (.iload_n 2, 1) := by decide +kernel
theorem dX2_valueOf_7 : decode cX2_valueOf 7 = .ok (.iconst (-1), 1) := by decide +kernel
theorem dX2_valueOf_8 : decode cX2_valueOf 8 = .ok (.if_icmp .ne 7, 3) := by decide +kernel
theorem dX2_valueOf_11 : decode cX2_valueOf 11 = .ok (.lconst 0, 1) := by decide +kernel
theorem dX2_valueOf_12 : decode cX2_valueOf 12 = .ok (.goto 14, 3) := by decide +kernel
theorem dX2_valueOf_15 : decode cX2_valueOf 15 = .ok (.aload_n 0, 1) := by decide +kernel
theorem dX2_valueOf_16 : decode cX2_valueOf 16 = .ok (.getfield 13, 3) := by decide +kernel
theorem dX2_valueOf_19 : decode cX2_valueOf 19 = .ok (.iload_n 2, 1) := by decide +kernel
theorem dX2_valueOf_20 : decode cX2_valueOf 20 = .ok (.aaload, 1) := by decide +kernel
theorem dX2_valueOf_21 : decode cX2_valueOf 21 = .ok (.aload_n 0, 1) := by decide +kernel
theorem dX2_valueOf_22 : decode cX2_valueOf 22 = .ok (.getfield 68, 3) := by decide +kernel
theorem dX2_valueOf_25 : decode cX2_valueOf 25 = .ok (.laload, 1) := by decide +kernel
theorem dX2_valueOf_26 : decode cX2_valueOf 26 = .ok (.lreturn, 1) := by decide +kernel
theorem dX2_placeOf_0 : decode cX2_placeOf 0 = .ok (.iconst 0, 1) := by decide +kernel
theorem dX2_placeOf_1 : decode cX2_placeOf 1 = .ok (.istore_n 2, 1) := by decide +kernel
theorem dX2_placeOf_2 : decode cX2_placeOf 2 = .ok (.iload_n 2, 1) := by decide +kernel
theorem dX2_placeOf_3 : decode cX2_placeOf 3 = .ok (.aload_n 0, 1) := by decide +kernel
theorem dX2_placeOf_4 : decode cX2_placeOf 4 = .ok (.getfield 68, 3) := by decide +kernel
theorem dX2_placeOf_7 : decode cX2_placeOf 7 = .ok (.if_icmp .ge 21, 3) := by decide +kernel
theorem dX2_placeOf_10 : decode cX2_placeOf 10 = .ok (.aload_n 0, 1) := by decide +kernel
theorem dX2_placeOf_11 : decode cX2_placeOf 11 = .ok (.getfield 27, 3) := by decide +kernel
theorem dX2_placeOf_14 : decode cX2_placeOf 14 = .ok (.iload_n 2, 1) := by decide +kernel
theorem dX2_placeOf_15 : decode cX2_placeOf 15 = .ok (.iaload, 1) := by decide +kernel
theorem dX2_placeOf_16 : decode cX2_placeOf 16 = .ok (.iload_n 1, 1) := by decide +kernel
theorem dX2_placeOf_17 : decode cX2_placeOf 17 = .ok (.if_icmp .ne 5, 3) := by decide +kernel
theorem dX2_placeOf_20 : decode cX2_placeOf 20 = .ok (.iload_n 2, 1) := by decide +kernel
theorem dX2_placeOf_21 : decode cX2_placeOf 21 = .ok (.ireturn, 1) := by decide +kernel
theorem dX2_placeOf_22 : decode cX2_placeOf 22 = .ok (.iinc 2 1, 3) := by decide +kernel
theorem dX2_placeOf_25 : decode cX2_placeOf 25 = .ok (.goto (-23), 3) := by decide +kernel
theorem dX2_placeOf_28 : decode cX2_placeOf 28 = .ok (.iconst 0, 1) := by decide +kernel
theorem dX2_placeOf_29 : decode cX2_placeOf 29 = .ok (.ireturn, 1) := by decide +kernel
theorem dX2_missing_0 : decode cX2_missing 0 = .ok (.aload_n 0, 1) := by decide +kernel
theorem dX2_missing_1 : decode cX2_missing 1 = .ok (.getfield 37, 3) := by decide +kernel
theorem dX2_missing_4 : decode cX2_missing 4 = .ok (.getfield 52, 3) := by decide +kernel
theorem dX2_missing_7 : decode cX2_missing 7 = .ok (.aload_n 0, 1) := by decide +kernel
theorem dX2_missing_8 : decode cX2_missing 8 = .ok (.getfield 57, 3) := by decide +kernel
theorem dX2_missing_11 : decode cX2_missing 11 = .ok (.iaload, 1) := by decide +kernel
theorem dX2_missing_12 : decode cX2_missing 12 = .ok (.i2l, 1) := by decide +kernel
theorem dX2_missing_13 : decode cX2_missing 13 = .ok (.aload_n 0, 1) := by decide +kernel
theorem dX2_missing_14 : decode cX2_missing 14 = .ok (.getfield 61, 3) := by decide +kernel
theorem dX2_missing_17 : decode cX2_missing 17 = .ok (.lmul, 1) := by decide +kernel
theorem dX2_missing_18 : decode cX2_missing 18 = .ok (.aload_n 0, 1) := by decide +kernel
theorem dX2_missing_19 : decode cX2_missing 19 = .ok (.getfield 13, 3) := by decide +kernel
theorem dX2_missing_22 : decode cX2_missing 22 = .ok (.aload_n 0, 1) := by decide +kernel
theorem dX2_missing_23 : decode cX2_missing 23 = .ok (.getfield 65, 3) := by decide +kernel
theorem dX2_missing_26 : decode cX2_missing 26 = .ok (.aaload, 1) := by decide +kernel
theorem dX2_missing_27 : decode cX2_missing 27 = .ok (.aload_n 0, 1) := by decide +kernel
theorem dX2_missing_28 : decode cX2_missing 28 = .ok (.getfield 68, 3) := by decide +kernel
theorem dX2_missing_31 : decode cX2_missing 31 = .ok (.laload, 1) := by decide +kernel
theorem dX2_missing_32 : decode cX2_missing 32 = .ok (.lsub, 1) := by decide +kernel
theorem dX2_missing_33 : decode cX2_missing 33 = .ok (.lreturn, 1) := by decide +kernel
theorem s_columnToEnter {l : Launch} {E : aE} {N : Nat} {S : aS} {M : aM} (hfl : l.stackTraces = false) {w h : Nat} {F : Nat → Nat → Int} {st : sx} {Z : Nat → Int} {fx : Nat → Bool} (hC : lyC S) (hR : RTc M w h F st Z fx) (hP : PBx w h F 1048576) (hw : w ≤ 5) (hh : h ≤ 31) (hZ : bdV w Z) (hO : OKx w h F st) : aMt l E pX2_columnToEnter [(2, 40)] N S M (aR (0, sxE w F Z fx st) N S M) := by
  refine a_met hfl rfl (by decide +kernel) (Nat.le_of_ble_eq_true rfl) ?_
  have loop := a_loop1 (fun j => j ≤ w) (fun j => w - j) (fun j => aX l E pX2_columnToEnter (aR (0, sxE w F Z fx st) N S M) 0 0 N S M 4 [(0, (2, 40)), (1, (0, entL (fun k => ta w F st Z k) fx st.1 j)), (2, (0, (j : Int)))] []) (by
    intro j hI ih
    have hg1 := hR.1.1
    have hg2 := hR.1.2.1
    have hg3 := hR.1.2.2
    refine x_iload_n (pc := 4) dX2_columnToEnter_4 rfl rfl ?_
    refine x_aload_n (pc := 5) dX2_columnToEnter_5 rfl rfl ?_
    refine x_getIV (jj := 7) (pc := 6) dX2_columnToEnter_6 fX2_68 (sC_40 hC) rfl (by decide) rfl (by (repeat (first | rewrite [up_s] | rewrite [up_i (by omega)] | rewrite [up_a (by omega)])); first | exact hg1 | exact hg2 | exact hR.2.2.2.2.2 j (by omega) | exact hR.2.2.1 j (by omega) | exact hR.2.2.2.2.1 j (by omega) | exact hnb | rfl) ?_
    refine x_icmp_ge (tgt := 65) (pc := 9) dX2_columnToEnter_9 (by decide) (fun c_9 => ?_) (fun c_9 => ?_)
    · refine x_iload_n (pc := 65) dX2_columnToEnter_65 rfl rfl ?_
      refine x_ireturn (pc := 66) dX2_columnToEnter_66 rfl (by decide) ?_
      have e : j = w := by omega
      subst e
      exact ⟨rfl, rfl, rfl, rfl⟩
    · refine x_aload_n (pc := 12) dX2_columnToEnter_12 rfl rfl ?_
      refine x_getR (jj := 5) (pc := 13) dX2_columnToEnter_13 fX2_23 (sC_40 hC) rfl (by decide) rfl rC_40_5 ?_
      refine x_iload_n (pc := 16) dX2_columnToEnter_16 rfl rfl ?_
      refine x_zaloadV (pc := 17) dX2_columnToEnter_17 (sC_76 hC) (by omega) (by (repeat (first | rewrite [up_s] | rewrite [up_i (by omega)] | rewrite [up_a (by omega)])); first | exact hg1 | exact hg2 | exact hR.2.2.2.2.2 j (by omega) | exact hR.2.2.1 j (by omega) | exact hR.2.2.2.2.1 j (by omega) | exact hnb | rfl) ?_
      refine x_if_ne (tgt := 59) (pc := 18) dX2_columnToEnter_18 (by decide) (fun c_18 => ?_) (fun c_18 => ?_)
      · refine x_iinc (pc := 59) dX2_columnToEnter_59 rfl (by omega) (by decide) rfl ?_
        refine x_goto (tgt := 4) (pc := 62) dX2_columnToEnter_62 (by decide) ?_
        have e : entL (fun k => ta w F st Z k) fx st.1 (j + 1) = entL (fun k => ta w F st Z k) fx st.1 j := if_neg (fun q => by
          have q := q.1
          rw [q] at c_18
          exact c_18 rfl)
        refine x_lo (lo' := [(0, (2, 40)), (1, (0, entL (fun k => ta w F st Z k) fx st.1 j)), (2, (0, ((j + 1 : Nat) : Int)))]) ⟨rfl, rfl, rfl, trivial⟩ ?_
        have z := ih (j + 1) (by omega) (by omega)
        rw [e] at z
        exact z
      · refine x_aload_n (pc := 21) dX2_columnToEnter_21 rfl rfl ?_
        refine x_getR (jj := 2) (pc := 22) dX2_columnToEnter_22 fX2_13 (sC_40 hC) rfl (by decide) rfl rC_40_2 ?_
        refine x_aload_n (pc := 25) dX2_columnToEnter_25 rfl rfl ?_
        refine x_getIV (jj := 8) (pc := 26) dX2_columnToEnter_26 fX2_65 (sC_40 hC) rfl (by decide) rfl (by (repeat (first | rewrite [up_s] | rewrite [up_i (by omega)] | rewrite [up_a (by omega)])); first | exact hg1 | exact hg2 | exact hR.2.2.2.2.2 j (by omega) | exact hR.2.2.1 j (by omega) | exact hR.2.2.2.2.1 j (by omega) | exact hnb | rfl) ?_
        refine x_raload (pc := 29) dX2_columnToEnter_29 (sC_41 hC) (by omega) ?_
        rewrite [r41_v (by omega)]
        refine x_iload_n (pc := 30) dX2_columnToEnter_30 rfl rfl ?_
        refine x_laloadV (pc := 31) dX2_columnToEnter_31 (hC.1 _ (by omega) (by omega)) (by omega) (by (repeat (first | rewrite [up_s] | rewrite [up_i (by omega)] | rewrite [up_a (by omega)])); first | exact hg1 | exact hg2 | exact hR.2.2.2.2.2 j (by omega) | exact hR.2.2.1 j (by omega) | exact hR.2.2.2.2.1 j (by omega) | exact hnb | rfl) (fun g_31 => ?_)
        refine x_lconst0 (pc := 32) dX2_columnToEnter_32 ?_
        refine x_lge (tgt := 59) (pc := 33) dX2_columnToEnter_33 dX2_columnToEnter_34 (by decide) (fun c_33 => ?_) (fun c_33 => ?_)
        · refine x_iinc (pc := 59) dX2_columnToEnter_59 rfl (by omega) (by decide) rfl ?_
          refine x_goto (tgt := 4) (pc := 62) dX2_columnToEnter_62 (by decide) ?_
          have e : entL (fun k => ta w F st Z k) fx st.1 (j + 1) = entL (fun k => ta w F st Z k) fx st.1 j := if_neg (fun q => by
            have q : ta w F st Z j < 0 := q.2.1
            omega)
          refine x_lo (lo' := [(0, (2, 40)), (1, (0, entL (fun k => ta w F st Z k) fx st.1 j)), (2, (0, ((j + 1 : Nat) : Int)))]) ⟨rfl, rfl, rfl, trivial⟩ ?_
          have z := ih (j + 1) (by omega) (by omega)
          rw [e] at z
          exact z
        · refine x_iload_n (pc := 37) dX2_columnToEnter_37 rfl rfl ?_
          refine x_iconst (pc := 38) dX2_columnToEnter_38 (by decide) ?_
          refine x_icmp_eq (tgt := 57) (pc := 39) dX2_columnToEnter_39 (by decide) (fun c_39 => ?_) (fun c_39 => ?_)
          · refine x_iload_n (pc := 57) dX2_columnToEnter_57 rfl rfl ?_
            refine x_istore_n (pc := 58) dX2_columnToEnter_58 rfl (by decide) rfl ?_
            refine x_iinc (pc := 59) dX2_columnToEnter_59 rfl (by omega) (by decide) rfl ?_
            refine x_goto (tgt := 4) (pc := 62) dX2_columnToEnter_62 (by decide) ?_
            have hf0 : fx j = false := by
              cases hq : fx j
              · rfl
              · rw [hq] at c_18; exact absurd c_18 (by decide)
            have hzn : (fun k => ta w F st Z k) j < 0 := by
              show ta w F st Z j < 0
              omega
            have e : entL (fun k => ta w F st Z k) fx st.1 (j + 1) = (j : Int) := if_pos ⟨hf0, hzn, Or.inl (by assumption)⟩
            refine x_lo (lo' := [(0, (2, 40)), (1, (0, (j : Int))), (2, (0, ((j + 1 : Nat) : Int)))]) ⟨rfl, rfl, rfl, trivial⟩ ?_
            have z := ih (j + 1) (by omega) (by omega)
            rw [e] at z
            exact z
          · have hf0 : fx j = false := by
              cases hq : fx j
              · rfl
              · rw [hq] at c_18; exact absurd c_18 (by decide)
            have hzn : (fun k => ta w F st Z k) j < 0 := by
              show ta w F st Z j < 0
              omega
            have hsp := entL_sp (z := (fun k => ta w F st Z k)) (fx := fx) (ν := st.1) j
            obtain ⟨b9, hb9, eb9⟩ : ∃ b : Nat, b < j ∧ entL (fun k => ta w F st Z k) fx st.1 j = (b : Int) := by
              rcases hsp with ⟨q, -⟩ | ⟨b, q1, q2, -⟩
              · exact absurd q c_39
              · exact ⟨b, q1, q2⟩
            have hnb : M 75 (entL (fun k => ta w F st Z k) fx st.1 j) = st.1 b9 := by rw [eb9]; exact hR.2.2.2.2.1 b9 (by omega)
            refine x_aload_n (pc := 42) dX2_columnToEnter_42 rfl rfl ?_
            refine x_getR (jj := 4) (pc := 43) dX2_columnToEnter_43 fX2_20 (sC_40 hC) rfl (by decide) rfl rC_40_4 ?_
            refine x_iload_n (pc := 46) dX2_columnToEnter_46 rfl rfl ?_
            refine x_ialoadV (pc := 47) dX2_columnToEnter_47 (sC_75 hC) (by omega) (by (repeat (first | rewrite [up_s] | rewrite [up_i (by omega)] | rewrite [up_a (by omega)])); first | exact hg1 | exact hg2 | exact hR.2.2.2.2.2 j (by omega) | exact hR.2.2.1 j (by omega) | exact hR.2.2.2.2.1 j (by omega) | exact hnb | rfl) (fun g_47 => ?_)
            refine x_aload_n (pc := 48) dX2_columnToEnter_48 rfl rfl ?_
            refine x_getR (jj := 4) (pc := 49) dX2_columnToEnter_49 fX2_20 (sC_40 hC) rfl (by decide) rfl rC_40_4 ?_
            refine x_iload_n (pc := 52) dX2_columnToEnter_52 rfl rfl ?_
            refine x_ialoadV (pc := 53) dX2_columnToEnter_53 (sC_75 hC) (by omega) (by (repeat (first | rewrite [up_s] | rewrite [up_i (by omega)] | rewrite [up_a (by omega)])); first | exact hg1 | exact hg2 | exact hR.2.2.2.2.2 j (by omega) | exact hR.2.2.1 j (by omega) | exact hR.2.2.2.2.1 j (by omega) | exact hnb | rfl) (fun g_53 => ?_)
            refine x_icmp_ge (tgt := 59) (pc := 54) dX2_columnToEnter_54 (by decide) (fun c_54 => ?_) (fun c_54 => ?_)
            · refine x_iinc (pc := 59) dX2_columnToEnter_59 rfl (by omega) (by decide) rfl ?_
              refine x_goto (tgt := 4) (pc := 62) dX2_columnToEnter_62 (by decide) ?_
              have e : entL (fun k => ta w F st Z k) fx st.1 (j + 1) = entL (fun k => ta w F st Z k) fx st.1 j := if_neg (fun q => by
                rcases q.2.2 with q | q
                · omega
                · rw [eb9] at q
                  have q : st.1 j < st.1 b9 := q
                  omega)
              refine x_lo (lo' := [(0, (2, 40)), (1, (0, entL (fun k => ta w F st Z k) fx st.1 j)), (2, (0, ((j + 1 : Nat) : Int)))]) ⟨rfl, rfl, rfl, trivial⟩ ?_
              have z := ih (j + 1) (by omega) (by omega)
              rw [e] at z
              exact z
            · refine x_iload_n (pc := 57) dX2_columnToEnter_57 rfl rfl ?_
              refine x_istore_n (pc := 58) dX2_columnToEnter_58 rfl (by decide) rfl ?_
              refine x_iinc (pc := 59) dX2_columnToEnter_59 rfl (by omega) (by decide) rfl ?_
              refine x_goto (tgt := 4) (pc := 62) dX2_columnToEnter_62 (by decide) ?_
              have e : entL (fun k => ta w F st Z k) fx st.1 (j + 1) = (j : Int) := if_pos ⟨hf0, hzn, Or.inr (by rw [eb9]; show st.1 j < st.1 b9; omega)⟩
              refine x_lo (lo' := [(0, (2, 40)), (1, (0, (j : Int))), (2, (0, ((j + 1 : Nat) : Int)))]) ⟨rfl, rfl, rfl, trivial⟩ ?_
              have z := ih (j + 1) (by omega) (by omega)
              rw [e] at z
              exact z)
  refine x_iconst (pc := 0) dX2_columnToEnter_0 (by decide) ?_
  refine x_istore_n (pc := 1) dX2_columnToEnter_1 rfl (by decide) rfl ?_
  refine x_iconst (pc := 2) dX2_columnToEnter_2 (by decide) ?_
  refine x_istore_n (pc := 3) dX2_columnToEnter_3 rfl (by decide) rfl ?_
  exact x_lo (lo' := [(0, (2, 40)), (1, (0, entL (fun k => ta w F st Z k) fx st.1 0)), (2, (0, ((0 : Nat) : Int)))]) ⟨rfl, rfl, rfl, trivial⟩ (loop 0 (by omega))
theorem s_rowToLeave {l : Launch} {E : aE} {N : Nat} {S : aS} {M : aM} (hfl : l.stackTraces = false) {w h : Nat} {F : Nat → Nat → Int} {st : sx} {Z : Nat → Int} {fx : Nat → Bool} (hC : lyC S) (hR : RTc M w h F st Z fx) (hP : PBx w h F 1048576) (hw : w ≤ 5) (hh : h ≤ 31) (hZ : bdV w Z) (hO : OKx w h F st) (c : Nat) (hc : c < w) : aMt l E pX2_rowToLeave [(2, 40), (0, (c : Int))] N S M (aR (0, sxL w h F st c) N S M) := by
  refine a_met hfl rfl (by decide +kernel) (Nat.le_of_ble_eq_true rfl) ?_
  have loop := a_loop1 (fun i => i ≤ h) (fun i => h - i) (fun i => aX l E pX2_rowToLeave (aR (0, sxL w h F st c) N S M) 0 0 N S M 4 [(0, (2, 40)), (1, (0, (c : Int))), (2, (0, leaL (fun i k => ta w F st (F (st.2.1 i)) k) st.2.1 w c i)), (3, (0, (i : Int)))] []) (by
    intro i hI ih
    have hg1 := hR.1.1
    have hg2 := hR.1.2.1
    have hg3 := hR.1.2.2
    refine x_iload_n (pc := 4) dX2_rowToLeave_4 rfl rfl ?_
    refine x_aload_n (pc := 5) dX2_rowToLeave_5 rfl rfl ?_
    refine x_getIV (jj := 8) (pc := 6) dX2_rowToLeave_6 fX2_65 (sC_40 hC) rfl (by decide) rfl (by (repeat (first | rewrite [up_s] | rewrite [up_i (by omega)] | rewrite [up_a (by omega)])); first | exact hg1 | exact hg2 | exact hR.2.1 i c (by omega) (by omega) | exact hR.2.1 i w (by omega) (by omega) | exact hR.2.2.2.1 i (by omega) | exact hbc | exact hbw | exact hbn | rfl) ?_
    refine x_icmp_ge (tgt := 119) (pc := 9) dX2_rowToLeave_9 (by decide) (fun c_9 => ?_) (fun c_9 => ?_)
    · refine x_iload_n (pc := 119) dX2_rowToLeave_119 rfl rfl ?_
      refine x_ireturn (pc := 120) dX2_rowToLeave_120 rfl (by decide) ?_
      have e : i = h := by omega
      subst e
      exact ⟨rfl, rfl, rfl, rfl⟩
    · refine x_aload_n (pc := 12) dX2_rowToLeave_12 rfl rfl ?_
      refine x_getR (jj := 2) (pc := 13) dX2_rowToLeave_13 fX2_13 (sC_40 hC) rfl (by decide) rfl rC_40_2 ?_
      refine x_iload_n (pc := 16) dX2_rowToLeave_16 rfl rfl ?_
      refine x_raload (pc := 17) dX2_rowToLeave_17 (sC_41 hC) (by omega) ?_
      rewrite [r41_v (by omega)]
      refine x_iload_n (pc := 18) dX2_rowToLeave_18 rfl rfl ?_
      refine x_laloadV (pc := 19) dX2_rowToLeave_19 (hC.1 _ (by omega) (by omega)) (by omega) (by (repeat (first | rewrite [up_s] | rewrite [up_i (by omega)] | rewrite [up_a (by omega)])); first | exact hg1 | exact hg2 | exact hR.2.1 i c (by omega) (by omega) | exact hR.2.1 i w (by omega) (by omega) | exact hR.2.2.2.1 i (by omega) | exact hbc | exact hbw | exact hbn | rfl) (fun g_19 => ?_)
      refine x_lconst0 (pc := 20) dX2_rowToLeave_20 ?_
      refine x_lgt (tgt := 28) (pc := 21) dX2_rowToLeave_21 dX2_rowToLeave_22 (by decide) (fun c_21 => ?_) (fun c_21 => ?_)
      · refine x_iload_n (pc := 28) dX2_rowToLeave_28 rfl rfl ?_
        refine x_iconst (pc := 29) dX2_rowToLeave_29 (by decide) ?_
        refine x_icmp_ne (tgt := 39) (pc := 30) dX2_rowToLeave_30 (by decide) (fun c_30 => ?_) (fun c_30 => ?_)
        · have hvp : 0 < (fun i k => ta w F st (F (st.2.1 i)) k) i c := by
            show 0 < ta w F st (F (st.2.1 i)) c
            omega
          have hsp := leaL_sp (T := (fun i k => ta w F st (F (st.2.1 i)) k)) (ρ := st.2.1) (w := w) (c := c) i
          obtain ⟨b9, hb9, eb9⟩ : ∃ b : Nat, b < i ∧ leaL (fun i k => ta w F st (F (st.2.1 i)) k) st.2.1 w c i = (b : Int) := by
            rcases hsp with ⟨q, -⟩ | ⟨b, q1, q2, -⟩
            · exact absurd q c_30
            · exact ⟨b, q1, q2⟩
          have hbw : M (42 + leaL (fun i k => ta w F st (F (st.2.1 i)) k) st.2.1 w c i) w = ta w F st (F (st.2.1 b9)) w := by rw [eb9]; exact hR.2.1 b9 w (by omega) (by omega)
          have hbc : M (42 + leaL (fun i k => ta w F st (F (st.2.1 i)) k) st.2.1 w c i) c = ta w F st (F (st.2.1 b9)) c := by rw [eb9]; exact hR.2.1 b9 c (by omega) (by omega)
          have hbn : M 74 (leaL (fun i k => ta w F st (F (st.2.1 i)) k) st.2.1 w c i) = st.2.1 b9 := by rw [eb9]; exact hR.2.2.2.1 b9 (by omega)
          have m1 := mul_bd (RTc.bd hP hw hO (i := i) (k := w) (by omega) (by omega)) (RTc.bd hP hw hO (i := b9) (k := c) (by omega) (by omega))
          have m2 := mul_bd (RTc.bd hP hw hO (i := b9) (k := w) (by omega) (by omega)) (RTc.bd hP hw hO (i := i) (k := c) (by omega) (by omega))
          refine x_aload_n (pc := 39) dX2_rowToLeave_39 rfl rfl ?_
          refine x_getR (jj := 2) (pc := 40) dX2_rowToLeave_40 fX2_13 (sC_40 hC) rfl (by decide) rfl rC_40_2 ?_
          refine x_iload_n (pc := 43) dX2_rowToLeave_43 rfl rfl ?_
          refine x_raload (pc := 44) dX2_rowToLeave_44 (sC_41 hC) (by omega) ?_
          rewrite [r41_v (by omega)]
          refine x_aload_n (pc := 45) dX2_rowToLeave_45 rfl rfl ?_
          refine x_getIV (jj := 7) (pc := 46) dX2_rowToLeave_46 fX2_68 (sC_40 hC) rfl (by decide) rfl (by (repeat (first | rewrite [up_s] | rewrite [up_i (by omega)] | rewrite [up_a (by omega)])); first | exact hg1 | exact hg2 | exact hR.2.1 i c (by omega) (by omega) | exact hR.2.1 i w (by omega) (by omega) | exact hR.2.2.2.1 i (by omega) | exact hbc | exact hbw | exact hbn | rfl) ?_
          refine x_laloadV (pc := 49) dX2_rowToLeave_49 (hC.1 _ (by omega) (by omega)) (by omega) (by (repeat (first | rewrite [up_s] | rewrite [up_i (by omega)] | rewrite [up_a (by omega)])); first | exact hg1 | exact hg2 | exact hR.2.1 i c (by omega) (by omega) | exact hR.2.1 i w (by omega) (by omega) | exact hR.2.2.2.1 i (by omega) | exact hbc | exact hbw | exact hbn | rfl) (fun g_49 => ?_)
          refine x_aload_n (pc := 50) dX2_rowToLeave_50 rfl rfl ?_
          refine x_getR (jj := 2) (pc := 51) dX2_rowToLeave_51 fX2_13 (sC_40 hC) rfl (by decide) rfl rC_40_2 ?_
          refine x_iload_n (pc := 54) dX2_rowToLeave_54 rfl rfl ?_
          refine x_raload (pc := 55) dX2_rowToLeave_55 (sC_41 hC) (by omega) ?_
          rewrite [r41_v (by omega)]
          refine x_iload_n (pc := 56) dX2_rowToLeave_56 rfl rfl ?_
          refine x_laloadV (pc := 57) dX2_rowToLeave_57 (hC.1 _ (by omega) (by omega)) (by omega) (by (repeat (first | rewrite [up_s] | rewrite [up_i (by omega)] | rewrite [up_a (by omega)])); first | exact hg1 | exact hg2 | exact hR.2.1 i c (by omega) (by omega) | exact hR.2.1 i w (by omega) (by omega) | exact hR.2.2.2.1 i (by omega) | exact hbc | exact hbw | exact hbn | rfl) (fun g_57 => ?_)
          refine x_lmul (pc := 58) dX2_rowToLeave_58 (by omega) ?_
          refine x_aload_n (pc := 59) dX2_rowToLeave_59 rfl rfl ?_
          refine x_getR (jj := 2) (pc := 60) dX2_rowToLeave_60 fX2_13 (sC_40 hC) rfl (by decide) rfl rC_40_2 ?_
          refine x_iload_n (pc := 63) dX2_rowToLeave_63 rfl rfl ?_
          refine x_raload (pc := 64) dX2_rowToLeave_64 (sC_41 hC) (by omega) ?_
          rewrite [r41_v (by omega)]
          refine x_aload_n (pc := 65) dX2_rowToLeave_65 rfl rfl ?_
          refine x_getIV (jj := 7) (pc := 66) dX2_rowToLeave_66 fX2_68 (sC_40 hC) rfl (by decide) rfl (by (repeat (first | rewrite [up_s] | rewrite [up_i (by omega)] | rewrite [up_a (by omega)])); first | exact hg1 | exact hg2 | exact hR.2.1 i c (by omega) (by omega) | exact hR.2.1 i w (by omega) (by omega) | exact hR.2.2.2.1 i (by omega) | exact hbc | exact hbw | exact hbn | rfl) ?_
          refine x_laloadV (pc := 69) dX2_rowToLeave_69 (hC.1 _ (by omega) (by omega)) (by omega) (by (repeat (first | rewrite [up_s] | rewrite [up_i (by omega)] | rewrite [up_a (by omega)])); first | exact hg1 | exact hg2 | exact hR.2.1 i c (by omega) (by omega) | exact hR.2.1 i w (by omega) (by omega) | exact hR.2.2.2.1 i (by omega) | exact hbc | exact hbw | exact hbn | rfl) (fun g_69 => ?_)
          refine x_aload_n (pc := 70) dX2_rowToLeave_70 rfl rfl ?_
          refine x_getR (jj := 2) (pc := 71) dX2_rowToLeave_71 fX2_13 (sC_40 hC) rfl (by decide) rfl rC_40_2 ?_
          refine x_iload_n (pc := 74) dX2_rowToLeave_74 rfl rfl ?_
          refine x_raload (pc := 75) dX2_rowToLeave_75 (sC_41 hC) (by omega) ?_
          rewrite [r41_v (by omega)]
          refine x_iload_n (pc := 76) dX2_rowToLeave_76 rfl rfl ?_
          refine x_laloadV (pc := 77) dX2_rowToLeave_77 (hC.1 _ (by omega) (by omega)) (by omega) (by (repeat (first | rewrite [up_s] | rewrite [up_i (by omega)] | rewrite [up_a (by omega)])); first | exact hg1 | exact hg2 | exact hR.2.1 i c (by omega) (by omega) | exact hR.2.1 i w (by omega) (by omega) | exact hR.2.2.2.1 i (by omega) | exact hbc | exact hbw | exact hbn | rfl) (fun g_77 => ?_)
          refine x_lmul (pc := 78) dX2_rowToLeave_78 (by omega) ?_
          refine x_lsub (pc := 79) dX2_rowToLeave_79 (by omega) ?_
          refine x_lstore (pc := 80) dX2_rowToLeave_80 (by decide) rfl ?_
          refine x_lload (pc := 82) dX2_rowToLeave_82 rfl ?_
          refine x_lconst0 (pc := 84) dX2_rowToLeave_84 ?_
          refine x_llt (tgt := 111) (pc := 85) dX2_rowToLeave_85 dX2_rowToLeave_86 (by decide) (fun c_85 => ?_) (fun c_85 => ?_)
          · refine x_iload_n (pc := 111) dX2_rowToLeave_111 rfl rfl ?_
            refine x_istore_n (pc := 112) dX2_rowToLeave_112 rfl (by decide) rfl ?_
            refine x_iinc (pc := 113) dX2_rowToLeave_113 rfl (by omega) (by decide) rfl ?_
            refine x_goto (tgt := 4) (pc := 116) dX2_rowToLeave_116 (by decide) ?_
            have e : leaL (fun i k => ta w F st (F (st.2.1 i)) k) st.2.1 w c (i + 1) = (i : Int) := if_pos ⟨hvp, Or.inr (by rw [eb9]; exact Or.inl (by show ta w F st (F (st.2.1 i)) w * ta w F st (F (st.2.1 b9)) c < ta w F st (F (st.2.1 b9)) w * ta w F st (F (st.2.1 i)) c; omega))⟩
            refine x_lo (lo' := [(0, (2, 40)), (1, (0, (c : Int))), (2, (0, (i : Int))), (3, (0, ((i + 1 : Nat) : Int)))]) ⟨rfl, rfl, rfl, rfl, trivial⟩ ?_
            have z := ih (i + 1) (by omega) (by omega)
            rw [e] at z
            exact z
          · refine x_lload (pc := 89) dX2_rowToLeave_89 rfl ?_
            refine x_lconst0 (pc := 91) dX2_rowToLeave_91 ?_
            refine x_lne (tgt := 113) (pc := 92) dX2_rowToLeave_92 dX2_rowToLeave_93 (by decide) (fun c_92 => ?_) (fun c_92 => ?_)
            · refine x_iinc (pc := 113) dX2_rowToLeave_113 rfl (by omega) (by decide) rfl ?_
              refine x_goto (tgt := 4) (pc := 116) dX2_rowToLeave_116 (by decide) ?_
              have e : leaL (fun i k => ta w F st (F (st.2.1 i)) k) st.2.1 w c (i + 1) = leaL (fun i k => ta w F st (F (st.2.1 i)) k) st.2.1 w c i := if_neg (fun q => by
                have q : ta w F st (F (st.2.1 i)) w * ta w F st (F (st.2.1 b9)) c < ta w F st (F (st.2.1 b9)) w * ta w F st (F (st.2.1 i)) c ∨ (ta w F st (F (st.2.1 i)) w * ta w F st (F (st.2.1 b9)) c = ta w F st (F (st.2.1 b9)) w * ta w F st (F (st.2.1 i)) c ∧ st.2.1 i < st.2.1 b9) := by
                  rcases q.2 with q | q
                  · omega
                  · rw [eb9] at q; exact q
                omega)
              refine x_lo (lo' := [(0, (2, 40)), (1, (0, (c : Int))), (2, (0, leaL (fun i k => ta w F st (F (st.2.1 i)) k) st.2.1 w c i)), (3, (0, ((i + 1 : Nat) : Int)))]) ⟨rfl, rfl, rfl, rfl, trivial⟩ ?_
              have z := ih (i + 1) (by omega) (by omega)
              rw [e] at z
              exact z
            · refine x_aload_n (pc := 96) dX2_rowToLeave_96 rfl rfl ?_
              refine x_getR (jj := 3) (pc := 97) dX2_rowToLeave_97 fX2_16 (sC_40 hC) rfl (by decide) rfl rC_40_3 ?_
              refine x_iload_n (pc := 100) dX2_rowToLeave_100 rfl rfl ?_
              refine x_ialoadV (pc := 101) dX2_rowToLeave_101 (sC_74 hC) (by omega) (by (repeat (first | rewrite [up_s] | rewrite [up_i (by omega)] | rewrite [up_a (by omega)])); first | exact hg1 | exact hg2 | exact hR.2.1 i c (by omega) (by omega) | exact hR.2.1 i w (by omega) (by omega) | exact hR.2.2.2.1 i (by omega) | exact hbc | exact hbw | exact hbn | rfl) (fun g_101 => ?_)
              refine x_aload_n (pc := 102) dX2_rowToLeave_102 rfl rfl ?_
              refine x_getR (jj := 3) (pc := 103) dX2_rowToLeave_103 fX2_16 (sC_40 hC) rfl (by decide) rfl rC_40_3 ?_
              refine x_iload_n (pc := 106) dX2_rowToLeave_106 rfl rfl ?_
              refine x_ialoadV (pc := 107) dX2_rowToLeave_107 (sC_74 hC) (by omega) (by (repeat (first | rewrite [up_s] | rewrite [up_i (by omega)] | rewrite [up_a (by omega)])); first | exact hg1 | exact hg2 | exact hR.2.1 i c (by omega) (by omega) | exact hR.2.1 i w (by omega) (by omega) | exact hR.2.2.2.1 i (by omega) | exact hbc | exact hbw | exact hbn | rfl) (fun g_107 => ?_)
              refine x_icmp_ge (tgt := 113) (pc := 108) dX2_rowToLeave_108 (by decide) (fun c_108 => ?_) (fun c_108 => ?_)
              · refine x_iinc (pc := 113) dX2_rowToLeave_113 rfl (by omega) (by decide) rfl ?_
                refine x_goto (tgt := 4) (pc := 116) dX2_rowToLeave_116 (by decide) ?_
                have e : leaL (fun i k => ta w F st (F (st.2.1 i)) k) st.2.1 w c (i + 1) = leaL (fun i k => ta w F st (F (st.2.1 i)) k) st.2.1 w c i := if_neg (fun q => by
                  have q : ta w F st (F (st.2.1 i)) w * ta w F st (F (st.2.1 b9)) c < ta w F st (F (st.2.1 b9)) w * ta w F st (F (st.2.1 i)) c ∨ (ta w F st (F (st.2.1 i)) w * ta w F st (F (st.2.1 b9)) c = ta w F st (F (st.2.1 b9)) w * ta w F st (F (st.2.1 i)) c ∧ st.2.1 i < st.2.1 b9) := by
                    rcases q.2 with q | q
                    · omega
                    · rw [eb9] at q; exact q
                  omega)
                refine x_lo (lo' := [(0, (2, 40)), (1, (0, (c : Int))), (2, (0, leaL (fun i k => ta w F st (F (st.2.1 i)) k) st.2.1 w c i)), (3, (0, ((i + 1 : Nat) : Int)))]) ⟨rfl, rfl, rfl, rfl, trivial⟩ ?_
                have z := ih (i + 1) (by omega) (by omega)
                rw [e] at z
                exact z
              · refine x_iload_n (pc := 111) dX2_rowToLeave_111 rfl rfl ?_
                refine x_istore_n (pc := 112) dX2_rowToLeave_112 rfl (by decide) rfl ?_
                refine x_iinc (pc := 113) dX2_rowToLeave_113 rfl (by omega) (by decide) rfl ?_
                refine x_goto (tgt := 4) (pc := 116) dX2_rowToLeave_116 (by decide) ?_
                have e : leaL (fun i k => ta w F st (F (st.2.1 i)) k) st.2.1 w c (i + 1) = (i : Int) := if_pos ⟨hvp, Or.inr (by rw [eb9]; exact Or.inr ⟨by show ta w F st (F (st.2.1 i)) w * ta w F st (F (st.2.1 b9)) c = ta w F st (F (st.2.1 b9)) w * ta w F st (F (st.2.1 i)) c; omega, by show st.2.1 i < st.2.1 b9; omega⟩)⟩
                refine x_lo (lo' := [(0, (2, 40)), (1, (0, (c : Int))), (2, (0, (i : Int))), (3, (0, ((i + 1 : Nat) : Int)))]) ⟨rfl, rfl, rfl, rfl, trivial⟩ ?_
                have z := ih (i + 1) (by omega) (by omega)
                rw [e] at z
                exact z
        · refine x_ldc2 (n := -1) (pc := 33) cX2_81 (by decide) dX2_rowToLeave_33 ?_
          refine x_goto (tgt := 80) (pc := 36) dX2_rowToLeave_36 (by decide) ?_
          refine x_lstore (pc := 80) dX2_rowToLeave_80 (by decide) rfl ?_
          refine x_lload (pc := 82) dX2_rowToLeave_82 rfl ?_
          refine x_lconst0 (pc := 84) dX2_rowToLeave_84 ?_
          refine x_llt (tgt := 111) (pc := 85) dX2_rowToLeave_85 dX2_rowToLeave_86 (by decide) (fun c_85 => ?_) (fun c_85 => ?_)
          · refine x_iload_n (pc := 111) dX2_rowToLeave_111 rfl rfl ?_
            refine x_istore_n (pc := 112) dX2_rowToLeave_112 rfl (by decide) rfl ?_
            refine x_iinc (pc := 113) dX2_rowToLeave_113 rfl (by omega) (by decide) rfl ?_
            refine x_goto (tgt := 4) (pc := 116) dX2_rowToLeave_116 (by decide) ?_
            have hvp : 0 < (fun i k => ta w F st (F (st.2.1 i)) k) i c := by
              show 0 < ta w F st (F (st.2.1 i)) c
              omega
            have e : leaL (fun i k => ta w F st (F (st.2.1 i)) k) st.2.1 w c (i + 1) = (i : Int) := if_pos ⟨hvp, Or.inl (by assumption)⟩
            refine x_lo (lo' := [(0, (2, 40)), (1, (0, (c : Int))), (2, (0, (i : Int))), (3, (0, ((i + 1 : Nat) : Int)))]) ⟨rfl, rfl, rfl, rfl, trivial⟩ ?_
            have z := ih (i + 1) (by omega) (by omega)
            rw [e] at z
            exact z
          · refine x_lload (pc := 89) dX2_rowToLeave_89 rfl ?_
            refine x_lconst0 (pc := 91) dX2_rowToLeave_91 ?_
            refine x_lne (tgt := 113) (pc := 92) dX2_rowToLeave_92 dX2_rowToLeave_93 (by decide) (fun c_92 => ?_) (fun c_92 => ?_)
            · refine x_iinc (pc := 113) dX2_rowToLeave_113 rfl (by omega) (by decide) rfl ?_
              refine x_goto (tgt := 4) (pc := 116) dX2_rowToLeave_116 (by decide) ?_
              exfalso
              omega
            · refine x_aload_n (pc := 96) dX2_rowToLeave_96 rfl rfl ?_
              refine x_getR (jj := 3) (pc := 97) dX2_rowToLeave_97 fX2_16 (sC_40 hC) rfl (by decide) rfl rC_40_3 ?_
              refine x_iload_n (pc := 100) dX2_rowToLeave_100 rfl rfl ?_
              refine x_ialoadV (pc := 101) dX2_rowToLeave_101 (sC_74 hC) (by omega) (by (repeat (first | rewrite [up_s] | rewrite [up_i (by omega)] | rewrite [up_a (by omega)])); first | exact hg1 | exact hg2 | exact hR.2.1 i c (by omega) (by omega) | exact hR.2.1 i w (by omega) (by omega) | exact hR.2.2.2.1 i (by omega) | exact hbc | exact hbw | exact hbn | rfl) (fun g_101 => ?_)
              refine x_aload_n (pc := 102) dX2_rowToLeave_102 rfl rfl ?_
              refine x_getR (jj := 3) (pc := 103) dX2_rowToLeave_103 fX2_16 (sC_40 hC) rfl (by decide) rfl rC_40_3 ?_
              refine x_iload_n (pc := 106) dX2_rowToLeave_106 rfl rfl ?_
              refine x_ialoadV (pc := 107) dX2_rowToLeave_107 (sC_74 hC) (by omega) (by (repeat (first | rewrite [up_s] | rewrite [up_i (by omega)] | rewrite [up_a (by omega)])); first | exact hg1 | exact hg2 | exact hR.2.1 i c (by omega) (by omega) | exact hR.2.1 i w (by omega) (by omega) | exact hR.2.2.2.1 i (by omega) | exact hbc | exact hbw | exact hbn | rfl) (fun g_107 => ?_)
              refine x_icmp_ge (tgt := 113) (pc := 108) dX2_rowToLeave_108 (by decide) (fun c_108 => ?_) (fun c_108 => ?_)
              · refine x_iinc (pc := 113) dX2_rowToLeave_113 rfl (by omega) (by decide) rfl ?_
                refine x_goto (tgt := 4) (pc := 116) dX2_rowToLeave_116 (by decide) ?_
                exfalso
                omega
              · refine x_iload_n (pc := 111) dX2_rowToLeave_111 rfl rfl ?_
                refine x_istore_n (pc := 112) dX2_rowToLeave_112 rfl (by decide) rfl ?_
                refine x_iinc (pc := 113) dX2_rowToLeave_113 rfl (by omega) (by decide) rfl ?_
                refine x_goto (tgt := 4) (pc := 116) dX2_rowToLeave_116 (by decide) ?_
                exfalso
                omega
      · refine x_goto (tgt := 113) (pc := 25) dX2_rowToLeave_25 (by decide) ?_
        refine x_iinc (pc := 113) dX2_rowToLeave_113 rfl (by omega) (by decide) rfl ?_
        refine x_goto (tgt := 4) (pc := 116) dX2_rowToLeave_116 (by decide) ?_
        have e : leaL (fun i k => ta w F st (F (st.2.1 i)) k) st.2.1 w c (i + 1) = leaL (fun i k => ta w F st (F (st.2.1 i)) k) st.2.1 w c i := if_neg (fun q => by
          have q : 0 < ta w F st (F (st.2.1 i)) c := q.1
          omega)
        refine x_lo (lo' := [(0, (2, 40)), (1, (0, (c : Int))), (2, (0, leaL (fun i k => ta w F st (F (st.2.1 i)) k) st.2.1 w c i)), (3, (0, ((i + 1 : Nat) : Int)))]) ⟨rfl, rfl, rfl, rfl, trivial⟩ ?_
        have z := ih (i + 1) (by omega) (by omega)
        rw [e] at z
        exact z)
  refine x_iconst (pc := 0) dX2_rowToLeave_0 (by decide) ?_
  refine x_istore_n (pc := 1) dX2_rowToLeave_1 rfl (by decide) rfl ?_
  refine x_iconst (pc := 2) dX2_rowToLeave_2 (by decide) ?_
  refine x_istore_n (pc := 3) dX2_rowToLeave_3 rfl (by decide) rfl ?_
  exact x_lo (lo' := [(0, (2, 40)), (1, (0, (c : Int))), (2, (0, leaL (fun i k => ta w F st (F (st.2.1 i)) k) st.2.1 w c 0)), (3, (0, ((0 : Nat) : Int)))]) ⟨rfl, rfl, rfl, rfl, trivial⟩ (loop 0 (by omega))
theorem s_turnRow {l : Launch} {E : aE} {N : Nat} {S : aS} {M : aM} (hfl : l.stackTraces = false) (hC : lyC S) (a b d : Int) (j w : Nat) (t9 : Nat → Int) (ha : S a = (14, 6, rN)) (hb : S b = (14, 6, rN)) (hab : a ≠ b ∧ a ≠ 40 ∧ b ≠ 40) (hw : w ≤ 5) (hj : j < w) (h7 : M 40 7 = w) (hd : M 40 10 = d) (hd0 : 0 < d ∧ d ≤ 754974720) (hA : ∀ k, k < w + 1 → (M a k).natAbs ≤ 754974720) (hB : ∀ k, k < w + 1 → (M b k).natAbs ≤ 754974720) (hx : ∀ k, k < w + 1 → k ≠ j → d * t9 k = M a k * M b j - M a j * M b k) (ht : ∀ k, k < w + 1 → (t9 k).natAbs ≤ 754974720) : aMt l E pX2_turnRow [(2, 40), (2, a), (2, b), (0, (j : Int))] N S M (aU N S (fun M' => (∀ x y, x ≠ a → M' x y = M x y) ∧ ∀ k : Nat, k < w + 1 → M' a k = if k = j then - M a j else t9 k)) := by
  refine a_met hfl rfl (by decide +kernel) (Nat.le_of_ble_eq_true rfl) ?_
  have loop := a_loop2 (fun k M1 => k ≤ w + 1 ∧ (∀ x y, x ≠ a → M1 x y = M x y) ∧ ∀ i : Nat, i < w + 1 → M1 a i = if i < k ∧ i ≠ j then t9 i else M a i) (fun k M1 => w + 1 - k) (fun k M1 => aX l E pX2_turnRow (aU N S (fun M' => (∀ x y, x ≠ a → M' x y = M x y) ∧ ∀ k : Nat, k < w + 1 → M' a k = if k = j then - M a j else t9 k)) 0 0 N S M1 23 [(0, (2, 40)), (1, (2, a)), (2, (2, b)), (3, (0, (j : Int))), (4, (1, M b j)), (6, (1, M a j)), (8, (0, (k : Int)))] []) (by
    intro k M1 hI ih
    obtain ⟨k1, k2, k3⟩ := hI
    refine x_iload (pc := 23) dX2_turnRow_23 rfl ?_
    refine x_aload_n (pc := 25) dX2_turnRow_25 rfl rfl ?_
    refine x_getIV (jj := 7) (pc := 26) dX2_turnRow_26 fX2_68 (sC_40 hC) rfl (by decide) rfl (by (repeat (first | rewrite [up_s] | rewrite [up_i (by omega)] | rewrite [up_a (by omega)])); first | exact hv1 | exact hv2 | exact hv3 | exact (k2 40 7 (Ne.symm hab.2.1)).trans h7 | rfl) ?_
    refine x_icmp_gt (tgt := 68) (pc := 29) dX2_turnRow_29 (by decide) (fun c_29 => ?_) (fun c_29 => ?_)
    · refine x_aload_n (pc := 68) dX2_turnRow_68 rfl rfl ?_
      refine x_iload_n (pc := 69) dX2_turnRow_69 rfl rfl ?_
      refine x_lload (pc := 70) dX2_turnRow_70 rfl ?_
      refine x_lneg (pc := 72) dX2_turnRow_72 (by have := hA j (by omega); omega) ?_
      refine x_lastore (pc := 73) dX2_turnRow_73 ha (by omega) ?_
      refine x_return (pc := 74) dX2_turnRow_74 rfl (by decide) ?_
      refine ⟨rfl, rfl, rfl, fun x y q => (up_a q).trans (k2 x y q), fun i hi => ?_⟩
      by_cases e : i = j
      · subst e; rw [up_s, if_pos rfl]
      · rw [up_i (by omega), k3 i hi, if_neg e, if_pos (by omega)]
    · refine x_iload (pc := 32) dX2_turnRow_32 rfl ?_
      refine x_iload_n (pc := 34) dX2_turnRow_34 rfl rfl ?_
      refine x_icmp_eq (tgt := 62) (pc := 35) dX2_turnRow_35 (by decide) (fun c_35 => ?_) (fun c_35 => ?_)
      · refine x_iinc (pc := 62) dX2_turnRow_62 rfl (by omega) (by decide) rfl ?_
        refine x_goto (tgt := 23) (pc := 65) dX2_turnRow_65 (by decide) ?_
        refine x_lo (lo' := [(0, (2, 40)), (1, (2, a)), (2, (2, b)), (3, (0, (j : Int))), (4, (1, M b j)), (6, (1, M a j)), (8, (0, ((k + 1 : Nat) : Int)))]) ⟨rfl, rfl, rfl, rfl, rfl, rfl, rfl, trivial⟩ (ih (k + 1) M1 ⟨by omega, k2, fun i hi => ?_⟩ (by omega))
        rw [k3 i hi]
        by_cases e : i < k ∧ i ≠ j
        · rw [if_pos e, if_pos (by omega)]
        · rw [if_neg e, if_neg (by omega)]
      · have hv1 : M1 a k = M a k := (k3 k (by omega)).trans (if_neg (by omega))
        have hv2 : M1 b k = M b k := k2 b k (Ne.symm hab.1)
        have hv3 : M1 40 10 = d := (k2 40 10 (Ne.symm hab.2.1)).trans hd
        have m1 := mul_bd (hA k (by omega)) (hB j (by omega))
        have m2 := mul_bd (hA j (by omega)) (hB k (by omega))
        have hdv : (M a k * M b j - M a j * M b k).tdiv d = t9 k := by rw [← hx k (by omega) (by omega)]; exact Int.mul_tdiv_cancel_left _ (by omega)
        have ht9 := ht k (by omega)
        refine x_aload_n (pc := 38) dX2_turnRow_38 rfl rfl ?_
        refine x_iload (pc := 39) dX2_turnRow_39 rfl ?_
        refine x_aload_n (pc := 41) dX2_turnRow_41 rfl rfl ?_
        refine x_iload (pc := 42) dX2_turnRow_42 rfl ?_
        refine x_laloadV (pc := 44) dX2_turnRow_44 ha (by omega) (by (repeat (first | rewrite [up_s] | rewrite [up_i (by omega)] | rewrite [up_a (by omega)])); first | exact hv1 | exact hv2 | exact hv3 | exact (k2 40 7 (Ne.symm hab.2.1)).trans h7 | rfl) (fun g_44 => ?_)
        refine x_lload (pc := 45) dX2_turnRow_45 rfl ?_
        refine x_lmul (pc := 47) dX2_turnRow_47 (by omega) ?_
        refine x_lload (pc := 48) dX2_turnRow_48 rfl ?_
        refine x_aload_n (pc := 50) dX2_turnRow_50 rfl rfl ?_
        refine x_iload (pc := 51) dX2_turnRow_51 rfl ?_
        refine x_laloadV (pc := 53) dX2_turnRow_53 hb (by omega) (by (repeat (first | rewrite [up_s] | rewrite [up_i (by omega)] | rewrite [up_a (by omega)])); first | exact hv1 | exact hv2 | exact hv3 | exact (k2 40 7 (Ne.symm hab.2.1)).trans h7 | rfl) (fun g_53 => ?_)
        refine x_lmul (pc := 54) dX2_turnRow_54 (by omega) ?_
        refine x_lsub (pc := 55) dX2_turnRow_55 (by omega) ?_
        refine x_aload_n (pc := 56) dX2_turnRow_56 rfl rfl ?_
        refine x_getJV (jj := 10) (pc := 57) dX2_turnRow_57 fX2_61 (sC_40 hC) rfl (by decide) rfl (by (repeat (first | rewrite [up_s] | rewrite [up_i (by omega)] | rewrite [up_a (by omega)])); first | exact hv1 | exact hv2 | exact hv3 | exact (k2 40 7 (Ne.symm hab.2.1)).trans h7 | rfl) ?_
        refine x_ldiv (pc := 60) dX2_turnRow_60 (by omega) (by rw [hdv]; omega) ?_
        rewrite [hdv]
        refine x_lastore (pc := 61) dX2_turnRow_61 ha (by omega) ?_
        refine x_iinc (pc := 62) dX2_turnRow_62 rfl (by omega) (by decide) rfl ?_
        refine x_goto (tgt := 23) (pc := 65) dX2_turnRow_65 (by decide) ?_
        refine x_lo (lo' := [(0, (2, 40)), (1, (2, a)), (2, (2, b)), (3, (0, (j : Int))), (4, (1, M b j)), (6, (1, M a j)), (8, (0, ((k + 1 : Nat) : Int)))]) ⟨rfl, rfl, rfl, rfl, rfl, rfl, rfl, trivial⟩ (ih (k + 1) _ ⟨by omega, fun x y q => (up_a q).trans (k2 x y q), fun i hi => ?_⟩ (by omega))
        by_cases e : i = k
        · subst e; rw [up_s, if_pos (by omega)]
        · rw [up_i (by omega), k3 i hi]
          by_cases e2 : i < k ∧ i ≠ j
          · rw [if_pos e2, if_pos (by omega)]
          · rw [if_neg e2, if_neg (by omega)])
  refine x_aload_n (pc := 0) dX2_turnRow_0 rfl rfl ?_
  refine x_getJV (jj := 10) (pc := 1) dX2_turnRow_1 fX2_61 (sC_40 hC) rfl (by decide) rfl (by (repeat (first | rewrite [up_s] | rewrite [up_i (by omega)] | rewrite [up_a (by omega)])); first | exact hd | rfl) ?_
  refine x_lconst0 (pc := 4) dX2_turnRow_4 ?_
  refine x_lne (tgt := 10) (pc := 5) dX2_turnRow_5 dX2_turnRow_6 (by decide) (fun c_5 => ?_) (fun c_5 => ?_)
  · refine x_aload_n (pc := 10) dX2_turnRow_10 rfl rfl ?_
    refine x_iload_n (pc := 11) dX2_turnRow_11 rfl rfl ?_
    refine x_laloadV (pc := 12) dX2_turnRow_12 hb (by omega) (by (repeat (first | rewrite [up_s] | rewrite [up_i (by omega)] | rewrite [up_a (by omega)])); first | exact hd | rfl) (fun g_12 => ?_)
    refine x_lstore (pc := 13) dX2_turnRow_13 (by decide) rfl ?_
    refine x_aload_n (pc := 15) dX2_turnRow_15 rfl rfl ?_
    refine x_iload_n (pc := 16) dX2_turnRow_16 rfl rfl ?_
    refine x_laloadV (pc := 17) dX2_turnRow_17 ha (by omega) (by (repeat (first | rewrite [up_s] | rewrite [up_i (by omega)] | rewrite [up_a (by omega)])); first | exact hd | rfl) (fun g_17 => ?_)
    refine x_lstore (pc := 18) dX2_turnRow_18 (by decide) rfl ?_
    refine x_iconst (pc := 20) dX2_turnRow_20 (by decide) ?_
    refine x_istore (pc := 21) dX2_turnRow_21 (by decide) rfl ?_
    exact x_lo (lo' := [(0, (2, 40)), (1, (2, a)), (2, (2, b)), (3, (0, (j : Int))), (4, (1, M b j)), (6, (1, M a j)), (8, (0, ((0 : Nat) : Int)))]) ⟨rfl, rfl, rfl, rfl, rfl, rfl, rfl, trivial⟩ (loop 0 M ⟨by omega, fun _ _ _ => rfl, fun i hi => (if_neg (by omega)).symm⟩)
  · refine x_return (pc := 9) dX2_turnRow_9 rfl (by decide) ?_
    exfalso
    omega
/-- what the algorithm may change -/
def frX (M M' : aM) : Prop := ∀ a i, ¬ (42 ≤ a ∧ a < 76) → ¬ (a = 40 ∧ i = 10) → M' a i = M a i
theorem frX.rf {M : aM} : frX M M := fun _ _ _ _ => rfl
theorem frX.tr {M M' M'' : aM} (h : frX M M') (h' : frX M' M'') : frX M M'' := fun a i x y => (h' a i x y).trans (h a i x y)
def UV (h : Nat) (F : Nat → Nat → Int) (st : sx) (Z : Nat → Int) (i : Nat) : Nat → Int := if i < h then F (st.2.1 i) else Z
theorem s_turnX {l : Launch} {E : aE} {N : Nat} {S : aS} {M : aM} (hfl : l.stackTraces = false) {w h : Nat} {F : Nat → Nat → Int} {st : sx} {Z : Nat → Int} {fx : Nat → Bool} (hC : lyC S) (hR : RTc M w h F st Z fx) (hP : PBx w h F 1048576) (hw : w ≤ 5) (hh : h ≤ 31) (hZ : bdV w Z) (hO : OKx w h F st) (r j : Nat) (hr : r < h) (hj : j < w) (hp : 0 < ta w F st (F (st.2.1 r)) j) (hO2 : OKx w h F (piv st r j)) : aMt l E pX2_turn [(2, 40), (0, (r : Int)), (0, (j : Int))] N S M (aU N S (fun M' => RTc M' w h F (piv st r j) Z fx ∧ frX M M')) := by
  refine a_met hfl rfl (by decide +kernel) (Nat.le_of_ble_eq_true rfl) ?_
  have hg1 := hR.1.1
  have hg2 := hR.1.2.1
  have hg3 := hR.1.2.2
  have hbo := RTc.bdo hP hw hO
  have loop := a_loop2 (fun i M1 => i ≤ h + 1 ∧ (∀ x y : Int, ¬ (42 ≤ x ∧ x ≤ 42 + h) ∨ x = 42 + r → M1 x y = M x y) ∧ ∀ i1 k : Nat, i1 < h + 1 → i1 ≠ r → k < w + 1 → M1 (42 + i1) k = if i1 < i then ta w F (piv st r j) (UV h F st Z i1) k else ta w F st (UV h F st Z i1) k) (fun i M1 => h + 1 - i) (fun i M1 => aX l E pX2_turn (aU N S (fun M' => RTc M' w h F (piv st r j) Z fx ∧ frX M M')) 0 0 N S M1 28 [(0, (2, 40)), (1, (0, (r : Int))), (2, (0, (j : Int))), (3, (1, ta w F st (F (st.2.1 r)) j)), (5, (0, (i : Int)))] []) (by
    intro i M1 hI ih
    obtain ⟨k1, k2, k3⟩ := hI
    refine x_iload (pc := 28) dX2_turn_28 rfl ?_
    refine x_aload_n (pc := 30) dX2_turn_30 rfl rfl ?_
    refine x_getIV (jj := 8) (pc := 31) dX2_turn_31 fX2_65 (sC_40 hC) rfl (by decide) rfl (by (repeat (first | rewrite [up_s] | rewrite [up_i (by omega)] | rewrite [up_a (by omega)])); first | exact (k2 40 8 (by omega)).trans hg2 | exact (k2 40 10 (by omega)).trans hg3 | exact hnr | exact hnj | rfl) ?_
    refine x_icmp_gt (tgt := 67) (pc := 34) dX2_turn_34 (by decide) (fun c_34 => ?_) (fun c_34 => ?_)
    · have hnr : M1 74 r = st.2.1 r := (k2 _ _ (by omega)).trans (hR.2.2.2.1 r hr)
      have hnj : M1 75 j = st.1 j := (k2 _ _ (by omega)).trans (hR.2.2.2.2.1 j hj)
      refine x_aload_n (pc := 67) dX2_turn_67 rfl rfl ?_
      refine x_getR (jj := 2) (pc := 68) dX2_turn_68 fX2_13 (sC_40 hC) rfl (by decide) rfl rC_40_2 ?_
      refine x_iload_n (pc := 71) dX2_turn_71 rfl rfl ?_
      refine x_raload (pc := 72) dX2_turn_72 (sC_41 hC) (by omega) ?_
      rewrite [r41_v (by omega)]
      refine x_iload_n (pc := 73) dX2_turn_73 rfl rfl ?_
      refine x_aload_n (pc := 74) dX2_turn_74 rfl rfl ?_
      refine x_getJV (jj := 10) (pc := 75) dX2_turn_75 fX2_61 (sC_40 hC) rfl (by decide) rfl (by (repeat (first | rewrite [up_s] | rewrite [up_i (by omega)] | rewrite [up_a (by omega)])); first | exact (k2 40 8 (by omega)).trans hg2 | exact (k2 40 10 (by omega)).trans hg3 | exact hnr | exact hnj | rfl) ?_
      refine x_lastore (pc := 78) dX2_turn_78 (hC.1 _ (by omega) (by omega)) (by omega) ?_
      refine x_aload_n (pc := 79) dX2_turn_79 rfl rfl ?_
      refine x_lload_n (pc := 80) dX2_turn_80 rfl rfl ?_
      refine x_putJ (jj := 10) (pc := 81) dX2_turn_81 fX2_61 (sC_40 hC) rfl (by decide) rfl ?_
      refine x_aload_n (pc := 84) dX2_turn_84 rfl rfl ?_
      refine x_getR (jj := 3) (pc := 85) dX2_turn_85 fX2_16 (sC_40 hC) rfl (by decide) rfl rC_40_3 ?_
      refine x_iload_n (pc := 88) dX2_turn_88 rfl rfl ?_
      refine x_ialoadV (pc := 89) dX2_turn_89 (sC_74 hC) (by omega) (by (repeat (first | rewrite [up_s] | rewrite [up_i (by omega)] | rewrite [up_a (by omega)])); first | exact (k2 40 8 (by omega)).trans hg2 | exact (k2 40 10 (by omega)).trans hg3 | exact hnr | exact hnj | rfl) (fun g_89 => ?_)
      refine x_istore (pc := 90) dX2_turn_90 (by decide) rfl ?_
      refine x_aload_n (pc := 92) dX2_turn_92 rfl rfl ?_
      refine x_getR (jj := 3) (pc := 93) dX2_turn_93 fX2_16 (sC_40 hC) rfl (by decide) rfl rC_40_3 ?_
      refine x_iload_n (pc := 96) dX2_turn_96 rfl rfl ?_
      refine x_aload_n (pc := 97) dX2_turn_97 rfl rfl ?_
      refine x_getR (jj := 4) (pc := 98) dX2_turn_98 fX2_20 (sC_40 hC) rfl (by decide) rfl rC_40_4 ?_
      refine x_iload_n (pc := 101) dX2_turn_101 rfl rfl ?_
      refine x_ialoadV (pc := 102) dX2_turn_102 (sC_75 hC) (by omega) (by (repeat (first | rewrite [up_s] | rewrite [up_i (by omega)] | rewrite [up_a (by omega)])); first | exact (k2 40 8 (by omega)).trans hg2 | exact (k2 40 10 (by omega)).trans hg3 | exact hnr | exact hnj | rfl) (fun g_102 => ?_)
      refine x_iastore (pc := 103) dX2_turn_103 (sC_74 hC) (by omega) ?_
      refine x_aload_n (pc := 104) dX2_turn_104 rfl rfl ?_
      refine x_getR (jj := 4) (pc := 105) dX2_turn_105 fX2_20 (sC_40 hC) rfl (by decide) rfl rC_40_4 ?_
      refine x_iload_n (pc := 108) dX2_turn_108 rfl rfl ?_
      refine x_iload (pc := 109) dX2_turn_109 rfl ?_
      refine x_iastore (pc := 111) dX2_turn_111 (sC_75 hC) (by omega) ?_
      refine x_return (pc := 112) dX2_turn_112 rfl (by decide) ?_
      have q1 : ∀ i1 k : Nat, i1 < h + 1 → i1 ≠ r → k < w + 1 → M1 (42 + i1) k = ta w F (piv st r j) (UV h F st Z i1) k := fun i1 k a b d => (k3 i1 k a b d).trans (if_pos (by omega))
      have q2 : ∀ k, k < w + 1 → M1 (42 + r) k = ta w F st (F (st.2.1 r)) k := fun k hk => (k2 _ _ (Or.inr rfl)).trans (hR.2.1 r k hr hk)
      refine ⟨rfl, rfl, rfl, ⟨⟨?_, ?_, ?_⟩, fun i1 k a b => ?_, fun k b => ?_, fun i1 a => ?_, fun l a => ?_, fun l a => ?_⟩, fun x y a b => ?_⟩
      · rw [up_a (by omega), up_a (by omega), up_i (by omega), up_a (by omega)]; exact (k2 _ _ (by omega)).trans hg1
      · rw [up_a (by omega), up_a (by omega), up_i (by omega), up_a (by omega)]; exact (k2 _ _ (by omega)).trans hg2
      · rw [up_a (by omega), up_a (by omega), up_s, ov_piv hj]
      · rw [up_a (by omega), up_a (by omega), up_a (by omega)]
        show _ = ta w F (piv st r j) (F (if i1 = r then st.1 j else st.2.1 i1)) k
        by_cases e : i1 = r
        · subst e
          rw [if_pos rfl, ta_new hO.1 hO.2.2.1 (by omega) hj b]
          by_cases e2 : k = j
          · subst e2; rw [up_s, if_pos rfl]
          · rw [up_i (by omega), if_neg e2]; exact q2 k b
        · rw [if_neg e, up_a (by omega), q1 i1 k (by omega) e b]
          unfold UV
          rw [if_pos a]
      · rw [up_a (by omega), up_a (by omega), up_a (by omega), up_a (by omega), q1 h k (by omega) (by omega) b]
        unfold UV
        rw [if_neg (by omega)]
      · rw [up_a (by omega)]
        show _ = (((if i1 = r then st.1 j else st.2.1 i1) : Nat) : Int)
        by_cases e : i1 = r
        · subst e; rw [up_s, if_pos rfl]
        · rw [up_i (by omega), up_a (by omega), up_a (by omega), if_neg e]
          exact (k2 _ _ (by omega)).trans (hR.2.2.2.1 i1 a)
      · show _ = (((if l = j then st.2.1 r else st.1 l) : Nat) : Int)
        by_cases e : l = j
        · subst e; rw [up_s, if_pos rfl]
        · rw [up_i (by omega), up_a (by omega), up_a (by omega), up_a (by omega), if_neg e]
          exact (k2 _ _ (by omega)).trans (hR.2.2.2.2.1 l a)
      · rw [up_a (by omega), up_a (by omega), up_a (by omega), up_a (by omega)]
        exact (k2 _ _ (by omega)).trans (hR.2.2.2.2.2 l a)
      · rw [up_a (by omega), up_a (by omega)]
        by_cases e : x = 40
        · subst e
          rw [up_i (by omega), up_a (by omega)]
          exact k2 _ _ (by omega)
        · rw [up_a (by omega), up_a (by omega)]
          exact k2 _ _ (by omega)
    · refine x_iload (pc := 37) dX2_turn_37 rfl ?_
      refine x_iload_n (pc := 39) dX2_turn_39 rfl rfl ?_
      refine x_icmp_eq (tgt := 61) (pc := 40) dX2_turn_40 (by decide) (fun c_40 => ?_) (fun c_40 => ?_)
      · refine x_iinc (pc := 61) dX2_turn_61 rfl (by omega) (by decide) rfl ?_
        refine x_goto (tgt := 28) (pc := 64) dX2_turn_64 (by decide) ?_
        refine x_lo (lo' := [(0, (2, 40)), (1, (0, (r : Int))), (2, (0, (j : Int))), (3, (1, ta w F st (F (st.2.1 r)) j)), (5, (0, ((i + 1 : Nat) : Int)))]) ⟨rfl, rfl, rfl, rfl, rfl, trivial⟩ (ih (i + 1) M1 ⟨by omega, k2, fun i1 k a b d => ?_⟩ (by omega))
        rw [k3 i1 k a b d]
        by_cases e : i1 < i
        · rw [if_pos e, if_pos (by omega)]
        · rw [if_neg e, if_neg (by omega)]
      · refine x_aload_n (pc := 43) dX2_turn_43 rfl rfl ?_
        refine x_aload_n (pc := 44) dX2_turn_44 rfl rfl ?_
        refine x_getR (jj := 2) (pc := 45) dX2_turn_45 fX2_13 (sC_40 hC) rfl (by decide) rfl rC_40_2 ?_
        refine x_iload (pc := 48) dX2_turn_48 rfl ?_
        refine x_raload (pc := 50) dX2_turn_50 (sC_41 hC) (by omega) ?_
        rewrite [r41_v (by omega)]
        have hub : (∀ c, c < w → (UV h F st Z i c).natAbs ≤ 1) ∧ (UV h F st Z i w).natAbs ≤ 1048576 := by
          unfold UV
          by_cases e : i < h
          · rw [if_pos e]; exact FV_bd hP (by omega) (hO.2.2.2.1.2.1 i e)
          · rw [if_neg e]; exact hZ
        have hMi : ∀ k, k < w + 1 → M1 (42 + i) k = ta w F st (UV h F st Z i) k := fun k hk => (k3 i k (by omega) (by omega) hk).trans (if_neg (by omega))
        have hMr : ∀ k, k < w + 1 → M1 (42 + r) k = ta w F st (F (st.2.1 r)) k := fun k hk => (k2 _ _ (Or.inr rfl)).trans (hR.2.1 r k hr hk)
        refine x_aload_n (pc := 51) dX2_turn_51 rfl rfl ?_
        refine x_getR (jj := 2) (pc := 52) dX2_turn_52 fX2_13 (sC_40 hC) rfl (by decide) rfl rC_40_2 ?_
        refine x_iload_n (pc := 55) dX2_turn_55 rfl rfl ?_
        refine x_raload (pc := 56) dX2_turn_56 (sC_41 hC) (by omega) ?_
        rewrite [r41_v (by omega)]
        refine x_iload_n (pc := 57) dX2_turn_57 rfl rfl ?_
        refine x_callV3 (pc := 58) dX2_turn_58 rfl kX2_105 (s_turnRow hfl hC (42 + i) (42 + r) (ov w F st) j w (ta w F (piv st r j) (UV h F st Z i)) (hC.1 _ (by omega) (by omega)) (hC.1 _ (by omega) (by omega)) (by omega) hw hj ((k2 40 7 (by omega)).trans hg1) ((k2 40 10 (by omega)).trans hg3) hbo (fun k hk => by rw [hMi k hk]; exact ta_bd (C := 1048576) hw (by omega) hP hO hk hub) (fun k hk => by rw [hMr k hk]; exact RTc.bd hP hw hO hr hk) (fun k hk hkj => by rw [hMi k hk, hMr k hk, hMi j (by omega), hMr j (by omega)]; exact ta_pl hO.1 hO.2.2.1 hj hk hkj _) (fun k hk => ta_bd (C := 1048576) hw (by omega) hP hO2 hk hub)) (sC_40 hC) rfl rfl (Nat.le_of_ble_eq_true rfl) (k_U (fun M9 hM9 => ?_)) n_U
        obtain ⟨n1, n2⟩ := hM9
        refine x_iinc (pc := 61) dX2_turn_61 rfl (by omega) (by decide) rfl ?_
        refine x_goto (tgt := 28) (pc := 64) dX2_turn_64 (by decide) ?_
        refine x_lo (lo' := [(0, (2, 40)), (1, (0, (r : Int))), (2, (0, (j : Int))), (3, (1, ta w F st (F (st.2.1 r)) j)), (5, (0, ((i + 1 : Nat) : Int)))]) ⟨rfl, rfl, rfl, rfl, rfl, trivial⟩ (ih (i + 1) M9 ⟨by omega, fun x y q => (n1 x y (by omega)).trans (k2 x y q), fun i1 k a b d => ?_⟩ (by omega))
        by_cases e : i1 = i
        · subst e
          rw [if_pos (show i1 < i1 + 1 from by omega), n2 k d]
          by_cases e2 : k = j
          · subst e2
            rw [if_pos rfl, ta_pj hj, k3 i1 k a b d, if_neg (by omega)]
          · rw [if_neg e2]
        · rw [n1 _ _ (by omega), k3 i1 k a b d]
          by_cases e2 : i1 < i
          · rw [if_pos e2, if_pos (by omega)]
          · rw [if_neg e2, if_neg (by omega)])
  refine x_aload_n (pc := 0) dX2_turn_0 rfl rfl ?_
  refine x_getR (jj := 2) (pc := 1) dX2_turn_1 fX2_13 (sC_40 hC) rfl (by decide) rfl rC_40_2 ?_
  refine x_iload_n (pc := 4) dX2_turn_4 rfl rfl ?_
  refine x_raload (pc := 5) dX2_turn_5 (sC_41 hC) (by omega) ?_
  rewrite [r41_v (by omega)]
  refine x_iload_n (pc := 6) dX2_turn_6 rfl rfl ?_
  refine x_laloadV (pc := 7) dX2_turn_7 (hC.1 _ (by omega) (by omega)) (by omega) (by (repeat (first | rewrite [up_s] | rewrite [up_i (by omega)] | rewrite [up_a (by omega)])); first | exact hR.2.1 r j hr (by omega) | exact hg3 | rfl) (fun g_7 => ?_)
  refine x_lstore_n (pc := 8) dX2_turn_8 rfl (by decide) rfl ?_
  refine x_lload_n (pc := 9) dX2_turn_9 rfl rfl ?_
  refine x_lconst0 (pc := 10) dX2_turn_10 ?_
  refine x_lle (tgt := 24) (pc := 11) dX2_turn_11 dX2_turn_12 (by decide) (fun c_11 => ?_) (fun c_11 => ?_)
  · refine x_return (pc := 24) dX2_turn_24 rfl (by decide) ?_
    exfalso
    omega
  · refine x_aload_n (pc := 15) dX2_turn_15 rfl rfl ?_
    refine x_getJV (jj := 10) (pc := 16) dX2_turn_16 fX2_61 (sC_40 hC) rfl (by decide) rfl (by (repeat (first | rewrite [up_s] | rewrite [up_i (by omega)] | rewrite [up_a (by omega)])); first | exact hR.2.1 r j hr (by omega) | exact hg3 | rfl) ?_
    refine x_lconst0 (pc := 19) dX2_turn_19 ?_
    refine x_lgt (tgt := 25) (pc := 20) dX2_turn_20 dX2_turn_21 (by decide) (fun c_20 => ?_) (fun c_20 => ?_)
    · refine x_iconst (pc := 25) dX2_turn_25 (by decide) ?_
      refine x_istore (pc := 26) dX2_turn_26 (by decide) rfl ?_
      refine x_lo (lo' := [(0, (2, 40)), (1, (0, (r : Int))), (2, (0, (j : Int))), (3, (1, ta w F st (F (st.2.1 r)) j)), (5, (0, ((0 : Nat) : Int)))]) ⟨rfl, rfl, rfl, rfl, rfl, trivial⟩ (loop 0 M ⟨by omega, fun _ _ _ => rfl, fun i1 k a b d => ?_⟩)
      rw [if_neg (by omega)]
      unfold UV
      by_cases e : i1 < h
      · rw [if_pos e]; exact hR.2.1 i1 k e d
      · rw [if_neg e, show i1 = h by omega]; exact hR.2.2.1 k d
    · refine x_return (pc := 24) dX2_turn_24 rfl (by decide) ?_
      exfalso
      omega
theorem s_climb {l : Launch} {E : aE} {N : Nat} {S : aS} {M : aM} (hfl : l.stackTraces = false) {w h : Nat} {F : Nat → Nat → Int} {st : sx} {Z : Nat → Int} {fx : Nat → Bool} (hC : lyC S) (hR : RTc M w h F st Z fx) (hP : PBx w h F 1048576) (hw : w ≤ 5) (hh : h ≤ 31) (hZ : bdV w Z) (hO : OKx w h F st) : aMt l E pX2_climb [(2, 40)] N S M (aU N S (fun M' => RTc M' w h F (sxD w h F Z fx st) Z fx ∧ frX M M')) := by
  refine a_met hfl rfl (by decide +kernel) (Nat.le_of_ble_eq_true rfl) ?_
  obtain ⟨n, n1, n2, n3, n4, n5⟩ := sx_end (Z := Z) (fx := fx) hP hw hh hO
  have loop := a_loop2 (fun k M1 => k ≤ n ∧ RTc M1 w h F (sxR w h F Z fx st k) Z fx ∧ frX M M1) (fun k M1 => n - k) (fun k M1 => aX l E pX2_climb (aU N S (fun M' => RTc M' w h F (sxD w h F Z fx st) Z fx ∧ frX M M')) 0 0 N S M1 2 [(0, (2, 40)), (1, (0, (k : Int)))] []) (by
    intro k M1 hI ih
    obtain ⟨k1, k2, k3⟩ := hI
    have hOk : OKx w h F (sxR w h F Z fx st k) := by
      by_cases q : k < n
      · exact (n5 k q).2
      · rw [show k = n by omega, ← n2]; exact n3
    refine x_iload_n (pc := 2) dX2_climb_2 rfl rfl ?_
    refine x_ldc (n := 1000000) (pc := 3) cX2_93 (by decide) dX2_climb_3 ?_
    refine x_icmp_ge (tgt := 43) (pc := 5) dX2_climb_5 (by decide) (fun c_5 => ?_) (fun c_5 => ?_)
    · refine x_return (pc := 43) dX2_climb_43 rfl (by decide) ?_
      exfalso
      omega
    · refine x_aload_n (pc := 8) dX2_climb_8 rfl rfl ?_
      refine x_callV0 (pc := 9) dX2_climb_9 rfl kX2_94 (s_columnToEnter hfl hC k2 hP hw hh hZ hOk) (sC_40 hC) rfl rfl (Nat.le_of_ble_eq_true rfl) (k_R ?_) n_R
      refine x_istore_n (pc := 12) dX2_climb_12 rfl (by decide) rfl ?_
      refine x_iload_n (pc := 13) dX2_climb_13 rfl rfl ?_
      refine x_iconst (pc := 14) dX2_climb_14 (by decide) ?_
      refine x_icmp_ne (tgt := 19) (pc := 15) dX2_climb_15 (by decide) (fun c_15 => ?_) (fun c_15 => ?_)
      · have ek : k < n := by
          refine Nat.lt_of_le_of_ne k1 fun q => ?_
          rw [q] at c_15
          exact c_15 n4
        have hg := sx_go (Z := Z) (fx := fx) hP hOk c_15
        obtain ⟨j, hj⟩ : ∃ j : Nat, j = (sxE w F Z fx (sxR w h F Z fx st k)).toNat := ⟨_, rfl⟩
        rw [← hj] at hg
        obtain ⟨r, hr⟩ : ∃ r : Nat, r = (sxL w h F (sxR w h F Z fx st k) j).toNat := ⟨_, rfl⟩
        rw [← hr] at hg
        obtain ⟨y1, y2, y3, y4, y5, y6, y7, y8, y9, y10, y11⟩ := hg
        rewrite [y1]
        refine x_aload_n (pc := 19) dX2_climb_19 rfl rfl ?_
        refine x_iload_n (pc := 20) dX2_climb_20 rfl rfl ?_
        refine x_callV1 (pc := 21) dX2_climb_21 rfl kX2_98 (s_rowToLeave hfl hC k2 hP hw hh hZ hOk j y3) (sC_40 hC) rfl rfl (Nat.le_of_ble_eq_true rfl) (k_R ?_) n_R
        rewrite [y2]
        refine x_istore_n (pc := 24) dX2_climb_24 rfl (by decide) rfl ?_
        refine x_iload_n (pc := 25) dX2_climb_25 rfl rfl ?_
        refine x_iconst (pc := 26) dX2_climb_26 (by decide) ?_
        refine x_icmp_ne (tgt := 31) (pc := 27) dX2_climb_27 (by decide) (fun c_27 => ?_) (fun c_27 => ?_)
        · refine x_aload_n (pc := 31) dX2_climb_31 rfl rfl ?_
          refine x_iload_n (pc := 32) dX2_climb_32 rfl rfl ?_
          refine x_iload_n (pc := 33) dX2_climb_33 rfl rfl ?_
          refine x_callV2 (pc := 34) dX2_climb_34 rfl kX2_101 (s_turnX hfl hC k2 hP hw hh hZ hOk r j y4 y3 y10 y6) (sC_40 hC) rfl rfl (Nat.le_of_ble_eq_true rfl) (k_U (fun M9 hM9 => ?_)) n_U
          obtain ⟨f1, f2⟩ := hM9
          refine x_iinc (pc := 37) dX2_climb_37 rfl (by omega) (by decide) rfl ?_
          refine x_goto (tgt := 2) (pc := 40) dX2_climb_40 (by decide) ?_
          refine x_lo (lo' := [(0, (2, 40)), (1, (0, ((k + 1 : Nat) : Int)))]) ⟨rfl, rfl, trivial⟩ (ih (k + 1) M9 ⟨by omega, ?_, k3.tr f2⟩ (by omega))
          show RTc M9 w h F (sxN w h F Z fx (sxR w h F Z fx st k)) Z fx
          rw [y5]
          exact f1
        · refine x_return (pc := 30) dX2_climb_30 rfl (by decide) ?_
          exfalso
          omega
      · refine x_return (pc := 18) dX2_climb_18 rfl (by decide) ?_
        have ek : k = n := by
          refine Classical.byContradiction fun q => ?_
          exact (n5 k (by omega)).1 (by assumption)
        subst ek
        rw [n2]
        exact ⟨rfl, rfl, rfl, k2, k3⟩)
  refine x_iconst (pc := 0) dX2_climb_0 (by decide) ?_
  refine x_istore_n (pc := 1) dX2_climb_1 rfl (by decide) rfl ?_
  exact x_lo (lo' := [(0, (2, 40)), (1, (0, ((0 : Nat) : Int)))]) ⟨rfl, rfl, trivial⟩ (loop 0 M ⟨by omega, hR, frX.rf⟩)
theorem s_rowOf {l : Launch} {E : aE} {N : Nat} {S : aS} {M : aM} (hfl : l.stackTraces = false) {w h : Nat} {F : Nat → Nat → Int} {st : sx} {Z : Nat → Int} {fx : Nat → Bool} (hC : lyC S) (hR : RTc M w h F st Z fx) (hP : PBx w h F 1048576) (hw : w ≤ 5) (hh : h ≤ 31) (hZ : bdV w Z) (hO : OKx w h F st) (v9 : Nat) : aMt l E pX2_rowOf [(2, 40), (0, (v9 : Int))] N S M (aG N S (fun v M' => M' = M ∧ ∃ x : Int, v = (0, x) ∧ ((∃ i : Nat, i < h ∧ x = i ∧ st.2.1 i = v9) ∨ (x = -1 ∧ ∀ i, i < h → st.2.1 i ≠ v9)))) := by
  refine a_met hfl rfl (by decide +kernel) (Nat.le_of_ble_eq_true rfl) ?_
  have loop := a_loop1 (fun i => i ≤ h ∧ ∀ k, k < i → st.2.1 k ≠ v9) (fun i => h - i) (fun i => aX l E pX2_rowOf (aG N S (fun v M' => M' = M ∧ ∃ x : Int, v = (0, x) ∧ ((∃ i : Nat, i < h ∧ x = i ∧ st.2.1 i = v9) ∨ (x = -1 ∧ ∀ i, i < h → st.2.1 i ≠ v9)))) 0 0 N S M 2 [(0, (2, 40)), (1, (0, (v9 : Int))), (2, (0, (i : Int)))] []) (by
    intro i hI ih
    have hg1 := hR.1.1
    have hg2 := hR.1.2.1
    have hg3 := hR.1.2.2
    refine x_iload_n (pc := 2) dX2_rowOf_2 rfl rfl ?_
    refine x_aload_n (pc := 3) dX2_rowOf_3 rfl rfl ?_
    refine x_getIV (jj := 8) (pc := 4) dX2_rowOf_4 fX2_65 (sC_40 hC) rfl (by decide) rfl (by (repeat (first | rewrite [up_s] | rewrite [up_i (by omega)] | rewrite [up_a (by omega)])); first | exact hg2 | exact hR.2.2.2.1 i (by omega) | rfl) ?_
    refine x_icmp_ge (tgt := 28) (pc := 7) dX2_rowOf_7 (by decide) (fun c_7 => ?_) (fun c_7 => ?_)
    · refine x_iconst (pc := 28) dX2_rowOf_28 (by decide) ?_
      refine x_ireturn (pc := 29) dX2_rowOf_29 rfl (by decide) ?_
      exact ⟨_, rfl, rfl, rfl, rfl, _, rfl, Or.inr ⟨rfl, fun k hk => hI.2 k (by omega)⟩⟩
    · refine x_aload_n (pc := 10) dX2_rowOf_10 rfl rfl ?_
      refine x_getR (jj := 3) (pc := 11) dX2_rowOf_11 fX2_16 (sC_40 hC) rfl (by decide) rfl rC_40_3 ?_
      refine x_iload_n (pc := 14) dX2_rowOf_14 rfl rfl ?_
      refine x_ialoadV (pc := 15) dX2_rowOf_15 (sC_74 hC) (by omega) (by (repeat (first | rewrite [up_s] | rewrite [up_i (by omega)] | rewrite [up_a (by omega)])); first | exact hg2 | exact hR.2.2.2.1 i (by omega) | rfl) (fun g_15 => ?_)
      refine x_iload_n (pc := 16) dX2_rowOf_16 rfl rfl ?_
      refine x_icmp_ne (tgt := 22) (pc := 17) dX2_rowOf_17 (by decide) (fun c_17 => ?_) (fun c_17 => ?_)
      · refine x_iinc (pc := 22) dX2_rowOf_22 rfl (by omega) (by decide) rfl ?_
        refine x_goto (tgt := 2) (pc := 25) dX2_rowOf_25 (by decide) ?_
        refine x_lo (lo' := [(0, (2, 40)), (1, (0, (v9 : Int))), (2, (0, ((i + 1 : Nat) : Int)))]) ⟨rfl, rfl, rfl, trivial⟩ (ih (i + 1) ⟨by omega, fun k hk => ?_⟩ (by omega))
        by_cases e : k = i
        · subst e; omega
        · exact hI.2 k (by omega)
      · refine x_iload_n (pc := 20) dX2_rowOf_20 rfl rfl ?_
        refine x_ireturn (pc := 21) dX2_rowOf_21 rfl (by decide) ?_
        exact ⟨_, rfl, rfl, rfl, rfl, _, rfl, Or.inl ⟨i, by omega, rfl, by omega⟩⟩)
  refine x_iconst (pc := 0) dX2_rowOf_0 (by decide) ?_
  refine x_istore_n (pc := 1) dX2_rowOf_1 rfl (by decide) rfl ?_
  exact x_lo (lo' := [(0, (2, 40)), (1, (0, (v9 : Int))), (2, (0, ((0 : Nat) : Int)))]) ⟨rfl, rfl, rfl, trivial⟩ (loop 0 ⟨by omega, fun k hk => by omega⟩)
theorem s_valueOf {l : Launch} {E : aE} {N : Nat} {S : aS} {M : aM} (hfl : l.stackTraces = false) {w h : Nat} {F : Nat → Nat → Int} {st : sx} {Z : Nat → Int} {fx : Nat → Bool} (hC : lyC S) (hR : RTc M w h F st Z fx) (hP : PBx w h F 1048576) (hw : w ≤ 5) (hh : h ≤ 31) (hZ : bdV w Z) (hO : OKx w h F st) (v9 : Nat) (hv : v9 < w + h) : aMt l E pX2_valueOf [(2, 40), (0, (v9 : Int))] N S M (aR (1, ta w F st (F v9) w) N S M) := by
  refine a_met hfl rfl (by decide +kernel) (Nat.le_of_ble_eq_true rfl) ?_
  have hg1 := hR.1.1
  have hg2 := hR.1.2.1
  have hg3 := hR.1.2.2

  refine x_aload_n (pc := 0) dX2_valueOf_0 rfl rfl ?_
  refine x_iload_n (pc := 1) dX2_valueOf_1 rfl rfl ?_
  refine x_callV1 (pc := 2) dX2_valueOf_2 rfl kX2_89 (s_rowOf hfl hC hR hP hw hh hZ hO v9) (sC_40 hC) rfl rfl (Nat.le_of_ble_eq_true rfl) (k_G (fun v9 M9 hM9 => ?_)) n_G
  obtain ⟨rfl, x, rfl, hx⟩ := hM9
  refine x_istore_n (pc := 5) dX2_valueOf_5 rfl (by decide) rfl ?_
  refine x_iload_n (pc := 6) dX2_valueOf_6 rfl rfl ?_
  refine x_iconst (pc := 7) dX2_valueOf_7 (by decide) ?_
  refine x_icmp_ne (tgt := 15) (pc := 8) dX2_valueOf_8 (by decide) (fun c_8 => ?_) (fun c_8 => ?_)
  · obtain ⟨i, hi, ex, ei⟩ : ∃ i : Nat, i < h ∧ x = i ∧ st.2.1 i = v9 := by
      rcases hx with hx | hx
      · exact hx
      · exact absurd hx.1 (by omega)
    subst ex
    have hvx := hR.2.1 i w hi (by omega)
    rw [ei] at hvx
    refine x_aload_n (pc := 15) dX2_valueOf_15 rfl rfl ?_
    refine x_getR (jj := 2) (pc := 16) dX2_valueOf_16 fX2_13 (sC_40 hC) rfl (by decide) rfl rC_40_2 ?_
    refine x_iload_n (pc := 19) dX2_valueOf_19 rfl rfl ?_
    refine x_raload (pc := 20) dX2_valueOf_20 (sC_41 hC) (by omega) ?_
    rewrite [r41_v (by omega)]
    refine x_aload_n (pc := 21) dX2_valueOf_21 rfl rfl ?_
    refine x_getIV (jj := 7) (pc := 22) dX2_valueOf_22 fX2_68 (sC_40 hC) rfl (by decide) rfl (by (repeat (first | rewrite [up_s] | rewrite [up_i (by omega)] | rewrite [up_a (by omega)])); first | exact hg1 | exact hvx | rfl) ?_
    refine x_laloadV (pc := 25) dX2_valueOf_25 (hC.1 _ (by omega) (by omega)) (by omega) (by (repeat (first | rewrite [up_s] | rewrite [up_i (by omega)] | rewrite [up_a (by omega)])); first | exact hg1 | exact hvx | rfl) (fun g_25 => ?_)
    refine x_lreturn (pc := 26) dX2_valueOf_26 rfl (by decide) ?_
    exact ⟨rfl, rfl, rfl, rfl⟩
  · refine x_lconst0 (pc := 11) dX2_valueOf_11 ?_
    have hz : ta w F st (F v9) w = 0 := by
      rcases hO.2.2.2.1.2.2.1 v9 hv with ⟨j, hj, e⟩ | ⟨i, hi, e⟩
      · rw [← e, ta_nu hj (by omega), if_neg (by omega)]
      · rcases hx with ⟨k, a, b, d⟩ | ⟨a, b⟩
        · omega
        · exact absurd e (b i hi)
    refine x_goto (tgt := 26) (pc := 12) dX2_valueOf_12 (by decide) ?_
    refine x_lreturn (pc := 26) dX2_valueOf_26 rfl (by decide) ?_
    rw [hz]
    exact ⟨rfl, rfl, rfl, rfl⟩
theorem s_placeOf {l : Launch} {E : aE} {N : Nat} {S : aS} {M : aM} (hfl : l.stackTraces = false) (hC : lyC S) (w j : Nat) (y : Int) (hw : w ≤ 5) (h7 : M 40 7 = w) (hj : j < w) (hy : M 77 j = y) (hyn : ∀ i : Nat, i < j → M 77 i ≠ y) : aMt l E pX2_placeOf [(2, 40), (0, y)] N S M (aR (0, (j : Int)) N S M) := by
  refine a_met hfl rfl (by decide +kernel) (Nat.le_of_ble_eq_true rfl) ?_
  have loop := a_loop1 (fun i => i ≤ j) (fun i => j - i) (fun i => aX l E pX2_placeOf (aR (0, (j : Int)) N S M) 0 0 N S M 2 [(0, (2, 40)), (1, (0, y)), (2, (0, (i : Int)))] []) (by
    intro i hI ih
    refine x_iload_n (pc := 2) dX2_placeOf_2 rfl rfl ?_
    refine x_aload_n (pc := 3) dX2_placeOf_3 rfl rfl ?_
    refine x_getIV (jj := 7) (pc := 4) dX2_placeOf_4 fX2_68 (sC_40 hC) rfl (by decide) rfl (by (repeat (first | rewrite [up_s] | rewrite [up_i (by omega)] | rewrite [up_a (by omega)])); first | exact h7 | rfl) ?_
    refine x_icmp_ge (tgt := 28) (pc := 7) dX2_placeOf_7 (by decide) (fun c_7 => ?_) (fun c_7 => ?_)
    · refine x_iconst (pc := 28) dX2_placeOf_28 (by decide) ?_
      refine x_ireturn (pc := 29) dX2_placeOf_29 rfl (by decide) ?_
      exfalso
      omega
    · refine x_aload_n (pc := 10) dX2_placeOf_10 rfl rfl ?_
      refine x_getR (jj := 6) (pc := 11) dX2_placeOf_11 fX2_27 (sC_40 hC) rfl (by decide) rfl rC_40_6 ?_
      refine x_iload_n (pc := 14) dX2_placeOf_14 rfl rfl ?_
      refine x_ialoadV (pc := 15) dX2_placeOf_15 (sC_77 hC) (by omega) (by (repeat (first | rewrite [up_s] | rewrite [up_i (by omega)] | rewrite [up_a (by omega)])); first | exact h7 | rfl) (fun g_15 => ?_)
      refine x_iload_n (pc := 16) dX2_placeOf_16 rfl rfl ?_
      refine x_icmp_ne (tgt := 22) (pc := 17) dX2_placeOf_17 (by decide) (fun c_17 => ?_) (fun c_17 => ?_)
      · refine x_iinc (pc := 22) dX2_placeOf_22 rfl (by omega) (by decide) rfl ?_
        refine x_goto (tgt := 2) (pc := 25) dX2_placeOf_25 (by decide) ?_
        have hij : i < j := by
          refine Nat.lt_of_le_of_ne hI fun q => ?_
          subst q
          exact absurd hy (by assumption)
        refine x_lo (lo' := [(0, (2, 40)), (1, (0, y)), (2, (0, ((i + 1 : Nat) : Int)))]) ⟨rfl, rfl, rfl, trivial⟩ (ih (i + 1) (by omega) (by omega))
      · refine x_iload_n (pc := 20) dX2_placeOf_20 rfl rfl ?_
        refine x_ireturn (pc := 21) dX2_placeOf_21 rfl (by decide) ?_
        have e : i = j := by
          refine Classical.byContradiction fun q => ?_
          exact hyn i (by omega) (by assumption)
        subst e
        exact ⟨rfl, rfl, rfl, rfl⟩)
  refine x_iconst (pc := 0) dX2_placeOf_0 (by decide) ?_
  refine x_istore_n (pc := 1) dX2_placeOf_1 rfl (by decide) rfl ?_
  exact x_lo (lo' := [(0, (2, 40)), (1, (0, y)), (2, (0, ((0 : Nat) : Int)))]) ⟨rfl, rfl, rfl, trivial⟩ (loop 0 (by omega))
theorem s_missing {l : Launch} {E : aE} {N : Nat} {S : aS} {M : aM} (hfl : l.stackTraces = false) {w h : Nat} {F : Nat → Nat → Int} {st : sx} {Z : Nat → Int} {fx : Nat → Bool} (hC : lyC S) (hR : RTc M w h F st Z fx) (hP : PBx w h F 1048576) (hw : w ≤ 5) (hh : h ≤ 31) (hZ : bdV w Z) (hO : OKx w h F st) (s T9 : Int) (hs : 0 ≤ s ∧ s < 128) (hs9 : M 40 9 = s) (hT9 : M 36 s = T9) (hTb : T9.natAbs ≤ 754974720) : aMt l E pX2_missing [(2, 40)] N S M (aR (1, T9 * ov w F st - ta w F st Z w) N S M) := by
  refine a_met hfl rfl (by decide +kernel) (Nat.le_of_ble_eq_true rfl) ?_
  have hg1 := hR.1.1
  have hg2 := hR.1.2.1
  have hg3 := hR.1.2.2
  have hbo := RTc.bdo hP hw hO
  refine x_aload_n (pc := 0) dX2_missing_0 rfl rfl ?_
  refine x_getR (jj := 1) (pc := 1) dX2_missing_1 fX2_37 (sC_40 hC) rfl (by decide) rfl rC_40_1 ?_
  refine x_getR (jj := 2) (pc := 4) dX2_missing_4 fX2_52 (sC_34 hC) rfl (by decide) rfl rC_34_2 ?_
  refine x_aload_n (pc := 7) dX2_missing_7 rfl rfl ?_
  refine x_getIV (jj := 9) (pc := 8) dX2_missing_8 fX2_57 (sC_40 hC) rfl (by decide) rfl (by (repeat (first | rewrite [up_s] | rewrite [up_i (by omega)] | rewrite [up_a (by omega)])); first | exact hs9 | exact hT9 | exact hg1 | exact hg2 | exact hg3 | exact hR.2.2.1 w (by omega) | rfl) ?_
  refine x_ialoadV (pc := 11) dX2_missing_11 (sC_36 hC) (by omega) (by (repeat (first | rewrite [up_s] | rewrite [up_i (by omega)] | rewrite [up_a (by omega)])); first | exact hs9 | exact hT9 | exact hg1 | exact hg2 | exact hg3 | exact hR.2.2.1 w (by omega) | rfl) (fun g_11 => ?_)
  refine x_i2l (pc := 12) dX2_missing_12 ?_
  refine x_aload_n (pc := 13) dX2_missing_13 rfl rfl ?_
  refine x_getJV (jj := 10) (pc := 14) dX2_missing_14 fX2_61 (sC_40 hC) rfl (by decide) rfl (by (repeat (first | rewrite [up_s] | rewrite [up_i (by omega)] | rewrite [up_a (by omega)])); first | exact hs9 | exact hT9 | exact hg1 | exact hg2 | exact hg3 | exact hR.2.2.1 w (by omega) | rfl) ?_
  have m1 := mul_bd (a := T9) (b := ov w F st) (by omega) (by omega)
  refine x_lmul (pc := 17) dX2_missing_17 (by omega) ?_
  refine x_aload_n (pc := 18) dX2_missing_18 rfl rfl ?_
  refine x_getR (jj := 2) (pc := 19) dX2_missing_19 fX2_13 (sC_40 hC) rfl (by decide) rfl rC_40_2 ?_
  refine x_aload_n (pc := 22) dX2_missing_22 rfl rfl ?_
  refine x_getIV (jj := 8) (pc := 23) dX2_missing_23 fX2_65 (sC_40 hC) rfl (by decide) rfl (by (repeat (first | rewrite [up_s] | rewrite [up_i (by omega)] | rewrite [up_a (by omega)])); first | exact hs9 | exact hT9 | exact hg1 | exact hg2 | exact hg3 | exact hR.2.2.1 w (by omega) | rfl) ?_
  refine x_raload (pc := 26) dX2_missing_26 (sC_41 hC) (by omega) ?_
  rewrite [r41_v (by omega)]
  refine x_aload_n (pc := 27) dX2_missing_27 rfl rfl ?_
  refine x_getIV (jj := 7) (pc := 28) dX2_missing_28 fX2_68 (sC_40 hC) rfl (by decide) rfl (by (repeat (first | rewrite [up_s] | rewrite [up_i (by omega)] | rewrite [up_a (by omega)])); first | exact hs9 | exact hT9 | exact hg1 | exact hg2 | exact hg3 | exact hR.2.2.1 w (by omega) | rfl) ?_
  refine x_laloadV (pc := 31) dX2_missing_31 (hC.1 _ (by omega) (by omega)) (by omega) (by (repeat (first | rewrite [up_s] | rewrite [up_i (by omega)] | rewrite [up_a (by omega)])); first | exact hs9 | exact hT9 | exact hg1 | exact hg2 | exact hg3 | exact hR.2.2.1 w (by omega) | rfl) (fun g_31 => ?_)
  refine x_lsub (pc := 32) dX2_missing_32 (by have := RTc.bdZ hP hw hO hZ (k := w) (by omega); omega) ?_
  refine x_lreturn (pc := 33) dX2_missing_33 rfl (by decide) ?_
  exact ⟨rfl, rfl, rfl, rfl⟩
