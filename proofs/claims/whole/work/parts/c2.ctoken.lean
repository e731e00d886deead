/-! TEXT: the class's tokens -/
def CB (M : aM) (T : Int → Int) (n : Int) : Prop := M 17 6 = n ∧ ∀ i, 0 ≤ i → i < n → M 18 i = sgn8 (T i) ∧ 0 ≤ T i ∧ T i ≤ 255
def CTk (M : aM) (T : Int → Int) (n a : Int) : Prop := (tK T n a = 4 → M 17 2 = 1 ∧ M 17 3 = tB T n a) ∧ (tK T n a ≠ 4 → M 17 2 = 0 ∧ M 17 7 = tK T n a ∧ M 17 8 = tB T n a ∧ M 17 9 = tE T n a ∧ (tK T n a = 2 → M 17 10 = tV T n a))
def frR (M M' : aM) : Prop := ∀ x y : Int, ¬ (x = 17 ∧ (y = 2 ∨ y = 3 ∨ (7 ≤ y ∧ y ≤ 10))) → M' x y = M x y
theorem frR.tr {M M' M'' : aM} (h : frR M M') (h' : frR M' M'') : frR M M'' := fun x y a => (h' x y a).trans (h x y a)
theorem CB.r {M M' : aM} {T : Int → Int} {n : Int} (h : CB M T n) (f : frR M M') : CB M' T n := ⟨(f _ _ (by omega)).trans h.1, fun i a b => ⟨(f _ _ (by omega)).trans (h.2 i a b).1, (h.2 i a b).2⟩⟩
theorem sg_b {x : Int} (h : 0 ≤ x ∧ x ≤ 255) : blB x = true ↔ sgn8 x = 10 ∨ sgn8 x = 32 := by
  rw [blB_t]; unfold sgn8; split <;> omega
theorem sg_l {x : Int} (h : 0 ≤ x ∧ x ≤ 255) : leB x = true ↔ 97 ≤ sgn8 x ∧ sgn8 x ≤ 122 := by
  rw [leB_t]; unfold sgn8; split <;> omega
theorem sg_d {x : Int} (h : 0 ≤ x ∧ x ≤ 255) : dgB x = true ↔ 48 ≤ sgn8 x ∧ sgn8 x ≤ 57 := by
  rw [dgB_t]; unfold sgn8; split <;> omega
theorem sg_e {x k : Int} (h : 0 ≤ x ∧ x ≤ 255) (hk : 0 ≤ k ∧ k < 128) : sgn8 x = k ↔ x = k := by
  unfold sgn8; split <;> omega
theorem dX5_isBlank_0 : decode cX5_isBlank 0 = .ok (.iload_n 0, 1) := by decide +kernel
theorem dX5_isBlank_1 : decode cX5_isBlank 1 = .ok (.bipush 10, 2) := by decide +kernel
theorem dX5_isBlank_3 : decode cX5_isBlank 3 = .ok (.if_icmp .eq 9, 3) := by decide +kernel
theorem dX5_isBlank_6 : decode cX5_isBlank 6 = .ok (.iload_n 0, 1) := by decide +kernel
theorem dX5_isBlank_7 : decode cX5_isBlank 7 = .ok (.bipush 32, 2) := by decide +kernel
theorem dX5_isBlank_9 : decode cX5_isBlank 9 = .ok (.if_icmp .ne 7, 3) := by decide +kernel
theorem dX5_isBlank_12 : decode cX5_isBlank 12 = .ok (.iconst 1, 1) := by decide +kernel
theorem dX5_isBlank_13 : decode cX5_isBlank 13 = .ok (.goto 4, 3) := by decide +kernel
theorem dX5_isBlank_16 : decode cX5_isBlank 16 = .ok (.iconst 0, 1) := by decide +kernel
theorem dX5_isBlank_17 : decode cX5_isBlank 17 = .ok (.ireturn, 1) := by decide +kernel
theorem dX5_isLetter_0 : decode cX5_isLetter 0 = .ok (.iload_n 0, 1) := by decide +kernel
theorem dX5_isLetter_1 : decode cX5_isLetter 1 = .ok (.bipush 97, 2) := by decide +kernel
theorem dX5_isLetter_3 : decode cX5_isLetter 3 = .ok (.if_icmp .lt 13, 3) := by decide +kernel
theorem dX5_isLetter_6 : decode cX5_isLetter 6 = .ok (.iload_n 0, 1) := by decide +kernel
theorem dX5_isLetter_7 : decode cX5_isLetter 7 = .ok (.bipush 122, 2) := by decide +kernel
theorem dX5_isLetter_9 : decode cX5_isLetter 9 = .ok (.if_icmp .gt 7, 3) := by decide +kernel
theorem dX5_isLetter_12 : decode cX5_isLetter 12 = .ok (.iconst 1, 1) := by decide +kernel
theorem dX5_isLetter_13 : decode cX5_isLetter 13 = .ok (.goto 4, 3) := by decide +kernel
theorem dX5_isLetter_16 : decode cX5_isLetter 16 = .ok (.iconst 0, 1) := by decide +kernel
theorem dX5_isLetter_17 : decode cX5_isLetter 17 = .ok (.ireturn, 1) := by decide +kernel
theorem dX5_isDigit_0 : decode cX5_isDigit 0 = .ok (.iload_n 0, 1) := by decide +kernel
theorem dX5_isDigit_1 : decode cX5_isDigit 1 = .ok (.bipush 48, 2) := by decide +kernel
theorem dX5_isDigit_3 : decode cX5_isDigit 3 = .ok (.if_icmp .lt 13, 3) := by decide +kernel
theorem dX5_isDigit_6 : decode cX5_isDigit 6 = .ok (.iload_n 0, 1) := by decide +kernel
theorem dX5_isDigit_7 : decode cX5_isDigit 7 = .ok (.bipush 57, 2) := by decide +kernel
theorem dX5_isDigit_9 : decode cX5_isDigit 9 = .ok (.if_icmp .gt 7, 3) := by decide +kernel
theorem dX5_isDigit_12 : decode cX5_isDigit 12 = .ok (.iconst 1, 1) := by decide +kernel
theorem dX5_isDigit_13 : decode cX5_isDigit 13 = .ok (.goto 4, 3) := by decide +kernel
theorem dX5_isDigit_16 : decode cX5_isDigit 16 = .ok (.iconst 0, 1) := by decide +kernel
theorem dX5_isDigit_17 : decode cX5_isDigit 17 = .ok (.ireturn, 1) := by decide +kernel
theorem dX5_blame_0 : decode cX5_blame 0 = .ok (.aload_n 0, 1) := by decide +kernel
theorem dX5_blame_1 : decode cX5_blame 1 = .ok (.iload_n 1, 1) := by decide +kernel
theorem dX5_blame_2 : decode cX5_blame 2 = .ok (.putfield 38, 3) := by decide +kernel
theorem dX5_blame_5 : decode cX5_blame 5 = .ok (.aload_n 0, 1) := by decide +kernel
theorem dX5_blame_6 : decode cX5_blame 6 = .ok (.aload_n 0, 1) := by decide +kernel
theorem dX5_blame_7 : decode cX5_blame 7 = .ok (.getfield 177, 3) := by decide +kernel
theorem dX5_blame_10 : decode cX5_blame 10 = .ok (.putfield 15, 3) := by decide +kernel
theorem dX5_blame_13 : decode cX5_blame 13 = .ok (.return_, 1) := by decide +kernel
theorem dX5_readDigits_0 : decode cX5_readDigits 0 = .ok (.aload_n 0, 1) := by decide +kernel
theorem dX5_readDigits_1 : decode cX5_readDigits 1 = .ok (.getfield 44, 3) := by decide +kernel
theorem dX5_readDigits_4 : decode cX5_readDigits 4 = .ok (.aload_n 0, 1) := by decide +kernel
theorem dX5_readDigits_5 : decode cX5_readDigits 5 = .ok (.getfield 35, 3) := by decide +kernel
theorem dX5_readDigits_8 : decode cX5_readDigits 8 = .ok (.if_icmp .ge 74, 3) := by decide +kernel
theorem dX5_readDigits_11 : decode cX5_readDigits 11 = .ok (.aload_n 0, 1) := by decide +kernel
theorem dX5_readDigits_12 : decode cX5_readDigits 12 = .ok (.getfield 11, 3) := by decide +kernel
theorem dX5_readDigits_15 : decode cX5_readDigits 15 = .ok (.aload_n 0, 1) := by decide +kernel
theorem dX5_readDigits_16 : decode cX5_readDigits 16 = .ok (.getfield 44, 3) := by decide +kernel
theorem dX5_readDigits_19 : decode cX5_readDigits 19 = .ok (.baload, 1) := by decide +kernel
theorem dX5_readDigits_20 : decode cX5_readDigits 20 = .ok (.invokestatic 186, 3) := by decide +kernel
theorem dX5_readDigits_23 : decode cX5_readDigits 23 = .ok (.ifCond .eq 59, 3) := by decide +kernel
theorem dX5_readDigits_26 : decode cX5_readDigits 26 = .ok (.aload_n 0, 1) := by decide +kernel
theorem dX5_readDigits_27 : decode cX5_readDigits 27 = .ok (.getfield 44, 3) := by decide +kernel
theorem dX5_readDigits_30 : decode cX5_readDigits 30 = .ok (.aload_n 0, 1) := by decide +kernel
theorem dX5_readDigits_31 : decode cX5_readDigits 31 = .ok (.getfield 177, 3) := by decide +kernel
theorem dX5_readDigits_34 : decode cX5_readDigits 34 = .ok (.isub, 1) := by decide +kernel
theorem dX5_readDigits_35 : decode cX5_readDigits 35 = .ok (.iconst 3, 1) := by decide +kernel
theorem dX5_readDigits_36 : decode cX5_readDigits 36 = .ok (.if_icmp .ne 9, 3) := by decide +kernel
theorem dX5_readDigits_39 : decode cX5_readDigits 39 = .ok (.aload_n 0, 1) := by decide +kernel
theorem dX5_readDigits_40 : decode cX5_readDigits 40 = .ok (.iconst 1, 1) := by decide +kernel
theorem dX5_readDigits_41 : decode cX5_readDigits 41 = .ok (.invokevirtual 68, 3) := by decide +kernel
theorem dX5_readDigits_44 : decode cX5_readDigits 44 = .ok (.return_, 1) := by decide +kernel
theorem dX5_readDigits_45 : decode cX5_readDigits 45 = .ok (.aload_n 0, 1) := by decide +kernel
theorem dX5_readDigits_46 : decode cX5_readDigits 46 = .ok (.aload_n 0, 1) := by decide +kernel
theorem dX5_readDigits_47 : decode cX5_readDigits 47 = .ok (.getfield 126, 3) := by decide +kernel
theorem dX5_readDigits_50 : decode cX5_readDigits 50 = .ok (.bipush 10, 2) := by decide +kernel
theorem dX5_readDigits_52 : decode cX5_readDigits 52 = .ok (.imul, 1) := by decide +kernel
theorem dX5_readDigits_53 : decode cX5_readDigits 53 = .ok (.aload_n 0, 1) := by decide +kernel
theorem dX5_readDigits_54 : decode cX5_readDigits 54 = .ok (.getfield 11, 3) := by decide +kernel
theorem dX5_readDigits_57 : decode cX5_readDigits 57 = .ok (.aload_n 0, 1) := by decide +kernel
theorem dX5_readDigits_58 : decode cX5_readDigits 58 = .ok (.getfield 44, 3) := by decide +kernel
theorem dX5_readDigits_61 : decode cX5_readDigits 61 = .ok (.baload, 1) := by decide +kernel
theorem dX5_readDigits_62 : decode cX5_readDigits 62 = .ok (.iadd, 1) := by decide +kernel
theorem dX5_readDigits_63 : decode cX5_readDigits 63 = .ok (.bipush 48, 2) := by decide +kernel
theorem dX5_readDigits_65 : decode cX5_readDigits 65 = .ok (.isub, 1) := by decide +kernel
theorem dX5_readDigits_66 : decode cX5_readDigits 66 = .ok (.putfield 126, 3) := by decide +kernel
theorem dX5_readDigits_69 : decode cX5_readDigits 69 = .ok (.aload_n 0, 1) := by decide +kernel
theorem dX5_readDigits_70 : decode cX5_readDigits 70 = .ok (.dup, 1) := by decide +kernel
theorem dX5_readDigits_71 : decode cX5_readDigits 71 = .ok (.getfield 44, 3) := by decide +kernel
theorem dX5_readDigits_74 : decode cX5_readDigits 74 = .ok (.iconst 1, 1) := by decide +kernel
theorem dX5_readDigits_75 : decode cX5_readDigits 75 = .ok (.iadd, 1) := by decide +kernel
theorem dX5_readDigits_76 : decode cX5_readDigits 76 = .ok (.putfield 44, 3) := by decide +kernel
theorem dX5_readDigits_79 : decode cX5_readDigits 79 = .ok (.goto (-79), 3) := by decide +kernel
theorem dX5_readDigits_82 : decode cX5_readDigits 82 = .ok (.return_, 1) := by decide +kernel
theorem dX5_advance_0 : decode cX5_advance 0 = .ok (.aload_n 0, 1) := by decide +kernel
theorem dX5_advance_1 : decode cX5_advance 1 = .ok (.getfield 44, 3) := by decide +kernel
theorem dX5_advance_4 : decode cX5_advance 4 = .ok (.aload_n 0, 1) := by decide +kernel
theorem dX5_advance_5 : decode cX5_advance 5 = .ok (.getfield 35, 3) := by decide +kernel
theorem dX5_advance_8 : decode cX5_advance 8 = .ok (.if_icmp .ge 31, 3) := by decide +kernel
theorem dX5_advance_11 : decode cX5_advance 11 = .ok (.aload_n 0, 1) := by decide +kernel
theorem dX5_advance_12 : decode cX5_advance 12 = .ok (.getfield 11, 3) := by decide +kernel
theorem dX5_advance_15 : decode cX5_advance 15 = .ok (.aload_n 0, 1) := by decide +kernel
theorem dX5_advance_16 : decode cX5_advance 16 = .ok (.getfield 44, 3) := by decide +kernel
theorem dX5_advance_19 : decode cX5_advance 19 = .ok (.baload, 1) := by decide +kernel
theorem dX5_advance_20 : decode cX5_advance 20 = .ok (.invokestatic 180, 3) := by decide +kernel
theorem dX5_advance_23 : decode cX5_advance 23 = .ok (.ifCond .eq 16, 3) := by decide +kernel
theorem dX5_advance_26 : decode cX5_advance 26 = .ok (.aload_n 0, 1) := by decide +kernel
theorem dX5_advance_27 : decode cX5_advance 27 = .ok (.dup, 1) := by decide +kernel
theorem dX5_advance_28 : decode cX5_advance 28 = .ok (.getfield 44, 3) := by decide +kernel
theorem dX5_advance_31 : decode cX5_advance 31 = .ok (.iconst 1, 1) := by decide +kernel
theorem dX5_advance_32 : decode cX5_advance 32 = .ok (.iadd, 1) := by decide +kernel
theorem dX5_advance_33 : decode cX5_advance 33 = .ok (.putfield 44, 3) := by decide +kernel
theorem dX5_advance_36 : decode cX5_advance 36 = .ok (.goto (-36), 3) := by decide +kernel
theorem dX5_advance_39 : decode cX5_advance 39 = .ok (.aload_n 0, 1) := by decide +kernel
theorem dX5_advance_40 : decode cX5_advance 40 = .ok (.aload_n 0, 1) := by decide +kernel
theorem dX5_advance_41 : decode cX5_advance 41 = .ok (.getfield 44, 3) := by decide +kernel
theorem dX5_advance_44 : decode cX5_advance 44 = .ok (.putfield 177, 3) := by decide +kernel
theorem dX5_advance_47 : decode cX5_advance 47 = .ok (.aload_n 0, 1) := by decide +kernel
theorem dX5_advance_48 : decode cX5_advance 48 = .ok (.iconst 0, 1) := by decide +kernel
theorem dX5_advance_49 : decode cX5_advance 49 = .ok (.putfield 126, 3) := by decide +kernel
theorem dX5_advance_52 : decode cX5_advance 52 = .ok (.aload_n 0, 1) := by decide +kernel
theorem dX5_advance_53 : decode cX5_advance 53 = .ok (.getfield 44, 3) := by decide +kernel
theorem dX5_advance_56 : decode cX5_advance 56 = .ok (.aload_n 0, 1) := by decide +kernel
theorem dX5_advance_57 : decode cX5_advance 57 = .ok (.getfield 35, 3) := by decide +kernel
theorem dX5_advance_60 : decode cX5_advance 60 = .ok (.if_icmp .lt 19, 3) := by decide +kernel
theorem dX5_advance_63 : decode cX5_advance 63 = .ok (.aload_n 0, 1) := by decide +kernel
theorem dX5_advance_64 : decode cX5_advance 64 = .ok (.aload_n 0, 1) := by decide +kernel
theorem dX5_advance_65 : decode cX5_advance 65 = .ok (.getfield 35, 3) := by decide +kernel
theorem dX5_advance_68 : decode cX5_advance 68 = .ok (.putfield 177, 3) := by decide +kernel
theorem dX5_advance_71 : decode cX5_advance 71 = .ok (.aload_n 0, 1) := by decide +kernel
theorem dX5_advance_72 : decode cX5_advance 72 = .ok (.iconst 0, 1) := by decide +kernel
theorem dX5_advance_73 : decode cX5_advance 73 = .ok (.putfield 53, 3) := by decide +kernel
theorem dX5_advance_76 : decode cX5_advance 76 = .ok (.goto 126, 3) := by decide +kernel
theorem dX5_advance_79 : decode cX5_advance 79 = .ok (.aload_n 0, 1) := by decide +kernel
theorem dX5_advance_80 : decode cX5_advance 80 = .ok (.getfield 11, 3) := by decide +kernel
theorem dX5_advance_83 : decode cX5_advance 83 = .ok (.aload_n 0, 1) := by decide +kernel
theorem dX5_advance_84 : decode cX5_advance 84 = .ok (.getfield 44, 3) := by decide +kernel
theorem dX5_advance_87 : decode cX5_advance 87 = .ok (.baload, 1) := by decide +kernel
theorem dX5_advance_88 : decode cX5_advance 88 = .ok (.invokestatic 183, 3) := by decide +kernel
theorem dX5_advance_91 : decode cX5_advance 91 = .ok (.ifCond .eq 47, 3) := by decide +kernel
theorem dX5_advance_94 : decode cX5_advance 94 = .ok (.aload_n 0, 1) := by decide +kernel
theorem dX5_advance_95 : decode cX5_advance 95 = .ok (.iconst 1, 1) := by decide +kernel
theorem dX5_advance_96 : decode cX5_advance 96 = .ok (.putfield 53, 3) := by decide +kernel
theorem dX5_advance_99 : decode cX5_advance 99 = .ok (.aload_n 0, 1) := by decide +kernel
theorem dX5_advance_100 : decode cX5_advance 100 = .ok (.getfield 44, 3) := by decide +kernel
theorem dX5_advance_103 : decode cX5_advance 103 = .ok (.aload_n 0, 1) := by decide +kernel
theorem dX5_advance_104 : decode cX5_advance 104 = .ok (.getfield 35, 3) := by decide +kernel
theorem dX5_advance_107 : decode cX5_advance 107 = .ok (.if_icmp .ge 95, 3) := by decide +kernel
theorem dX5_advance_110 : decode cX5_advance 110 = .ok (.aload_n 0, 1) := by decide +kernel
theorem dX5_advance_111 : decode cX5_advance 111 = .ok (.getfield 11, 3) := by decide +kernel
theorem dX5_advance_114 : decode cX5_advance 114 = .ok (.aload_n 0, 1) := by decide +kernel
theorem dX5_advance_115 : decode cX5_advance 115 = .ok (.getfield 44, 3) := by decide +kernel
theorem dX5_advance_118 : decode cX5_advance 118 = .ok (.baload, 1) := by decide +kernel
theorem dX5_advance_119 : decode cX5_advance 119 = .ok (.invokestatic 183, 3) := by decide +kernel
theorem dX5_advance_122 : decode cX5_advance 122 = .ok (.ifCond .eq 80, 3) := by decide +kernel
theorem dX5_advance_125 : decode cX5_advance 125 = .ok (.aload_n 0, 1) := by decide +kernel
theorem dX5_advance_126 : decode cX5_advance 126 = .ok (.dup, 1) := by decide +kernel
theorem dX5_advance_127 : decode cX5_advance 127 = .ok (.getfield 44, 3) := by decide +kernel
theorem dX5_advance_130 : decode cX5_advance 130 = .ok (.iconst 1, 1) := by decide +kernel
theorem dX5_advance_131 : decode cX5_advance 131 = .ok (.iadd, 1) := by decide +kernel
theorem dX5_advance_132 : decode cX5_advance 132 = .ok (.putfield 44, 3) := by decide +kernel
theorem dX5_advance_135 : decode cX5_advance 135 = .ok (.goto (-36), 3) := by decide +kernel
theorem dX5_advance_138 : decode cX5_advance 138 = .ok (.aload_n 0, 1) := by decide +kernel
theorem dX5_advance_139 : decode cX5_advance 139 = .ok (.getfield 11, 3) := by decide +kernel
theorem dX5_advance_142 : decode cX5_advance 142 = .ok (.aload_n 0, 1) := by decide +kernel
theorem dX5_advance_143 : decode cX5_advance 143 = .ok (.getfield 44, 3) := by decide +kernel
theorem dX5_advance_146 : decode cX5_advance 146 = .ok (.baload, 1) := by decide +kernel
theorem dX5_advance_147 : decode cX5_advance 147 = .ok (.invokestatic 186, 3) := by decide +kernel
theorem dX5_advance_150 : decode cX5_advance 150 = .ok (.ifCond .eq 15, 3) := by decide +kernel
theorem dX5_advance_153 : decode cX5_advance 153 = .ok (.aload_n 0, 1) := by decide +kernel
theorem dX5_advance_154 : decode cX5_advance 154 = .ok (.iconst 2, 1) := by decide +kernel
theorem dX5_advance_155 : decode cX5_advance 155 = .ok (.putfield 53, 3) := by decide +kernel
theorem dX5_advance_158 : decode cX5_advance 158 = .ok (.aload_n 0, 1) := by decide +kernel
theorem dX5_advance_159 : decode cX5_advance 159 = .ok (.invokevirtual 189, 3) := by decide +kernel
theorem dX5_advance_162 : decode cX5_advance 162 = .ok (.goto 40, 3) := by decide +kernel
theorem dX5_advance_165 : decode cX5_advance 165 = .ok (.aload_n 0, 1) := by decide +kernel
theorem dX5_advance_166 : decode cX5_advance 166 = .ok (.getfield 11, 3) := by decide +kernel
theorem dX5_advance_169 : decode cX5_advance 169 = .ok (.aload_n 0, 1) := by decide +kernel
theorem dX5_advance_170 : decode cX5_advance 170 = .ok (.getfield 44, 3) := by decide +kernel
theorem dX5_advance_173 : decode cX5_advance 173 = .ok (.baload, 1) := by decide +kernel
theorem dX5_advance_174 : decode cX5_advance 174 = .ok (.bipush 59, 2) := by decide +kernel
theorem dX5_advance_176 : decode cX5_advance 176 = .ok (.if_icmp .ne 21, 3) := by decide +kernel
theorem dX5_advance_179 : decode cX5_advance 179 = .ok (.aload_n 0, 1) := by decide +kernel
theorem dX5_advance_180 : decode cX5_advance 180 = .ok (.iconst 3, 1) := by decide +kernel
theorem dX5_advance_181 : decode cX5_advance 181 = .ok (.putfield 53, 3) := by decide +kernel
theorem dX5_advance_184 : decode cX5_advance 184 = .ok (.aload_n 0, 1) := by decide +kernel
theorem dX5_advance_185 : decode cX5_advance 185 = .ok (.dup, 1) := by decide +kernel
theorem dX5_advance_186 : decode cX5_advance 186 = .ok (.getfield 44, 3) := by decide +kernel
theorem dX5_advance_189 : decode cX5_advance 189 = .ok (.iconst 1, 1) := by decide +kernel
theorem dX5_advance_190 : decode cX5_advance 190 = .ok (.iadd, 1) := by decide +kernel
theorem dX5_advance_191 : decode cX5_advance 191 = .ok (.putfield 44, 3) := by decide +kernel
theorem dX5_advance_194 : decode cX5_advance 194 = .ok (.goto 8, 3) := by decide +kernel
theorem dX5_advance_197 : decode cX5_advance 197 = .ok (.aload_n 0, 1) := by decide +kernel
theorem dX5_advance_198 : decode cX5_advance 198 = .ok (.iconst 1, 1) := by decide +kernel
theorem dX5_advance_199 : decode cX5_advance 199 = .ok (.invokevirtual 68, 3) := by decide +kernel
theorem dX5_advance_202 : decode cX5_advance 202 = .ok (.return_, 1) := by decide +kernel
theorem dX5_readNumber_0 : decode cX5_readNumber 0 = .ok (.aload_n 0, 1) := by decide +kernel
theorem dX5_readNumber_1 : decode cX5_readNumber 1 = .ok (.invokevirtual 50, 3) := by decide +kernel
theorem dX5_readNumber_4 : decode cX5_readNumber 4 = .ok (.aload_n 0, 1) := by decide +kernel
theorem dX5_readNumber_5 : decode cX5_readNumber 5 = .ok (.getfield 38, 3) := by decide +kernel
theorem dX5_readNumber_8 : decode cX5_readNumber 8 = .ok (.ifCond .ne 16, 3) := by decide +kernel
theorem dX5_readNumber_11 : decode cX5_readNumber 11 = .ok (.aload_n 0, 1) := by decide +kernel
theorem dX5_readNumber_12 : decode cX5_readNumber 12 = .ok (.getfield 53, 3) := by decide +kernel
theorem dX5_readNumber_15 : decode cX5_readNumber 15 = .ok (.iconst 2, 1) := by decide +kernel
theorem dX5_readNumber_16 : decode cX5_readNumber 16 = .ok (.if_icmp .eq 8, 3) := by decide +kernel
theorem dX5_readNumber_19 : decode cX5_readNumber 19 = .ok (.aload_n 0, 1) := by decide +kernel
theorem dX5_readNumber_20 : decode cX5_readNumber 20 = .ok (.iconst 2, 1) := by decide +kernel
theorem dX5_readNumber_21 : decode cX5_readNumber 21 = .ok (.invokevirtual 68, 3) := by decide +kernel
theorem dX5_readNumber_24 : decode cX5_readNumber 24 = .ok (.aload_n 0, 1) := by decide +kernel
theorem dX5_readNumber_25 : decode cX5_readNumber 25 = .ok (.getfield 38, 3) := by decide +kernel
theorem dX5_readNumber_28 : decode cX5_readNumber 28 = .ok (.ifCond .ne 24, 3) := by decide +kernel
theorem dX5_readNumber_31 : decode cX5_readNumber 31 = .ok (.aload_n 0, 1) := by decide +kernel
theorem dX5_readNumber_32 : decode cX5_readNumber 32 = .ok (.getfield 126, 3) := by decide +kernel
theorem dX5_readNumber_35 : decode cX5_readNumber 35 = .ok (.iload_n 1, 1) := by decide +kernel
theorem dX5_readNumber_36 : decode cX5_readNumber 36 = .ok (.if_icmp .lt 11, 3) := by decide +kernel
theorem dX5_readNumber_39 : decode cX5_readNumber 39 = .ok (.aload_n 0, 1) := by decide +kernel
theorem dX5_readNumber_40 : decode cX5_readNumber 40 = .ok (.getfield 126, 3) := by decide +kernel
theorem dX5_readNumber_43 : decode cX5_readNumber 43 = .ok (.iload_n 2, 1) := by decide +kernel
theorem dX5_readNumber_44 : decode cX5_readNumber 44 = .ok (.if_icmp .le 8, 3) := by decide +kernel
theorem dX5_readNumber_47 : decode cX5_readNumber 47 = .ok (.aload_n 0, 1) := by decide +kernel
theorem dX5_readNumber_48 : decode cX5_readNumber 48 = .ok (.iconst 3, 1) := by decide +kernel
theorem dX5_readNumber_49 : decode cX5_readNumber 49 = .ok (.invokevirtual 68, 3) := by decide +kernel
theorem dX5_readNumber_52 : decode cX5_readNumber 52 = .ok (.aload_n 0, 1) := by decide +kernel
theorem dX5_readNumber_53 : decode cX5_readNumber 53 = .ok (.getfield 126, 3) := by decide +kernel
theorem dX5_readNumber_56 : decode cX5_readNumber 56 = .ok (.ireturn, 1) := by decide +kernel
theorem s_isBlankC {l : Launch} {E : aE} {N : Nat} {S : aS} {M : aM} (hfl : l.stackTraces = false) (c : Int) : aMt l E pX5_isBlank [(0, c)] N S M (aB (c = 10 ∨ c = 32) N S M) := by
  refine a_met hfl rfl (by decide +kernel) (Nat.le_of_ble_eq_true rfl) ?_
  refine x_iload_n (pc := 0) dX5_isBlank_0 rfl rfl ?_
  refine x_bipush (pc := 1) dX5_isBlank_1 (by decide) ?_
  refine x_icmp_eq (tgt := 12) (pc := 3) dX5_isBlank_3 (by decide) (fun c_3 => ?_) (fun c_3 => ?_)
  · refine x_iconst (pc := 12) dX5_isBlank_12 (by decide) ?_
    refine x_goto (tgt := 17) (pc := 13) dX5_isBlank_13 (by decide) ?_
    refine x_zreturn (pc := 17) dX5_isBlank_17 rfl (by omega) (by decide) ?_
    first | exact b_1 (by omega) | exact b_0 (by omega)
  · refine x_iload_n (pc := 6) dX5_isBlank_6 rfl rfl ?_
    refine x_bipush (pc := 7) dX5_isBlank_7 (by decide) ?_
    refine x_icmp_ne (tgt := 16) (pc := 9) dX5_isBlank_9 (by decide) (fun c_9 => ?_) (fun c_9 => ?_)
    · refine x_iconst (pc := 16) dX5_isBlank_16 (by decide) ?_
      refine x_zreturn (pc := 17) dX5_isBlank_17 rfl (by omega) (by decide) ?_
      first | exact b_1 (by omega) | exact b_0 (by omega)
    · refine x_iconst (pc := 12) dX5_isBlank_12 (by decide) ?_
      refine x_goto (tgt := 17) (pc := 13) dX5_isBlank_13 (by decide) ?_
      refine x_zreturn (pc := 17) dX5_isBlank_17 rfl (by omega) (by decide) ?_
      first | exact b_1 (by omega) | exact b_0 (by omega)
theorem s_isLetterC {l : Launch} {E : aE} {N : Nat} {S : aS} {M : aM} (hfl : l.stackTraces = false) (c : Int) : aMt l E pX5_isLetter [(0, c)] N S M (aB (97 ≤ c ∧ c ≤ 122) N S M) := by
  refine a_met hfl rfl (by decide +kernel) (Nat.le_of_ble_eq_true rfl) ?_
  refine x_iload_n (pc := 0) dX5_isLetter_0 rfl rfl ?_
  refine x_bipush (pc := 1) dX5_isLetter_1 (by decide) ?_
  refine x_icmp_lt (tgt := 16) (pc := 3) dX5_isLetter_3 (by decide) (fun c_3 => ?_) (fun c_3 => ?_)
  · refine x_iconst (pc := 16) dX5_isLetter_16 (by decide) ?_
    refine x_zreturn (pc := 17) dX5_isLetter_17 rfl (by omega) (by decide) ?_
    first | exact b_1 ⟨by omega, by omega⟩ | exact b_0 (by omega)
  · refine x_iload_n (pc := 6) dX5_isLetter_6 rfl rfl ?_
    refine x_bipush (pc := 7) dX5_isLetter_7 (by decide) ?_
    refine x_icmp_gt (tgt := 16) (pc := 9) dX5_isLetter_9 (by decide) (fun c_9 => ?_) (fun c_9 => ?_)
    · refine x_iconst (pc := 16) dX5_isLetter_16 (by decide) ?_
      refine x_zreturn (pc := 17) dX5_isLetter_17 rfl (by omega) (by decide) ?_
      first | exact b_1 ⟨by omega, by omega⟩ | exact b_0 (by omega)
    · refine x_iconst (pc := 12) dX5_isLetter_12 (by decide) ?_
      refine x_goto (tgt := 17) (pc := 13) dX5_isLetter_13 (by decide) ?_
      refine x_zreturn (pc := 17) dX5_isLetter_17 rfl (by omega) (by decide) ?_
      first | exact b_1 ⟨by omega, by omega⟩ | exact b_0 (by omega)
theorem s_isDigitC {l : Launch} {E : aE} {N : Nat} {S : aS} {M : aM} (hfl : l.stackTraces = false) (c : Int) : aMt l E pX5_isDigit [(0, c)] N S M (aB (48 ≤ c ∧ c ≤ 57) N S M) := by
  refine a_met hfl rfl (by decide +kernel) (Nat.le_of_ble_eq_true rfl) ?_
  refine x_iload_n (pc := 0) dX5_isDigit_0 rfl rfl ?_
  refine x_bipush (pc := 1) dX5_isDigit_1 (by decide) ?_
  refine x_icmp_lt (tgt := 16) (pc := 3) dX5_isDigit_3 (by decide) (fun c_3 => ?_) (fun c_3 => ?_)
  · refine x_iconst (pc := 16) dX5_isDigit_16 (by decide) ?_
    refine x_zreturn (pc := 17) dX5_isDigit_17 rfl (by omega) (by decide) ?_
    first | exact b_1 ⟨by omega, by omega⟩ | exact b_0 (by omega)
  · refine x_iload_n (pc := 6) dX5_isDigit_6 rfl rfl ?_
    refine x_bipush (pc := 7) dX5_isDigit_7 (by decide) ?_
    refine x_icmp_gt (tgt := 16) (pc := 9) dX5_isDigit_9 (by decide) (fun c_9 => ?_) (fun c_9 => ?_)
    · refine x_iconst (pc := 16) dX5_isDigit_16 (by decide) ?_
      refine x_zreturn (pc := 17) dX5_isDigit_17 rfl (by omega) (by decide) ?_
      first | exact b_1 ⟨by omega, by omega⟩ | exact b_0 (by omega)
    · refine x_iconst (pc := 12) dX5_isDigit_12 (by decide) ?_
      refine x_goto (tgt := 17) (pc := 13) dX5_isDigit_13 (by decide) ?_
      refine x_zreturn (pc := 17) dX5_isDigit_17 rfl (by omega) (by decide) ?_
      first | exact b_1 ⟨by omega, by omega⟩ | exact b_0 (by omega)
theorem s_blame {l : Launch} {E : aE} {N : Nat} {S : aS} {M : aM} (hfl : l.stackTraces = false) (hC : lyC S) (w : Int) : aMt l E pX5_blame [(2, 17), (0, w)] N S M (aU N S (fun M' => M' = up (up M 17 2 w) 17 3 (M 17 8))) := by
  refine a_met hfl rfl (by decide +kernel) (Nat.le_of_ble_eq_true rfl) ?_
  refine x_aload_n (pc := 0) dX5_blame_0 rfl rfl ?_
  refine x_iload_n (pc := 1) dX5_blame_1 rfl rfl ?_
  refine x_putI (jj := 2) (pc := 2) dX5_blame_2 fX5_38 (sC_17 hC) rfl (by decide) rfl ?_
  refine x_aload_n (pc := 5) dX5_blame_5 rfl rfl ?_
  refine x_aload_n (pc := 6) dX5_blame_6 rfl rfl ?_
  refine x_getIV (jj := 8) (pc := 7) dX5_blame_7 fX5_177 (sC_17 hC) rfl (by decide) rfl (by (repeat (first | rewrite [up_s] | rewrite [up_i (by omega)] | rewrite [up_a (by omega)])); rfl) ?_
  refine x_putI (jj := 3) (pc := 10) dX5_blame_10 fX5_15 (sC_17 hC) rfl (by decide) rfl ?_
  refine x_return (pc := 13) dX5_blame_13 rfl (by decide) ?_
  exact ⟨rfl, rfl, rfl, rfl⟩
theorem s_readDigits {l : Launch} {E : aE} {N : Nat} {S : aS} {M : aM} (hfl : l.stackTraces = false) (hC : lyC S) (T : Int → Int) (n : Int) (hB : CB M T n) (hn : 0 ≤ n ∧ n ≤ 300) (i : Int) (hi : 0 ≤ i ∧ i ≤ n) (h8 : M 17 8 = i) (h9 : M 17 9 = i) (h10 : M 17 10 = 0) (hk : M 17 2 = 0) : aMt l E pX5_readDigits [(2, 17)] N S M (aU N S (fun M' => (3 < (runV dgB T n i) - i → M' 17 2 = 1 ∧ M' 17 3 = i) ∧ ((runV dgB T n i) - i ≤ 3 → M' 17 2 = 0 ∧ M' 17 9 = (runV dgB T n i) ∧ M' 17 10 = dvalF T i ((runV dgB T n i) - i).toNat ∧ M' 17 3 = M 17 3) ∧ ∀ x y : Int, ¬ (x = 17 ∧ (y = 2 ∨ y = 3 ∨ y = 9 ∨ y = 10)) → M' x y = M x y)) := by
  refine a_met hfl rfl (by decide +kernel) (Nat.le_of_ble_eq_true rfl) ?_
  have loop := a_loop2 (fun j M2 => (i ≤ j ∧ j ≤ n ∧ j - i ≤ 3) ∧ M2 17 9 = j ∧ (0 ≤ M2 17 10 ∧ M2 17 10 ≤ 999) ∧ (j - i ≤ 2 → M2 17 10 ≤ 99) ∧ (j - i ≤ 1 → M2 17 10 ≤ 9) ∧ (j - i ≤ 0 → M2 17 10 = 0) ∧ M2 17 10 = dvalF T i (j - i).toNat ∧ (∀ x y : Int, ¬ (x = 17 ∧ (y = 9 ∨ y = 10)) → M2 x y = M x y) ∧ runV dgB T n j = (runV dgB T n i)) (fun j M2 => (n - j).toNat) (fun j M2 => aX l E pX5_readDigits (aU N S (fun M' => (3 < (runV dgB T n i) - i → M' 17 2 = 1 ∧ M' 17 3 = i) ∧ ((runV dgB T n i) - i ≤ 3 → M' 17 2 = 0 ∧ M' 17 9 = (runV dgB T n i) ∧ M' 17 10 = dvalF T i ((runV dgB T n i) - i).toNat ∧ M' 17 3 = M 17 3) ∧ ∀ x y : Int, ¬ (x = 17 ∧ (y = 2 ∨ y = 3 ∨ y = 9 ∨ y = 10)) → M' x y = M x y)) 0 0 N S M2 0 [(0, (2, 17))] []) (by
    intro j M2 hI ih
    obtain ⟨l1, l2, l3, l4, l5, l6, l7, l8, l9⟩ := hI
    refine x_aload_n (pc := 0) dX5_readDigits_0 rfl rfl ?_
    refine x_getIV (jj := 9) (pc := 1) dX5_readDigits_1 fX5_44 (sC_17 hC) rfl (by decide) rfl (by (repeat (first | rewrite [up_s] | rewrite [up_i (by omega)] | rewrite [up_a (by omega)])); first | exact l2 | exact (l8 _ _ (by omega)).trans hB.1 | exact (l8 _ _ (by omega)).trans h8 | exact (l8 _ _ (by omega)).trans (hB.2 j (by omega) (by omega)).1 | rfl) ?_
    refine x_aload_n (pc := 4) dX5_readDigits_4 rfl rfl ?_
    refine x_getIV (jj := 6) (pc := 5) dX5_readDigits_5 fX5_35 (sC_17 hC) rfl (by decide) rfl (by (repeat (first | rewrite [up_s] | rewrite [up_i (by omega)] | rewrite [up_a (by omega)])); first | exact l2 | exact (l8 _ _ (by omega)).trans hB.1 | exact (l8 _ _ (by omega)).trans h8 | exact (l8 _ _ (by omega)).trans (hB.2 j (by omega) (by omega)).1 | rfl) ?_
    refine x_icmp_ge (tgt := 82) (pc := 8) dX5_readDigits_8 (by decide) (fun c_8 => ?_) (fun c_8 => ?_)
    · refine x_return (pc := 82) dX5_readDigits_82 rfl (by decide) ?_
      have ej : (runV dgB T n i) = j := by rw [← l9]; exact runV_0 fun q => absurd q.1 (by omega)
      refine ⟨rfl, rfl, rfl, fun q => by omega, fun q => ⟨(l8 _ _ (by omega)).trans hk, by rw [ej]; exact l2, by rw [ej]; exact l7, l8 _ _ (by omega)⟩, fun x y q => l8 x y (by omega)⟩
    · refine x_aload_n (pc := 11) dX5_readDigits_11 rfl rfl ?_
      refine x_getR (jj := 0) (pc := 12) dX5_readDigits_12 fX5_11 (sC_17 hC) rfl (by decide) rfl rC_17_0 ?_
      refine x_aload_n (pc := 15) dX5_readDigits_15 rfl rfl ?_
      refine x_getIV (jj := 9) (pc := 16) dX5_readDigits_16 fX5_44 (sC_17 hC) rfl (by decide) rfl (by (repeat (first | rewrite [up_s] | rewrite [up_i (by omega)] | rewrite [up_a (by omega)])); first | exact l2 | exact (l8 _ _ (by omega)).trans hB.1 | exact (l8 _ _ (by omega)).trans h8 | exact (l8 _ _ (by omega)).trans (hB.2 j (by omega) (by omega)).1 | rfl) ?_
      refine x_baloadV (pc := 19) dX5_readDigits_19 (sC_18 hC) (by omega) (by (repeat (first | rewrite [up_s] | rewrite [up_i (by omega)] | rewrite [up_a (by omega)])); first | exact l2 | exact (l8 _ _ (by omega)).trans hB.1 | exact (l8 _ _ (by omega)).trans h8 | exact (l8 _ _ (by omega)).trans (hB.2 j (by omega) (by omega)).1 | rfl) ?_
      refine x_callS1 (pc := 20) dX5_readDigits_20 rfl kX5_186 (s_isDigitC hfl (sgn8 (T j))) rfl (Nat.le_of_ble_eq_true rfl) (k_B (fun q_20 => ?_) (fun q_20 => ?_)) n_B
      · refine x_if_eq (tgt := 82) (pc := 23) dX5_readDigits_23 (by decide) (fun c => absurd c (by decide)) (fun _ => ?_)
        have hx := hB.2 j (by omega) (by omega)
        have hdj := (sg_d hx.2).mpr q_20
        have hdv := dgB_t.mp hdj
        have hsv : sgn8 (T j) = T j := (sg_e (k := T j) hx.2 (by omega)).mpr rfl
        refine x_aload_n (pc := 26) dX5_readDigits_26 rfl rfl ?_
        refine x_getIV (jj := 9) (pc := 27) dX5_readDigits_27 fX5_44 (sC_17 hC) rfl (by decide) rfl (by (repeat (first | rewrite [up_s] | rewrite [up_i (by omega)] | rewrite [up_a (by omega)])); first | exact l2 | exact (l8 _ _ (by omega)).trans hB.1 | exact (l8 _ _ (by omega)).trans h8 | exact (l8 _ _ (by omega)).trans (hB.2 j (by omega) (by omega)).1 | rfl) ?_
        refine x_aload_n (pc := 30) dX5_readDigits_30 rfl rfl ?_
        refine x_getIV (jj := 8) (pc := 31) dX5_readDigits_31 fX5_177 (sC_17 hC) rfl (by decide) rfl (by (repeat (first | rewrite [up_s] | rewrite [up_i (by omega)] | rewrite [up_a (by omega)])); first | exact l2 | exact (l8 _ _ (by omega)).trans hB.1 | exact (l8 _ _ (by omega)).trans h8 | exact (l8 _ _ (by omega)).trans (hB.2 j (by omega) (by omega)).1 | rfl) ?_
        refine x_isub (pc := 34) dX5_readDigits_34 (by omega) ?_
        refine x_iconst (pc := 35) dX5_readDigits_35 (by decide) ?_
        refine x_icmp_ne (tgt := 45) (pc := 36) dX5_readDigits_36 (by decide) (fun c_36 => ?_) (fun c_36 => ?_)
        · refine x_aload_n (pc := 45) dX5_readDigits_45 rfl rfl ?_
          refine x_aload_n (pc := 46) dX5_readDigits_46 rfl rfl ?_
          refine x_getIV (jj := 10) (pc := 47) dX5_readDigits_47 fX5_126 (sC_17 hC) rfl (by decide) rfl (by (repeat (first | rewrite [up_s] | rewrite [up_i (by omega)] | rewrite [up_a (by omega)])); first | exact l2 | exact (l8 _ _ (by omega)).trans hB.1 | exact (l8 _ _ (by omega)).trans h8 | exact (l8 _ _ (by omega)).trans (hB.2 j (by omega) (by omega)).1 | rfl) ?_
          refine x_bipush (pc := 50) dX5_readDigits_50 (by decide) ?_
          refine x_imul (pc := 52) dX5_readDigits_52 (by omega) ?_
          refine x_aload_n (pc := 53) dX5_readDigits_53 rfl rfl ?_
          refine x_getR (jj := 0) (pc := 54) dX5_readDigits_54 fX5_11 (sC_17 hC) rfl (by decide) rfl rC_17_0 ?_
          refine x_aload_n (pc := 57) dX5_readDigits_57 rfl rfl ?_
          refine x_getIV (jj := 9) (pc := 58) dX5_readDigits_58 fX5_44 (sC_17 hC) rfl (by decide) rfl (by (repeat (first | rewrite [up_s] | rewrite [up_i (by omega)] | rewrite [up_a (by omega)])); first | exact l2 | exact (l8 _ _ (by omega)).trans hB.1 | exact (l8 _ _ (by omega)).trans h8 | exact (l8 _ _ (by omega)).trans (hB.2 j (by omega) (by omega)).1 | rfl) ?_
          refine x_baloadV (pc := 61) dX5_readDigits_61 (sC_18 hC) (by omega) (by (repeat (first | rewrite [up_s] | rewrite [up_i (by omega)] | rewrite [up_a (by omega)])); first | exact l2 | exact (l8 _ _ (by omega)).trans hB.1 | exact (l8 _ _ (by omega)).trans h8 | exact (l8 _ _ (by omega)).trans (hB.2 j (by omega) (by omega)).1 | rfl) ?_
          refine x_iadd (pc := 62) dX5_readDigits_62 (by omega) ?_
          refine x_bipush (pc := 63) dX5_readDigits_63 (by decide) ?_
          refine x_isub (pc := 65) dX5_readDigits_65 (by omega) ?_
          refine x_putI (jj := 10) (pc := 66) dX5_readDigits_66 fX5_126 (sC_17 hC) rfl (by decide) rfl ?_
          refine x_aload_n (pc := 69) dX5_readDigits_69 rfl rfl ?_
          refine x_dup (pc := 70) dX5_readDigits_70 rfl ?_
          refine x_getIV (jj := 9) (pc := 71) dX5_readDigits_71 fX5_44 (sC_17 hC) rfl (by decide) rfl (by (repeat (first | rewrite [up_s] | rewrite [up_i (by omega)] | rewrite [up_a (by omega)])); first | exact l2 | exact (l8 _ _ (by omega)).trans hB.1 | exact (l8 _ _ (by omega)).trans h8 | exact (l8 _ _ (by omega)).trans (hB.2 j (by omega) (by omega)).1 | rfl) ?_
          refine x_iconst (pc := 74) dX5_readDigits_74 (by decide) ?_
          refine x_iadd (pc := 75) dX5_readDigits_75 (by omega) ?_
          refine x_putI (jj := 9) (pc := 76) dX5_readDigits_76 fX5_44 (sC_17 hC) rfl (by decide) rfl ?_
          refine x_goto (tgt := 0) (pc := 79) dX5_readDigits_79 (by decide) ?_
          refine x_lo (lo' := [(0, (2, 17))]) ⟨rfl, trivial⟩ (ih (j + 1) _ ⟨⟨by omega, by omega, by omega⟩, up_s, ?_, fun q => ?_, fun q => ?_, fun q => ?_, ?_, fun x y q => (up_w (by omega)).trans ((up_w (by omega)).trans (l8 x y q)), by rw [← l9]; exact (runV_1 (by omega) hdj).symm⟩ (by omega))
          · rw [up_i (by omega), up_s]; omega
          · rw [up_i (by omega), up_s]; omega
          · rw [up_i (by omega), up_s]; omega
          · omega
          · rw [up_i (by omega), up_s, dv_1 (by omega)]; omega
        · refine x_aload_n (pc := 39) dX5_readDigits_39 rfl rfl ?_
          refine x_iconst (pc := 40) dX5_readDigits_40 (by decide) ?_
          refine x_callV1 (pc := 41) dX5_readDigits_41 rfl kX5_68 (s_blame hfl hC 1) (sC_17 hC) rfl rfl (Nat.le_of_ble_eq_true rfl) (k_U (fun M9 hM9 => ?_)) n_U
          subst hM9
          refine x_return (pc := 44) dX5_readDigits_44 rfl (by decide) ?_
          have hs := runV_s (p := dgB) (T := T) (n := n) (a := j) (by omega) hdj
          rw [l9] at hs
          refine ⟨rfl, rfl, rfl, fun q => ⟨by rw [up_i (by omega), up_s], by rw [up_s]; exact (l8 _ _ (by omega)).trans h8⟩, fun q => by omega, fun x y q => by rw [up_w (by omega), up_w (by omega)]; exact l8 x y (by omega)⟩
      · refine x_if_eq (tgt := 82) (pc := 23) dX5_readDigits_23 (by decide) (fun _ => ?_) (fun c => absurd c (by decide))
        refine x_return (pc := 82) dX5_readDigits_82 rfl (by decide) ?_
        have ej : (runV dgB T n i) = j := by rw [← l9]; exact runV_0 fun q => q_20 ((sg_d (hB.2 j (by omega) (by omega)).2).mp q.2)
        refine ⟨rfl, rfl, rfl, fun q => by omega, fun q => ⟨(l8 _ _ (by omega)).trans hk, by rw [ej]; exact l2, by rw [ej]; exact l7, l8 _ _ (by omega)⟩, fun x y q => l8 x y (by omega)⟩)
  exact x_lo (lo' := [(0, (2, 17))]) ⟨rfl, trivial⟩ (loop i M ⟨⟨by omega, by omega, by omega⟩, h9, by omega, fun _ => by omega, fun _ => by omega, fun _ => h10, by rw [h10, show (i - i).toNat = 0 by omega]; rfl, fun _ _ _ => rfl, rfl⟩)
theorem s_advance {l : Launch} {E : aE} {N : Nat} {S : aS} {M : aM} (hfl : l.stackTraces = false) (hC : lyC S) (T : Int → Int) (n : Int) (hB : CB M T n) (hn : 0 ≤ n ∧ n ≤ 300) (a : Int) (ha : 0 ≤ a ∧ a ≤ n) (h9 : M 17 9 = a) (hk : M 17 2 = 0) : aMt l E pX5_advance [(2, 17)] N S M (aU N S (fun M' => CTk M' T n a ∧ frR M M' ∧ (tK T n a ≠ 4 → M' 17 3 = M 17 3))) := by
  refine a_met hfl rfl (by decide +kernel) (Nat.le_of_ble_eq_true rfl) ?_
  have rest : ∀ (i : Int) (M1 : aM), a ≤ i ∧ i ≤ n → M1 17 9 = i → (∀ x y : Int, ¬ (x = 17 ∧ y = 9) → M1 x y = M x y) → tB T n a = i → aX l E pX5_advance (aU N S (fun M' => CTk M' T n a ∧ frR M M' ∧ (tK T n a ≠ 4 → M' 17 3 = M 17 3))) 0 0 N S M1 39 [(0, (2, 17))] [] := by
    intro i M1 k1 k2 k3 ei
    refine x_aload_n (pc := 39) dX5_advance_39 rfl rfl ?_
    refine x_aload_n (pc := 40) dX5_advance_40 rfl rfl ?_
    refine x_getIV (jj := 9) (pc := 41) dX5_advance_41 fX5_44 (sC_17 hC) rfl (by decide) rfl (by (repeat (first | rewrite [up_s] | rewrite [up_i (by omega)] | rewrite [up_a (by omega)])); first | exact k2 | exact (k3 _ _ (by omega)).trans hB.1 | exact (k3 _ _ (by omega)).trans (hB.2 i (by omega) (by omega)).1 | rfl) ?_
    refine x_putI (jj := 8) (pc := 44) dX5_advance_44 fX5_177 (sC_17 hC) rfl (by decide) rfl ?_
    refine x_aload_n (pc := 47) dX5_advance_47 rfl rfl ?_
    refine x_iconst (pc := 48) dX5_advance_48 (by decide) ?_
    refine x_putI (jj := 10) (pc := 49) dX5_advance_49 fX5_126 (sC_17 hC) rfl (by decide) rfl ?_
    refine x_aload_n (pc := 52) dX5_advance_52 rfl rfl ?_
    refine x_getIV (jj := 9) (pc := 53) dX5_advance_53 fX5_44 (sC_17 hC) rfl (by decide) rfl (by (repeat (first | rewrite [up_s] | rewrite [up_i (by omega)] | rewrite [up_a (by omega)])); first | exact k2 | exact (k3 _ _ (by omega)).trans hB.1 | exact (k3 _ _ (by omega)).trans (hB.2 i (by omega) (by omega)).1 | rfl) ?_
    refine x_aload_n (pc := 56) dX5_advance_56 rfl rfl ?_
    refine x_getIV (jj := 6) (pc := 57) dX5_advance_57 fX5_35 (sC_17 hC) rfl (by decide) rfl (by (repeat (first | rewrite [up_s] | rewrite [up_i (by omega)] | rewrite [up_a (by omega)])); first | exact k2 | exact (k3 _ _ (by omega)).trans hB.1 | exact (k3 _ _ (by omega)).trans (hB.2 i (by omega) (by omega)).1 | rfl) ?_
    refine x_icmp_lt (tgt := 79) (pc := 60) dX5_advance_60 (by decide) (fun c_60 => ?_) (fun c_60 => ?_)
    · have hin : i < n := by omega
      have hx := hB.2 i (by omega) hin
      refine x_aload_n (pc := 79) dX5_advance_79 rfl rfl ?_
      refine x_getR (jj := 0) (pc := 80) dX5_advance_80 fX5_11 (sC_17 hC) rfl (by decide) rfl rC_17_0 ?_
      refine x_aload_n (pc := 83) dX5_advance_83 rfl rfl ?_
      refine x_getIV (jj := 9) (pc := 84) dX5_advance_84 fX5_44 (sC_17 hC) rfl (by decide) rfl (by (repeat (first | rewrite [up_s] | rewrite [up_i (by omega)] | rewrite [up_a (by omega)])); first | exact k2 | exact (k3 _ _ (by omega)).trans hB.1 | exact (k3 _ _ (by omega)).trans (hB.2 i (by omega) (by omega)).1 | rfl) ?_
      refine x_baloadV (pc := 87) dX5_advance_87 (sC_18 hC) (by omega) (by (repeat (first | rewrite [up_s] | rewrite [up_i (by omega)] | rewrite [up_a (by omega)])); first | exact k2 | exact (k3 _ _ (by omega)).trans hB.1 | exact (k3 _ _ (by omega)).trans (hB.2 i (by omega) (by omega)).1 | rfl) ?_
      refine x_callS1 (pc := 88) dX5_advance_88 rfl kX5_183 (s_isLetterC hfl (sgn8 (T i))) rfl (Nat.le_of_ble_eq_true rfl) (k_B (fun q_88 => ?_) (fun q_88 => ?_)) n_B
      · refine x_if_eq (tgt := 138) (pc := 91) dX5_advance_91 (by decide) (fun c => absurd c (by decide)) (fun _ => ?_)
        refine x_aload_n (pc := 94) dX5_advance_94 rfl rfl ?_
        refine x_iconst (pc := 95) dX5_advance_95 (by decide) ?_
        refine x_putI (jj := 7) (pc := 96) dX5_advance_96 fX5_53 (sC_17 hC) rfl (by decide) rfl ?_
        have hle : leB (T i) = true := (sg_l hx.2).mpr q_88
        have hEv := tE_val (T := T) ei hin
        rw [if_pos hle] at hEv
        have lp1 := a_loop2 (fun j M2 => (i ≤ j ∧ j ≤ n) ∧ M2 17 9 = j ∧ M2 17 8 = i ∧ M2 17 7 = 1 ∧ (∀ x y : Int, ¬ (x = 17 ∧ 7 ≤ y ∧ y ≤ 10) → M2 x y = M x y) ∧ runV leB T n j = tE T n a) (fun j M2 => (n - j).toNat) (fun j M2 => aX l E pX5_advance (aU N S (fun M' => CTk M' T n a ∧ frR M M' ∧ (tK T n a ≠ 4 → M' 17 3 = M 17 3))) 0 0 N S M2 99 [(0, (2, 17))] []) (by
          intro j M2 hJ ih2
          obtain ⟨l1, l2, l3, l4, l5, l6⟩ := hJ
          refine x_aload_n (pc := 99) dX5_advance_99 rfl rfl ?_
          refine x_getIV (jj := 9) (pc := 100) dX5_advance_100 fX5_44 (sC_17 hC) rfl (by decide) rfl (by (repeat (first | rewrite [up_s] | rewrite [up_i (by omega)] | rewrite [up_a (by omega)])); first | exact l2 | exact (l5 _ _ (by omega)).trans hB.1 | exact (l5 _ _ (by omega)).trans (hB.2 j (by omega) (by omega)).1 | rfl) ?_
          refine x_aload_n (pc := 103) dX5_advance_103 rfl rfl ?_
          refine x_getIV (jj := 6) (pc := 104) dX5_advance_104 fX5_35 (sC_17 hC) rfl (by decide) rfl (by (repeat (first | rewrite [up_s] | rewrite [up_i (by omega)] | rewrite [up_a (by omega)])); first | exact l2 | exact (l5 _ _ (by omega)).trans hB.1 | exact (l5 _ _ (by omega)).trans (hB.2 j (by omega) (by omega)).1 | rfl) ?_
          refine x_icmp_ge (tgt := 202) (pc := 107) dX5_advance_107 (by decide) (fun c_107 => ?_) (fun c_107 => ?_)
          · refine x_return (pc := 202) dX5_advance_202 rfl (by decide) ?_
            have ej : tE T n a = j := by rw [← l6]; exact runV_0 fun q => absurd q.1 (by omega)
            have hkv : tK T n a = 1 := by rw [tK_val ei hin, if_pos hle]
            exact ⟨rfl, rfl, rfl, ⟨fun q => by omega, fun _ => ⟨(l5 _ _ (by omega)).trans hk, l4.trans hkv.symm, l3.trans ei.symm, l2.trans ej.symm, fun q => by omega⟩⟩, fun x y q => l5 x y (by omega), fun _ => l5 _ _ (by omega)⟩
          · refine x_aload_n (pc := 110) dX5_advance_110 rfl rfl ?_
            refine x_getR (jj := 0) (pc := 111) dX5_advance_111 fX5_11 (sC_17 hC) rfl (by decide) rfl rC_17_0 ?_
            refine x_aload_n (pc := 114) dX5_advance_114 rfl rfl ?_
            refine x_getIV (jj := 9) (pc := 115) dX5_advance_115 fX5_44 (sC_17 hC) rfl (by decide) rfl (by (repeat (first | rewrite [up_s] | rewrite [up_i (by omega)] | rewrite [up_a (by omega)])); first | exact l2 | exact (l5 _ _ (by omega)).trans hB.1 | exact (l5 _ _ (by omega)).trans (hB.2 j (by omega) (by omega)).1 | rfl) ?_
            refine x_baloadV (pc := 118) dX5_advance_118 (sC_18 hC) (by omega) (by (repeat (first | rewrite [up_s] | rewrite [up_i (by omega)] | rewrite [up_a (by omega)])); first | exact l2 | exact (l5 _ _ (by omega)).trans hB.1 | exact (l5 _ _ (by omega)).trans (hB.2 j (by omega) (by omega)).1 | rfl) ?_
            refine x_callS1 (pc := 119) dX5_advance_119 rfl kX5_183 (s_isLetterC hfl (sgn8 (T j))) rfl (Nat.le_of_ble_eq_true rfl) (k_B (fun q_119 => ?_) (fun q_119 => ?_)) n_B
            · refine x_if_eq (tgt := 202) (pc := 122) dX5_advance_122 (by decide) (fun c => absurd c (by decide)) (fun _ => ?_)
              refine x_aload_n (pc := 125) dX5_advance_125 rfl rfl ?_
              refine x_dup (pc := 126) dX5_advance_126 rfl ?_
              refine x_getIV (jj := 9) (pc := 127) dX5_advance_127 fX5_44 (sC_17 hC) rfl (by decide) rfl (by (repeat (first | rewrite [up_s] | rewrite [up_i (by omega)] | rewrite [up_a (by omega)])); first | exact l2 | exact (l5 _ _ (by omega)).trans hB.1 | exact (l5 _ _ (by omega)).trans (hB.2 j (by omega) (by omega)).1 | rfl) ?_
              refine x_iconst (pc := 130) dX5_advance_130 (by decide) ?_
              refine x_iadd (pc := 131) dX5_advance_131 (by omega) ?_
              refine x_putI (jj := 9) (pc := 132) dX5_advance_132 fX5_44 (sC_17 hC) rfl (by decide) rfl ?_
              refine x_goto (tgt := 99) (pc := 135) dX5_advance_135 (by decide) ?_
              exact x_lo (lo' := [(0, (2, 17))]) ⟨rfl, trivial⟩ (ih2 (j + 1) _ ⟨⟨by omega, by omega⟩, up_s, (up_i (by omega)).trans l3, (up_i (by omega)).trans l4, fun x y q => (up_w (by omega)).trans (l5 x y q), by rw [← l6]; exact (runV_1 (by omega) ((sg_l (hB.2 j (by omega) (by omega)).2).mpr q_119)).symm⟩ (by omega))
            · refine x_if_eq (tgt := 202) (pc := 122) dX5_advance_122 (by decide) (fun _ => ?_) (fun c => absurd c (by decide))
              refine x_return (pc := 202) dX5_advance_202 rfl (by decide) ?_
              have ej : tE T n a = j := by rw [← l6]; exact runV_0 fun q => q_119 ((sg_l (hB.2 j (by omega) (by omega)).2).mp q.2)
              have hkv : tK T n a = 1 := by rw [tK_val ei hin, if_pos hle]
              exact ⟨rfl, rfl, rfl, ⟨fun q => by omega, fun _ => ⟨(l5 _ _ (by omega)).trans hk, l4.trans hkv.symm, l3.trans ei.symm, l2.trans ej.symm, fun q => by omega⟩⟩, fun x y q => l5 x y (by omega), fun _ => l5 _ _ (by omega)⟩)
        exact x_lo (lo' := [(0, (2, 17))]) ⟨rfl, trivial⟩ (lp1 i _ ⟨⟨by omega, by omega⟩, by rw [up_i (by omega), up_i (by omega), up_i (by omega)]; exact k2, by rw [up_i (by omega), up_i (by omega)]; exact up_s, up_s, fun x y q => by rw [up_w (by omega), up_w (by omega), up_w (by omega)]; exact k3 x y (by omega), hEv.symm⟩)
      · refine x_if_eq (tgt := 138) (pc := 91) dX5_advance_91 (by decide) (fun _ => ?_) (fun c => absurd c (by decide))
        refine x_aload_n (pc := 138) dX5_advance_138 rfl rfl ?_
        refine x_getR (jj := 0) (pc := 139) dX5_advance_139 fX5_11 (sC_17 hC) rfl (by decide) rfl rC_17_0 ?_
        refine x_aload_n (pc := 142) dX5_advance_142 rfl rfl ?_
        refine x_getIV (jj := 9) (pc := 143) dX5_advance_143 fX5_44 (sC_17 hC) rfl (by decide) rfl (by (repeat (first | rewrite [up_s] | rewrite [up_i (by omega)] | rewrite [up_a (by omega)])); first | exact k2 | exact (k3 _ _ (by omega)).trans hB.1 | exact (k3 _ _ (by omega)).trans (hB.2 i (by omega) (by omega)).1 | rfl) ?_
        refine x_baloadV (pc := 146) dX5_advance_146 (sC_18 hC) (by omega) (by (repeat (first | rewrite [up_s] | rewrite [up_i (by omega)] | rewrite [up_a (by omega)])); first | exact k2 | exact (k3 _ _ (by omega)).trans hB.1 | exact (k3 _ _ (by omega)).trans (hB.2 i (by omega) (by omega)).1 | rfl) ?_
        refine x_callS1 (pc := 147) dX5_advance_147 rfl kX5_186 (s_isDigitC hfl (sgn8 (T i))) rfl (Nat.le_of_ble_eq_true rfl) (k_B (fun q_147 => ?_) (fun q_147 => ?_)) n_B
        · refine x_if_eq (tgt := 165) (pc := 150) dX5_advance_150 (by decide) (fun c => absurd c (by decide)) (fun _ => ?_)
          refine x_aload_n (pc := 153) dX5_advance_153 rfl rfl ?_
          refine x_iconst (pc := 154) dX5_advance_154 (by decide) ?_
          refine x_putI (jj := 7) (pc := 155) dX5_advance_155 fX5_53 (sC_17 hC) rfl (by decide) rfl ?_
          refine x_aload_n (pc := 158) dX5_advance_158 rfl rfl ?_
          have hle : ¬ leB (T i) = true := fun q => q_88 ((sg_l hx.2).mp q)
          have hdg : dgB (T i) = true := (sg_d hx.2).mpr q_147
          have hEv := tE_val (T := T) ei hin
          rw [if_neg hle, if_pos hdg] at hEv
          have hKv := tK_val (T := T) ei hin
          rw [if_neg hle, if_pos hdg, hEv] at hKv
          refine x_callV0 (pc := 159) dX5_advance_159 rfl kX5_189 (s_readDigits hfl hC T n (hB.r fun x y q => by rw [up_w (by omega), up_w (by omega), up_w (by omega)]; exact k3 x y (by omega)) hn i (by omega) (by rw [up_i (by omega), up_i (by omega)]; exact up_s) (by rw [up_i (by omega), up_i (by omega), up_i (by omega)]; exact k2) (by rw [up_i (by omega)]; exact up_s) (by rw [up_i (by omega), up_i (by omega), up_i (by omega)]; exact (k3 _ _ (by omega)).trans hk)) (sC_17 hC) rfl rfl (Nat.le_of_ble_eq_true rfl) (k_U (fun M9 hM9 => ?_)) n_U
          obtain ⟨d1, d2, d3⟩ := hM9
          refine x_goto (tgt := 202) (pc := 162) dX5_advance_162 (by decide) ?_
          refine x_return (pc := 202) dX5_advance_202 rfl (by decide) ?_
          refine ⟨rfl, rfl, rfl, ⟨fun q => ?_, fun q => ?_⟩, fun x y q => (d3 x y (by omega)).trans (by rw [up_w (by omega), up_w (by omega), up_w (by omega)]; exact k3 x y (by omega)), fun q => ?_⟩
          · rw [ei]
            exact d1 (by by_cases z : 3 < runV dgB T n i - i
                         · exact z
                         · rw [if_neg z] at hKv; omega)
          · have hlt : runV dgB T n i - i ≤ 3 := by
              by_cases z : 3 < runV dgB T n i - i
              · rw [if_pos z] at hKv; omega
              · omega
            obtain ⟨g1, g2, g3, g0⟩ := d2 hlt
            rw [if_neg (by omega)] at hKv
            refine ⟨g1, ?_, ?_, g2.trans hEv.symm, fun _ => ?_⟩
            · rw [d3 _ _ (by omega), up_s, hKv]
            · rw [d3 _ _ (by omega), up_i (by omega), up_i (by omega), up_s, ei]
            · rw [g3]; unfold tV; rw [ei, hEv]
          · have hlt : runV dgB T n i - i ≤ 3 := by
              by_cases z : 3 < runV dgB T n i - i
              · rw [if_pos z] at hKv; omega
              · omega
            rw [(d2 hlt).2.2.2, up_i (by omega), up_i (by omega), up_i (by omega)]
            exact k3 _ _ (by omega)
        · refine x_if_eq (tgt := 165) (pc := 150) dX5_advance_150 (by decide) (fun _ => ?_) (fun c => absurd c (by decide))
          refine x_aload_n (pc := 165) dX5_advance_165 rfl rfl ?_
          refine x_getR (jj := 0) (pc := 166) dX5_advance_166 fX5_11 (sC_17 hC) rfl (by decide) rfl rC_17_0 ?_
          refine x_aload_n (pc := 169) dX5_advance_169 rfl rfl ?_
          refine x_getIV (jj := 9) (pc := 170) dX5_advance_170 fX5_44 (sC_17 hC) rfl (by decide) rfl (by (repeat (first | rewrite [up_s] | rewrite [up_i (by omega)] | rewrite [up_a (by omega)])); first | exact k2 | exact (k3 _ _ (by omega)).trans hB.1 | exact (k3 _ _ (by omega)).trans (hB.2 i (by omega) (by omega)).1 | rfl) ?_
          refine x_baloadV (pc := 173) dX5_advance_173 (sC_18 hC) (by omega) (by (repeat (first | rewrite [up_s] | rewrite [up_i (by omega)] | rewrite [up_a (by omega)])); first | exact k2 | exact (k3 _ _ (by omega)).trans hB.1 | exact (k3 _ _ (by omega)).trans (hB.2 i (by omega) (by omega)).1 | rfl) ?_
          refine x_bipush (pc := 174) dX5_advance_174 (by decide) ?_
          refine x_icmp_ne (tgt := 197) (pc := 176) dX5_advance_176 (by decide) (fun c_176 => ?_) (fun c_176 => ?_)
          · refine x_aload_n (pc := 197) dX5_advance_197 rfl rfl ?_
            refine x_iconst (pc := 198) dX5_advance_198 (by decide) ?_
            refine x_callV1 (pc := 199) dX5_advance_199 rfl kX5_68 (s_blame hfl hC 1) (sC_17 hC) rfl rfl (Nat.le_of_ble_eq_true rfl) (k_U (fun M9 hM9 => ?_)) n_U
            subst hM9
            refine x_return (pc := 202) dX5_advance_202 rfl (by decide) ?_
            have hle : ¬ leB (T i) = true := fun q => q_88 ((sg_l hx.2).mp q)
            have hdg : ¬ dgB (T i) = true := fun q => q_147 ((sg_d hx.2).mp q)
            have hkv : tK T n a = 4 := by rw [tK_val ei hin, if_neg hle, if_neg hdg, if_neg (fun q => c_176 ((sg_e hx.2 (by decide)).mpr q))]
            refine ⟨rfl, rfl, rfl, ⟨fun q => ⟨by rw [up_i (by omega), up_s], by rw [up_s, up_i (by omega), up_s, ei]⟩, fun q => absurd hkv q⟩, fun x y q => by rw [up_w (by omega), up_w (by omega), up_w (by omega), up_w (by omega)]; exact k3 x y (by omega), fun q => absurd hkv q⟩
          · refine x_aload_n (pc := 179) dX5_advance_179 rfl rfl ?_
            refine x_iconst (pc := 180) dX5_advance_180 (by decide) ?_
            refine x_putI (jj := 7) (pc := 181) dX5_advance_181 fX5_53 (sC_17 hC) rfl (by decide) rfl ?_
            refine x_aload_n (pc := 184) dX5_advance_184 rfl rfl ?_
            refine x_dup (pc := 185) dX5_advance_185 rfl ?_
            refine x_getIV (jj := 9) (pc := 186) dX5_advance_186 fX5_44 (sC_17 hC) rfl (by decide) rfl (by (repeat (first | rewrite [up_s] | rewrite [up_i (by omega)] | rewrite [up_a (by omega)])); first | exact k2 | exact (k3 _ _ (by omega)).trans hB.1 | exact (k3 _ _ (by omega)).trans (hB.2 i (by omega) (by omega)).1 | rfl) ?_
            refine x_iconst (pc := 189) dX5_advance_189 (by decide) ?_
            refine x_iadd (pc := 190) dX5_advance_190 (by omega) ?_
            refine x_putI (jj := 9) (pc := 191) dX5_advance_191 fX5_44 (sC_17 hC) rfl (by decide) rfl ?_
            refine x_goto (tgt := 202) (pc := 194) dX5_advance_194 (by decide) ?_
            refine x_return (pc := 202) dX5_advance_202 rfl (by decide) ?_
            have hle : ¬ leB (T i) = true := fun q => q_88 ((sg_l hx.2).mp q)
            have hdg : ¬ dgB (T i) = true := fun q => q_147 ((sg_d hx.2).mp q)
            have hkv : tK T n a = 3 := by rw [tK_val ei hin, if_neg hle, if_neg hdg, if_pos ((sg_e hx.2 (by decide)).mp c_176)]
            refine ⟨rfl, rfl, rfl, ⟨fun q => by omega, fun q => ⟨?_, ?_, ?_, ?_, fun q => by omega⟩⟩, fun x y q => by rw [up_w (by omega), up_w (by omega), up_w (by omega), up_w (by omega)]; exact k3 x y (by omega), fun _ => by rw [up_w (by omega), up_w (by omega), up_w (by omega), up_w (by omega)]; exact k3 _ _ (by omega)⟩
            · rw [up_i (by omega), up_i (by omega), up_i (by omega), up_i (by omega)]; exact (k3 _ _ (by omega)).trans hk
            · rw [up_i (by omega), up_s, hkv]
            · rw [up_i (by omega), up_i (by omega), up_i (by omega), up_s, ei]
            · rw [up_s, tE_val ei hin, if_neg hle, if_neg hdg]
    · refine x_aload_n (pc := 63) dX5_advance_63 rfl rfl ?_
      refine x_aload_n (pc := 64) dX5_advance_64 rfl rfl ?_
      refine x_getIV (jj := 6) (pc := 65) dX5_advance_65 fX5_35 (sC_17 hC) rfl (by decide) rfl (by (repeat (first | rewrite [up_s] | rewrite [up_i (by omega)] | rewrite [up_a (by omega)])); first | exact k2 | exact (k3 _ _ (by omega)).trans hB.1 | exact (k3 _ _ (by omega)).trans (hB.2 i (by omega) (by omega)).1 | rfl) ?_
      refine x_putI (jj := 8) (pc := 68) dX5_advance_68 fX5_177 (sC_17 hC) rfl (by decide) rfl ?_
      refine x_aload_n (pc := 71) dX5_advance_71 rfl rfl ?_
      refine x_iconst (pc := 72) dX5_advance_72 (by decide) ?_
      refine x_putI (jj := 7) (pc := 73) dX5_advance_73 fX5_53 (sC_17 hC) rfl (by decide) rfl ?_
      refine x_goto (tgt := 202) (pc := 76) dX5_advance_76 (by decide) ?_
      refine x_return (pc := 202) dX5_advance_202 rfl (by decide) ?_
      have hkv : tK T n a = 0 := tK_0.mpr (by omega)
      refine ⟨rfl, rfl, rfl, ⟨fun q => by omega, fun q => ⟨?_, ?_, ?_, ?_, fun q => by omega⟩⟩, fun x y q => by rw [up_w (by omega), up_w (by omega), up_w (by omega), up_w (by omega)]; exact k3 x y (by omega), fun _ => by rw [up_w (by omega), up_w (by omega), up_w (by omega), up_w (by omega)]; exact k3 _ _ (by omega)⟩
      · rw [up_i (by omega), up_i (by omega), up_i (by omega), up_i (by omega)]; exact (k3 _ _ (by omega)).trans hk
      · rw [up_s, hkv]
      · rw [up_i (by omega), up_s]; omega
      · rw [up_i (by omega), up_i (by omega), up_i (by omega), up_i (by omega), k2]
        unfold tE
        rw [ei, if_pos (by omega)]
  have lp0 := a_loop2 (fun i M1 => (a ≤ i ∧ i ≤ n) ∧ M1 17 9 = i ∧ (∀ x y : Int, ¬ (x = 17 ∧ y = 9) → M1 x y = M x y) ∧ runV blB T n i = tB T n a) (fun i M1 => (n - i).toNat) (fun i M1 => aX l E pX5_advance (aU N S (fun M' => CTk M' T n a ∧ frR M M' ∧ (tK T n a ≠ 4 → M' 17 3 = M 17 3))) 0 0 N S M1 0 [(0, (2, 17))] []) (by
    intro i M1 hI ih
    obtain ⟨k1, k2, k3, k4⟩ := hI
    refine x_aload_n (pc := 0) dX5_advance_0 rfl rfl ?_
    refine x_getIV (jj := 9) (pc := 1) dX5_advance_1 fX5_44 (sC_17 hC) rfl (by decide) rfl (by (repeat (first | rewrite [up_s] | rewrite [up_i (by omega)] | rewrite [up_a (by omega)])); first | exact k2 | exact (k3 _ _ (by omega)).trans hB.1 | exact (k3 _ _ (by omega)).trans (hB.2 i (by omega) (by omega)).1 | rfl) ?_
    refine x_aload_n (pc := 4) dX5_advance_4 rfl rfl ?_
    refine x_getIV (jj := 6) (pc := 5) dX5_advance_5 fX5_35 (sC_17 hC) rfl (by decide) rfl (by (repeat (first | rewrite [up_s] | rewrite [up_i (by omega)] | rewrite [up_a (by omega)])); first | exact k2 | exact (k3 _ _ (by omega)).trans hB.1 | exact (k3 _ _ (by omega)).trans (hB.2 i (by omega) (by omega)).1 | rfl) ?_
    refine x_icmp_ge (tgt := 39) (pc := 8) dX5_advance_8 (by decide) (fun c_8 => ?_) (fun c_8 => ?_)
    · exact rest i M1 k1 k2 k3 (by rw [← k4]; exact runV_0 fun q => absurd q.1 (by omega))
    · refine x_aload_n (pc := 11) dX5_advance_11 rfl rfl ?_
      refine x_getR (jj := 0) (pc := 12) dX5_advance_12 fX5_11 (sC_17 hC) rfl (by decide) rfl rC_17_0 ?_
      refine x_aload_n (pc := 15) dX5_advance_15 rfl rfl ?_
      refine x_getIV (jj := 9) (pc := 16) dX5_advance_16 fX5_44 (sC_17 hC) rfl (by decide) rfl (by (repeat (first | rewrite [up_s] | rewrite [up_i (by omega)] | rewrite [up_a (by omega)])); first | exact k2 | exact (k3 _ _ (by omega)).trans hB.1 | exact (k3 _ _ (by omega)).trans (hB.2 i (by omega) (by omega)).1 | rfl) ?_
      refine x_baloadV (pc := 19) dX5_advance_19 (sC_18 hC) (by omega) (by (repeat (first | rewrite [up_s] | rewrite [up_i (by omega)] | rewrite [up_a (by omega)])); first | exact k2 | exact (k3 _ _ (by omega)).trans hB.1 | exact (k3 _ _ (by omega)).trans (hB.2 i (by omega) (by omega)).1 | rfl) ?_
      refine x_callS1 (pc := 20) dX5_advance_20 rfl kX5_180 (s_isBlankC hfl (sgn8 (T i))) rfl (Nat.le_of_ble_eq_true rfl) (k_B (fun q_20 => ?_) (fun q_20 => ?_)) n_B
      · refine x_if_eq (tgt := 39) (pc := 23) dX5_advance_23 (by decide) (fun c => absurd c (by decide)) (fun _ => ?_)
        refine x_aload_n (pc := 26) dX5_advance_26 rfl rfl ?_
        refine x_dup (pc := 27) dX5_advance_27 rfl ?_
        refine x_getIV (jj := 9) (pc := 28) dX5_advance_28 fX5_44 (sC_17 hC) rfl (by decide) rfl (by (repeat (first | rewrite [up_s] | rewrite [up_i (by omega)] | rewrite [up_a (by omega)])); first | exact k2 | exact (k3 _ _ (by omega)).trans hB.1 | exact (k3 _ _ (by omega)).trans (hB.2 i (by omega) (by omega)).1 | rfl) ?_
        refine x_iconst (pc := 31) dX5_advance_31 (by decide) ?_
        refine x_iadd (pc := 32) dX5_advance_32 (by omega) ?_
        refine x_putI (jj := 9) (pc := 33) dX5_advance_33 fX5_44 (sC_17 hC) rfl (by decide) rfl ?_
        refine x_goto (tgt := 0) (pc := 36) dX5_advance_36 (by decide) ?_
        exact x_lo (lo' := [(0, (2, 17))]) ⟨rfl, trivial⟩ (ih (i + 1) _ ⟨⟨by omega, by omega⟩, up_s, fun x y q => (up_w q).trans (k3 x y q), by rw [← k4]; exact (runV_1 (by omega) ((sg_b (hB.2 i (by omega) (by omega)).2).mpr q_20)).symm⟩ (by omega))
      · refine x_if_eq (tgt := 39) (pc := 23) dX5_advance_23 (by decide) (fun _ => ?_) (fun c => absurd c (by decide))
        exact rest i M1 k1 k2 k3 (by rw [← k4]; exact runV_0 fun q => q_20 ((sg_b (hB.2 i (by omega) (by omega)).2).mp q.2)))
  exact x_lo (lo' := [(0, (2, 17))]) ⟨rfl, trivial⟩ (lp0 a M ⟨⟨by omega, by omega⟩, h9, fun _ _ _ => rfl, rfl⟩)
theorem s_readNumber {l : Launch} {E : aE} {N : Nat} {S : aS} {M : aM} (hfl : l.stackTraces = false) (hC : lyC S) (T : Int → Int) (n : Int) (hB : CB M T n) (hn : 0 ≤ n ∧ n ≤ 300) (lo9 hi a : Int) (ha : 0 ≤ a ∧ a ≤ n) (h9 : M 17 9 = a) (hk : M 17 2 = 0) : aMt l E pX5_readNumber [(2, 17), (0, lo9), (0, hi)] N S M (aG N S (fun v M' => v = (0, M' 17 10) ∧ M' 17 2 = numE T n a lo9 hi ∧ (numE T n a lo9 hi ≠ 0 → M' 17 3 = tB T n a) ∧ (numE T n a lo9 hi = 0 → M' 17 10 = tV T n a ∧ M' 17 9 = tE T n a ∧ M' 17 8 = tB T n a ∧ M' 17 3 = M 17 3) ∧ frR M M')) := by
  refine a_met hfl rfl (by decide +kernel) (Nat.le_of_ble_eq_true rfl) ?_
  refine x_aload_n (pc := 0) dX5_readNumber_0 rfl rfl ?_
  refine x_callV0 (pc := 1) dX5_readNumber_1 rfl kX5_50 (s_advance hfl hC T n hB hn a ha h9 hk) (sC_17 hC) rfl rfl (Nat.le_of_ble_eq_true rfl) (k_U (fun M1 hM1 => ?_)) n_U
  obtain ⟨⟨t1, t2⟩, f1, p1⟩ := hM1
  refine x_aload_n (pc := 4) dX5_readNumber_4 rfl rfl ?_
  refine x_getIV (jj := 2) (pc := 5) dX5_readNumber_5 fX5_38 (sC_17 hC) rfl (by decide) rfl (by (repeat (first | rewrite [up_s] | rewrite [up_i (by omega)] | rewrite [up_a (by omega)])); first | exact e52 | rfl) ?_
  refine x_if_ne (tgt := 24) (pc := 8) dX5_readNumber_8 (by decide) (fun c_8 => ?_) (fun c_8 => ?_)
  · refine x_aload_n (pc := 24) dX5_readNumber_24 rfl rfl ?_
    refine x_getIV (jj := 2) (pc := 25) dX5_readNumber_25 fX5_38 (sC_17 hC) rfl (by decide) rfl (by (repeat (first | rewrite [up_s] | rewrite [up_i (by omega)] | rewrite [up_a (by omega)])); first | exact e52 | rfl) ?_
    refine x_if_ne (tgt := 52) (pc := 28) dX5_readNumber_28 (by decide) (fun c_28 => ?_) (fun c_28 => ?_)
    · refine x_aload_n (pc := 52) dX5_readNumber_52 rfl rfl ?_
      refine x_getIV (jj := 10) (pc := 53) dX5_readNumber_53 fX5_126 (sC_17 hC) rfl (by decide) rfl (by (repeat (first | rewrite [up_s] | rewrite [up_i (by omega)] | rewrite [up_a (by omega)])); first | exact e52 | rfl) ?_
      refine x_ireturn (pc := 56) dX5_readNumber_56 rfl (by decide) ?_
      first
        | (have h4 : tK T n a = 4 := by
             by_cases z : tK T n a = 4
             · exact z
             · exact absurd (t2 z).1 (by assumption)
           have hE : numE T n a lo9 hi = 1 := by
             unfold numE; rw [if_pos (by omega), if_pos h4]
           exact ⟨_, rfl, rfl, rfl, rfl, (t1 h4).1.trans hE.symm, fun q => (t1 h4).2, fun q => by omega, f1⟩)
        | (have h4 : tK T n a ≠ 4 := fun z => by have := (t1 z).1; omega
           obtain ⟨g1, g2, g3, g4, g5⟩ := t2 h4
           have hk2 : tK T n a = 2 := by omega
           have hv2 := g5 hk2
           have hE : numE T n a lo9 hi = 0 := by
             unfold numE; rw [if_neg (by omega), if_neg (by omega)]
           exact ⟨_, rfl, rfl, rfl, rfl, g1.trans hE.symm, fun q => absurd hE q, fun _ => ⟨hv2, g4, g3, p1 h4⟩, f1⟩)
        | (have h4 : tK T n a ≠ 4 := fun z => by have := (t1 z).1; omega
           obtain ⟨g1, g2, g3, g4, g5⟩ := t2 h4
           have hE : numE T n a lo9 hi = 2 := by
             unfold numE; rw [if_pos (by omega), if_neg h4]
           exact ⟨_, rfl, rfl, rfl, rfl, e52.trans hE.symm, fun q => e53.trans g3, fun q => by omega, f1.tr fun x y q => f5 x y (by omega)⟩)
        | (have h4 : tK T n a ≠ 4 := fun z => by have := (t1 z).1; omega
           obtain ⟨g1, g2, g3, g4, g5⟩ := t2 h4
           have hk2 : tK T n a = 2 := by omega
           have hv2 := g5 hk2
           have hE : numE T n a lo9 hi = 3 := by
             unfold numE; rw [if_neg (by omega), if_pos (by omega)]
           exact ⟨_, rfl, rfl, rfl, rfl, e52.trans hE.symm, fun q => e53.trans g3, fun q => by omega, f1.tr fun x y q => f5 x y (by omega)⟩)
        | (exfalso; omega)
    · exfalso; omega
  · refine x_aload_n (pc := 11) dX5_readNumber_11 rfl rfl ?_
    refine x_getIV (jj := 7) (pc := 12) dX5_readNumber_12 fX5_53 (sC_17 hC) rfl (by decide) rfl (by (repeat (first | rewrite [up_s] | rewrite [up_i (by omega)] | rewrite [up_a (by omega)])); first | exact e52 | rfl) ?_
    refine x_iconst (pc := 15) dX5_readNumber_15 (by decide) ?_
    refine x_icmp_eq (tgt := 24) (pc := 16) dX5_readNumber_16 (by decide) (fun c_16 => ?_) (fun c_16 => ?_)
    · refine x_aload_n (pc := 24) dX5_readNumber_24 rfl rfl ?_
      refine x_getIV (jj := 2) (pc := 25) dX5_readNumber_25 fX5_38 (sC_17 hC) rfl (by decide) rfl (by (repeat (first | rewrite [up_s] | rewrite [up_i (by omega)] | rewrite [up_a (by omega)])); first | exact e52 | rfl) ?_
      refine x_if_ne (tgt := 52) (pc := 28) dX5_readNumber_28 (by decide) (fun c_28 => ?_) (fun c_28 => ?_)
      · refine x_aload_n (pc := 52) dX5_readNumber_52 rfl rfl ?_
        refine x_getIV (jj := 10) (pc := 53) dX5_readNumber_53 fX5_126 (sC_17 hC) rfl (by decide) rfl (by (repeat (first | rewrite [up_s] | rewrite [up_i (by omega)] | rewrite [up_a (by omega)])); first | exact e52 | rfl) ?_
        refine x_ireturn (pc := 56) dX5_readNumber_56 rfl (by decide) ?_
        first
          | (have h4 : tK T n a = 4 := by
               by_cases z : tK T n a = 4
               · exact z
               · exact absurd (t2 z).1 (by assumption)
             have hE : numE T n a lo9 hi = 1 := by
               unfold numE; rw [if_pos (by omega), if_pos h4]
             exact ⟨_, rfl, rfl, rfl, rfl, (t1 h4).1.trans hE.symm, fun q => (t1 h4).2, fun q => by omega, f1⟩)
          | (have h4 : tK T n a ≠ 4 := fun z => by have := (t1 z).1; omega
             obtain ⟨g1, g2, g3, g4, g5⟩ := t2 h4
             have hk2 : tK T n a = 2 := by omega
             have hv2 := g5 hk2
             have hE : numE T n a lo9 hi = 0 := by
               unfold numE; rw [if_neg (by omega), if_neg (by omega)]
             exact ⟨_, rfl, rfl, rfl, rfl, g1.trans hE.symm, fun q => absurd hE q, fun _ => ⟨hv2, g4, g3, p1 h4⟩, f1⟩)
          | (have h4 : tK T n a ≠ 4 := fun z => by have := (t1 z).1; omega
             obtain ⟨g1, g2, g3, g4, g5⟩ := t2 h4
             have hE : numE T n a lo9 hi = 2 := by
               unfold numE; rw [if_pos (by omega), if_neg h4]
             exact ⟨_, rfl, rfl, rfl, rfl, e52.trans hE.symm, fun q => e53.trans g3, fun q => by omega, f1.tr fun x y q => f5 x y (by omega)⟩)
          | (have h4 : tK T n a ≠ 4 := fun z => by have := (t1 z).1; omega
             obtain ⟨g1, g2, g3, g4, g5⟩ := t2 h4
             have hk2 : tK T n a = 2 := by omega
             have hv2 := g5 hk2
             have hE : numE T n a lo9 hi = 3 := by
               unfold numE; rw [if_neg (by omega), if_pos (by omega)]
             exact ⟨_, rfl, rfl, rfl, rfl, e52.trans hE.symm, fun q => e53.trans g3, fun q => by omega, f1.tr fun x y q => f5 x y (by omega)⟩)
          | (exfalso; omega)
      · refine x_aload_n (pc := 31) dX5_readNumber_31 rfl rfl ?_
        refine x_getIV (jj := 10) (pc := 32) dX5_readNumber_32 fX5_126 (sC_17 hC) rfl (by decide) rfl (by (repeat (first | rewrite [up_s] | rewrite [up_i (by omega)] | rewrite [up_a (by omega)])); first | exact e52 | rfl) ?_
        refine x_iload_n (pc := 35) dX5_readNumber_35 rfl rfl ?_
        refine x_icmp_lt (tgt := 47) (pc := 36) dX5_readNumber_36 (by decide) (fun c_36 => ?_) (fun c_36 => ?_)
        · refine x_aload_n (pc := 47) dX5_readNumber_47 rfl rfl ?_
          refine x_iconst (pc := 48) dX5_readNumber_48 (by decide) ?_
          refine x_callV1 (pc := 49) dX5_readNumber_49 rfl kX5_68 (s_blame hfl hC 3) (sC_17 hC) rfl rfl (Nat.le_of_ble_eq_true rfl) (k_U (fun M5 hM5 => ?_)) n_U
          have f5 : ∀ x y : Int, ¬ (x = 17 ∧ (y = 2 ∨ y = 3)) → M5 x y = M1 x y := fun x y q => by rw [hM5, up_w (by omega), up_w (by omega)]
          have e52 : M5 17 2 = 3 := by rw [hM5, up_i (by omega), up_s]
          have e53 : M5 17 3 = M1 17 8 := by rw [hM5, up_s]
          clear hM5
          refine x_aload_n (pc := 52) dX5_readNumber_52 rfl rfl ?_
          refine x_getIV (jj := 10) (pc := 53) dX5_readNumber_53 fX5_126 (sC_17 hC) rfl (by decide) rfl (by (repeat (first | rewrite [up_s] | rewrite [up_i (by omega)] | rewrite [up_a (by omega)])); first | exact e52 | rfl) ?_
          refine x_ireturn (pc := 56) dX5_readNumber_56 rfl (by decide) ?_
          first
            | (have h4 : tK T n a = 4 := by
                 by_cases z : tK T n a = 4
                 · exact z
                 · exact absurd (t2 z).1 (by assumption)
               have hE : numE T n a lo9 hi = 1 := by
                 unfold numE; rw [if_pos (by omega), if_pos h4]
               exact ⟨_, rfl, rfl, rfl, rfl, (t1 h4).1.trans hE.symm, fun q => (t1 h4).2, fun q => by omega, f1⟩)
            | (have h4 : tK T n a ≠ 4 := fun z => by have := (t1 z).1; omega
               obtain ⟨g1, g2, g3, g4, g5⟩ := t2 h4
               have hk2 : tK T n a = 2 := by omega
               have hv2 := g5 hk2
               have hE : numE T n a lo9 hi = 0 := by
                 unfold numE; rw [if_neg (by omega), if_neg (by omega)]
               exact ⟨_, rfl, rfl, rfl, rfl, g1.trans hE.symm, fun q => absurd hE q, fun _ => ⟨hv2, g4, g3, p1 h4⟩, f1⟩)
            | (have h4 : tK T n a ≠ 4 := fun z => by have := (t1 z).1; omega
               obtain ⟨g1, g2, g3, g4, g5⟩ := t2 h4
               have hE : numE T n a lo9 hi = 2 := by
                 unfold numE; rw [if_pos (by omega), if_neg h4]
               exact ⟨_, rfl, rfl, rfl, rfl, e52.trans hE.symm, fun q => e53.trans g3, fun q => by omega, f1.tr fun x y q => f5 x y (by omega)⟩)
            | (have h4 : tK T n a ≠ 4 := fun z => by have := (t1 z).1; omega
               obtain ⟨g1, g2, g3, g4, g5⟩ := t2 h4
               have hk2 : tK T n a = 2 := by omega
               have hv2 := g5 hk2
               have hE : numE T n a lo9 hi = 3 := by
                 unfold numE; rw [if_neg (by omega), if_pos (by omega)]
               exact ⟨_, rfl, rfl, rfl, rfl, e52.trans hE.symm, fun q => e53.trans g3, fun q => by omega, f1.tr fun x y q => f5 x y (by omega)⟩)
            | (exfalso; omega)
        · refine x_aload_n (pc := 39) dX5_readNumber_39 rfl rfl ?_
          refine x_getIV (jj := 10) (pc := 40) dX5_readNumber_40 fX5_126 (sC_17 hC) rfl (by decide) rfl (by (repeat (first | rewrite [up_s] | rewrite [up_i (by omega)] | rewrite [up_a (by omega)])); first | exact e52 | rfl) ?_
          refine x_iload_n (pc := 43) dX5_readNumber_43 rfl rfl ?_
          refine x_icmp_le (tgt := 52) (pc := 44) dX5_readNumber_44 (by decide) (fun c_44 => ?_) (fun c_44 => ?_)
          · refine x_aload_n (pc := 52) dX5_readNumber_52 rfl rfl ?_
            refine x_getIV (jj := 10) (pc := 53) dX5_readNumber_53 fX5_126 (sC_17 hC) rfl (by decide) rfl (by (repeat (first | rewrite [up_s] | rewrite [up_i (by omega)] | rewrite [up_a (by omega)])); first | exact e52 | rfl) ?_
            refine x_ireturn (pc := 56) dX5_readNumber_56 rfl (by decide) ?_
            first
              | (have h4 : tK T n a = 4 := by
                   by_cases z : tK T n a = 4
                   · exact z
                   · exact absurd (t2 z).1 (by assumption)
                 have hE : numE T n a lo9 hi = 1 := by
                   unfold numE; rw [if_pos (by omega), if_pos h4]
                 exact ⟨_, rfl, rfl, rfl, rfl, (t1 h4).1.trans hE.symm, fun q => (t1 h4).2, fun q => by omega, f1⟩)
              | (have h4 : tK T n a ≠ 4 := fun z => by have := (t1 z).1; omega
                 obtain ⟨g1, g2, g3, g4, g5⟩ := t2 h4
                 have hk2 : tK T n a = 2 := by omega
                 have hv2 := g5 hk2
                 have hE : numE T n a lo9 hi = 0 := by
                   unfold numE; rw [if_neg (by omega), if_neg (by omega)]
                 exact ⟨_, rfl, rfl, rfl, rfl, g1.trans hE.symm, fun q => absurd hE q, fun _ => ⟨hv2, g4, g3, p1 h4⟩, f1⟩)
              | (have h4 : tK T n a ≠ 4 := fun z => by have := (t1 z).1; omega
                 obtain ⟨g1, g2, g3, g4, g5⟩ := t2 h4
                 have hE : numE T n a lo9 hi = 2 := by
                   unfold numE; rw [if_pos (by omega), if_neg h4]
                 exact ⟨_, rfl, rfl, rfl, rfl, e52.trans hE.symm, fun q => e53.trans g3, fun q => by omega, f1.tr fun x y q => f5 x y (by omega)⟩)
              | (have h4 : tK T n a ≠ 4 := fun z => by have := (t1 z).1; omega
                 obtain ⟨g1, g2, g3, g4, g5⟩ := t2 h4
                 have hk2 : tK T n a = 2 := by omega
                 have hv2 := g5 hk2
                 have hE : numE T n a lo9 hi = 3 := by
                   unfold numE; rw [if_neg (by omega), if_pos (by omega)]
                 exact ⟨_, rfl, rfl, rfl, rfl, e52.trans hE.symm, fun q => e53.trans g3, fun q => by omega, f1.tr fun x y q => f5 x y (by omega)⟩)
              | (exfalso; omega)
          · refine x_aload_n (pc := 47) dX5_readNumber_47 rfl rfl ?_
            refine x_iconst (pc := 48) dX5_readNumber_48 (by decide) ?_
            refine x_callV1 (pc := 49) dX5_readNumber_49 rfl kX5_68 (s_blame hfl hC 3) (sC_17 hC) rfl rfl (Nat.le_of_ble_eq_true rfl) (k_U (fun M5 hM5 => ?_)) n_U
            have f5 : ∀ x y : Int, ¬ (x = 17 ∧ (y = 2 ∨ y = 3)) → M5 x y = M1 x y := fun x y q => by rw [hM5, up_w (by omega), up_w (by omega)]
            have e52 : M5 17 2 = 3 := by rw [hM5, up_i (by omega), up_s]
            have e53 : M5 17 3 = M1 17 8 := by rw [hM5, up_s]
            clear hM5
            refine x_aload_n (pc := 52) dX5_readNumber_52 rfl rfl ?_
            refine x_getIV (jj := 10) (pc := 53) dX5_readNumber_53 fX5_126 (sC_17 hC) rfl (by decide) rfl (by (repeat (first | rewrite [up_s] | rewrite [up_i (by omega)] | rewrite [up_a (by omega)])); first | exact e52 | rfl) ?_
            refine x_ireturn (pc := 56) dX5_readNumber_56 rfl (by decide) ?_
            first
              | (have h4 : tK T n a = 4 := by
                   by_cases z : tK T n a = 4
                   · exact z
                   · exact absurd (t2 z).1 (by assumption)
                 have hE : numE T n a lo9 hi = 1 := by
                   unfold numE; rw [if_pos (by omega), if_pos h4]
                 exact ⟨_, rfl, rfl, rfl, rfl, (t1 h4).1.trans hE.symm, fun q => (t1 h4).2, fun q => by omega, f1⟩)
              | (have h4 : tK T n a ≠ 4 := fun z => by have := (t1 z).1; omega
                 obtain ⟨g1, g2, g3, g4, g5⟩ := t2 h4
                 have hk2 : tK T n a = 2 := by omega
                 have hv2 := g5 hk2
                 have hE : numE T n a lo9 hi = 0 := by
                   unfold numE; rw [if_neg (by omega), if_neg (by omega)]
                 exact ⟨_, rfl, rfl, rfl, rfl, g1.trans hE.symm, fun q => absurd hE q, fun _ => ⟨hv2, g4, g3, p1 h4⟩, f1⟩)
              | (have h4 : tK T n a ≠ 4 := fun z => by have := (t1 z).1; omega
                 obtain ⟨g1, g2, g3, g4, g5⟩ := t2 h4
                 have hE : numE T n a lo9 hi = 2 := by
                   unfold numE; rw [if_pos (by omega), if_neg h4]
                 exact ⟨_, rfl, rfl, rfl, rfl, e52.trans hE.symm, fun q => e53.trans g3, fun q => by omega, f1.tr fun x y q => f5 x y (by omega)⟩)
              | (have h4 : tK T n a ≠ 4 := fun z => by have := (t1 z).1; omega
                 obtain ⟨g1, g2, g3, g4, g5⟩ := t2 h4
                 have hk2 : tK T n a = 2 := by omega
                 have hv2 := g5 hk2
                 have hE : numE T n a lo9 hi = 3 := by
                   unfold numE; rw [if_neg (by omega), if_pos (by omega)]
                 exact ⟨_, rfl, rfl, rfl, rfl, e52.trans hE.symm, fun q => e53.trans g3, fun q => by omega, f1.tr fun x y q => f5 x y (by omega)⟩)
              | (exfalso; omega)
    · refine x_aload_n (pc := 19) dX5_readNumber_19 rfl rfl ?_
      refine x_iconst (pc := 20) dX5_readNumber_20 (by decide) ?_
      refine x_callV1 (pc := 21) dX5_readNumber_21 rfl kX5_68 (s_blame hfl hC 2) (sC_17 hC) rfl rfl (Nat.le_of_ble_eq_true rfl) (k_U (fun M5 hM5 => ?_)) n_U
      have f5 : ∀ x y : Int, ¬ (x = 17 ∧ (y = 2 ∨ y = 3)) → M5 x y = M1 x y := fun x y q => by rw [hM5, up_w (by omega), up_w (by omega)]
      have e52 : M5 17 2 = 2 := by rw [hM5, up_i (by omega), up_s]
      have e53 : M5 17 3 = M1 17 8 := by rw [hM5, up_s]
      clear hM5
      refine x_aload_n (pc := 24) dX5_readNumber_24 rfl rfl ?_
      refine x_getIV (jj := 2) (pc := 25) dX5_readNumber_25 fX5_38 (sC_17 hC) rfl (by decide) rfl (by (repeat (first | rewrite [up_s] | rewrite [up_i (by omega)] | rewrite [up_a (by omega)])); first | exact e52 | rfl) ?_
      refine x_if_ne (tgt := 52) (pc := 28) dX5_readNumber_28 (by decide) (fun c_28 => ?_) (fun c_28 => ?_)
      · refine x_aload_n (pc := 52) dX5_readNumber_52 rfl rfl ?_
        refine x_getIV (jj := 10) (pc := 53) dX5_readNumber_53 fX5_126 (sC_17 hC) rfl (by decide) rfl (by (repeat (first | rewrite [up_s] | rewrite [up_i (by omega)] | rewrite [up_a (by omega)])); first | exact e52 | rfl) ?_
        refine x_ireturn (pc := 56) dX5_readNumber_56 rfl (by decide) ?_
        first
          | (have h4 : tK T n a = 4 := by
               by_cases z : tK T n a = 4
               · exact z
               · exact absurd (t2 z).1 (by assumption)
             have hE : numE T n a lo9 hi = 1 := by
               unfold numE; rw [if_pos (by omega), if_pos h4]
             exact ⟨_, rfl, rfl, rfl, rfl, (t1 h4).1.trans hE.symm, fun q => (t1 h4).2, fun q => by omega, f1⟩)
          | (have h4 : tK T n a ≠ 4 := fun z => by have := (t1 z).1; omega
             obtain ⟨g1, g2, g3, g4, g5⟩ := t2 h4
             have hk2 : tK T n a = 2 := by omega
             have hv2 := g5 hk2
             have hE : numE T n a lo9 hi = 0 := by
               unfold numE; rw [if_neg (by omega), if_neg (by omega)]
             exact ⟨_, rfl, rfl, rfl, rfl, g1.trans hE.symm, fun q => absurd hE q, fun _ => ⟨hv2, g4, g3, p1 h4⟩, f1⟩)
          | (have h4 : tK T n a ≠ 4 := fun z => by have := (t1 z).1; omega
             obtain ⟨g1, g2, g3, g4, g5⟩ := t2 h4
             have hE : numE T n a lo9 hi = 2 := by
               unfold numE; rw [if_pos (by omega), if_neg h4]
             exact ⟨_, rfl, rfl, rfl, rfl, e52.trans hE.symm, fun q => e53.trans g3, fun q => by omega, f1.tr fun x y q => f5 x y (by omega)⟩)
          | (have h4 : tK T n a ≠ 4 := fun z => by have := (t1 z).1; omega
             obtain ⟨g1, g2, g3, g4, g5⟩ := t2 h4
             have hk2 : tK T n a = 2 := by omega
             have hv2 := g5 hk2
             have hE : numE T n a lo9 hi = 3 := by
               unfold numE; rw [if_neg (by omega), if_pos (by omega)]
             exact ⟨_, rfl, rfl, rfl, rfl, e52.trans hE.symm, fun q => e53.trans g3, fun q => by omega, f1.tr fun x y q => f5 x y (by omega)⟩)
          | (exfalso; omega)
      · exfalso; omega
