/-! TEXT: the reference -/
theorem blB_t {x : Int} : blB x = true ↔ x = 32 ∨ x = 10 := decide_eq_true_iff
theorem leB_t {x : Int} : leB x = true ↔ 97 ≤ x ∧ x ≤ 122 := decide_eq_true_iff
theorem dgB_t {x : Int} : dgB x = true ↔ 48 ≤ x ∧ x ≤ 57 := decide_eq_true_iff
/-- the reference has read the token behind a -/
def RTk (M : aM) (m : Int) (T : Int → Int) (n a : Int) : Prop := M m 10 = tK T n a ∧ M m 9 = tB T n a ∧ M m 8 = tE T n a ∧ (tK T n a = 2 → M m 11 = tV T n a)
theorem tK_val {T : Int → Int} {n a i : Int} (ei : tB T n a = i) (h : i < n) : tK T n a = if leB (T i) = true then 1 else if dgB (T i) = true then (if 3 < tE T n a - i then 4 else 2) else if T i = 59 then 3 else 4 := by
  unfold tK
  rw [ei, if_neg (by omega)]
theorem tE_val {T : Int → Int} {n a i : Int} (ei : tB T n a = i) (h : i < n) : tE T n a = if leB (T i) = true then runV leB T n i else if dgB (T i) = true then runV dgB T n i else i + 1 := by
  unfold tE
  rw [ei, if_neg (by omega)]
theorem dv_1 {T : Int → Int} {i j : Int} (h : i ≤ j) : dvalF T i (j + 1 - i).toNat = 10 * dvalF T i (j - i).toNat + (T j - 48) := by
  rw [show (j + 1 - i).toNat = (j - i).toNat + 1 by omega]
  show 10 * dvalF T i (j - i).toNat + (T (i + ((j - i).toNat : Nat)) - 48) = _
  rw [show i + (((j - i).toNat : Nat) : Int) = j by omega]
theorem seeV_t {x n k lo hi : Int} (h : lo ≤ (if k < n then x else 0) ∧ (if k < n then x else 0) ≤ hi) (h0 : 0 < lo) : k < n ∧ lo ≤ x ∧ x ≤ hi := by
  by_cases e : k < n
  · rw [if_pos e] at h; exact ⟨e, h⟩
  · rw [if_neg e] at h; omega
theorem dX12_see_0 : decode cX12_see 0 = .ok (.iload_n 1, 1) := by decide +kernel
theorem dX12_see_1 : decode cX12_see 1 = .ok (.aload_n 0, 1) := by decide +kernel
theorem dX12_see_2 : decode cX12_see 2 = .ok (.getfield 152, 3) := by decide +kernel
theorem dX12_see_5 : decode cX12_see 5 = .ok (.if_icmp .ge 12, 3) := by decide +kernel
theorem dX12_see_8 : decode cX12_see 8 = .ok (.aload_n 0, 1) := by decide +kernel
theorem dX12_see_9 : decode cX12_see 9 = .ok (.getfield 20, 3) := by decide +kernel
theorem dX12_see_12 : decode cX12_see 12 = .ok (.iload_n 1, 1) := by decide +kernel
theorem dX12_see_13 : decode cX12_see 13 = .ok (.iaload, 1) := by decide +kernel
theorem dX12_see_14 : decode cX12_see 14 = .ok (.goto 4, 3) := by decide +kernel
theorem dX12_see_17 : decode cX12_see 17 = .ok (.iconst 0, 1) := by decide +kernel
theorem dX12_see_18 : decode cX12_see 18 = .ok (.ireturn, 1) := by decide +kernel
theorem dX12_isLetter_0 : decode cX12_isLetter 0 = .ok (.iload_n 0, 1) := by decide +kernel
theorem dX12_isLetter_1 : decode cX12_isLetter 1 = .ok (.bipush 97, 2) := by decide +kernel
theorem dX12_isLetter_3 : decode cX12_isLetter 3 = .ok (.if_icmp .lt 13, 3) := by decide +kernel
theorem dX12_isLetter_6 : decode cX12_isLetter 6 = .ok (.iload_n 0, 1) := by decide +kernel
theorem dX12_isLetter_7 : decode cX12_isLetter 7 = .ok (.bipush 122, 2) := by decide +kernel
theorem dX12_isLetter_9 : decode cX12_isLetter 9 = .ok (.if_icmp .gt 7, 3) := by decide +kernel
theorem dX12_isLetter_12 : decode cX12_isLetter 12 = .ok (.iconst 1, 1) := by decide +kernel
theorem dX12_isLetter_13 : decode cX12_isLetter 13 = .ok (.goto 4, 3) := by decide +kernel
theorem dX12_isLetter_16 : decode cX12_isLetter 16 = .ok (.iconst 0, 1) := by decide +kernel
theorem dX12_isLetter_17 : decode cX12_isLetter 17 = .ok (.ireturn, 1) := by decide +kernel
theorem dX12_isDigit_0 : decode cX12_isDigit 0 = .ok (.iload_n 0, 1) := by decide +kernel
theorem dX12_isDigit_1 : decode cX12_isDigit 1 = .ok (.bipush 48, 2) := by decide +kernel
theorem dX12_isDigit_3 : decode cX12_isDigit 3 = .ok (.if_icmp .lt 13, 3) := by decide +kernel
theorem dX12_isDigit_6 : decode cX12_isDigit 6 = .ok (.iload_n 0, 1) := by decide +kernel
theorem dX12_isDigit_7 : decode cX12_isDigit 7 = .ok (.bipush 57, 2) := by decide +kernel
theorem dX12_isDigit_9 : decode cX12_isDigit 9 = .ok (.if_icmp .gt 7, 3) := by decide +kernel
theorem dX12_isDigit_12 : decode cX12_isDigit 12 = .ok (.iconst 1, 1) := by decide +kernel
theorem dX12_isDigit_13 : decode cX12_isDigit 13 = .ok (.goto 4, 3) := by decide +kernel
theorem dX12_isDigit_16 : decode cX12_isDigit 16 = .ok (.iconst 0, 1) := by decide +kernel
theorem dX12_isDigit_17 : decode cX12_isDigit 17 = .ok (.ireturn, 1) := by decide +kernel
theorem dX12_next_0 : decode cX12_next 0 = .ok (.aload_n 0, 1) := by decide +kernel
theorem dX12_next_1 : decode cX12_next 1 = .ok (.getfield 155, 3) := by decide +kernel
theorem dX12_next_4 : decode cX12_next 4 = .ok (.aload_n 0, 1) := by decide +kernel
theorem dX12_next_5 : decode cX12_next 5 = .ok (.getfield 152, 3) := by decide +kernel
theorem dX12_next_8 : decode cX12_next 8 = .ok (.if_icmp .ge 44, 3) := by decide +kernel
theorem dX12_next_11 : decode cX12_next 11 = .ok (.aload_n 0, 1) := by decide +kernel
theorem dX12_next_12 : decode cX12_next 12 = .ok (.getfield 20, 3) := by decide +kernel
theorem dX12_next_15 : decode cX12_next 15 = .ok (.aload_n 0, 1) := by decide +kernel
theorem dX12_next_16 : decode cX12_next 16 = .ok (.getfield 155, 3) := by decide +kernel
theorem dX12_next_19 : decode cX12_next 19 = .ok (.iaload, 1) := by decide +kernel
theorem dX12_next_20 : decode cX12_next 20 = .ok (.bipush 32, 2) := by decide +kernel
theorem dX12_next_22 : decode cX12_next 22 = .ok (.if_icmp .eq 17, 3) := by decide +kernel
theorem dX12_next_25 : decode cX12_next 25 = .ok (.aload_n 0, 1) := by decide +kernel
theorem dX12_next_26 : decode cX12_next 26 = .ok (.getfield 20, 3) := by decide +kernel
theorem dX12_next_29 : decode cX12_next 29 = .ok (.aload_n 0, 1) := by decide +kernel
theorem dX12_next_30 : decode cX12_next 30 = .ok (.getfield 155, 3) := by decide +kernel
theorem dX12_next_33 : decode cX12_next 33 = .ok (.iaload, 1) := by decide +kernel
theorem dX12_next_34 : decode cX12_next 34 = .ok (.bipush 10, 2) := by decide +kernel
theorem dX12_next_36 : decode cX12_next 36 = .ok (.if_icmp .ne 16, 3) := by decide +kernel
theorem dX12_next_39 : decode cX12_next 39 = .ok (.aload_n 0, 1) := by decide +kernel
theorem dX12_next_40 : decode cX12_next 40 = .ok (.dup, 1) := by decide +kernel
theorem dX12_next_41 : decode cX12_next 41 = .ok (.getfield 155, 3) := by decide +kernel
theorem dX12_next_44 : decode cX12_next 44 = .ok (.iconst 1, 1) := by decide +kernel
theorem dX12_next_45 : decode cX12_next 45 = .ok (.iadd, 1) := by decide +kernel
theorem dX12_next_46 : decode cX12_next 46 = .ok (.putfield 155, 3) := by decide +kernel
theorem dX12_next_49 : decode cX12_next 49 = .ok (.goto (-49), 3) := by decide +kernel
theorem dX12_next_52 : decode cX12_next 52 = .ok (.aload_n 0, 1) := by decide +kernel
theorem dX12_next_53 : decode cX12_next 53 = .ok (.aload_n 0, 1) := by decide +kernel
theorem dX12_next_54 : decode cX12_next 54 = .ok (.getfield 155, 3) := by decide +kernel
theorem dX12_next_57 : decode cX12_next 57 = .ok (.putfield 158, 3) := by decide +kernel
theorem dX12_next_60 : decode cX12_next 60 = .ok (.aload_n 0, 1) := by decide +kernel
theorem dX12_next_61 : decode cX12_next 61 = .ok (.getfield 155, 3) := by decide +kernel
theorem dX12_next_64 : decode cX12_next 64 = .ok (.aload_n 0, 1) := by decide +kernel
theorem dX12_next_65 : decode cX12_next 65 = .ok (.getfield 152, 3) := by decide +kernel
theorem dX12_next_68 : decode cX12_next 68 = .ok (.if_icmp .lt 9, 3) := by decide +kernel
theorem dX12_next_71 : decode cX12_next 71 = .ok (.aload_n 0, 1) := by decide +kernel
theorem dX12_next_72 : decode cX12_next 72 = .ok (.iconst 0, 1) := by decide +kernel
theorem dX12_next_73 : decode cX12_next 73 = .ok (.putfield 161, 3) := by decide +kernel
theorem dX12_next_76 : decode cX12_next 76 = .ok (.return_, 1) := by decide +kernel
theorem dX12_next_77 : decode cX12_next 77 = .ok (.aload_n 0, 1) := by decide +kernel
theorem dX12_next_78 : decode cX12_next 78 = .ok (.getfield 20, 3) := by decide +kernel
theorem dX12_next_81 : decode cX12_next 81 = .ok (.aload_n 0, 1) := by decide +kernel
theorem dX12_next_82 : decode cX12_next 82 = .ok (.getfield 155, 3) := by decide +kernel
theorem dX12_next_85 : decode cX12_next 85 = .ok (.iaload, 1) := by decide +kernel
theorem dX12_next_86 : decode cX12_next 86 = .ok (.istore_n 1, 1) := by decide +kernel
theorem dX12_next_87 : decode cX12_next 87 = .ok (.iload_n 1, 1) := by decide +kernel
theorem dX12_next_88 : decode cX12_next 88 = .ok (.invokestatic 164, 3) := by decide +kernel
theorem dX12_next_91 : decode cX12_next 91 = .ok (.ifCond .eq 38, 3) := by decide +kernel
theorem dX12_next_94 : decode cX12_next 94 = .ok (.aload_n 0, 1) := by decide +kernel
theorem dX12_next_95 : decode cX12_next 95 = .ok (.aload_n 0, 1) := by decide +kernel
theorem dX12_next_96 : decode cX12_next 96 = .ok (.getfield 155, 3) := by decide +kernel
theorem dX12_next_99 : decode cX12_next 99 = .ok (.invokevirtual 167, 3) := by decide +kernel
theorem dX12_next_102 : decode cX12_next 102 = .ok (.invokestatic 164, 3) := by decide +kernel
theorem dX12_next_105 : decode cX12_next 105 = .ok (.ifCond .eq 16, 3) := by decide +kernel
theorem dX12_next_108 : decode cX12_next 108 = .ok (.aload_n 0, 1) := by decide +kernel
theorem dX12_next_109 : decode cX12_next 109 = .ok (.dup, 1) := by decide +kernel
theorem dX12_next_110 : decode cX12_next 110 = .ok (.getfield 155, 3) := by decide +kernel
theorem dX12_next_113 : decode cX12_next 113 = .ok (.iconst 1, 1) := by decide +kernel
theorem dX12_next_114 : decode cX12_next 114 = .ok (.iadd, 1) := by decide +kernel
theorem dX12_next_115 : decode cX12_next 115 = .ok (.putfield 155, 3) := by decide +kernel
theorem dX12_next_118 : decode cX12_next 118 = .ok (.goto (-24), 3) := by decide +kernel
theorem dX12_next_121 : decode cX12_next 121 = .ok (.aload_n 0, 1) := by decide +kernel
theorem dX12_next_122 : decode cX12_next 122 = .ok (.iconst 1, 1) := by decide +kernel
theorem dX12_next_123 : decode cX12_next 123 = .ok (.putfield 161, 3) := by decide +kernel
theorem dX12_next_126 : decode cX12_next 126 = .ok (.goto 136, 3) := by decide +kernel
theorem dX12_next_129 : decode cX12_next 129 = .ok (.iload_n 1, 1) := by decide +kernel
theorem dX12_next_130 : decode cX12_next 130 = .ok (.invokestatic 170, 3) := by decide +kernel
theorem dX12_next_133 : decode cX12_next 133 = .ok (.ifCond .eq 104, 3) := by decide +kernel
theorem dX12_next_136 : decode cX12_next 136 = .ok (.aload_n 0, 1) := by decide +kernel
theorem dX12_next_137 : decode cX12_next 137 = .ok (.iconst 0, 1) := by decide +kernel
theorem dX12_next_138 : decode cX12_next 138 = .ok (.putfield 173, 3) := by decide +kernel
theorem dX12_next_141 : decode cX12_next 141 = .ok (.aload_n 0, 1) := by decide +kernel
theorem dX12_next_142 : decode cX12_next 142 = .ok (.aload_n 0, 1) := by decide +kernel
theorem dX12_next_143 : decode cX12_next 143 = .ok (.getfield 155, 3) := by decide +kernel
theorem dX12_next_146 : decode cX12_next 146 = .ok (.invokevirtual 167, 3) := by decide +kernel
theorem dX12_next_149 : decode cX12_next 149 = .ok (.invokestatic 170, 3) := by decide +kernel
theorem dX12_next_152 : decode cX12_next 152 = .ok (.ifCond .eq 60, 3) := by decide +kernel
theorem dX12_next_155 : decode cX12_next 155 = .ok (.aload_n 0, 1) := by decide +kernel
theorem dX12_next_156 : decode cX12_next 156 = .ok (.aload_n 0, 1) := by decide +kernel
theorem dX12_next_157 : decode cX12_next 157 = .ok (.getfield 155, 3) := by decide +kernel
theorem dX12_next_160 : decode cX12_next 160 = .ok (.aload_n 0, 1) := by decide +kernel
theorem dX12_next_161 : decode cX12_next 161 = .ok (.getfield 158, 3) := by decide +kernel
theorem dX12_next_164 : decode cX12_next 164 = .ok (.isub, 1) := by decide +kernel
theorem dX12_next_165 : decode cX12_next 165 = .ok (.iconst 3, 1) := by decide +kernel
theorem dX12_next_166 : decode cX12_next 166 = .ok (.if_icmp .ge 26, 3) := by decide +kernel
theorem dX12_next_169 : decode cX12_next 169 = .ok (.bipush 10, 2) := by decide +kernel
theorem dX12_next_171 : decode cX12_next 171 = .ok (.aload_n 0, 1) := by decide +kernel
theorem dX12_next_172 : decode cX12_next 172 = .ok (.getfield 173, 3) := by decide +kernel
theorem dX12_next_175 : decode cX12_next 175 = .ok (.imul, 1) := by decide +kernel
theorem dX12_next_176 : decode cX12_next 176 = .ok (.aload_n 0, 1) := by decide +kernel
theorem dX12_next_177 : decode cX12_next 177 = .ok (.getfield 20, 3) := by decide +kernel
theorem dX12_next_180 : decode cX12_next 180 = .ok (.aload_n 0, 1) := by decide +kernel
theorem dX12_next_181 : decode cX12_next 181 = .ok (.getfield 155, 3) := by decide +kernel
theorem dX12_next_184 : decode cX12_next 184 = .ok (.iaload, 1) := by decide +kernel
theorem dX12_next_185 : decode cX12_next 185 = .ok (.iadd, 1) := by decide +kernel
theorem dX12_next_186 : decode cX12_next 186 = .ok (.bipush 48, 2) := by decide +kernel
theorem dX12_next_188 : decode cX12_next 188 = .ok (.isub, 1) := by decide +kernel
theorem dX12_next_189 : decode cX12_next 189 = .ok (.goto 7, 3) := by decide +kernel
theorem dX12_next_192 : decode cX12_next 192 = .ok (.aload_n 0, 1) := by decide +kernel
theorem dX12_next_193 : decode cX12_next 193 = .ok (.getfield 173, 3) := by decide +kernel
theorem dX12_next_196 : decode cX12_next 196 = .ok (.putfield 173, 3) := by decide +kernel
theorem dX12_next_199 : decode cX12_next 199 = .ok (.aload_n 0, 1) := by decide +kernel
theorem dX12_next_200 : decode cX12_next 200 = .ok (.dup, 1) := by decide +kernel
theorem dX12_next_201 : decode cX12_next 201 = .ok (.getfield 155, 3) := by decide +kernel
theorem dX12_next_204 : decode cX12_next 204 = .ok (.iconst 1, 1) := by decide +kernel
theorem dX12_next_205 : decode cX12_next 205 = .ok (.iadd, 1) := by decide +kernel
theorem dX12_next_206 : decode cX12_next 206 = .ok (.putfield 155, 3) := by decide +kernel
theorem dX12_next_209 : decode cX12_next 209 = .ok (.goto (-68), 3) := by decide +kernel
theorem dX12_next_212 : decode cX12_next 212 = .ok (.aload_n 0, 1) := by decide +kernel
theorem dX12_next_213 : decode cX12_next 213 = .ok (.aload_n 0, 1) := by decide +kernel
theorem dX12_next_214 : decode cX12_next 214 = .ok (.getfield 155, 3) := by decide +kernel
theorem dX12_next_217 : decode cX12_next 217 = .ok (.aload_n 0, 1) := by decide +kernel
theorem dX12_next_218 : decode cX12_next 218 = .ok (.getfield 158, 3) := by decide +kernel
theorem dX12_next_221 : decode cX12_next 221 = .ok (.isub, 1) := by decide +kernel
theorem dX12_next_222 : decode cX12_next 222 = .ok (.iconst 3, 1) := by decide +kernel
theorem dX12_next_223 : decode cX12_next 223 = .ok (.if_icmp .le 7, 3) := by decide +kernel
theorem dX12_next_226 : decode cX12_next 226 = .ok (.iconst 4, 1) := by decide +kernel
theorem dX12_next_227 : decode cX12_next 227 = .ok (.goto 4, 3) := by decide +kernel
theorem dX12_next_230 : decode cX12_next 230 = .ok (.iconst 2, 1) := by decide +kernel
theorem dX12_next_231 : decode cX12_next 231 = .ok (.putfield 161, 3) := by decide +kernel
theorem dX12_next_234 : decode cX12_next 234 = .ok (.goto 28, 3) := by decide +kernel
theorem dX12_next_237 : decode cX12_next 237 = .ok (.aload_n 0, 1) := by decide +kernel
theorem dX12_next_238 : decode cX12_next 238 = .ok (.iload_n 1, 1) := by decide +kernel
theorem dX12_next_239 : decode cX12_next 239 = .ok (.bipush 59, 2) := by decide +kernel
theorem dX12_next_241 : decode cX12_next 241 = .ok (.if_icmp .ne 7, 3) := by decide +kernel
theorem dX12_next_244 : decode cX12_next 244 = .ok (.iconst 3, 1) := by decide +kernel
theorem dX12_next_245 : decode cX12_next 245 = .ok (.goto 4, 3) := by decide +kernel
theorem dX12_next_248 : decode cX12_next 248 = .ok (.iconst 4, 1) := by decide +kernel
theorem dX12_next_249 : decode cX12_next 249 = .ok (.putfield 161, 3) := by decide +kernel
theorem dX12_next_252 : decode cX12_next 252 = .ok (.aload_n 0, 1) := by decide +kernel
theorem dX12_next_253 : decode cX12_next 253 = .ok (.dup, 1) := by decide +kernel
theorem dX12_next_254 : decode cX12_next 254 = .ok (.getfield 155, 3) := by decide +kernel
theorem dX12_next_257 : decode cX12_next 257 = .ok (.iconst 1, 1) := by decide +kernel
theorem dX12_next_258 : decode cX12_next 258 = .ok (.iadd, 1) := by decide +kernel
theorem dX12_next_259 : decode cX12_next 259 = .ok (.putfield 155, 3) := by decide +kernel
theorem dX12_next_262 : decode cX12_next 262 = .ok (.return_, 1) := by decide +kernel
theorem dX12_wrong_0 : decode cX12_wrong 0 = .ok (.aload_n 0, 1) := by decide +kernel
theorem dX12_wrong_1 : decode cX12_wrong 1 = .ok (.getfield 176, 3) := by decide +kernel
theorem dX12_wrong_4 : decode cX12_wrong 4 = .ok (.ifCond .eq 4, 3) := by decide +kernel
theorem dX12_wrong_7 : decode cX12_wrong 7 = .ok (.return_, 1) := by decide +kernel
theorem dX12_wrong_8 : decode cX12_wrong 8 = .ok (.aload_n 0, 1) := by decide +kernel
theorem dX12_wrong_9 : decode cX12_wrong 9 = .ok (.aload_n 0, 1) := by decide +kernel
theorem dX12_wrong_10 : decode cX12_wrong 10 = .ok (.getfield 161, 3) := by decide +kernel
theorem dX12_wrong_13 : decode cX12_wrong 13 = .ok (.iconst 4, 1) := by decide +kernel
theorem dX12_wrong_14 : decode cX12_wrong 14 = .ok (.if_icmp .ne 7, 3) := by decide +kernel
theorem dX12_wrong_17 : decode cX12_wrong 17 = .ok (.iconst 1, 1) := by decide +kernel
theorem dX12_wrong_18 : decode cX12_wrong 18 = .ok (.goto 4, 3) := by decide +kernel
theorem dX12_wrong_21 : decode cX12_wrong 21 = .ok (.iload_n 1, 1) := by decide +kernel
theorem dX12_wrong_22 : decode cX12_wrong 22 = .ok (.putfield 176, 3) := by decide +kernel
theorem dX12_wrong_25 : decode cX12_wrong 25 = .ok (.aload_n 0, 1) := by decide +kernel
theorem dX12_wrong_26 : decode cX12_wrong 26 = .ok (.aload_n 0, 1) := by decide +kernel
theorem dX12_wrong_27 : decode cX12_wrong 27 = .ok (.getfield 158, 3) := by decide +kernel
theorem dX12_wrong_30 : decode cX12_wrong 30 = .ok (.putfield 179, 3) := by decide +kernel
theorem dX12_wrong_33 : decode cX12_wrong 33 = .ok (.return_, 1) := by decide +kernel
theorem dX12_number_0 : decode cX12_number 0 = .ok (.aload_n 0, 1) := by decide +kernel
theorem dX12_number_1 : decode cX12_number 1 = .ok (.getfield 161, 3) := by decide +kernel
theorem dX12_number_4 : decode cX12_number 4 = .ok (.iconst 2, 1) := by decide +kernel
theorem dX12_number_5 : decode cX12_number 5 = .ok (.if_icmp .eq 11, 3) := by decide +kernel
theorem dX12_number_8 : decode cX12_number 8 = .ok (.aload_n 0, 1) := by decide +kernel
theorem dX12_number_9 : decode cX12_number 9 = .ok (.iconst 2, 1) := by decide +kernel
theorem dX12_number_10 : decode cX12_number 10 = .ok (.invokevirtual 192, 3) := by decide +kernel
theorem dX12_number_13 : decode cX12_number 13 = .ok (.goto 23, 3) := by decide +kernel
theorem dX12_number_16 : decode cX12_number 16 = .ok (.aload_n 0, 1) := by decide +kernel
theorem dX12_number_17 : decode cX12_number 17 = .ok (.getfield 173, 3) := by decide +kernel
theorem dX12_number_20 : decode cX12_number 20 = .ok (.i2l, 1) := by decide +kernel
theorem dX12_number_21 : decode cX12_number 21 = .ok (.iload_n 1, 1) := by decide +kernel
theorem dX12_number_22 : decode cX12_number 22 = .ok (.i2l, 1) := by decide +kernel
theorem dX12_number_23 : decode cX12_number 23 = .ok (.iload_n 2, 1) := by decide +kernel
theorem dX12_number_24 : decode cX12_number 24 = .ok (.i2l, 1) := by decide +kernel
theorem dX12_number_25 : decode cX12_number 25 = .ok (.invokestatic 106, 3) := by decide +kernel
theorem dX12_number_28 : decode cX12_number 28 = .ok (.ifCond .ne 8, 3) := by decide +kernel
theorem dX12_number_31 : decode cX12_number 31 = .ok (.aload_n 0, 1) := by decide +kernel
theorem dX12_number_32 : decode cX12_number 32 = .ok (.iconst 3, 1) := by decide +kernel
theorem dX12_number_33 : decode cX12_number 33 = .ok (.invokevirtual 192, 3) := by decide +kernel
theorem dX12_number_36 : decode cX12_number 36 = .ok (.aload_n 0, 1) := by decide +kernel
theorem dX12_number_37 : decode cX12_number 37 = .ok (.getfield 173, 3) := by decide +kernel
theorem dX12_number_40 : decode cX12_number 40 = .ok (.istore_n 3, 1) := by decide +kernel
theorem dX12_number_41 : decode cX12_number 41 = .ok (.aload_n 0, 1) := by decide +kernel
theorem dX12_number_42 : decode cX12_number 42 = .ok (.getfield 176, 3) := by decide +kernel
theorem dX12_number_45 : decode cX12_number 45 = .ok (.ifCond .ne 7, 3) := by decide +kernel
theorem dX12_number_48 : decode cX12_number 48 = .ok (.aload_n 0, 1) := by decide +kernel
theorem dX12_number_49 : decode cX12_number 49 = .ok (.invokevirtual 196, 3) := by decide +kernel
theorem dX12_number_52 : decode cX12_number 52 = .ok (.iload_n 3, 1) := by decide +kernel
theorem dX12_number_53 : decode cX12_number 53 = .ok (.ireturn, 1) := by decide +kernel
theorem dX12_isStep_0 : decode cX12_isStep 0 = .ok (.iconst 0, 1) := by decide +kernel
theorem dX12_isStep_1 : decode cX12_isStep 1 = .ok (.istore_n 2, 1) := by decide +kernel
theorem dX12_isStep_2 : decode cX12_isStep 2 = .ok (.iload_n 2, 1) := by decide +kernel
theorem dX12_isStep_3 : decode cX12_isStep 3 = .ok (.aload_n 0, 1) := by decide +kernel
theorem dX12_isStep_4 : decode cX12_isStep 4 = .ok (.getfield 23, 3) := by decide +kernel
theorem dX12_isStep_7 : decode cX12_isStep 7 = .ok (.iconst 1, 1) := by decide +kernel
theorem dX12_isStep_8 : decode cX12_isStep 8 = .ok (.iaload, 1) := by decide +kernel
theorem dX12_isStep_9 : decode cX12_isStep 9 = .ok (.if_icmp .ge 23, 3) := by decide +kernel
theorem dX12_isStep_12 : decode cX12_isStep 12 = .ok (.aload_n 0, 1) := by decide +kernel
theorem dX12_isStep_13 : decode cX12_isStep 13 = .ok (.getfield 23, 3) := by decide +kernel
theorem dX12_isStep_16 : decode cX12_isStep 16 = .ok (.iconst 2, 1) := by decide +kernel
theorem dX12_isStep_17 : decode cX12_isStep 17 = .ok (.iload_n 2, 1) := by decide +kernel
theorem dX12_isStep_18 : decode cX12_isStep 18 = .ok (.iadd, 1) := by decide +kernel
theorem dX12_isStep_19 : decode cX12_isStep 19 = .ok (.iaload, 1) := by decide +kernel
theorem dX12_isStep_20 : decode cX12_isStep 20 = .ok (.iload_n 1, 1) := by decide +kernel
theorem dX12_isStep_21 : decode cX12_isStep 21 = .ok (.if_icmp .ne 5, 3) := by decide +kernel
theorem dX12_isStep_24 : decode cX12_isStep 24 = .ok (.iconst 1, 1) := by decide +kernel
theorem dX12_isStep_25 : decode cX12_isStep 25 = .ok (.ireturn, 1) := by decide +kernel
theorem dX12_isStep_26 : decode cX12_isStep 26 = .ok (.iinc 2 1, 3) := by decide +kernel
theorem dX12_isStep_29 : decode cX12_isStep 29 = .ok (.goto (-27), 3) := by decide +kernel
theorem dX12_isStep_32 : decode cX12_isStep 32 = .ok (.iconst 0, 1) := by decide +kernel
theorem dX12_isStep_33 : decode cX12_isStep 33 = .ok (.ireturn, 1) := by decide +kernel
theorem dX12_readStep_0 : decode cX12_readStep 0 = .ok (.aload_n 0, 1) := by decide +kernel
theorem dX12_readStep_1 : decode cX12_readStep 1 = .ok (.getfield 23, 3) := by decide +kernel
theorem dX12_readStep_4 : decode cX12_readStep 4 = .ok (.iconst 1, 1) := by decide +kernel
theorem dX12_readStep_5 : decode cX12_readStep 5 = .ok (.iaload, 1) := by decide +kernel
theorem dX12_readStep_6 : decode cX12_readStep 6 = .ok (.istore_n 1, 1) := by decide +kernel
theorem dX12_readStep_7 : decode cX12_readStep 7 = .ok (.iload_n 1, 1) := by decide +kernel
theorem dX12_readStep_8 : decode cX12_readStep 8 = .ok (.bipush 6, 2) := by decide +kernel
theorem dX12_readStep_10 : decode cX12_readStep 10 = .ok (.if_icmp .ne 9, 3) := by decide +kernel
theorem dX12_readStep_13 : decode cX12_readStep 13 = .ok (.aload_n 0, 1) := by decide +kernel
theorem dX12_readStep_14 : decode cX12_readStep 14 = .ok (.iconst 4, 1) := by decide +kernel
theorem dX12_readStep_15 : decode cX12_readStep 15 = .ok (.invokevirtual 192, 3) := by decide +kernel
theorem dX12_readStep_18 : decode cX12_readStep 18 = .ok (.return_, 1) := by decide +kernel
theorem dX12_readStep_19 : decode cX12_readStep 19 = .ok (.aload_n 0, 1) := by decide +kernel
theorem dX12_readStep_20 : decode cX12_readStep 20 = .ok (.invokevirtual 196, 3) := by decide +kernel
theorem dX12_readStep_23 : decode cX12_readStep 23 = .ok (.aload_n 0, 1) := by decide +kernel
theorem dX12_readStep_24 : decode cX12_readStep 24 = .ok (.getfield 161, 3) := by decide +kernel
theorem dX12_readStep_27 : decode cX12_readStep 27 = .ok (.iconst 2, 1) := by decide +kernel
theorem dX12_readStep_28 : decode cX12_readStep 28 = .ok (.if_icmp .ne 34, 3) := by decide +kernel
theorem dX12_readStep_31 : decode cX12_readStep 31 = .ok (.aload_n 0, 1) := by decide +kernel
theorem dX12_readStep_32 : decode cX12_readStep 32 = .ok (.getfield 173, 3) := by decide +kernel
theorem dX12_readStep_35 : decode cX12_readStep 35 = .ok (.i2l, 1) := by decide +kernel
theorem dX12_readStep_36 : decode cX12_readStep 36 = .ok (.lconst 1, 1) := by decide +kernel
theorem dX12_readStep_37 : decode cX12_readStep 37 = .ok (.ldc2_w 199, 3) := by decide +kernel
theorem dX12_readStep_40 : decode cX12_readStep 40 = .ok (.invokestatic 106, 3) := by decide +kernel
theorem dX12_readStep_43 : decode cX12_readStep 43 = .ok (.ifCond .eq 19, 3) := by decide +kernel
theorem dX12_readStep_46 : decode cX12_readStep 46 = .ok (.aload_n 0, 1) := by decide +kernel
theorem dX12_readStep_47 : decode cX12_readStep 47 = .ok (.aload_n 0, 1) := by decide +kernel
theorem dX12_readStep_48 : decode cX12_readStep 48 = .ok (.getfield 173, 3) := by decide +kernel
theorem dX12_readStep_51 : decode cX12_readStep 51 = .ok (.invokevirtual 201, 3) := by decide +kernel
theorem dX12_readStep_54 : decode cX12_readStep 54 = .ok (.ifCond .eq 8, 3) := by decide +kernel
theorem dX12_readStep_57 : decode cX12_readStep 57 = .ok (.aload_n 0, 1) := by decide +kernel
theorem dX12_readStep_58 : decode cX12_readStep 58 = .ok (.iconst 4, 1) := by decide +kernel
theorem dX12_readStep_59 : decode cX12_readStep 59 = .ok (.invokevirtual 192, 3) := by decide +kernel
theorem dX12_readStep_62 : decode cX12_readStep 62 = .ok (.aload_n 0, 1) := by decide +kernel
theorem dX12_readStep_63 : decode cX12_readStep 63 = .ok (.iconst 1, 1) := by decide +kernel
theorem dX12_readStep_64 : decode cX12_readStep 64 = .ok (.bipush 60, 2) := by decide +kernel
theorem dX12_readStep_66 : decode cX12_readStep 66 = .ok (.invokevirtual 204, 3) := by decide +kernel
theorem dX12_readStep_69 : decode cX12_readStep 69 = .ok (.istore_n 2, 1) := by decide +kernel
theorem dX12_readStep_70 : decode cX12_readStep 70 = .ok (.aload_n 0, 1) := by decide +kernel
theorem dX12_readStep_71 : decode cX12_readStep 71 = .ok (.iconst 1, 1) := by decide +kernel
theorem dX12_readStep_72 : decode cX12_readStep 72 = .ok (.bipush 99, 2) := by decide +kernel
theorem dX12_readStep_74 : decode cX12_readStep 74 = .ok (.invokevirtual 204, 3) := by decide +kernel
theorem dX12_readStep_77 : decode cX12_readStep 77 = .ok (.istore_n 3, 1) := by decide +kernel
theorem dX12_readStep_78 : decode cX12_readStep 78 = .ok (.aload_n 0, 1) := by decide +kernel
theorem dX12_readStep_79 : decode cX12_readStep 79 = .ok (.getfield 176, 3) := by decide +kernel
theorem dX12_readStep_82 : decode cX12_readStep 82 = .ok (.ifCond .eq 4, 3) := by decide +kernel
theorem dX12_readStep_85 : decode cX12_readStep 85 = .ok (.return_, 1) := by decide +kernel
theorem dX12_readStep_86 : decode cX12_readStep 86 = .ok (.aload_n 0, 1) := by decide +kernel
theorem dX12_readStep_87 : decode cX12_readStep 87 = .ok (.getfield 23, 3) := by decide +kernel
theorem dX12_readStep_90 : decode cX12_readStep 90 = .ok (.iconst 2, 1) := by decide +kernel
theorem dX12_readStep_91 : decode cX12_readStep 91 = .ok (.iload_n 1, 1) := by decide +kernel
theorem dX12_readStep_92 : decode cX12_readStep 92 = .ok (.iadd, 1) := by decide +kernel
theorem dX12_readStep_93 : decode cX12_readStep 93 = .ok (.iload_n 2, 1) := by decide +kernel
theorem dX12_readStep_94 : decode cX12_readStep 94 = .ok (.iastore, 1) := by decide +kernel
theorem dX12_readStep_95 : decode cX12_readStep 95 = .ok (.aload_n 0, 1) := by decide +kernel
theorem dX12_readStep_96 : decode cX12_readStep 96 = .ok (.getfield 23, 3) := by decide +kernel
theorem dX12_readStep_99 : decode cX12_readStep 99 = .ok (.bipush 8, 2) := by decide +kernel
theorem dX12_readStep_101 : decode cX12_readStep 101 = .ok (.iload_n 1, 1) := by decide +kernel
theorem dX12_readStep_102 : decode cX12_readStep 102 = .ok (.iadd, 1) := by decide +kernel
theorem dX12_readStep_103 : decode cX12_readStep 103 = .ok (.iload_n 3, 1) := by decide +kernel
theorem dX12_readStep_104 : decode cX12_readStep 104 = .ok (.iastore, 1) := by decide +kernel
theorem dX12_readStep_105 : decode cX12_readStep 105 = .ok (.aload_n 0, 1) := by decide +kernel
theorem dX12_readStep_106 : decode cX12_readStep 106 = .ok (.getfield 23, 3) := by decide +kernel
theorem dX12_readStep_109 : decode cX12_readStep 109 = .ok (.iconst 1, 1) := by decide +kernel
theorem dX12_readStep_110 : decode cX12_readStep 110 = .ok (.dup2, 1) := by decide +kernel
theorem dX12_readStep_111 : decode cX12_readStep 111 = .ok (.iaload, 1) := by decide +kernel
theorem dX12_readStep_112 : decode cX12_readStep 112 = .ok (.iconst 1, 1) := by decide +kernel
theorem dX12_readStep_113 : decode cX12_readStep 113 = .ok (.iadd, 1) := by decide +kernel
theorem dX12_readStep_114 : decode cX12_readStep 114 = .ok (.iastore, 1) := by decide +kernel
theorem dX12_readStep_115 : decode cX12_readStep 115 = .ok (.return_, 1) := by decide +kernel
theorem dX12_readCart_0 : decode cX12_readCart 0 = .ok (.aload_n 0, 1) := by decide +kernel
theorem dX12_readCart_1 : decode cX12_readCart 1 = .ok (.getfield 23, 3) := by decide +kernel
theorem dX12_readCart_4 : decode cX12_readCart 4 = .ok (.bipush 14, 2) := by decide +kernel
theorem dX12_readCart_6 : decode cX12_readCart 6 = .ok (.iaload, 1) := by decide +kernel
theorem dX12_readCart_7 : decode cX12_readCart 7 = .ok (.istore_n 1, 1) := by decide +kernel
theorem dX12_readCart_8 : decode cX12_readCart 8 = .ok (.iload_n 1, 1) := by decide +kernel
theorem dX12_readCart_9 : decode cX12_readCart 9 = .ok (.iconst 4, 1) := by decide +kernel
theorem dX12_readCart_10 : decode cX12_readCart 10 = .ok (.if_icmp .ne 9, 3) := by decide +kernel
theorem dX12_readCart_13 : decode cX12_readCart 13 = .ok (.aload_n 0, 1) := by decide +kernel
theorem dX12_readCart_14 : decode cX12_readCart 14 = .ok (.iconst 4, 1) := by decide +kernel
theorem dX12_readCart_15 : decode cX12_readCart 15 = .ok (.invokevirtual 192, 3) := by decide +kernel
theorem dX12_readCart_18 : decode cX12_readCart 18 = .ok (.return_, 1) := by decide +kernel
theorem dX12_readCart_19 : decode cX12_readCart 19 = .ok (.aload_n 0, 1) := by decide +kernel
theorem dX12_readCart_20 : decode cX12_readCart 20 = .ok (.invokevirtual 196, 3) := by decide +kernel
theorem dX12_readCart_23 : decode cX12_readCart 23 = .ok (.aload_n 0, 1) := by decide +kernel
theorem dX12_readCart_24 : decode cX12_readCart 24 = .ok (.iconst 1, 1) := by decide +kernel
theorem dX12_readCart_25 : decode cX12_readCart 25 = .ok (.bipush 60, 2) := by decide +kernel
theorem dX12_readCart_27 : decode cX12_readCart 27 = .ok (.invokevirtual 204, 3) := by decide +kernel
theorem dX12_readCart_30 : decode cX12_readCart 30 = .ok (.istore_n 2, 1) := by decide +kernel
theorem dX12_readCart_31 : decode cX12_readCart 31 = .ok (.aload_n 0, 1) := by decide +kernel
theorem dX12_readCart_32 : decode cX12_readCart 32 = .ok (.iconst 0, 1) := by decide +kernel
theorem dX12_readCart_33 : decode cX12_readCart 33 = .ok (.bipush 99, 2) := by decide +kernel
theorem dX12_readCart_35 : decode cX12_readCart 35 = .ok (.invokevirtual 204, 3) := by decide +kernel
theorem dX12_readCart_38 : decode cX12_readCart 38 = .ok (.istore_n 3, 1) := by decide +kernel
theorem dX12_readCart_39 : decode cX12_readCart 39 = .ok (.aload_n 0, 1) := by decide +kernel
theorem dX12_readCart_40 : decode cX12_readCart 40 = .ok (.getfield 176, 3) := by decide +kernel
theorem dX12_readCart_43 : decode cX12_readCart 43 = .ok (.ifCond .eq 4, 3) := by decide +kernel
theorem dX12_readCart_46 : decode cX12_readCart 46 = .ok (.return_, 1) := by decide +kernel
theorem dX12_readCart_47 : decode cX12_readCart 47 = .ok (.aload_n 0, 1) := by decide +kernel
theorem dX12_readCart_48 : decode cX12_readCart 48 = .ok (.getfield 23, 3) := by decide +kernel
theorem dX12_readCart_51 : decode cX12_readCart 51 = .ok (.bipush 15, 2) := by decide +kernel
theorem dX12_readCart_53 : decode cX12_readCart 53 = .ok (.iload_n 1, 1) := by decide +kernel
theorem dX12_readCart_54 : decode cX12_readCart 54 = .ok (.iadd, 1) := by decide +kernel
theorem dX12_readCart_55 : decode cX12_readCart 55 = .ok (.iload_n 2, 1) := by decide +kernel
theorem dX12_readCart_56 : decode cX12_readCart 56 = .ok (.iastore, 1) := by decide +kernel
theorem dX12_readCart_57 : decode cX12_readCart 57 = .ok (.aload_n 0, 1) := by decide +kernel
theorem dX12_readCart_58 : decode cX12_readCart 58 = .ok (.getfield 23, 3) := by decide +kernel
theorem dX12_readCart_61 : decode cX12_readCart 61 = .ok (.bipush 19, 2) := by decide +kernel
theorem dX12_readCart_63 : decode cX12_readCart 63 = .ok (.iload_n 1, 1) := by decide +kernel
theorem dX12_readCart_64 : decode cX12_readCart 64 = .ok (.iadd, 1) := by decide +kernel
theorem dX12_readCart_65 : decode cX12_readCart 65 = .ok (.iload_n 3, 1) := by decide +kernel
theorem dX12_readCart_66 : decode cX12_readCart 66 = .ok (.iastore, 1) := by decide +kernel
theorem dX12_readCart_67 : decode cX12_readCart 67 = .ok (.aload_n 0, 1) := by decide +kernel
theorem dX12_readCart_68 : decode cX12_readCart 68 = .ok (.getfield 23, 3) := by decide +kernel
theorem dX12_readCart_71 : decode cX12_readCart 71 = .ok (.bipush 14, 2) := by decide +kernel
theorem dX12_readCart_73 : decode cX12_readCart 73 = .ok (.dup2, 1) := by decide +kernel
theorem dX12_readCart_74 : decode cX12_readCart 74 = .ok (.iaload, 1) := by decide +kernel
theorem dX12_readCart_75 : decode cX12_readCart 75 = .ok (.iconst 1, 1) := by decide +kernel
theorem dX12_readCart_76 : decode cX12_readCart 76 = .ok (.iadd, 1) := by decide +kernel
theorem dX12_readCart_77 : decode cX12_readCart 77 = .ok (.iastore, 1) := by decide +kernel
theorem dX12_readCart_78 : decode cX12_readCart 78 = .ok (.return_, 1) := by decide +kernel
theorem dX12_readOne_0 : decode cX12_readOne 0 = .ok (.aload_n 0, 1) := by decide +kernel
theorem dX12_readOne_1 : decode cX12_readOne 1 = .ok (.invokevirtual 196, 3) := by decide +kernel
theorem dX12_readOne_4 : decode cX12_readOne 4 = .ok (.aload_n 0, 1) := by decide +kernel
theorem dX12_readOne_5 : decode cX12_readOne 5 = .ok (.iload_n 2, 1) := by decide +kernel
theorem dX12_readOne_6 : decode cX12_readOne 6 = .ok (.iload_n 3, 1) := by decide +kernel
theorem dX12_readOne_7 : decode cX12_readOne 7 = .ok (.invokevirtual 204, 3) := by decide +kernel
theorem dX12_readOne_10 : decode cX12_readOne 10 = .ok (.istore 4, 2) := by decide +kernel
theorem dX12_readOne_12 : decode cX12_readOne 12 = .ok (.aload_n 0, 1) := by decide +kernel
theorem dX12_readOne_13 : decode cX12_readOne 13 = .ok (.getfield 176, 3) := by decide +kernel
theorem dX12_readOne_16 : decode cX12_readOne 16 = .ok (.ifCond .ne 15, 3) := by decide +kernel
theorem dX12_readOne_19 : decode cX12_readOne 19 = .ok (.aload_n 0, 1) := by decide +kernel
theorem dX12_readOne_20 : decode cX12_readOne 20 = .ok (.getfield 23, 3) := by decide +kernel
theorem dX12_readOne_23 : decode cX12_readOne 23 = .ok (.iload_n 1, 1) := by decide +kernel
theorem dX12_readOne_24 : decode cX12_readOne 24 = .ok (.sipush 219, 3) := by decide +kernel
theorem dX12_readOne_27 : decode cX12_readOne 27 = .ok (.isub, 1) := by decide +kernel
theorem dX12_readOne_28 : decode cX12_readOne 28 = .ok (.iload 4, 2) := by decide +kernel
theorem dX12_readOne_30 : decode cX12_readOne 30 = .ok (.iastore, 1) := by decide +kernel
theorem dX12_readOne_31 : decode cX12_readOne 31 = .ok (.return_, 1) := by decide +kernel
theorem dX12_readRise_0 : decode cX12_readRise 0 = .ok (.aload_n 0, 1) := by decide +kernel
theorem dX12_readRise_1 : decode cX12_readRise 1 = .ok (.invokevirtual 196, 3) := by decide +kernel
theorem dX12_readRise_4 : decode cX12_readRise 4 = .ok (.aload_n 0, 1) := by decide +kernel
theorem dX12_readRise_5 : decode cX12_readRise 5 = .ok (.iconst 0, 1) := by decide +kernel
theorem dX12_readRise_6 : decode cX12_readRise 6 = .ok (.iconst 5, 1) := by decide +kernel
theorem dX12_readRise_7 : decode cX12_readRise 7 = .ok (.invokevirtual 204, 3) := by decide +kernel
theorem dX12_readRise_10 : decode cX12_readRise 10 = .ok (.istore_n 1, 1) := by decide +kernel
theorem dX12_readRise_11 : decode cX12_readRise 11 = .ok (.aload_n 0, 1) := by decide +kernel
theorem dX12_readRise_12 : decode cX12_readRise 12 = .ok (.iconst 0, 1) := by decide +kernel
theorem dX12_readRise_13 : decode cX12_readRise 13 = .ok (.bipush 99, 2) := by decide +kernel
theorem dX12_readRise_15 : decode cX12_readRise 15 = .ok (.invokevirtual 204, 3) := by decide +kernel
theorem dX12_readRise_18 : decode cX12_readRise 18 = .ok (.istore_n 2, 1) := by decide +kernel
theorem dX12_readRise_19 : decode cX12_readRise 19 = .ok (.aload_n 0, 1) := by decide +kernel
theorem dX12_readRise_20 : decode cX12_readRise 20 = .ok (.getfield 176, 3) := by decide +kernel
theorem dX12_readRise_23 : decode cX12_readRise 23 = .ok (.ifCond .ne 13, 3) := by decide +kernel
theorem dX12_readRise_26 : decode cX12_readRise 26 = .ok (.aload_n 0, 1) := by decide +kernel
theorem dX12_readRise_27 : decode cX12_readRise 27 = .ok (.getfield 23, 3) := by decide +kernel
theorem dX12_readRise_30 : decode cX12_readRise 30 = .ok (.bipush 26, 2) := by decide +kernel
theorem dX12_readRise_32 : decode cX12_readRise 32 = .ok (.iload_n 1, 1) := by decide +kernel
theorem dX12_readRise_33 : decode cX12_readRise 33 = .ok (.iadd, 1) := by decide +kernel
theorem dX12_readRise_34 : decode cX12_readRise 34 = .ok (.iload_n 2, 1) := by decide +kernel
theorem dX12_readRise_35 : decode cX12_readRise 35 = .ok (.iastore, 1) := by decide +kernel
theorem dX12_readRise_36 : decode cX12_readRise 36 = .ok (.return_, 1) := by decide +kernel
theorem s_isLetterM {l : Launch} {E : aE} {N : Nat} {S : aS} {M : aM} (hfl : l.stackTraces = false) (c : Int) : aMt l E pX12_isLetter [(0, c)] N S M (aB (97 ≤ c ∧ c ≤ 122) N S M) := by
  refine a_met hfl rfl (by decide +kernel) (Nat.le_of_ble_eq_true rfl) ?_
  refine x_iload_n (pc := 0) dX12_isLetter_0 rfl rfl ?_
  refine x_bipush (pc := 1) dX12_isLetter_1 (by decide) ?_
  refine x_icmp_lt (tgt := 16) (pc := 3) dX12_isLetter_3 (by decide) (fun c_3 => ?_) (fun c_3 => ?_)
  · refine x_iconst (pc := 16) dX12_isLetter_16 (by decide) ?_
    refine x_zreturn (pc := 17) dX12_isLetter_17 rfl (by omega) (by decide) ?_
    first | exact b_1 ⟨by omega, by omega⟩ | exact b_0 (by omega)
  · refine x_iload_n (pc := 6) dX12_isLetter_6 rfl rfl ?_
    refine x_bipush (pc := 7) dX12_isLetter_7 (by decide) ?_
    refine x_icmp_gt (tgt := 16) (pc := 9) dX12_isLetter_9 (by decide) (fun c_9 => ?_) (fun c_9 => ?_)
    · refine x_iconst (pc := 16) dX12_isLetter_16 (by decide) ?_
      refine x_zreturn (pc := 17) dX12_isLetter_17 rfl (by omega) (by decide) ?_
      first | exact b_1 ⟨by omega, by omega⟩ | exact b_0 (by omega)
    · refine x_iconst (pc := 12) dX12_isLetter_12 (by decide) ?_
      refine x_goto (tgt := 17) (pc := 13) dX12_isLetter_13 (by decide) ?_
      refine x_zreturn (pc := 17) dX12_isLetter_17 rfl (by omega) (by decide) ?_
      first | exact b_1 ⟨by omega, by omega⟩ | exact b_0 (by omega)
theorem s_isDigitM {l : Launch} {E : aE} {N : Nat} {S : aS} {M : aM} (hfl : l.stackTraces = false) (c : Int) : aMt l E pX12_isDigit [(0, c)] N S M (aB (48 ≤ c ∧ c ≤ 57) N S M) := by
  refine a_met hfl rfl (by decide +kernel) (Nat.le_of_ble_eq_true rfl) ?_
  refine x_iload_n (pc := 0) dX12_isDigit_0 rfl rfl ?_
  refine x_bipush (pc := 1) dX12_isDigit_1 (by decide) ?_
  refine x_icmp_lt (tgt := 16) (pc := 3) dX12_isDigit_3 (by decide) (fun c_3 => ?_) (fun c_3 => ?_)
  · refine x_iconst (pc := 16) dX12_isDigit_16 (by decide) ?_
    refine x_zreturn (pc := 17) dX12_isDigit_17 rfl (by omega) (by decide) ?_
    first | exact b_1 ⟨by omega, by omega⟩ | exact b_0 (by omega)
  · refine x_iload_n (pc := 6) dX12_isDigit_6 rfl rfl ?_
    refine x_bipush (pc := 7) dX12_isDigit_7 (by decide) ?_
    refine x_icmp_gt (tgt := 16) (pc := 9) dX12_isDigit_9 (by decide) (fun c_9 => ?_) (fun c_9 => ?_)
    · refine x_iconst (pc := 16) dX12_isDigit_16 (by decide) ?_
      refine x_zreturn (pc := 17) dX12_isDigit_17 rfl (by omega) (by decide) ?_
      first | exact b_1 ⟨by omega, by omega⟩ | exact b_0 (by omega)
    · refine x_iconst (pc := 12) dX12_isDigit_12 (by decide) ?_
      refine x_goto (tgt := 17) (pc := 13) dX12_isDigit_13 (by decide) ?_
      refine x_zreturn (pc := 17) dX12_isDigit_17 rfl (by omega) (by decide) ?_
      first | exact b_1 ⟨by omega, by omega⟩ | exact b_0 (by omega)
theorem s_see {l : Launch} {E : aE} {N : Nat} {S : aS} {M : aM} (hfl : l.stackTraces = false) (m : Int) (T : Int → Int) (n : Int) (hS : lyM S m) (h7 : M m 7 = n) (hn : 0 ≤ n ∧ n ≤ 300) (hT : ∀ i, 0 ≤ i → i < n → M (m + 4) i = T i) (k : Int) (hk : 0 ≤ k) : aMt l E pX12_see [(2, m), (0, k)] N S M (aR (0, if k < n then T k else 0) N S M) := by
  refine a_met hfl rfl (by decide +kernel) (Nat.le_of_ble_eq_true rfl) ?_
  refine x_iload_n (pc := 0) dX12_see_0 rfl rfl ?_
  refine x_aload_n (pc := 1) dX12_see_1 rfl rfl ?_
  refine x_getIV (jj := 7) (pc := 2) dX12_see_2 fX12_152 hS.1 rfl (by decide) rfl (by (repeat (first | rewrite [up_s] | rewrite [up_i (by omega)] | rewrite [up_a (by omega)] | rewrite [stM_a (by omega) (by omega)])); first | exact h7 | exact hT k (by omega) (by omega) | rfl) ?_
  refine x_icmp_ge (tgt := 17) (pc := 5) dX12_see_5 (by decide) (fun c_5 => ?_) (fun c_5 => ?_)
  · refine x_iconst (pc := 17) dX12_see_17 (by decide) ?_
    refine x_ireturn (pc := 18) dX12_see_18 rfl (by decide) ?_
    rw [if_neg (by omega)]
    exact ⟨rfl, rfl, rfl, rfl⟩
  · refine x_aload_n (pc := 8) dX12_see_8 rfl rfl ?_
    refine x_getR (jj := 4) (pc := 9) dX12_see_9 fX12_20 hS.1 rfl (by decide) rfl rM_4 ?_
    refine x_iload_n (pc := 12) dX12_see_12 rfl rfl ?_
    refine x_ialoadV (pc := 13) dX12_see_13 (sM_4 hS) (by omega) (by (repeat (first | rewrite [up_s] | rewrite [up_i (by omega)] | rewrite [up_a (by omega)] | rewrite [stM_a (by omega) (by omega)])); first | exact h7 | exact hT k (by omega) (by omega) | rfl) (fun g_13 => ?_)
    refine x_goto (tgt := 18) (pc := 14) dX12_see_14 (by decide) ?_
    refine x_ireturn (pc := 18) dX12_see_18 rfl (by decide) ?_
    rw [if_pos (by omega)]
    exact ⟨rfl, rfl, rfl, rfl⟩
theorem s_next {l : Launch} {E : aE} {N : Nat} {S : aS} {M : aM} (hfl : l.stackTraces = false) (m : Int) (T : Int → Int) (n : Int) (hS : lyM S m) (h7 : M m 7 = n) (hn : 0 ≤ n ∧ n ≤ 300) (hT : ∀ i, 0 ≤ i → i < n → M (m + 4) i = T i) (a : Int) (ha : 0 ≤ a ∧ a ≤ n) (h8 : M m 8 = a) : aMt l E pX12_next [(2, m)] N S M (aU N S (fun M' => RTk M' m T n a ∧ ∀ x y : Int, ¬ (x = m ∧ (y = 8 ∨ y = 9 ∨ y = 10 ∨ y = 11)) → M' x y = M x y)) := by
  refine a_met hfl rfl (by decide +kernel) (Nat.le_of_ble_eq_true rfl) ?_
  have rest : ∀ (i : Int) (M1 : aM), a ≤ i ∧ i ≤ n → M1 m 8 = i → (∀ x y : Int, ¬ (x = m ∧ y = 8) → M1 x y = M x y) → tB T n a = i → aX l E pX12_next (aU N S (fun M' => RTk M' m T n a ∧ ∀ x y : Int, ¬ (x = m ∧ (y = 8 ∨ y = 9 ∨ y = 10 ∨ y = 11)) → M' x y = M x y)) 0 0 N S M1 52 [(0, (2, m))] [] := by
    intro i M1 k1 k2 k3 ei
    refine x_aload_n (pc := 52) dX12_next_52 rfl rfl ?_
    refine x_aload_n (pc := 53) dX12_next_53 rfl rfl ?_
    refine x_getIV (jj := 8) (pc := 54) dX12_next_54 fX12_155 hS.1 rfl (by decide) rfl (by (repeat (first | rewrite [up_s] | rewrite [up_i (by omega)] | rewrite [up_a (by omega)] | rewrite [stM_a (by omega) (by omega)])); first | exact k2 | exact (k3 _ _ (by omega)).trans h7 | exact (k3 _ _ (by omega)).trans (hT i (by omega) (by omega)) | rfl) ?_
    refine x_putI (jj := 9) (pc := 57) dX12_next_57 fX12_158 hS.1 rfl (by decide) rfl ?_
    refine x_aload_n (pc := 60) dX12_next_60 rfl rfl ?_
    refine x_getIV (jj := 8) (pc := 61) dX12_next_61 fX12_155 hS.1 rfl (by decide) rfl (by (repeat (first | rewrite [up_s] | rewrite [up_i (by omega)] | rewrite [up_a (by omega)] | rewrite [stM_a (by omega) (by omega)])); first | exact k2 | exact (k3 _ _ (by omega)).trans h7 | exact (k3 _ _ (by omega)).trans (hT i (by omega) (by omega)) | rfl) ?_
    refine x_aload_n (pc := 64) dX12_next_64 rfl rfl ?_
    refine x_getIV (jj := 7) (pc := 65) dX12_next_65 fX12_152 hS.1 rfl (by decide) rfl (by (repeat (first | rewrite [up_s] | rewrite [up_i (by omega)] | rewrite [up_a (by omega)] | rewrite [stM_a (by omega) (by omega)])); first | exact k2 | exact (k3 _ _ (by omega)).trans h7 | exact (k3 _ _ (by omega)).trans (hT i (by omega) (by omega)) | rfl) ?_
    refine x_icmp_lt (tgt := 77) (pc := 68) dX12_next_68 (by decide) (fun c_68 => ?_) (fun c_68 => ?_)
    · have hin : i < n := by omega
      refine x_aload_n (pc := 77) dX12_next_77 rfl rfl ?_
      refine x_getR (jj := 4) (pc := 78) dX12_next_78 fX12_20 hS.1 rfl (by decide) rfl rM_4 ?_
      refine x_aload_n (pc := 81) dX12_next_81 rfl rfl ?_
      refine x_getIV (jj := 8) (pc := 82) dX12_next_82 fX12_155 hS.1 rfl (by decide) rfl (by (repeat (first | rewrite [up_s] | rewrite [up_i (by omega)] | rewrite [up_a (by omega)] | rewrite [stM_a (by omega) (by omega)])); first | exact k2 | exact (k3 _ _ (by omega)).trans h7 | exact (k3 _ _ (by omega)).trans (hT i (by omega) (by omega)) | rfl) ?_
      refine x_ialoadV (pc := 85) dX12_next_85 (sM_4 hS) (by omega) (by (repeat (first | rewrite [up_s] | rewrite [up_i (by omega)] | rewrite [up_a (by omega)] | rewrite [stM_a (by omega) (by omega)])); first | exact k2 | exact (k3 _ _ (by omega)).trans h7 | exact (k3 _ _ (by omega)).trans (hT i (by omega) (by omega)) | rfl) (fun g_85 => ?_)
      refine x_istore_n (pc := 86) dX12_next_86 rfl (by decide) rfl ?_
      refine x_iload_n (pc := 87) dX12_next_87 rfl rfl ?_
      refine x_callS1 (pc := 88) dX12_next_88 rfl kX12_164 (s_isLetterM hfl (T i)) rfl (Nat.le_of_ble_eq_true rfl) (k_B (fun q_88 => ?_) (fun q_88 => ?_)) n_B
      · refine x_if_eq (tgt := 129) (pc := 91) dX12_next_91 (by decide) (fun c => absurd c (by decide)) (fun _ => ?_)
        have hle : leB (T i) = true := leB_t.mpr q_88
        have hEv := tE_val (T := T) ei hin
        rw [if_pos hle] at hEv
        have lp1 := a_loop2 (fun j M2 => (i ≤ j ∧ j ≤ n) ∧ M2 m 8 = j ∧ M2 m 9 = i ∧ (∀ x y : Int, ¬ (x = m ∧ (y = 8 ∨ y = 9)) → M2 x y = M x y) ∧ runV leB T n j = tE T n a) (fun j M2 => (n - j).toNat) (fun j M2 => aX l E pX12_next (aU N S (fun M' => RTk M' m T n a ∧ ∀ x y : Int, ¬ (x = m ∧ (y = 8 ∨ y = 9 ∨ y = 10 ∨ y = 11)) → M' x y = M x y)) 0 0 N S M2 94 [(0, (2, m)), (1, (0, T i))] []) (by
          intro j M2 hJ ih2
          obtain ⟨l1, l2, l3, l4, l5⟩ := hJ
          refine x_aload_n (pc := 94) dX12_next_94 rfl rfl ?_
          refine x_aload_n (pc := 95) dX12_next_95 rfl rfl ?_
          refine x_getIV (jj := 8) (pc := 96) dX12_next_96 fX12_155 hS.1 rfl (by decide) rfl (by (repeat (first | rewrite [up_s] | rewrite [up_i (by omega)] | rewrite [up_a (by omega)] | rewrite [stM_a (by omega) (by omega)])); first | exact l2 | exact l3 | exact (l4 _ _ (by omega)).trans h7 | rfl) ?_
          refine x_callV1 (pc := 99) dX12_next_99 rfl kX12_167 (s_see hfl m T n hS ((l4 _ _ (by omega)).trans h7) hn (fun x p q => (l4 _ _ (by omega)).trans (hT x p q)) j (by omega)) hS.1 rfl rfl (Nat.le_of_ble_eq_true rfl) (k_R ?_) n_R
          refine x_callS1 (pc := 102) dX12_next_102 rfl kX12_164 (s_isLetterM hfl (if j < n then T j else 0)) rfl (Nat.le_of_ble_eq_true rfl) (k_B (fun q_102 => ?_) (fun q_102 => ?_)) n_B
          · refine x_if_eq (tgt := 121) (pc := 105) dX12_next_105 (by decide) (fun c => absurd c (by decide)) (fun _ => ?_)
            refine x_aload_n (pc := 108) dX12_next_108 rfl rfl ?_
            refine x_dup (pc := 109) dX12_next_109 rfl ?_
            refine x_getIV (jj := 8) (pc := 110) dX12_next_110 fX12_155 hS.1 rfl (by decide) rfl (by (repeat (first | rewrite [up_s] | rewrite [up_i (by omega)] | rewrite [up_a (by omega)] | rewrite [stM_a (by omega) (by omega)])); first | exact l2 | exact l3 | exact (l4 _ _ (by omega)).trans h7 | rfl) ?_
            refine x_iconst (pc := 113) dX12_next_113 (by decide) ?_
            refine x_iadd (pc := 114) dX12_next_114 (by omega) ?_
            refine x_putI (jj := 8) (pc := 115) dX12_next_115 fX12_155 hS.1 rfl (by decide) rfl ?_
            refine x_goto (tgt := 94) (pc := 118) dX12_next_118 (by decide) ?_
            obtain ⟨y1, y2⟩ := seeV_t q_102 (by decide)
            exact x_lo (lo' := [(0, (2, m)), (1, (0, T i))]) ⟨rfl, rfl, trivial⟩ (ih2 (j + 1) _ ⟨⟨by omega, by omega⟩, up_s, (up_i (by omega)).trans l3, fun x y q => (up_w (by omega)).trans (l4 x y q), by rw [← l5]; exact (runV_1 y1 (leB_t.mpr y2)).symm⟩ (by omega))
          · refine x_if_eq (tgt := 121) (pc := 105) dX12_next_105 (by decide) (fun _ => ?_) (fun c => absurd c (by decide))
            refine x_aload_n (pc := 121) dX12_next_121 rfl rfl ?_
            refine x_iconst (pc := 122) dX12_next_122 (by decide) ?_
            refine x_putI (jj := 10) (pc := 123) dX12_next_123 fX12_161 hS.1 rfl (by decide) rfl ?_
            refine x_goto (tgt := 262) (pc := 126) dX12_next_126 (by decide) ?_
            refine x_return (pc := 262) dX12_next_262 rfl (by decide) ?_
            refine ⟨rfl, rfl, rfl, ⟨?_, ?_, ?_, fun q => ?_⟩, fun x y q => (up_w (by omega)).trans (l4 x y (by omega))⟩
            · rw [up_s, tK_val ei hin, if_pos hle]
            · rw [up_i (by omega), ei]; exact l3
            · rw [up_i (by omega), l2, ← l5]
              exact (runV_0 fun q => q_102 (by rw [if_pos q.1]; exact leB_t.mp q.2)).symm
            · rw [tK_val ei hin, if_pos hle] at q; omega)
        exact x_lo (lo' := [(0, (2, m)), (1, (0, T i))]) ⟨rfl, rfl, trivial⟩ (lp1 i _ ⟨⟨by omega, by omega⟩, (up_i (by omega)).trans k2, up_s, fun x y q => (up_w (by omega)).trans (k3 x y (by omega)), hEv.symm⟩)
      · refine x_if_eq (tgt := 129) (pc := 91) dX12_next_91 (by decide) (fun _ => ?_) (fun c => absurd c (by decide))
        refine x_iload_n (pc := 129) dX12_next_129 rfl rfl ?_
        refine x_callS1 (pc := 130) dX12_next_130 rfl kX12_170 (s_isDigitM hfl (T i)) rfl (Nat.le_of_ble_eq_true rfl) (k_B (fun q_130 => ?_) (fun q_130 => ?_)) n_B
        · refine x_if_eq (tgt := 237) (pc := 133) dX12_next_133 (by decide) (fun c => absurd c (by decide)) (fun _ => ?_)
          refine x_aload_n (pc := 136) dX12_next_136 rfl rfl ?_
          refine x_iconst (pc := 137) dX12_next_137 (by decide) ?_
          refine x_putI (jj := 11) (pc := 138) dX12_next_138 fX12_173 hS.1 rfl (by decide) rfl ?_
          have hle : ¬ leB (T i) = true := fun q => q_88 (leB_t.mp q)
          have hdg : dgB (T i) = true := dgB_t.mpr q_130
          have hEv := tE_val (T := T) ei hin
          rw [if_neg hle, if_pos hdg] at hEv
          have lp2 := a_loop2 (fun j M2 => (i ≤ j ∧ j ≤ n) ∧ M2 m 8 = j ∧ M2 m 9 = i ∧ (∀ x y : Int, ¬ (x = m ∧ (y = 8 ∨ y = 9 ∨ y = 11)) → M2 x y = M x y) ∧ runV dgB T n j = tE T n a ∧ (0 ≤ M2 m 11 ∧ M2 m 11 ≤ 999) ∧ (j - i ≤ 2 → M2 m 11 ≤ 99) ∧ (j - i ≤ 1 → M2 m 11 ≤ 9) ∧ (j - i ≤ 0 → M2 m 11 = 0) ∧ (j - i ≤ 3 → M2 m 11 = dvalF T i (j - i).toNat)) (fun j M2 => (n - j).toNat) (fun j M2 => aX l E pX12_next (aU N S (fun M' => RTk M' m T n a ∧ ∀ x y : Int, ¬ (x = m ∧ (y = 8 ∨ y = 9 ∨ y = 10 ∨ y = 11)) → M' x y = M x y)) 0 0 N S M2 141 [(0, (2, m)), (1, (0, T i))] []) (by
            intro j M2 hJ ih2
            obtain ⟨l1, l2, l3, l4, l5, l6, l7, l8, l9, l10⟩ := hJ
            refine x_aload_n (pc := 141) dX12_next_141 rfl rfl ?_
            refine x_aload_n (pc := 142) dX12_next_142 rfl rfl ?_
            refine x_getIV (jj := 8) (pc := 143) dX12_next_143 fX12_155 hS.1 rfl (by decide) rfl (by (repeat (first | rewrite [up_s] | rewrite [up_i (by omega)] | rewrite [up_a (by omega)] | rewrite [stM_a (by omega) (by omega)])); first | exact l2 | exact l3 | exact (l4 _ _ (by omega)).trans h7 | exact (l4 _ _ (by omega)).trans (hT j (by omega) (by omega)) | rfl) ?_
            refine x_callV1 (pc := 146) dX12_next_146 rfl kX12_167 (s_see hfl m T n hS ((l4 _ _ (by omega)).trans h7) hn (fun x p q => (l4 _ _ (by omega)).trans (hT x p q)) j (by omega)) hS.1 rfl rfl (Nat.le_of_ble_eq_true rfl) (k_R ?_) n_R
            refine x_callS1 (pc := 149) dX12_next_149 rfl kX12_170 (s_isDigitM hfl (if j < n then T j else 0)) rfl (Nat.le_of_ble_eq_true rfl) (k_B (fun q_149 => ?_) (fun q_149 => ?_)) n_B
            · refine x_if_eq (tgt := 212) (pc := 152) dX12_next_152 (by decide) (fun c => absurd c (by decide)) (fun _ => ?_)
              have hy9 := seeV_t q_149 (by decide)
              refine x_aload_n (pc := 155) dX12_next_155 rfl rfl ?_
              refine x_aload_n (pc := 156) dX12_next_156 rfl rfl ?_
              refine x_getIV (jj := 8) (pc := 157) dX12_next_157 fX12_155 hS.1 rfl (by decide) rfl (by (repeat (first | rewrite [up_s] | rewrite [up_i (by omega)] | rewrite [up_a (by omega)] | rewrite [stM_a (by omega) (by omega)])); first | exact l2 | exact l3 | exact (l4 _ _ (by omega)).trans h7 | exact (l4 _ _ (by omega)).trans (hT j (by omega) (by omega)) | rfl) ?_
              refine x_aload_n (pc := 160) dX12_next_160 rfl rfl ?_
              refine x_getIV (jj := 9) (pc := 161) dX12_next_161 fX12_158 hS.1 rfl (by decide) rfl (by (repeat (first | rewrite [up_s] | rewrite [up_i (by omega)] | rewrite [up_a (by omega)] | rewrite [stM_a (by omega) (by omega)])); first | exact l2 | exact l3 | exact (l4 _ _ (by omega)).trans h7 | exact (l4 _ _ (by omega)).trans (hT j (by omega) (by omega)) | rfl) ?_
              refine x_isub (pc := 164) dX12_next_164 (by omega) ?_
              refine x_iconst (pc := 165) dX12_next_165 (by decide) ?_
              refine x_icmp_ge (tgt := 192) (pc := 166) dX12_next_166 (by decide) (fun c_166 => ?_) (fun c_166 => ?_)
              · refine x_aload_n (pc := 192) dX12_next_192 rfl rfl ?_
                refine x_getIV (jj := 11) (pc := 193) dX12_next_193 fX12_173 hS.1 rfl (by decide) rfl (by (repeat (first | rewrite [up_s] | rewrite [up_i (by omega)] | rewrite [up_a (by omega)] | rewrite [stM_a (by omega) (by omega)])); first | exact l2 | exact l3 | exact (l4 _ _ (by omega)).trans h7 | exact (l4 _ _ (by omega)).trans (hT j (by omega) (by omega)) | rfl) ?_
                refine x_putI (jj := 11) (pc := 196) dX12_next_196 fX12_173 hS.1 rfl (by decide) rfl ?_
                refine x_aload_n (pc := 199) dX12_next_199 rfl rfl ?_
                refine x_dup (pc := 200) dX12_next_200 rfl ?_
                refine x_getIV (jj := 8) (pc := 201) dX12_next_201 fX12_155 hS.1 rfl (by decide) rfl (by (repeat (first | rewrite [up_s] | rewrite [up_i (by omega)] | rewrite [up_a (by omega)] | rewrite [stM_a (by omega) (by omega)])); first | exact l2 | exact l3 | exact (l4 _ _ (by omega)).trans h7 | exact (l4 _ _ (by omega)).trans (hT j (by omega) (by omega)) | rfl) ?_
                refine x_iconst (pc := 204) dX12_next_204 (by decide) ?_
                refine x_iadd (pc := 205) dX12_next_205 (by omega) ?_
                refine x_putI (jj := 8) (pc := 206) dX12_next_206 fX12_155 hS.1 rfl (by decide) rfl ?_
                refine x_goto (tgt := 141) (pc := 209) dX12_next_209 (by decide) ?_
                obtain ⟨y1, y2⟩ := seeV_t q_149 (by decide)
                refine x_lo (lo' := [(0, (2, m)), (1, (0, T i))]) ⟨rfl, rfl, trivial⟩ (ih2 (j + 1) _ ⟨⟨by omega, by omega⟩, up_s, by rw [up_i (by omega), up_i (by omega)]; exact l3, fun x y q => (up_w (by omega)).trans ((up_w (by omega)).trans (l4 x y q)), by rw [← l5]; exact (runV_1 y1 (dgB_t.mpr y2)).symm, ?_, fun q => ?_, fun q => ?_, fun q => ?_, fun q => ?_⟩ (by omega))
                · rw [up_i (by omega), up_s]; omega
                · rw [up_i (by omega), up_s]; omega
                · rw [up_i (by omega), up_s]; omega
                · rw [up_i (by omega), up_s]; omega
                · rw [up_i (by omega), up_s, dv_1 (by omega)]
                  omega
              · refine x_bipush (pc := 169) dX12_next_169 (by decide) ?_
                refine x_aload_n (pc := 171) dX12_next_171 rfl rfl ?_
                refine x_getIV (jj := 11) (pc := 172) dX12_next_172 fX12_173 hS.1 rfl (by decide) rfl (by (repeat (first | rewrite [up_s] | rewrite [up_i (by omega)] | rewrite [up_a (by omega)] | rewrite [stM_a (by omega) (by omega)])); first | exact l2 | exact l3 | exact (l4 _ _ (by omega)).trans h7 | exact (l4 _ _ (by omega)).trans (hT j (by omega) (by omega)) | rfl) ?_
                refine x_imul (pc := 175) dX12_next_175 (by omega) ?_
                refine x_aload_n (pc := 176) dX12_next_176 rfl rfl ?_
                refine x_getR (jj := 4) (pc := 177) dX12_next_177 fX12_20 hS.1 rfl (by decide) rfl rM_4 ?_
                refine x_aload_n (pc := 180) dX12_next_180 rfl rfl ?_
                refine x_getIV (jj := 8) (pc := 181) dX12_next_181 fX12_155 hS.1 rfl (by decide) rfl (by (repeat (first | rewrite [up_s] | rewrite [up_i (by omega)] | rewrite [up_a (by omega)] | rewrite [stM_a (by omega) (by omega)])); first | exact l2 | exact l3 | exact (l4 _ _ (by omega)).trans h7 | exact (l4 _ _ (by omega)).trans (hT j (by omega) (by omega)) | rfl) ?_
                refine x_ialoadV (pc := 184) dX12_next_184 (sM_4 hS) (by omega) (by (repeat (first | rewrite [up_s] | rewrite [up_i (by omega)] | rewrite [up_a (by omega)] | rewrite [stM_a (by omega) (by omega)])); first | exact l2 | exact l3 | exact (l4 _ _ (by omega)).trans h7 | exact (l4 _ _ (by omega)).trans (hT j (by omega) (by omega)) | rfl) (fun g_184 => ?_)
                refine x_iadd (pc := 185) dX12_next_185 (by omega) ?_
                refine x_bipush (pc := 186) dX12_next_186 (by decide) ?_
                refine x_isub (pc := 188) dX12_next_188 (by omega) ?_
                refine x_goto (tgt := 196) (pc := 189) dX12_next_189 (by decide) ?_
                refine x_putI (jj := 11) (pc := 196) dX12_next_196 fX12_173 hS.1 rfl (by decide) rfl ?_
                refine x_aload_n (pc := 199) dX12_next_199 rfl rfl ?_
                refine x_dup (pc := 200) dX12_next_200 rfl ?_
                refine x_getIV (jj := 8) (pc := 201) dX12_next_201 fX12_155 hS.1 rfl (by decide) rfl (by (repeat (first | rewrite [up_s] | rewrite [up_i (by omega)] | rewrite [up_a (by omega)] | rewrite [stM_a (by omega) (by omega)])); first | exact l2 | exact l3 | exact (l4 _ _ (by omega)).trans h7 | exact (l4 _ _ (by omega)).trans (hT j (by omega) (by omega)) | rfl) ?_
                refine x_iconst (pc := 204) dX12_next_204 (by decide) ?_
                refine x_iadd (pc := 205) dX12_next_205 (by omega) ?_
                refine x_putI (jj := 8) (pc := 206) dX12_next_206 fX12_155 hS.1 rfl (by decide) rfl ?_
                refine x_goto (tgt := 141) (pc := 209) dX12_next_209 (by decide) ?_
                obtain ⟨y1, y2⟩ := seeV_t q_149 (by decide)
                refine x_lo (lo' := [(0, (2, m)), (1, (0, T i))]) ⟨rfl, rfl, trivial⟩ (ih2 (j + 1) _ ⟨⟨by omega, by omega⟩, up_s, by rw [up_i (by omega), up_i (by omega)]; exact l3, fun x y q => (up_w (by omega)).trans ((up_w (by omega)).trans (l4 x y q)), by rw [← l5]; exact (runV_1 y1 (dgB_t.mpr y2)).symm, ?_, fun q => ?_, fun q => ?_, fun q => ?_, fun q => ?_⟩ (by omega))
                · rw [up_i (by omega), up_s]; omega
                · rw [up_i (by omega), up_s]; omega
                · rw [up_i (by omega), up_s]; omega
                · rw [up_i (by omega), up_s]; omega
                · rw [up_i (by omega), up_s, dv_1 (by omega)]
                  have y3 := l10 (by omega)
                  omega
            · refine x_if_eq (tgt := 212) (pc := 152) dX12_next_152 (by decide) (fun _ => ?_) (fun c => absurd c (by decide))
              refine x_aload_n (pc := 212) dX12_next_212 rfl rfl ?_
              refine x_aload_n (pc := 213) dX12_next_213 rfl rfl ?_
              refine x_getIV (jj := 8) (pc := 214) dX12_next_214 fX12_155 hS.1 rfl (by decide) rfl (by (repeat (first | rewrite [up_s] | rewrite [up_i (by omega)] | rewrite [up_a (by omega)] | rewrite [stM_a (by omega) (by omega)])); first | exact l2 | exact l3 | exact (l4 _ _ (by omega)).trans h7 | exact (l4 _ _ (by omega)).trans (hT j (by omega) (by omega)) | rfl) ?_
              refine x_aload_n (pc := 217) dX12_next_217 rfl rfl ?_
              refine x_getIV (jj := 9) (pc := 218) dX12_next_218 fX12_158 hS.1 rfl (by decide) rfl (by (repeat (first | rewrite [up_s] | rewrite [up_i (by omega)] | rewrite [up_a (by omega)] | rewrite [stM_a (by omega) (by omega)])); first | exact l2 | exact l3 | exact (l4 _ _ (by omega)).trans h7 | exact (l4 _ _ (by omega)).trans (hT j (by omega) (by omega)) | rfl) ?_
              refine x_isub (pc := 221) dX12_next_221 (by omega) ?_
              refine x_iconst (pc := 222) dX12_next_222 (by decide) ?_
              refine x_icmp_le (tgt := 230) (pc := 223) dX12_next_223 (by decide) (fun c_223 => ?_) (fun c_223 => ?_)
              · refine x_iconst (pc := 230) dX12_next_230 (by decide) ?_
                refine x_putI (jj := 10) (pc := 231) dX12_next_231 fX12_161 hS.1 rfl (by decide) rfl ?_
                refine x_goto (tgt := 262) (pc := 234) dX12_next_234 (by decide) ?_
                refine x_return (pc := 262) dX12_next_262 rfl (by decide) ?_
                have ej : tE T n a = j := by rw [← l5]; exact runV_0 fun q => q_149 (by rw [if_pos q.1]; exact dgB_t.mp q.2)
                refine ⟨rfl, rfl, rfl, ⟨?_, ?_, ?_, fun q => ?_⟩, fun x y q => (up_w (by omega)).trans (l4 x y (by omega))⟩
                · rw [up_s, tK_val ei hin, if_neg hle, if_pos hdg, ej, if_neg (by omega)]
                · rw [up_i (by omega), ei]; exact l3
                · rw [up_i (by omega), l2, ej]
                · rw [up_i (by omega), l10 (by omega)]
                  unfold tV
                  rw [ei, ej]
              · refine x_iconst (pc := 226) dX12_next_226 (by decide) ?_
                refine x_goto (tgt := 231) (pc := 227) dX12_next_227 (by decide) ?_
                refine x_putI (jj := 10) (pc := 231) dX12_next_231 fX12_161 hS.1 rfl (by decide) rfl ?_
                refine x_goto (tgt := 262) (pc := 234) dX12_next_234 (by decide) ?_
                refine x_return (pc := 262) dX12_next_262 rfl (by decide) ?_
                have ej : tE T n a = j := by rw [← l5]; exact runV_0 fun q => q_149 (by rw [if_pos q.1]; exact dgB_t.mp q.2)
                refine ⟨rfl, rfl, rfl, ⟨?_, ?_, ?_, fun q => ?_⟩, fun x y q => (up_w (by omega)).trans (l4 x y (by omega))⟩
                · rw [up_s, tK_val ei hin, if_neg hle, if_pos hdg, ej, if_pos (by omega)]
                · rw [up_i (by omega), ei]; exact l3
                · rw [up_i (by omega), l2, ej]
                · rw [tK_val ei hin, if_neg hle, if_pos hdg, ej, if_pos (by omega)] at q; omega)
          refine x_lo (lo' := [(0, (2, m)), (1, (0, T i))]) ⟨rfl, rfl, trivial⟩ (lp2 i _ ⟨⟨by omega, by omega⟩, by rw [up_i (by omega), up_i (by omega)]; exact k2, by rw [up_i (by omega)]; exact up_s, fun x y q => (up_w (by omega)).trans ((up_w (by omega)).trans (k3 x y (by omega))), hEv.symm, ?_, fun q => ?_, fun q => ?_, fun q => ?_, fun q => ?_⟩)
          · rw [up_s]; omega
          · rw [up_s]; omega
          · rw [up_s]; omega
          · rw [up_s]
          · rw [up_s, show (i - i).toNat = 0 by omega]; rfl
        · refine x_if_eq (tgt := 237) (pc := 133) dX12_next_133 (by decide) (fun _ => ?_) (fun c => absurd c (by decide))
          refine x_aload_n (pc := 237) dX12_next_237 rfl rfl ?_
          refine x_iload_n (pc := 238) dX12_next_238 rfl rfl ?_
          refine x_bipush (pc := 239) dX12_next_239 (by decide) ?_
          refine x_icmp_ne (tgt := 248) (pc := 241) dX12_next_241 (by decide) (fun c_241 => ?_) (fun c_241 => ?_)
          · refine x_iconst (pc := 248) dX12_next_248 (by decide) ?_
            refine x_putI (jj := 10) (pc := 249) dX12_next_249 fX12_161 hS.1 rfl (by decide) rfl ?_
            refine x_aload_n (pc := 252) dX12_next_252 rfl rfl ?_
            refine x_dup (pc := 253) dX12_next_253 rfl ?_
            refine x_getIV (jj := 8) (pc := 254) dX12_next_254 fX12_155 hS.1 rfl (by decide) rfl (by (repeat (first | rewrite [up_s] | rewrite [up_i (by omega)] | rewrite [up_a (by omega)] | rewrite [stM_a (by omega) (by omega)])); first | exact k2 | exact (k3 _ _ (by omega)).trans h7 | exact (k3 _ _ (by omega)).trans (hT i (by omega) (by omega)) | rfl) ?_
            refine x_iconst (pc := 257) dX12_next_257 (by decide) ?_
            refine x_iadd (pc := 258) dX12_next_258 (by omega) ?_
            refine x_putI (jj := 8) (pc := 259) dX12_next_259 fX12_155 hS.1 rfl (by decide) rfl ?_
            refine x_return (pc := 262) dX12_next_262 rfl (by decide) ?_
            have hle : ¬ leB (T i) = true := fun q => q_88 (leB_t.mp q)
            have hdg : ¬ dgB (T i) = true := fun q => q_130 (dgB_t.mp q)
            have hkv : tK T n a = 4 := by rw [tK_val ei hin, if_neg hle, if_neg hdg, if_neg (by omega)]
            refine ⟨rfl, rfl, rfl, ⟨?_, ?_, ?_, fun q => ?_⟩, fun x y q => (up_w (by omega)).trans ((up_w (by omega)).trans ((up_w (by omega)).trans (k3 x y (by omega))))⟩
            · rw [up_i (by omega), up_s, hkv]
            · rw [up_i (by omega), up_i (by omega), up_s, ei]
            · rw [up_s, tE_val ei hin, if_neg hle, if_neg hdg]
            · omega
          · refine x_iconst (pc := 244) dX12_next_244 (by decide) ?_
            refine x_goto (tgt := 249) (pc := 245) dX12_next_245 (by decide) ?_
            refine x_putI (jj := 10) (pc := 249) dX12_next_249 fX12_161 hS.1 rfl (by decide) rfl ?_
            refine x_aload_n (pc := 252) dX12_next_252 rfl rfl ?_
            refine x_dup (pc := 253) dX12_next_253 rfl ?_
            refine x_getIV (jj := 8) (pc := 254) dX12_next_254 fX12_155 hS.1 rfl (by decide) rfl (by (repeat (first | rewrite [up_s] | rewrite [up_i (by omega)] | rewrite [up_a (by omega)] | rewrite [stM_a (by omega) (by omega)])); first | exact k2 | exact (k3 _ _ (by omega)).trans h7 | exact (k3 _ _ (by omega)).trans (hT i (by omega) (by omega)) | rfl) ?_
            refine x_iconst (pc := 257) dX12_next_257 (by decide) ?_
            refine x_iadd (pc := 258) dX12_next_258 (by omega) ?_
            refine x_putI (jj := 8) (pc := 259) dX12_next_259 fX12_155 hS.1 rfl (by decide) rfl ?_
            refine x_return (pc := 262) dX12_next_262 rfl (by decide) ?_
            have hle : ¬ leB (T i) = true := fun q => q_88 (leB_t.mp q)
            have hdg : ¬ dgB (T i) = true := fun q => q_130 (dgB_t.mp q)
            have hkv : tK T n a = 3 := by rw [tK_val ei hin, if_neg hle, if_neg hdg, if_pos (by omega)]
            refine ⟨rfl, rfl, rfl, ⟨?_, ?_, ?_, fun q => ?_⟩, fun x y q => (up_w (by omega)).trans ((up_w (by omega)).trans ((up_w (by omega)).trans (k3 x y (by omega))))⟩
            · rw [up_i (by omega), up_s, hkv]
            · rw [up_i (by omega), up_i (by omega), up_s, ei]
            · rw [up_s, tE_val ei hin, if_neg hle, if_neg hdg]
            · omega
    · refine x_aload_n (pc := 71) dX12_next_71 rfl rfl ?_
      refine x_iconst (pc := 72) dX12_next_72 (by decide) ?_
      refine x_putI (jj := 10) (pc := 73) dX12_next_73 fX12_161 hS.1 rfl (by decide) rfl ?_
      refine x_return (pc := 76) dX12_next_76 rfl (by decide) ?_
      refine ⟨rfl, rfl, rfl, ⟨?_, ?_, ?_, fun q => ?_⟩, fun x y q => (up_w (by omega)).trans ((up_w (by omega)).trans (k3 x y (by omega)))⟩
      · rw [up_s]; exact (tK_0.mpr (by omega)).symm
      · rw [up_i (by omega), up_s, ei]
      · rw [up_i (by omega), up_i (by omega), k2]
        unfold tE
        rw [ei, if_pos (by omega)]
      · rw [tK_0.mpr (by omega)] at q; omega
  have lp0 := a_loop2 (fun i M1 => (a ≤ i ∧ i ≤ n) ∧ M1 m 8 = i ∧ (∀ x y : Int, ¬ (x = m ∧ y = 8) → M1 x y = M x y) ∧ runV blB T n i = tB T n a) (fun i M1 => (n - i).toNat) (fun i M1 => aX l E pX12_next (aU N S (fun M' => RTk M' m T n a ∧ ∀ x y : Int, ¬ (x = m ∧ (y = 8 ∨ y = 9 ∨ y = 10 ∨ y = 11)) → M' x y = M x y)) 0 0 N S M1 0 [(0, (2, m))] []) (by
    intro i M1 hI ih
    obtain ⟨k1, k2, k3, k4⟩ := hI
    refine x_aload_n (pc := 0) dX12_next_0 rfl rfl ?_
    refine x_getIV (jj := 8) (pc := 1) dX12_next_1 fX12_155 hS.1 rfl (by decide) rfl (by (repeat (first | rewrite [up_s] | rewrite [up_i (by omega)] | rewrite [up_a (by omega)] | rewrite [stM_a (by omega) (by omega)])); first | exact k2 | exact (k3 _ _ (by omega)).trans h7 | exact (k3 _ _ (by omega)).trans (hT i (by omega) (by omega)) | rfl) ?_
    refine x_aload_n (pc := 4) dX12_next_4 rfl rfl ?_
    refine x_getIV (jj := 7) (pc := 5) dX12_next_5 fX12_152 hS.1 rfl (by decide) rfl (by (repeat (first | rewrite [up_s] | rewrite [up_i (by omega)] | rewrite [up_a (by omega)] | rewrite [stM_a (by omega) (by omega)])); first | exact k2 | exact (k3 _ _ (by omega)).trans h7 | exact (k3 _ _ (by omega)).trans (hT i (by omega) (by omega)) | rfl) ?_
    refine x_icmp_ge (tgt := 52) (pc := 8) dX12_next_8 (by decide) (fun c_8 => ?_) (fun c_8 => ?_)
    · exact rest i M1 k1 k2 k3 (by rw [← k4]; exact runV_0 fun q => by have q2 := blB_t.mp q.2; omega)
    · refine x_aload_n (pc := 11) dX12_next_11 rfl rfl ?_
      refine x_getR (jj := 4) (pc := 12) dX12_next_12 fX12_20 hS.1 rfl (by decide) rfl rM_4 ?_
      refine x_aload_n (pc := 15) dX12_next_15 rfl rfl ?_
      refine x_getIV (jj := 8) (pc := 16) dX12_next_16 fX12_155 hS.1 rfl (by decide) rfl (by (repeat (first | rewrite [up_s] | rewrite [up_i (by omega)] | rewrite [up_a (by omega)] | rewrite [stM_a (by omega) (by omega)])); first | exact k2 | exact (k3 _ _ (by omega)).trans h7 | exact (k3 _ _ (by omega)).trans (hT i (by omega) (by omega)) | rfl) ?_
      refine x_ialoadV (pc := 19) dX12_next_19 (sM_4 hS) (by omega) (by (repeat (first | rewrite [up_s] | rewrite [up_i (by omega)] | rewrite [up_a (by omega)] | rewrite [stM_a (by omega) (by omega)])); first | exact k2 | exact (k3 _ _ (by omega)).trans h7 | exact (k3 _ _ (by omega)).trans (hT i (by omega) (by omega)) | rfl) (fun g_19 => ?_)
      refine x_bipush (pc := 20) dX12_next_20 (by decide) ?_
      refine x_icmp_eq (tgt := 39) (pc := 22) dX12_next_22 (by decide) (fun c_22 => ?_) (fun c_22 => ?_)
      · refine x_aload_n (pc := 39) dX12_next_39 rfl rfl ?_
        refine x_dup (pc := 40) dX12_next_40 rfl ?_
        refine x_getIV (jj := 8) (pc := 41) dX12_next_41 fX12_155 hS.1 rfl (by decide) rfl (by (repeat (first | rewrite [up_s] | rewrite [up_i (by omega)] | rewrite [up_a (by omega)] | rewrite [stM_a (by omega) (by omega)])); first | exact k2 | exact (k3 _ _ (by omega)).trans h7 | exact (k3 _ _ (by omega)).trans (hT i (by omega) (by omega)) | rfl) ?_
        refine x_iconst (pc := 44) dX12_next_44 (by decide) ?_
        refine x_iadd (pc := 45) dX12_next_45 (by omega) ?_
        refine x_putI (jj := 8) (pc := 46) dX12_next_46 fX12_155 hS.1 rfl (by decide) rfl ?_
        refine x_goto (tgt := 0) (pc := 49) dX12_next_49 (by decide) ?_
        exact x_lo (lo' := [(0, (2, m))]) ⟨rfl, trivial⟩ (ih (i + 1) _ ⟨⟨by omega, by omega⟩, up_s, fun x y q => (up_w q).trans (k3 x y q), by rw [← k4]; exact (runV_1 (by omega) (blB_t.mpr (by omega))).symm⟩ (by omega))
      · refine x_aload_n (pc := 25) dX12_next_25 rfl rfl ?_
        refine x_getR (jj := 4) (pc := 26) dX12_next_26 fX12_20 hS.1 rfl (by decide) rfl rM_4 ?_
        refine x_aload_n (pc := 29) dX12_next_29 rfl rfl ?_
        refine x_getIV (jj := 8) (pc := 30) dX12_next_30 fX12_155 hS.1 rfl (by decide) rfl (by (repeat (first | rewrite [up_s] | rewrite [up_i (by omega)] | rewrite [up_a (by omega)] | rewrite [stM_a (by omega) (by omega)])); first | exact k2 | exact (k3 _ _ (by omega)).trans h7 | exact (k3 _ _ (by omega)).trans (hT i (by omega) (by omega)) | rfl) ?_
        refine x_ialoadV (pc := 33) dX12_next_33 (sM_4 hS) (by omega) (by (repeat (first | rewrite [up_s] | rewrite [up_i (by omega)] | rewrite [up_a (by omega)] | rewrite [stM_a (by omega) (by omega)])); first | exact k2 | exact (k3 _ _ (by omega)).trans h7 | exact (k3 _ _ (by omega)).trans (hT i (by omega) (by omega)) | rfl) (fun g_33 => ?_)
        refine x_bipush (pc := 34) dX12_next_34 (by decide) ?_
        refine x_icmp_ne (tgt := 52) (pc := 36) dX12_next_36 (by decide) (fun c_36 => ?_) (fun c_36 => ?_)
        · exact rest i M1 k1 k2 k3 (by rw [← k4]; exact runV_0 fun q => by have q2 := blB_t.mp q.2; omega)
        · refine x_aload_n (pc := 39) dX12_next_39 rfl rfl ?_
          refine x_dup (pc := 40) dX12_next_40 rfl ?_
          refine x_getIV (jj := 8) (pc := 41) dX12_next_41 fX12_155 hS.1 rfl (by decide) rfl (by (repeat (first | rewrite [up_s] | rewrite [up_i (by omega)] | rewrite [up_a (by omega)] | rewrite [stM_a (by omega) (by omega)])); first | exact k2 | exact (k3 _ _ (by omega)).trans h7 | exact (k3 _ _ (by omega)).trans (hT i (by omega) (by omega)) | rfl) ?_
          refine x_iconst (pc := 44) dX12_next_44 (by decide) ?_
          refine x_iadd (pc := 45) dX12_next_45 (by omega) ?_
          refine x_putI (jj := 8) (pc := 46) dX12_next_46 fX12_155 hS.1 rfl (by decide) rfl ?_
          refine x_goto (tgt := 0) (pc := 49) dX12_next_49 (by decide) ?_
          exact x_lo (lo' := [(0, (2, m))]) ⟨rfl, trivial⟩ (ih (i + 1) _ ⟨⟨by omega, by omega⟩, up_s, fun x y q => (up_w q).trans (k3 x y q), by rw [← k4]; exact (runV_1 (by omega) (blB_t.mpr (by omega))).symm⟩ (by omega)))
  exact x_lo (lo' := [(0, (2, m))]) ⟨rfl, trivial⟩ (lp0 a M ⟨⟨by omega, by omega⟩, h8, fun _ _ _ => rfl, rfl⟩)
/-- the reading's frame, with and without the new tariff -/
def frTx (M M' : aM) (m : Int) : Prop := ∀ x y : Int, ¬ (x = m ∧ 8 ≤ y ∧ y ≤ 13) → M' x y = M x y
def frTy (M M' : aM) (m : Int) : Prop := ∀ x y : Int, ¬ (x = m ∧ 8 ≤ y ∧ y ≤ 13) → x ≠ m + 5 → M' x y = M x y
theorem frTx.y {M M' : aM} {m : Int} (h : frTx M M' m) : frTy M M' m := fun x y a _ => h x y a
theorem frTx.rf {M : aM} {m : Int} : frTx M M m := fun _ _ _ => rfl
theorem frTy.rf {M : aM} {m : Int} : frTy M M m := fun _ _ _ _ => rfl
theorem frTx.tr {M M' M'' : aM} {m : Int} (h : frTx M M' m) (h' : frTx M' M'' m) : frTx M M'' m := fun x y a => (h' x y a).trans (h x y a)
theorem frTy.tr {M M' M'' : aM} {m : Int} (h : frTy M M' m) (h' : frTy M' M'' m) : frTy M M'' m := fun x y a b => (h' x y a b).trans (h x y a b)
/-- the reading's tape, the tariff that is being read -/
def RTp (M : aM) (m : Int) (T : Int → Int) (n : Int) : Prop := M m 7 = n ∧ (∀ i, 0 ≤ i → i < n → M (m + 4) i = T i)
def RF (M : aM) (m : Int) (f : Int → Int) : Prop := ∀ j, 0 ≤ j → j < 34 → M (m + 5) j = f j
theorem RTp.y {M M' : aM} {m n : Int} {T : Int → Int} (h : RTp M m T n) (f : frTy M M' m) : RTp M' m T n := ⟨(f _ _ (by omega) (by omega)).trans h.1, fun i a b => (f _ _ (by omega) (by omega)).trans (h.2 i a b)⟩
theorem RF.x {M M' : aM} {m : Int} {g : Int → Int} (h : RF M m g) (f : frTx M M' m) : RF M' m g := fun j a b => (f _ _ (by omega)).trans (h j a b)
theorem RF.w {M : aM} {m k v : Int} {g : Int → Int} (h : RF M m g) : RF (up M (m + 5) k v) m (fU g k v) := fun j a b => by
  unfold fU up
  by_cases e : j = k
  · rw [if_pos e, if_pos ⟨rfl, e⟩]
  · rw [if_neg e, if_neg (fun q => e q.2)]; exact h j a b
theorem frTy.up {M M' : aM} {m k v : Int} (h : frTy M M' m) : frTy M (up M' (m + 5) k v) m := fun x y a b => (up_a b).trans (h x y a b)
theorem RTk.y {M M' : aM} {m n a : Int} {T : Int → Int} (h : RTk M m T n a) (f : ∀ y, 8 ≤ y → y ≤ 11 → M' m y = M m y) : RTk M' m T n a := ⟨(f 10 (by omega) (by omega)).trans h.1, (f 9 (by omega) (by omega)).trans h.2.1, (f 8 (by omega) (by omega)).trans h.2.2.1, fun q => (f 11 (by omega) (by omega)).trans (h.2.2.2 q)⟩
def numE (T : Int → Int) (n a lo hi : Int) : Int := if tK T n a ≠ 2 then (if tK T n a = 4 then 1 else 2) else if ¬ (lo ≤ tV T n a ∧ tV T n a ≤ hi) then 3 else 0
theorem numE_r (T : Int → Int) (n a lo hi : Int) : numE T n a lo hi = 0 ∨ (1 ≤ numE T n a lo hi ∧ numE T n a lo hi ≤ 3) := by
  unfold numE
  (repeat' split) <;> omega
theorem numR_no {T : Int → Int} {n a lo hi : Int} {k : Int → Int → tR} (h : numE T n a lo hi ≠ 0) : numR T n a lo hi k = badR (numE T n a lo hi) (tB T n a) := by
  unfold numR numE at *
  by_cases h1 : tK T n a ≠ 2
  · rw [if_pos h1, if_pos h1]; rfl
  · rw [if_neg h1] at h ⊢
    rw [if_neg h1]
    by_cases h2 : ¬ (lo ≤ tV T n a ∧ tV T n a ≤ hi)
    · rw [if_pos h2, if_pos h2]
    · rw [if_neg h2] at h; exact absurd rfl h
theorem numR_yes {T : Int → Int} {n a lo hi : Int} {k : Int → Int → tR} (h : numE T n a lo hi = 0) : numR T n a lo hi k = k (tV T n a) (tE T n a) ∧ tK T n a = 2 ∧ lo ≤ tV T n a ∧ tV T n a ≤ hi := by
  unfold numR
  unfold numE at h
  by_cases h1 : tK T n a ≠ 2
  · rw [if_pos h1] at h
    split at h <;> omega
  · rw [if_neg h1] at h ⊢
    by_cases h2 : ¬ (lo ≤ tV T n a ∧ tV T n a ≤ hi)
    · rw [if_pos h2] at h; omega
    · rw [if_neg h2]; exact ⟨rfl, by omega, by omega, by omega⟩
/-- what stands in the reference's memory when a part of a line is read -/
def RES (M : aM) (m : Int) (T : Int → Int) (n : Int) (r : tR) : Prop := M m 12 = r.1 ∧ (r.1 ≠ 0 → M m 13 = r.2.1) ∧ (r.1 = 0 → RTk M m T n r.2.2.1 ∧ RF M m r.2.2.2)
def okM (a : Int) (f : Int → Int) : tR := (0, -1, a, f)
def oneM (T : Int → Int) (n a lo hi i : Int) (f : Int → Int) : tR := numR T n a lo hi fun v e => okM e (fU f i v)
def stepM (T : Int → Int) (n a : Int) (f : Int → Int) : tR := numR T n a 1 60 fun v e => if hasS f v (f 1).toNat = true then badR 4 (tB T n a) else numR T n e 1 99 fun u e2 => okM e2 (fU (fU (fU f (2 + f 1) v) (8 + f 1) u) 1 (f 1 + 1))
def cartM (T : Int → Int) (n a : Int) (f : Int → Int) : tR := numR T n a 1 60 fun v e => numR T n e 0 99 fun u e2 => okM e2 (fU (fU (fU f (15 + f 14) v) (19 + f 14) u) 14 (f 14 + 1))
def riseM (T : Int → Int) (n a : Int) (f : Int → Int) : tR := numR T n a 0 5 fun v e => numR T n e 0 99 fun u e2 => okM e2 (fU f (26 + v) u)
theorem s_wrong0 {l : Launch} {E : aE} {N : Nat} {S : aS} {M : aM} (hfl : l.stackTraces = false) (m : Int) (hS : lyM S m) (k : Int) (h0 : M m 12 = 0) : aMt l E pX12_wrong [(2, m), (0, k)] N S M (aU N S (fun M' => M' = up (up M m 12 (if M m 10 = 4 then 1 else k)) m 13 (M m 9))) := by
  refine a_met hfl rfl (by decide +kernel) (Nat.le_of_ble_eq_true rfl) ?_
  refine x_aload_n (pc := 0) dX12_wrong_0 rfl rfl ?_
  refine x_getIV (jj := 12) (pc := 1) dX12_wrong_1 fX12_176 hS.1 rfl (by decide) rfl (by (repeat (first | rewrite [up_s] | rewrite [up_i (by omega)] | rewrite [up_a (by omega)] | rewrite [stM_a (by omega) (by omega)])); first | exact h0 | rfl) ?_
  refine x_if_eq (tgt := 8) (pc := 4) dX12_wrong_4 (by decide) (fun c_4 => ?_) (fun c_4 => ?_)
  · refine x_aload_n (pc := 8) dX12_wrong_8 rfl rfl ?_
    refine x_aload_n (pc := 9) dX12_wrong_9 rfl rfl ?_
    refine x_getIV (jj := 10) (pc := 10) dX12_wrong_10 fX12_161 hS.1 rfl (by decide) rfl (by (repeat (first | rewrite [up_s] | rewrite [up_i (by omega)] | rewrite [up_a (by omega)] | rewrite [stM_a (by omega) (by omega)])); first | exact h0 | rfl) ?_
    refine x_iconst (pc := 13) dX12_wrong_13 (by decide) ?_
    refine x_icmp_ne (tgt := 21) (pc := 14) dX12_wrong_14 (by decide) (fun c_14 => ?_) (fun c_14 => ?_)
    · refine x_iload_n (pc := 21) dX12_wrong_21 rfl rfl ?_
      refine x_putI (jj := 12) (pc := 22) dX12_wrong_22 fX12_176 hS.1 rfl (by decide) rfl ?_
      refine x_aload_n (pc := 25) dX12_wrong_25 rfl rfl ?_
      refine x_aload_n (pc := 26) dX12_wrong_26 rfl rfl ?_
      refine x_getIV (jj := 9) (pc := 27) dX12_wrong_27 fX12_158 hS.1 rfl (by decide) rfl (by (repeat (first | rewrite [up_s] | rewrite [up_i (by omega)] | rewrite [up_a (by omega)] | rewrite [stM_a (by omega) (by omega)])); first | exact h0 | rfl) ?_
      refine x_putI (jj := 13) (pc := 30) dX12_wrong_30 fX12_179 hS.1 rfl (by decide) rfl ?_
      refine x_return (pc := 33) dX12_wrong_33 rfl (by decide) ?_
      rw [if_neg (by omega)]
      exact ⟨rfl, rfl, rfl, rfl⟩
    · refine x_iconst (pc := 17) dX12_wrong_17 (by decide) ?_
      refine x_goto (tgt := 22) (pc := 18) dX12_wrong_18 (by decide) ?_
      refine x_putI (jj := 12) (pc := 22) dX12_wrong_22 fX12_176 hS.1 rfl (by decide) rfl ?_
      refine x_aload_n (pc := 25) dX12_wrong_25 rfl rfl ?_
      refine x_aload_n (pc := 26) dX12_wrong_26 rfl rfl ?_
      refine x_getIV (jj := 9) (pc := 27) dX12_wrong_27 fX12_158 hS.1 rfl (by decide) rfl (by (repeat (first | rewrite [up_s] | rewrite [up_i (by omega)] | rewrite [up_a (by omega)] | rewrite [stM_a (by omega) (by omega)])); first | exact h0 | rfl) ?_
      refine x_putI (jj := 13) (pc := 30) dX12_wrong_30 fX12_179 hS.1 rfl (by decide) rfl ?_
      refine x_return (pc := 33) dX12_wrong_33 rfl (by decide) ?_
      rw [if_pos (by omega)]
      exact ⟨rfl, rfl, rfl, rfl⟩
  · refine x_return (pc := 7) dX12_wrong_7 rfl (by decide) ?_
    exfalso; omega
theorem s_wrongB {l : Launch} {E : aE} {N : Nat} {S : aS} {M : aM} (hfl : l.stackTraces = false) (m : Int) (hS : lyM S m) (k : Int) (h0 : M m 12 ≠ 0) : aMt l E pX12_wrong [(2, m), (0, k)] N S M (aU N S (fun M' => M' = M)) := by
  refine a_met hfl rfl (by decide +kernel) (Nat.le_of_ble_eq_true rfl) ?_
  refine x_aload_n (pc := 0) dX12_wrong_0 rfl rfl ?_
  refine x_getIV (jj := 12) (pc := 1) dX12_wrong_1 fX12_176 hS.1 rfl (by decide) rfl (by (repeat (first | rewrite [up_s] | rewrite [up_i (by omega)] | rewrite [up_a (by omega)] | rewrite [stM_a (by omega) (by omega)])); rfl) ?_
  refine x_if_eq (tgt := 8) (pc := 4) dX12_wrong_4 (by decide) (fun c_4 => ?_) (fun c_4 => ?_)
  · exfalso; omega
  · refine x_return (pc := 7) dX12_wrong_7 rfl (by decide) ?_
    exact ⟨rfl, rfl, rfl, rfl⟩
theorem s_number0 {l : Launch} {E : aE} {N : Nat} {S : aS} {M : aM} (hfl : l.stackTraces = false) (m : Int) (T : Int → Int) (n : Int) (hS : lyM S m) (hB : RTp M m T n) (hn : 0 ≤ n ∧ n ≤ 300) (lo9 hi a : Int) (ha : 0 ≤ a ∧ a ≤ n) (h0 : M m 12 = 0) (hT : RTk M m T n a) : aMt l E pX12_number [(2, m), (0, lo9), (0, hi)] N S M (aG N S (fun v M' => v = (0, M m 11) ∧ M' m 12 = numE T n a lo9 hi ∧ (numE T n a lo9 hi ≠ 0 → M' m 13 = tB T n a) ∧ (numE T n a lo9 hi = 0 → RTk M' m T n (tE T n a)) ∧ frTx M M' m)) := by
  refine a_met hfl rfl (by decide +kernel) (Nat.le_of_ble_eq_true rfl) ?_
  refine x_aload_n (pc := 0) dX12_number_0 rfl rfl ?_
  refine x_getIV (jj := 10) (pc := 1) dX12_number_1 fX12_161 hS.1 rfl (by decide) rfl (by (repeat (first | rewrite [up_s] | rewrite [up_i (by omega)] | rewrite [up_a (by omega)] | rewrite [stM_a (by omega) (by omega)])); first | exact h0 | rfl) ?_
  refine x_iconst (pc := 4) dX12_number_4 (by decide) ?_
  refine x_icmp_eq (tgt := 16) (pc := 5) dX12_number_5 (by decide) (fun c_5 => ?_) (fun c_5 => ?_)
  · refine x_aload_n (pc := 16) dX12_number_16 rfl rfl ?_
    refine x_getIV (jj := 11) (pc := 17) dX12_number_17 fX12_173 hS.1 rfl (by decide) rfl (by (repeat (first | rewrite [up_s] | rewrite [up_i (by omega)] | rewrite [up_a (by omega)] | rewrite [stM_a (by omega) (by omega)])); first | exact h0 | rfl) ?_
    refine x_i2l (pc := 20) dX12_number_20 ?_
    refine x_iload_n (pc := 21) dX12_number_21 rfl rfl ?_
    refine x_i2l (pc := 22) dX12_number_22 ?_
    refine x_iload_n (pc := 23) dX12_number_23 rfl rfl ?_
    refine x_i2l (pc := 24) dX12_number_24 ?_
    refine x_callS3 (pc := 25) dX12_number_25 rfl kX12_106 (s_within hfl _ _ _) rfl (Nat.le_of_ble_eq_true rfl) (k_B (fun q_25 => ?_) (fun q_25 => ?_)) n_B
    · refine x_if_ne (tgt := 36) (pc := 28) dX12_number_28 (by decide) (fun _ => ?_) (fun c => absurd c (by decide))
      refine x_aload_n (pc := 36) dX12_number_36 rfl rfl ?_
      refine x_getIV (jj := 11) (pc := 37) dX12_number_37 fX12_173 hS.1 rfl (by decide) rfl (by (repeat (first | rewrite [up_s] | rewrite [up_i (by omega)] | rewrite [up_a (by omega)] | rewrite [stM_a (by omega) (by omega)])); first | exact h0 | rfl) ?_
      refine x_istore_n (pc := 40) dX12_number_40 rfl (by decide) rfl ?_
      refine x_aload_n (pc := 41) dX12_number_41 rfl rfl ?_
      refine x_getIV (jj := 12) (pc := 42) dX12_number_42 fX12_176 hS.1 rfl (by decide) rfl (by (repeat (first | rewrite [up_s] | rewrite [up_i (by omega)] | rewrite [up_a (by omega)] | rewrite [stM_a (by omega) (by omega)])); first | exact h0 | rfl) ?_
      refine x_if_ne (tgt := 52) (pc := 45) dX12_number_45 (by decide) (fun c_45 => ?_) (fun c_45 => ?_)
      · refine x_iload_n (pc := 52) dX12_number_52 rfl rfl ?_
        refine x_ireturn (pc := 53) dX12_number_53 rfl (by decide) ?_
        exfalso; omega
      · refine x_aload_n (pc := 48) dX12_number_48 rfl rfl ?_
        refine x_callV0 (pc := 49) dX12_number_49 rfl kX12_196 (s_next hfl m T n hS hB.1 hn hB.2 (tE T n a) (by have := tE_r (T := T) ha.2; have := tB_r (T := T) ha.2; omega) hT.2.2.1) hS.1 rfl rfl (Nat.le_of_ble_eq_true rfl) (k_U (fun M9 hM9 => ?_)) n_U
        obtain ⟨t9, f9⟩ := hM9
        refine x_iload_n (pc := 52) dX12_number_52 rfl rfl ?_
        refine x_ireturn (pc := 53) dX12_number_53 rfl (by decide) ?_
        have hk9 := hT.1
        have hk2 : tK T n a = 2 := by omega
        have hv2 := hT.2.2.2 hk2
        have hE : numE T n a lo9 hi = 0 := by
          unfold numE; rw [if_neg (by omega), if_neg (by omega)]
        exact ⟨_, rfl, rfl, rfl, rfl, (f9 _ _ (by omega)).trans (h0.trans hE.symm), fun q => absurd hE q, fun _ => t9, fun x y q => f9 x y (by omega)⟩
    · refine x_if_ne (tgt := 36) (pc := 28) dX12_number_28 (by decide) (fun c => absurd c (by decide)) (fun _ => ?_)
      refine x_aload_n (pc := 31) dX12_number_31 rfl rfl ?_
      refine x_iconst (pc := 32) dX12_number_32 (by decide) ?_
      refine x_callV1 (pc := 33) dX12_number_33 rfl kX12_192 (s_wrong0 hfl m hS _ h0) hS.1 rfl rfl (Nat.le_of_ble_eq_true rfl) (k_U (fun M9 hM9 => ?_)) n_U
      subst hM9
      refine x_aload_n (pc := 36) dX12_number_36 rfl rfl ?_
      refine x_getIV (jj := 11) (pc := 37) dX12_number_37 fX12_173 hS.1 rfl (by decide) rfl (by (repeat (first | rewrite [up_s] | rewrite [up_i (by omega)] | rewrite [up_a (by omega)] | rewrite [stM_a (by omega) (by omega)])); first | exact h0 | rfl) ?_
      refine x_istore_n (pc := 40) dX12_number_40 rfl (by decide) rfl ?_
      refine x_aload_n (pc := 41) dX12_number_41 rfl rfl ?_
      refine x_getIV (jj := 12) (pc := 42) dX12_number_42 fX12_176 hS.1 rfl (by decide) rfl (by (repeat (first | rewrite [up_s] | rewrite [up_i (by omega)] | rewrite [up_a (by omega)] | rewrite [stM_a (by omega) (by omega)])); first | exact h0 | rfl) ?_
      refine x_if_ne (tgt := 52) (pc := 45) dX12_number_45 (by decide) (fun c_45 => ?_) (fun c_45 => ?_)
      · refine x_iload_n (pc := 52) dX12_number_52 rfl rfl ?_
        refine x_ireturn (pc := 53) dX12_number_53 rfl (by decide) ?_
        have hk9 := hT.1
        have hE : numE T n a lo9 hi = 3 := by
          unfold numE; have hv2 := hT.2.2.2 (by omega); rw [if_neg (by omega), if_pos (by omega)]
        refine ⟨_, rfl, rfl, rfl, rfl, ?_, fun _ => up_s.trans hT.2.1, fun q => ?_, fun x y q => by rw [up_w (by omega), up_w (by omega)]⟩
        · rw [up_i (by omega), up_s, hE]
          rw [if_neg (by omega)]
        · rw [hE] at q
          omega
      · exfalso; split at c_45 <;> omega
  · refine x_aload_n (pc := 8) dX12_number_8 rfl rfl ?_
    refine x_iconst (pc := 9) dX12_number_9 (by decide) ?_
    refine x_callV1 (pc := 10) dX12_number_10 rfl kX12_192 (s_wrong0 hfl m hS _ h0) hS.1 rfl rfl (Nat.le_of_ble_eq_true rfl) (k_U (fun M9 hM9 => ?_)) n_U
    subst hM9
    refine x_goto (tgt := 36) (pc := 13) dX12_number_13 (by decide) ?_
    refine x_aload_n (pc := 36) dX12_number_36 rfl rfl ?_
    refine x_getIV (jj := 11) (pc := 37) dX12_number_37 fX12_173 hS.1 rfl (by decide) rfl (by (repeat (first | rewrite [up_s] | rewrite [up_i (by omega)] | rewrite [up_a (by omega)] | rewrite [stM_a (by omega) (by omega)])); first | exact h0 | rfl) ?_
    refine x_istore_n (pc := 40) dX12_number_40 rfl (by decide) rfl ?_
    refine x_aload_n (pc := 41) dX12_number_41 rfl rfl ?_
    refine x_getIV (jj := 12) (pc := 42) dX12_number_42 fX12_176 hS.1 rfl (by decide) rfl (by (repeat (first | rewrite [up_s] | rewrite [up_i (by omega)] | rewrite [up_a (by omega)] | rewrite [stM_a (by omega) (by omega)])); first | exact h0 | rfl) ?_
    refine x_if_ne (tgt := 52) (pc := 45) dX12_number_45 (by decide) (fun c_45 => ?_) (fun c_45 => ?_)
    · refine x_iload_n (pc := 52) dX12_number_52 rfl rfl ?_
      refine x_ireturn (pc := 53) dX12_number_53 rfl (by decide) ?_
      have hk9 := hT.1
      have hE : numE T n a lo9 hi = (if tK T n a = 4 then 1 else 2) := by
        unfold numE; rw [if_pos (by omega)]
      refine ⟨_, rfl, rfl, rfl, rfl, ?_, fun _ => up_s.trans hT.2.1, fun q => ?_, fun x y q => by rw [up_w (by omega), up_w (by omega)]⟩
      · rw [up_i (by omega), up_s, hE]
        rw [hk9]
      · rw [hE] at q
        split at q <;> omega
    · exfalso; split at c_45 <;> omega
theorem s_numberB {l : Launch} {E : aE} {N : Nat} {S : aS} {M : aM} (hfl : l.stackTraces = false) (m : Int) (hS : lyM S m) (lo9 hi : Int) (h0 : M m 12 ≠ 0) : aMt l E pX12_number [(2, m), (0, lo9), (0, hi)] N S M (aG N S (fun v M' => v = (0, M m 11) ∧ M' = M)) := by
  refine a_met hfl rfl (by decide +kernel) (Nat.le_of_ble_eq_true rfl) ?_
  refine x_aload_n (pc := 0) dX12_number_0 rfl rfl ?_
  refine x_getIV (jj := 10) (pc := 1) dX12_number_1 fX12_161 hS.1 rfl (by decide) rfl (by (repeat (first | rewrite [up_s] | rewrite [up_i (by omega)] | rewrite [up_a (by omega)] | rewrite [stM_a (by omega) (by omega)])); rfl) ?_
  refine x_iconst (pc := 4) dX12_number_4 (by decide) ?_
  refine x_icmp_eq (tgt := 16) (pc := 5) dX12_number_5 (by decide) (fun c_5 => ?_) (fun c_5 => ?_)
  · refine x_aload_n (pc := 16) dX12_number_16 rfl rfl ?_
    refine x_getIV (jj := 11) (pc := 17) dX12_number_17 fX12_173 hS.1 rfl (by decide) rfl (by (repeat (first | rewrite [up_s] | rewrite [up_i (by omega)] | rewrite [up_a (by omega)] | rewrite [stM_a (by omega) (by omega)])); rfl) ?_
    refine x_i2l (pc := 20) dX12_number_20 ?_
    refine x_iload_n (pc := 21) dX12_number_21 rfl rfl ?_
    refine x_i2l (pc := 22) dX12_number_22 ?_
    refine x_iload_n (pc := 23) dX12_number_23 rfl rfl ?_
    refine x_i2l (pc := 24) dX12_number_24 ?_
    refine x_callS3 (pc := 25) dX12_number_25 rfl kX12_106 (s_within hfl _ _ _) rfl (Nat.le_of_ble_eq_true rfl) (k_B (fun q_25 => ?_) (fun q_25 => ?_)) n_B
    · refine x_if_ne (tgt := 36) (pc := 28) dX12_number_28 (by decide) (fun _ => ?_) (fun c => absurd c (by decide))
      refine x_aload_n (pc := 36) dX12_number_36 rfl rfl ?_
      refine x_getIV (jj := 11) (pc := 37) dX12_number_37 fX12_173 hS.1 rfl (by decide) rfl (by (repeat (first | rewrite [up_s] | rewrite [up_i (by omega)] | rewrite [up_a (by omega)] | rewrite [stM_a (by omega) (by omega)])); rfl) ?_
      refine x_istore_n (pc := 40) dX12_number_40 rfl (by decide) rfl ?_
      refine x_aload_n (pc := 41) dX12_number_41 rfl rfl ?_
      refine x_getIV (jj := 12) (pc := 42) dX12_number_42 fX12_176 hS.1 rfl (by decide) rfl (by (repeat (first | rewrite [up_s] | rewrite [up_i (by omega)] | rewrite [up_a (by omega)] | rewrite [stM_a (by omega) (by omega)])); rfl) ?_
      refine x_if_ne (tgt := 52) (pc := 45) dX12_number_45 (by decide) (fun c_45 => ?_) (fun c_45 => ?_)
      · refine x_iload_n (pc := 52) dX12_number_52 rfl rfl ?_
        refine x_ireturn (pc := 53) dX12_number_53 rfl (by decide) ?_
        exact ⟨_, rfl, rfl, rfl, rfl, rfl⟩
      · exact absurd (by assumption) h0
    · refine x_if_ne (tgt := 36) (pc := 28) dX12_number_28 (by decide) (fun c => absurd c (by decide)) (fun _ => ?_)
      refine x_aload_n (pc := 31) dX12_number_31 rfl rfl ?_
      refine x_iconst (pc := 32) dX12_number_32 (by decide) ?_
      refine x_callV1 (pc := 33) dX12_number_33 rfl kX12_192 (s_wrongB hfl m hS _ h0) hS.1 rfl rfl (Nat.le_of_ble_eq_true rfl) (k_U (fun M9 hM9 => ?_)) n_U
      subst hM9
      refine x_aload_n (pc := 36) dX12_number_36 rfl rfl ?_
      refine x_getIV (jj := 11) (pc := 37) dX12_number_37 fX12_173 hS.1 rfl (by decide) rfl (by (repeat (first | rewrite [up_s] | rewrite [up_i (by omega)] | rewrite [up_a (by omega)] | rewrite [stM_a (by omega) (by omega)])); rfl) ?_
      refine x_istore_n (pc := 40) dX12_number_40 rfl (by decide) rfl ?_
      refine x_aload_n (pc := 41) dX12_number_41 rfl rfl ?_
      refine x_getIV (jj := 12) (pc := 42) dX12_number_42 fX12_176 hS.1 rfl (by decide) rfl (by (repeat (first | rewrite [up_s] | rewrite [up_i (by omega)] | rewrite [up_a (by omega)] | rewrite [stM_a (by omega) (by omega)])); rfl) ?_
      refine x_if_ne (tgt := 52) (pc := 45) dX12_number_45 (by decide) (fun c_45 => ?_) (fun c_45 => ?_)
      · refine x_iload_n (pc := 52) dX12_number_52 rfl rfl ?_
        refine x_ireturn (pc := 53) dX12_number_53 rfl (by decide) ?_
        exact ⟨_, rfl, rfl, rfl, rfl, rfl⟩
      · exact absurd (by assumption) h0
  · refine x_aload_n (pc := 8) dX12_number_8 rfl rfl ?_
    refine x_iconst (pc := 9) dX12_number_9 (by decide) ?_
    refine x_callV1 (pc := 10) dX12_number_10 rfl kX12_192 (s_wrongB hfl m hS _ h0) hS.1 rfl rfl (Nat.le_of_ble_eq_true rfl) (k_U (fun M9 hM9 => ?_)) n_U
    subst hM9
    refine x_goto (tgt := 36) (pc := 13) dX12_number_13 (by decide) ?_
    refine x_aload_n (pc := 36) dX12_number_36 rfl rfl ?_
    refine x_getIV (jj := 11) (pc := 37) dX12_number_37 fX12_173 hS.1 rfl (by decide) rfl (by (repeat (first | rewrite [up_s] | rewrite [up_i (by omega)] | rewrite [up_a (by omega)] | rewrite [stM_a (by omega) (by omega)])); rfl) ?_
    refine x_istore_n (pc := 40) dX12_number_40 rfl (by decide) rfl ?_
    refine x_aload_n (pc := 41) dX12_number_41 rfl rfl ?_
    refine x_getIV (jj := 12) (pc := 42) dX12_number_42 fX12_176 hS.1 rfl (by decide) rfl (by (repeat (first | rewrite [up_s] | rewrite [up_i (by omega)] | rewrite [up_a (by omega)] | rewrite [stM_a (by omega) (by omega)])); rfl) ?_
    refine x_if_ne (tgt := 52) (pc := 45) dX12_number_45 (by decide) (fun c_45 => ?_) (fun c_45 => ?_)
    · refine x_iload_n (pc := 52) dX12_number_52 rfl rfl ?_
      refine x_ireturn (pc := 53) dX12_number_53 rfl (by decide) ?_
      exact ⟨_, rfl, rfl, rfl, rfl, rfl⟩
    · exact absurd (by assumption) h0
