/-! doubts: the reference's way -/
theorem dX12_layLikely_0 : decode cX12_layLikely 0 = .ok (.iconst 0, 1) := by decide +kernel
theorem dX12_layLikely_1 : decode cX12_layLikely 1 = .ok (.istore_n 2, 1) := by decide +kernel
theorem dX12_layLikely_2 : decode cX12_layLikely 2 = .ok (.iload_n 2, 1) := by decide +kernel
theorem dX12_layLikely_3 : decode cX12_layLikely 3 = .ok (.bipush 57, 2) := by decide +kernel
theorem dX12_layLikely_5 : decode cX12_layLikely 5 = .ok (.if_icmp .ge 24, 3) := by decide +kernel
theorem dX12_layLikely_8 : decode cX12_layLikely 8 = .ok (.aload_n 0, 1) := by decide +kernel
theorem dX12_layLikely_9 : decode cX12_layLikely 9 = .ok (.getfield 88, 3) := by decide +kernel
theorem dX12_layLikely_12 : decode cX12_layLikely 12 = .ok (.iload_n 2, 1) := by decide +kernel
theorem dX12_layLikely_13 : decode cX12_layLikely 13 = .ok (.iload_n 2, 1) := by decide +kernel
theorem dX12_layLikely_14 : decode cX12_layLikely 14 = .ok (.ifCond .ne 7, 3) := by decide +kernel
theorem dX12_layLikely_17 : decode cX12_layLikely 17 = .ok (.lconst 1, 1) := by decide +kernel
theorem dX12_layLikely_18 : decode cX12_layLikely 18 = .ok (.goto 4, 3) := by decide +kernel
theorem dX12_layLikely_21 : decode cX12_layLikely 21 = .ok (.lconst 0, 1) := by decide +kernel
theorem dX12_layLikely_22 : decode cX12_layLikely 22 = .ok (.lastore, 1) := by decide +kernel
theorem dX12_layLikely_23 : decode cX12_layLikely 23 = .ok (.iinc 2 1, 3) := by decide +kernel
theorem dX12_layLikely_26 : decode cX12_layLikely 26 = .ok (.goto (-24), 3) := by decide +kernel
theorem dX12_layLikely_29 : decode cX12_layLikely 29 = .ok (.aload_n 0, 1) := by decide +kernel
theorem dX12_layLikely_30 : decode cX12_layLikely 30 = .ok (.lconst 1, 1) := by decide +kernel
theorem dX12_layLikely_31 : decode cX12_layLikely 31 = .ok (.putfield 413, 3) := by decide +kernel
theorem dX12_layLikely_34 : decode cX12_layLikely 34 = .ok (.iconst 0, 1) := by decide +kernel
theorem dX12_layLikely_35 : decode cX12_layLikely 35 = .ok (.istore_n 2, 1) := by decide +kernel
theorem dX12_layLikely_36 : decode cX12_layLikely 36 = .ok (.iload_n 2, 1) := by decide +kernel
theorem dX12_layLikely_37 : decode cX12_layLikely 37 = .ok (.bipush 7, 2) := by decide +kernel
theorem dX12_layLikely_39 : decode cX12_layLikely 39 = .ok (.if_icmp .ge 199, 3) := by decide +kernel
theorem dX12_layLikely_42 : decode cX12_layLikely 42 = .ok (.iload_n 1, 1) := by decide +kernel
theorem dX12_layLikely_43 : decode cX12_layLikely 43 = .ok (.iload_n 2, 1) := by decide +kernel
theorem dX12_layLikely_44 : decode cX12_layLikely 44 = .ok (.invokestatic 136, 3) := by decide +kernel
theorem dX12_layLikely_47 : decode cX12_layLikely 47 = .ok (.ifCond .ne 6, 3) := by decide +kernel
theorem dX12_layLikely_50 : decode cX12_layLikely 50 = .ok (.goto 182, 3) := by decide +kernel
theorem dX12_layLikely_53 : decode cX12_layLikely 53 = .ok (.aload_n 0, 1) := by decide +kernel
theorem dX12_layLikely_54 : decode cX12_layLikely 54 = .ok (.getfield 9, 3) := by decide +kernel
theorem dX12_layLikely_57 : decode cX12_layLikely 57 = .ok (.sipush 156, 3) := by decide +kernel
theorem dX12_layLikely_60 : decode cX12_layLikely 60 = .ok (.iload_n 2, 1) := by decide +kernel
theorem dX12_layLikely_61 : decode cX12_layLikely 61 = .ok (.iadd, 1) := by decide +kernel
theorem dX12_layLikely_62 : decode cX12_layLikely 62 = .ok (.iaload, 1) := by decide +kernel
theorem dX12_layLikely_63 : decode cX12_layLikely 63 = .ok (.istore_n 3, 1) := by decide +kernel
theorem dX12_layLikely_64 : decode cX12_layLikely 64 = .ok (.iload_n 3, 1) := by decide +kernel
theorem dX12_layLikely_65 : decode cX12_layLikely 65 = .ok (.ifCond .ne 7, 3) := by decide +kernel
theorem dX12_layLikely_68 : decode cX12_layLikely 68 = .ok (.lconst 1, 1) := by decide +kernel
theorem dX12_layLikely_69 : decode cX12_layLikely 69 = .ok (.goto 4, 3) := by decide +kernel
theorem dX12_layLikely_72 : decode cX12_layLikely 72 = .ok (.lconst 0, 1) := by decide +kernel
theorem dX12_layLikely_73 : decode cX12_layLikely 73 = .ok (.lstore 4, 2) := by decide +kernel
theorem dX12_layLikely_75 : decode cX12_layLikely 75 = .ok (.iconst 0, 1) := by decide +kernel
theorem dX12_layLikely_76 : decode cX12_layLikely 76 = .ok (.istore 6, 2) := by decide +kernel
theorem dX12_layLikely_78 : decode cX12_layLikely 78 = .ok (.iload 6, 2) := by decide +kernel
theorem dX12_layLikely_80 : decode cX12_layLikely 80 = .ok (.bipush 57, 2) := by decide +kernel
theorem dX12_layLikely_82 : decode cX12_layLikely 82 = .ok (.if_icmp .ge 17, 3) := by decide +kernel
theorem dX12_layLikely_85 : decode cX12_layLikely 85 = .ok (.aload_n 0, 1) := by decide +kernel
theorem dX12_layLikely_86 : decode cX12_layLikely 86 = .ok (.getfield 91, 3) := by decide +kernel
theorem dX12_layLikely_89 : decode cX12_layLikely 89 = .ok (.iload 6, 2) := by decide +kernel
theorem dX12_layLikely_91 : decode cX12_layLikely 91 = .ok (.lconst 0, 1) := by decide +kernel
theorem dX12_layLikely_92 : decode cX12_layLikely 92 = .ok (.lastore, 1) := by decide +kernel
theorem dX12_layLikely_93 : decode cX12_layLikely 93 = .ok (.iinc 6 1, 3) := by decide +kernel
theorem dX12_layLikely_96 : decode cX12_layLikely 96 = .ok (.goto (-18), 3) := by decide +kernel
theorem dX12_layLikely_99 : decode cX12_layLikely 99 = .ok (.iload_n 3, 1) := by decide +kernel
theorem dX12_layLikely_100 : decode cX12_layLikely 100 = .ok (.ifCond .ne 20, 3) := by decide +kernel
theorem dX12_layLikely_103 : decode cX12_layLikely 103 = .ok (.aload_n 0, 1) := by decide +kernel
theorem dX12_layLikely_104 : decode cX12_layLikely 104 = .ok (.aload_n 0, 1) := by decide +kernel
theorem dX12_layLikely_105 : decode cX12_layLikely 105 = .ok (.getfield 9, 3) := by decide +kernel
theorem dX12_layLikely_108 : decode cX12_layLikely 108 = .ok (.bipush 8, 2) := by decide +kernel
theorem dX12_layLikely_110 : decode cX12_layLikely 110 = .ok (.bipush 6, 2) := by decide +kernel
theorem dX12_layLikely_112 : decode cX12_layLikely 112 = .ok (.iload_n 2, 1) := by decide +kernel
theorem dX12_layLikely_113 : decode cX12_layLikely 113 = .ok (.imul, 1) := by decide +kernel
theorem dX12_layLikely_114 : decode cX12_layLikely 114 = .ok (.iadd, 1) := by decide +kernel
theorem dX12_layLikely_115 : decode cX12_layLikely 115 = .ok (.iaload, 1) := by decide +kernel
theorem dX12_layLikely_116 : decode cX12_layLikely 116 = .ok (.lconst 1, 1) := by decide +kernel
theorem dX12_layLikely_117 : decode cX12_layLikely 117 = .ok (.invokevirtual 416, 3) := by decide +kernel
theorem dX12_layLikely_120 : decode cX12_layLikely 120 = .ok (.iconst 0, 1) := by decide +kernel
theorem dX12_layLikely_121 : decode cX12_layLikely 121 = .ok (.istore 6, 2) := by decide +kernel
theorem dX12_layLikely_123 : decode cX12_layLikely 123 = .ok (.iload 6, 2) := by decide +kernel
theorem dX12_layLikely_125 : decode cX12_layLikely 125 = .ok (.iload_n 3, 1) := by decide +kernel
theorem dX12_layLikely_126 : decode cX12_layLikely 126 = .ok (.if_icmp .ge 65, 3) := by decide +kernel
theorem dX12_layLikely_129 : decode cX12_layLikely 129 = .ok (.aload_n 0, 1) := by decide +kernel
theorem dX12_layLikely_130 : decode cX12_layLikely 130 = .ok (.aload_n 0, 1) := by decide +kernel
theorem dX12_layLikely_131 : decode cX12_layLikely 131 = .ok (.getfield 9, 3) := by decide +kernel
theorem dX12_layLikely_134 : decode cX12_layLikely 134 = .ok (.sipush 163, 3) := by decide +kernel
theorem dX12_layLikely_137 : decode cX12_layLikely 137 = .ok (.iconst 4, 1) := by decide +kernel
theorem dX12_layLikely_138 : decode cX12_layLikely 138 = .ok (.iload_n 2, 1) := by decide +kernel
theorem dX12_layLikely_139 : decode cX12_layLikely 139 = .ok (.imul, 1) := by decide +kernel
theorem dX12_layLikely_140 : decode cX12_layLikely 140 = .ok (.iadd, 1) := by decide +kernel
theorem dX12_layLikely_141 : decode cX12_layLikely 141 = .ok (.iload 6, 2) := by decide +kernel
theorem dX12_layLikely_143 : decode cX12_layLikely 143 = .ok (.iadd, 1) := by decide +kernel
theorem dX12_layLikely_144 : decode cX12_layLikely 144 = .ok (.iaload, 1) := by decide +kernel
theorem dX12_layLikely_145 : decode cX12_layLikely 145 = .ok (.aload_n 0, 1) := by decide +kernel
theorem dX12_layLikely_146 : decode cX12_layLikely 146 = .ok (.getfield 9, 3) := by decide +kernel
theorem dX12_layLikely_149 : decode cX12_layLikely 149 = .ok (.sipush 191, 3) := by decide +kernel
theorem dX12_layLikely_152 : decode cX12_layLikely 152 = .ok (.iconst 4, 1) := by decide +kernel
theorem dX12_layLikely_153 : decode cX12_layLikely 153 = .ok (.iload_n 2, 1) := by decide +kernel
theorem dX12_layLikely_154 : decode cX12_layLikely 154 = .ok (.imul, 1) := by decide +kernel
theorem dX12_layLikely_155 : decode cX12_layLikely 155 = .ok (.iadd, 1) := by decide +kernel
theorem dX12_layLikely_156 : decode cX12_layLikely 156 = .ok (.iload 6, 2) := by decide +kernel
theorem dX12_layLikely_158 : decode cX12_layLikely 158 = .ok (.iadd, 1) := by decide +kernel
theorem dX12_layLikely_159 : decode cX12_layLikely 159 = .ok (.iaload, 1) := by decide +kernel
theorem dX12_layLikely_160 : decode cX12_layLikely 160 = .ok (.i2l, 1) := by decide +kernel
theorem dX12_layLikely_161 : decode cX12_layLikely 161 = .ok (.invokevirtual 416, 3) := by decide +kernel
theorem dX12_layLikely_164 : decode cX12_layLikely 164 = .ok (.lload 4, 2) := by decide +kernel
theorem dX12_layLikely_166 : decode cX12_layLikely 166 = .ok (.aload_n 0, 1) := by decide +kernel
theorem dX12_layLikely_167 : decode cX12_layLikely 167 = .ok (.getfield 9, 3) := by decide +kernel
theorem dX12_layLikely_170 : decode cX12_layLikely 170 = .ok (.sipush 191, 3) := by decide +kernel
theorem dX12_layLikely_173 : decode cX12_layLikely 173 = .ok (.iconst 4, 1) := by decide +kernel
theorem dX12_layLikely_174 : decode cX12_layLikely 174 = .ok (.iload_n 2, 1) := by decide +kernel
theorem dX12_layLikely_175 : decode cX12_layLikely 175 = .ok (.imul, 1) := by decide +kernel
theorem dX12_layLikely_176 : decode cX12_layLikely 176 = .ok (.iadd, 1) := by decide +kernel
theorem dX12_layLikely_177 : decode cX12_layLikely 177 = .ok (.iload 6, 2) := by decide +kernel
theorem dX12_layLikely_179 : decode cX12_layLikely 179 = .ok (.iadd, 1) := by decide +kernel
theorem dX12_layLikely_180 : decode cX12_layLikely 180 = .ok (.iaload, 1) := by decide +kernel
theorem dX12_layLikely_181 : decode cX12_layLikely 181 = .ok (.i2l, 1) := by decide +kernel
theorem dX12_layLikely_182 : decode cX12_layLikely 182 = .ok (.ladd, 1) := by decide +kernel
theorem dX12_layLikely_183 : decode cX12_layLikely 183 = .ok (.lstore 4, 2) := by decide +kernel
theorem dX12_layLikely_185 : decode cX12_layLikely 185 = .ok (.iinc 6 1, 3) := by decide +kernel
theorem dX12_layLikely_188 : decode cX12_layLikely 188 = .ok (.goto (-65), 3) := by decide +kernel
theorem dX12_layLikely_191 : decode cX12_layLikely 191 = .ok (.iconst 0, 1) := by decide +kernel
theorem dX12_layLikely_192 : decode cX12_layLikely 192 = .ok (.istore 6, 2) := by decide +kernel
theorem dX12_layLikely_194 : decode cX12_layLikely 194 = .ok (.iload 6, 2) := by decide +kernel
theorem dX12_layLikely_196 : decode cX12_layLikely 196 = .ok (.bipush 57, 2) := by decide +kernel
theorem dX12_layLikely_198 : decode cX12_layLikely 198 = .ok (.if_icmp .ge 23, 3) := by decide +kernel
theorem dX12_layLikely_201 : decode cX12_layLikely 201 = .ok (.aload_n 0, 1) := by decide +kernel
theorem dX12_layLikely_202 : decode cX12_layLikely 202 = .ok (.getfield 88, 3) := by decide +kernel
theorem dX12_layLikely_205 : decode cX12_layLikely 205 = .ok (.iload 6, 2) := by decide +kernel
theorem dX12_layLikely_207 : decode cX12_layLikely 207 = .ok (.aload_n 0, 1) := by decide +kernel
theorem dX12_layLikely_208 : decode cX12_layLikely 208 = .ok (.getfield 91, 3) := by decide +kernel
theorem dX12_layLikely_211 : decode cX12_layLikely 211 = .ok (.iload 6, 2) := by decide +kernel
theorem dX12_layLikely_213 : decode cX12_layLikely 213 = .ok (.laload, 1) := by decide +kernel
theorem dX12_layLikely_214 : decode cX12_layLikely 214 = .ok (.lastore, 1) := by decide +kernel
theorem dX12_layLikely_215 : decode cX12_layLikely 215 = .ok (.iinc 6 1, 3) := by decide +kernel
theorem dX12_layLikely_218 : decode cX12_layLikely 218 = .ok (.goto (-24), 3) := by decide +kernel
theorem dX12_layLikely_221 : decode cX12_layLikely 221 = .ok (.aload_n 0, 1) := by decide +kernel
theorem dX12_layLikely_222 : decode cX12_layLikely 222 = .ok (.dup, 1) := by decide +kernel
theorem dX12_layLikely_223 : decode cX12_layLikely 223 = .ok (.getfield 413, 3) := by decide +kernel
theorem dX12_layLikely_226 : decode cX12_layLikely 226 = .ok (.lload 4, 2) := by decide +kernel
theorem dX12_layLikely_228 : decode cX12_layLikely 228 = .ok (.lmul, 1) := by decide +kernel
theorem dX12_layLikely_229 : decode cX12_layLikely 229 = .ok (.putfield 413, 3) := by decide +kernel
theorem dX12_layLikely_232 : decode cX12_layLikely 232 = .ok (.iinc 2 1, 3) := by decide +kernel
theorem dX12_layLikely_235 : decode cX12_layLikely 235 = .ok (.goto (-199), 3) := by decide +kernel
theorem dX12_layLikely_238 : decode cX12_layLikely 238 = .ok (.return_, 1) := by decide +kernel
theorem dX12_adds_0 : decode cX12_adds 0 = .ok (.iconst 0, 1) := by decide +kernel
theorem dX12_adds_1 : decode cX12_adds 1 = .ok (.istore 4, 2) := by decide +kernel
theorem dX12_adds_3 : decode cX12_adds 3 = .ok (.iload 4, 2) := by decide +kernel
theorem dX12_adds_5 : decode cX12_adds 5 = .ok (.iload_n 1, 1) := by decide +kernel
theorem dX12_adds_6 : decode cX12_adds 6 = .ok (.iadd, 1) := by decide +kernel
theorem dX12_adds_7 : decode cX12_adds 7 = .ok (.bipush 57, 2) := by decide +kernel
theorem dX12_adds_9 : decode cX12_adds 9 = .ok (.if_icmp .ge 30, 3) := by decide +kernel
theorem dX12_adds_12 : decode cX12_adds 12 = .ok (.aload_n 0, 1) := by decide +kernel
theorem dX12_adds_13 : decode cX12_adds 13 = .ok (.getfield 91, 3) := by decide +kernel
theorem dX12_adds_16 : decode cX12_adds 16 = .ok (.iload 4, 2) := by decide +kernel
theorem dX12_adds_18 : decode cX12_adds 18 = .ok (.iload_n 1, 1) := by decide +kernel
theorem dX12_adds_19 : decode cX12_adds 19 = .ok (.iadd, 1) := by decide +kernel
theorem dX12_adds_20 : decode cX12_adds 20 = .ok (.dup2, 1) := by decide +kernel
theorem dX12_adds_21 : decode cX12_adds 21 = .ok (.laload, 1) := by decide +kernel
theorem dX12_adds_22 : decode cX12_adds 22 = .ok (.lload_n 2, 1) := by decide +kernel
theorem dX12_adds_23 : decode cX12_adds 23 = .ok (.aload_n 0, 1) := by decide +kernel
theorem dX12_adds_24 : decode cX12_adds 24 = .ok (.getfield 88, 3) := by decide +kernel
theorem dX12_adds_27 : decode cX12_adds 27 = .ok (.iload 4, 2) := by decide +kernel
theorem dX12_adds_29 : decode cX12_adds 29 = .ok (.laload, 1) := by decide +kernel
theorem dX12_adds_30 : decode cX12_adds 30 = .ok (.lmul, 1) := by decide +kernel
theorem dX12_adds_31 : decode cX12_adds 31 = .ok (.ladd, 1) := by decide +kernel
theorem dX12_adds_32 : decode cX12_adds 32 = .ok (.lastore, 1) := by decide +kernel
theorem dX12_adds_33 : decode cX12_adds 33 = .ok (.iinc 4 1, 3) := by decide +kernel
theorem dX12_adds_36 : decode cX12_adds 36 = .ok (.goto (-33), 3) := by decide +kernel
theorem dX12_adds_39 : decode cX12_adds 39 = .ok (.return_, 1) := by decide +kernel
theorem dX12_riskOf_0 : decode cX12_riskOf 0 = .ok (.aload_n 0, 1) := by decide +kernel
theorem dX12_riskOf_1 : decode cX12_riskOf 1 = .ok (.iload_n 1, 1) := by decide +kernel
theorem dX12_riskOf_2 : decode cX12_riskOf 2 = .ok (.iconst 0, 1) := by decide +kernel
theorem dX12_riskOf_3 : decode cX12_riskOf 3 = .ok (.invokevirtual 279, 3) := by decide +kernel
theorem dX12_riskOf_6 : decode cX12_riskOf 6 = .ok (.i2l, 1) := by decide +kernel
theorem dX12_riskOf_7 : decode cX12_riskOf 7 = .ok (.aload_n 0, 1) := by decide +kernel
theorem dX12_riskOf_8 : decode cX12_riskOf 8 = .ok (.getfield 413, 3) := by decide +kernel
theorem dX12_riskOf_11 : decode cX12_riskOf 11 = .ok (.lmul, 1) := by decide +kernel
theorem dX12_riskOf_12 : decode cX12_riskOf 12 = .ok (.lstore_n 2, 1) := by decide +kernel
theorem dX12_riskOf_13 : decode cX12_riskOf 13 = .ok (.iconst 0, 1) := by decide +kernel
theorem dX12_riskOf_14 : decode cX12_riskOf 14 = .ok (.istore 4, 2) := by decide +kernel
theorem dX12_riskOf_16 : decode cX12_riskOf 16 = .ok (.iload 4, 2) := by decide +kernel
theorem dX12_riskOf_18 : decode cX12_riskOf 18 = .ok (.bipush 57, 2) := by decide +kernel
theorem dX12_riskOf_20 : decode cX12_riskOf 20 = .ok (.if_icmp .ge 56, 3) := by decide +kernel
theorem dX12_riskOf_23 : decode cX12_riskOf 23 = .ok (.lload_n 2, 1) := by decide +kernel
theorem dX12_riskOf_24 : decode cX12_riskOf 24 = .ok (.aload_n 0, 1) := by decide +kernel
theorem dX12_riskOf_25 : decode cX12_riskOf 25 = .ok (.getfield 88, 3) := by decide +kernel
theorem dX12_riskOf_28 : decode cX12_riskOf 28 = .ok (.iload 4, 2) := by decide +kernel
theorem dX12_riskOf_30 : decode cX12_riskOf 30 = .ok (.laload, 1) := by decide +kernel
theorem dX12_riskOf_31 : decode cX12_riskOf 31 = .ok (.iload 4, 2) := by decide +kernel
theorem dX12_riskOf_33 : decode cX12_riskOf 33 = .ok (.iload_n 1, 1) := by decide +kernel
theorem dX12_riskOf_34 : decode cX12_riskOf 34 = .ok (.if_icmp .le 19, 3) := by decide +kernel
theorem dX12_riskOf_37 : decode cX12_riskOf 37 = .ok (.aload_n 0, 1) := by decide +kernel
theorem dX12_riskOf_38 : decode cX12_riskOf 38 = .ok (.getfield 9, 3) := by decide +kernel
theorem dX12_riskOf_41 : decode cX12_riskOf 41 = .ok (.sipush 251, 3) := by decide +kernel
theorem dX12_riskOf_44 : decode cX12_riskOf 44 = .ok (.iaload, 1) := by decide +kernel
theorem dX12_riskOf_45 : decode cX12_riskOf 45 = .ok (.iload 4, 2) := by decide +kernel
theorem dX12_riskOf_47 : decode cX12_riskOf 47 = .ok (.iload_n 1, 1) := by decide +kernel
theorem dX12_riskOf_48 : decode cX12_riskOf 48 = .ok (.isub, 1) := by decide +kernel
theorem dX12_riskOf_49 : decode cX12_riskOf 49 = .ok (.imul, 1) := by decide +kernel
theorem dX12_riskOf_50 : decode cX12_riskOf 50 = .ok (.goto 16, 3) := by decide +kernel
theorem dX12_riskOf_53 : decode cX12_riskOf 53 = .ok (.aload_n 0, 1) := by decide +kernel
theorem dX12_riskOf_54 : decode cX12_riskOf 54 = .ok (.getfield 9, 3) := by decide +kernel
theorem dX12_riskOf_57 : decode cX12_riskOf 57 = .ok (.sipush 243, 3) := by decide +kernel
theorem dX12_riskOf_60 : decode cX12_riskOf 60 = .ok (.iaload, 1) := by decide +kernel
theorem dX12_riskOf_61 : decode cX12_riskOf 61 = .ok (.iload_n 1, 1) := by decide +kernel
theorem dX12_riskOf_62 : decode cX12_riskOf 62 = .ok (.iload 4, 2) := by decide +kernel
theorem dX12_riskOf_64 : decode cX12_riskOf 64 = .ok (.isub, 1) := by decide +kernel
theorem dX12_riskOf_65 : decode cX12_riskOf 65 = .ok (.imul, 1) := by decide +kernel
theorem dX12_riskOf_66 : decode cX12_riskOf 66 = .ok (.i2l, 1) := by decide +kernel
theorem dX12_riskOf_67 : decode cX12_riskOf 67 = .ok (.lmul, 1) := by decide +kernel
theorem dX12_riskOf_68 : decode cX12_riskOf 68 = .ok (.ladd, 1) := by decide +kernel
theorem dX12_riskOf_69 : decode cX12_riskOf 69 = .ok (.lstore_n 2, 1) := by decide +kernel
theorem dX12_riskOf_70 : decode cX12_riskOf 70 = .ok (.iinc 4 1, 3) := by decide +kernel
theorem dX12_riskOf_73 : decode cX12_riskOf 73 = .ok (.goto (-57), 3) := by decide +kernel
theorem dX12_riskOf_76 : decode cX12_riskOf 76 = .ok (.lload_n 2, 1) := by decide +kernel
theorem dX12_riskOf_77 : decode cX12_riskOf 77 = .ok (.lreturn, 1) := by decide +kernel
theorem s_adds {l : Launch} {E : aE} {N : Nat} {S : aS} {M : aM} (hfl : l.stackTraces = false) (m s c : Int) (O L : Int → Int) (hS : lyM S m) (hs : 0 ≤ s ∧ s ≤ 8) (hc : 0 ≤ c ∧ c ≤ 9) (hO : ∀ k, 0 ≤ k → k < 57 → 0 ≤ O k ∧ O k ≤ 4000000000000) (hL : ∀ k, 0 ≤ k → k < 57 → 0 ≤ L k ∧ L k ≤ 78364164096) (hO0 : ∀ k, 0 ≤ k → k < 57 → M (m + 26) k = O k) (hL0 : ∀ k, 0 ≤ k → k < 57 → M (m + 25) k = L k) : aMt l E pX12_adds [(2, m), (0, s), (1, c)] N S M (aU N S (fun M' => (∀ a i, a ≠ m + 26 → M' a i = M a i) ∧ ∀ k, 0 ≤ k → k < 57 → M' (m + 26) k = O k + shiftV L s c k)) := by
  refine a_met hfl rfl (by decide +kernel) (Nat.le_of_ble_eq_true rfl) ?_
  have loop := a_loop2 (fun i M1 => (0 ≤ i ∧ i + s ≤ 57) ∧ (∀ a i, a ≠ m + 26 → M1 a i = M a i) ∧ (∀ k, 0 ≤ k → k < 57 → k < i + s → M1 (m + 26) k = O k + shiftV L s c k) ∧ ∀ k, 0 ≤ k → k < 57 → i + s ≤ k → M1 (m + 26) k = O k) (fun i M1 => (57 - s - i).toNat) (fun i M1 => aX l E pX12_adds (aU N S (fun M' => (∀ a i, a ≠ m + 26 → M' a i = M a i) ∧ ∀ k, 0 ≤ k → k < 57 → M' (m + 26) k = O k + shiftV L s c k)) 0 0 N S M1 3 [(0, (2, m)), (1, (0, s)), (2, (1, c)), (4, (0, i))] []) (by
    intro i M1 hI ih
    obtain ⟨h1, h2, h3, h4⟩ := hI
    refine x_iload (pc := 3) dX12_adds_3 rfl ?_
    refine x_iload_n (pc := 5) dX12_adds_5 rfl rfl ?_
    refine x_iadd (pc := 6) dX12_adds_6 (by omega) ?_
    refine x_bipush (pc := 7) dX12_adds_7 (by decide) ?_
    refine x_icmp_ge (tgt := 39) (pc := 9) dX12_adds_9 (by decide) (fun c_9 => ?_) (fun c_9 => ?_)
    · refine x_return (pc := 39) dX12_adds_39 rfl (by decide) ?_
      refine ⟨rfl, rfl, rfl, h2, fun k x y => ?_⟩
      exact h3 k x y (by omega)
    · refine x_aload_n (pc := 12) dX12_adds_12 rfl rfl ?_
      refine x_getR (jj := 47) (pc := 13) dX12_adds_13 fX12_91 hS.1 rfl (by decide) rfl rM_47 ?_
      refine x_iload (pc := 16) dX12_adds_16 rfl ?_
      refine x_iload_n (pc := 18) dX12_adds_18 rfl rfl ?_
      refine x_iadd (pc := 19) dX12_adds_19 (by omega) ?_
      refine x_dup2 (pc := 20) dX12_adds_20 rfl rfl ?_
      refine x_laloadV (pc := 21) dX12_adds_21 (sM_47 hS) (by omega) (by (repeat (first | rewrite [up_s] | rewrite [up_i (by omega)] | rewrite [up_a (by omega)] | rewrite [stM_a (by omega) (by omega)])); first | exact h4 _ (by omega) (by omega) (by omega) | exact (h2 (m + 25) i (by omega)).trans (hL0 i (by omega) (by omega)) | rfl) (fun g_21 => ?_)
      refine x_lload_n (pc := 22) dX12_adds_22 rfl rfl ?_
      refine x_aload_n (pc := 23) dX12_adds_23 rfl rfl ?_
      refine x_getR (jj := 46) (pc := 24) dX12_adds_24 fX12_88 hS.1 rfl (by decide) rfl rM_46 ?_
      refine x_iload (pc := 27) dX12_adds_27 rfl ?_
      refine x_laloadV (pc := 29) dX12_adds_29 (sM_46 hS) (by omega) (by (repeat (first | rewrite [up_s] | rewrite [up_i (by omega)] | rewrite [up_a (by omega)] | rewrite [stM_a (by omega) (by omega)])); first | exact h4 _ (by omega) (by omega) (by omega) | exact (h2 (m + 25) i (by omega)).trans (hL0 i (by omega) (by omega)) | rfl) (fun g_29 => ?_)
      have hm1 : 0 ≤ c * L i := Int.mul_nonneg hc.1 (hL i (by omega) (by omega)).1
      have hm2 : c * L i ≤ 9 * L i := Int.mul_le_mul_of_nonneg_right hc.2 (hL i (by omega) (by omega)).1
      have hm3 := hL i (by omega) (by omega)
      have hm4 := hO (i + s) (by omega) (by omega)
      refine x_lmul (pc := 30) dX12_adds_30 (by omega) ?_
      refine x_ladd (pc := 31) dX12_adds_31 (by omega) ?_
      refine x_lastore (pc := 32) dX12_adds_32 (sM_47 hS) (by omega) ?_
      refine x_iinc (pc := 33) dX12_adds_33 rfl (by omega) (by decide) rfl ?_
      refine x_goto (tgt := 3) (pc := 36) dX12_adds_36 (by decide) ?_
      refine x_lo (lo' := [(0, (2, m)), (1, (0, s)), (2, (1, c)), (4, (0, (i + 1)))]) ⟨rfl, rfl, rfl, rfl, trivial⟩ (ih (i + 1) _ ⟨by omega, fun a i x => (up_a x).trans (h2 a i x), fun k x y z => ?_, fun k x y z => (up_i (by omega)).trans (h4 k x y (by omega))⟩ (by omega))
      by_cases e : k = i + s
      · subst e
        rw [up_s]
        unfold shiftV
        rw [if_pos (by omega), show i + s - s = i by omega, Int.mul_comm]
      · exact (up_i e).trans (h3 k x y (by omega)))
  refine x_iconst (pc := 0) dX12_adds_0 (by decide) ?_
  refine x_istore (pc := 1) dX12_adds_1 (by decide) rfl ?_
  refine x_lo (lo' := [(0, (2, m)), (1, (0, s)), (2, (1, c)), (4, (0, 0))]) ⟨rfl, rfl, rfl, rfl, trivial⟩ (loop (0) _ ⟨by omega, fun _ _ _ => rfl, fun k x y z => ?_, fun k x y z => hO0 k x y⟩)
  rw [shiftV_c (by omega), Int.add_zero]
  exact hO0 k x y
theorem s_layLikely {l : Launch} {E : aE} {N : Nat} {S : aS} {M : aM} (hfl : l.stackTraces = false) (m : Int) (t : Int → Int) (hS : lyM S m) (set : Int) (hT : ∀ i, 0 ≤ i → i < 253 → M (m + 1) i = t i) (hD : TD t) : aMt l E pX12_layLikely [(2, m), (0, set)] N S M (aU N S (fun M' => (∀ a i, (a = m → i ≠ 48) → a ≠ m + 25 → a ≠ m + 26 → M' a i = M a i) ∧ (∀ k, 0 ≤ k → k < 57 → M' (m + 25) k = oddsV t set 7 k) ∧ M' m 48 = allC t set 7)) := by
  refine a_met hfl rfl (by decide +kernel) (Nat.le_of_ble_eq_true rfl) ?_
  have loop36 := a_loop2 (fun h M1 => (0 ≤ h ∧ h ≤ 7) ∧ (∀ a i, (a = m → i ≠ 48) → a ≠ m + 25 → a ≠ m + 26 → M1 a i = M a i) ∧ (∀ k, 0 ≤ k → k < 57 → M1 (m + 25) k = oddsV t set h.toNat k) ∧ M1 m 48 = allC t set h.toNat) (fun h M1 => (7 - h).toNat) (fun h M1 => aX l E pX12_layLikely (aU N S (fun M' => (∀ a i, (a = m → i ≠ 48) → a ≠ m + 25 → a ≠ m + 26 → M' a i = M a i) ∧ (∀ k, 0 ≤ k → k < 57 → M' (m + 25) k = oddsV t set 7 k) ∧ M' m 48 = allC t set 7)) 0 0 N S M1 36 [(0, (2, m)), (1, (0, set)), (2, (0, h))] []) (by
    intro h M1 hI ih1
    obtain ⟨k1, k2, k3, k4⟩ := hI
    have loop194 : (h < 7) → (hb set h = 1) → ∀ (j : Int) (M3 : aM), ((0 ≤ j ∧ j ≤ 57) ∧ (∀ a i, a ≠ m + 25 → a ≠ m + 26 → M3 a i = M1 a i) ∧ (∀ k, 0 ≤ k → k < 57 → M3 (m + 26) k = convV t h (oddsV t set h.toNat) k) ∧ ∀ k, 0 ≤ k → k < j → M3 (m + 25) k = convV t h (oddsV t set h.toNat) k) → aX l E pX12_layLikely (aU N S (fun M' => (∀ a i, (a = m → i ≠ 48) → a ≠ m + 25 → a ≠ m + 26 → M' a i = M a i) ∧ (∀ k, 0 ≤ k → k < 57 → M' (m + 25) k = oddsV t set 7 k) ∧ M' m 48 = allC t set 7)) 0 0 N S M3 194 [(0, (2, m)), (1, (0, set)), (2, (0, h)), (4, (1, chV t h)), (6, (0, j))] [] := by
      intro h7 hhb
      exact a_loop2 (fun j M3 => (0 ≤ j ∧ j ≤ 57) ∧ (∀ a i, a ≠ m + 25 → a ≠ m + 26 → M3 a i = M1 a i) ∧ (∀ k, 0 ≤ k → k < 57 → M3 (m + 26) k = convV t h (oddsV t set h.toNat) k) ∧ ∀ k, 0 ≤ k → k < j → M3 (m + 25) k = convV t h (oddsV t set h.toNat) k) (fun j M3 => (57 - j).toNat) (fun j M3 => aX l E pX12_layLikely (aU N S (fun M' => (∀ a i, (a = m → i ≠ 48) → a ≠ m + 25 → a ≠ m + 26 → M' a i = M a i) ∧ (∀ k, 0 ≤ k → k < 57 → M' (m + 25) k = oddsV t set 7 k) ∧ M' m 48 = allC t set 7)) 0 0 N S M3 194 [(0, (2, m)), (1, (0, set)), (2, (0, h)), (4, (1, chV t h)), (6, (0, j))] []) (by
        intro j M3 hI4 ih4
        obtain ⟨u1, u2, u3, u4⟩ := hI4
        refine x_iload (pc := 194) dX12_layLikely_194 rfl ?_
        refine x_bipush (pc := 196) dX12_layLikely_196 (by decide) ?_
        refine x_icmp_ge (tgt := 221) (pc := 198) dX12_layLikely_198 (by decide) (fun c_198 => ?_) (fun c_198 => ?_)
        · refine x_aload_n (pc := 221) dX12_layLikely_221 rfl rfl ?_
          refine x_dup (pc := 222) dX12_layLikely_222 rfl ?_
          refine x_getJV (jj := 48) (pc := 223) dX12_layLikely_223 fX12_413 hS.1 rfl (by decide) rfl (by (repeat (first | rewrite [up_s] | rewrite [up_i (by omega)] | rewrite [up_a (by omega)] | rewrite [stM_a (by omega) (by omega)])); first | exact u3 _ (by omega) (by omega) | exact (u2 m 48 (by omega) (by omega)).trans k4 | rfl) ?_
          refine x_lload (pc := 226) dX12_layLikely_226 rfl ?_
          refine x_lmul (pc := 228) dX12_layLikely_228 (by have c1 := chV_r hD (h := h) ⟨k1.1, by omega⟩; have c2 := allC_r hD (set := set) h.toNat (by omega); have c3 := p36_6 h.toNat (by omega); have c4 : 0 ≤ allC t set h.toNat * chV t h := Int.mul_nonneg (by omega) (by omega); have c5 : allC t set h.toNat * chV t h ≤ allC t set h.toNat * 36 := Int.mul_le_mul_of_nonneg_left c1.2 (by omega); omega) ?_
          refine x_putJ (jj := 48) (pc := 229) dX12_layLikely_229 fX12_413 hS.1 rfl (by decide) rfl ?_
          refine x_iinc (pc := 232) dX12_layLikely_232 rfl (by omega) (by decide) rfl ?_
          refine x_goto (tgt := 36) (pc := 235) dX12_layLikely_235 (by decide) ?_
          refine x_lo (lo' := [(0, (2, m)), (1, (0, set)), (2, (0, (h + 1)))]) ⟨rfl, rfl, rfl, trivial⟩ (ih1 (h + 1) _ ⟨by omega, fun a i x y z => ?_, fun k x y => ?_, ?_⟩ (by omega))
          · rw [up_a2 (by omega), u2 a i y z]; exact k2 a i x y z
          · rw [up_a (by omega), u4 k x (by omega), oddsV_1 k1.1, if_pos hhb]
          · rw [up_s, allC_1 k1.1, if_pos hhb]
        · refine x_aload_n (pc := 201) dX12_layLikely_201 rfl rfl ?_
          refine x_getR (jj := 46) (pc := 202) dX12_layLikely_202 fX12_88 hS.1 rfl (by decide) rfl rM_46 ?_
          refine x_iload (pc := 205) dX12_layLikely_205 rfl ?_
          refine x_aload_n (pc := 207) dX12_layLikely_207 rfl rfl ?_
          refine x_getR (jj := 47) (pc := 208) dX12_layLikely_208 fX12_91 hS.1 rfl (by decide) rfl rM_47 ?_
          refine x_iload (pc := 211) dX12_layLikely_211 rfl ?_
          refine x_laloadV (pc := 213) dX12_layLikely_213 (sM_47 hS) (by omega) (by (repeat (first | rewrite [up_s] | rewrite [up_i (by omega)] | rewrite [up_a (by omega)] | rewrite [stM_a (by omega) (by omega)])); first | exact u3 _ (by omega) (by omega) | exact (u2 m 48 (by omega) (by omega)).trans k4 | rfl) (fun g_213 => ?_)
          refine x_lastore (pc := 214) dX12_layLikely_214 (sM_46 hS) (by omega) ?_
          refine x_iinc (pc := 215) dX12_layLikely_215 rfl (by omega) (by decide) rfl ?_
          refine x_goto (tgt := 194) (pc := 218) dX12_layLikely_218 (by decide) ?_
          refine x_lo (lo' := [(0, (2, m)), (1, (0, set)), (2, (0, h)), (4, (1, chV t h)), (6, (0, (j + 1)))]) ⟨rfl, rfl, rfl, rfl, rfl, trivial⟩ (ih4 (j + 1) _ ⟨by omega, fun a i x y => (up_a x).trans (u2 a i x y), fun k x y => (up_a (by omega)).trans (u3 k x y), fun k x y => ?_⟩ (by omega))
          by_cases e : k = j
          · subst e; exact up_s
          · exact (up_i e).trans (u4 k x (by omega)))
    have loop123 : (h < 7) → (hb set h = 1) → ∀ (d : Int) (M3 : aM), ((0 ≤ d ∧ d ≤ t (156 + h)) ∧ (∀ a i, a ≠ m + 26 → M3 a i = M1 a i) ∧ (t (156 + h) ≠ 0 → ∀ k, 0 ≤ k → k < 57 → M3 (m + 26) k = sumN (fun d => shiftV (oddsV t set h.toNat) (t (163 + 4 * h + d)) (t (191 + 4 * h + d)) k) d.toNat) ∧ (t (156 + h) = 0 → ∀ k, 0 ≤ k → k < 57 → M3 (m + 26) k = convV t h (oddsV t set h.toNat) k)) → aX l E pX12_layLikely (aU N S (fun M' => (∀ a i, (a = m → i ≠ 48) → a ≠ m + 25 → a ≠ m + 26 → M' a i = M a i) ∧ (∀ k, 0 ≤ k → k < 57 → M' (m + 25) k = oddsV t set 7 k) ∧ M' m 48 = allC t set 7)) 0 0 N S M3 123 [(0, (2, m)), (1, (0, set)), (2, (0, h)), (3, (0, t (156 + h))), (4, (1, (if t (156 + h) = 0 then 1 else 0) + sumN (fun d => t (191 + 4 * h + d)) d.toNat)), (6, (0, d))] [] := by
      intro h7 hhb
      exact a_loop2 (fun d M3 => (0 ≤ d ∧ d ≤ t (156 + h)) ∧ (∀ a i, a ≠ m + 26 → M3 a i = M1 a i) ∧ (t (156 + h) ≠ 0 → ∀ k, 0 ≤ k → k < 57 → M3 (m + 26) k = sumN (fun d => shiftV (oddsV t set h.toNat) (t (163 + 4 * h + d)) (t (191 + 4 * h + d)) k) d.toNat) ∧ (t (156 + h) = 0 → ∀ k, 0 ≤ k → k < 57 → M3 (m + 26) k = convV t h (oddsV t set h.toNat) k)) (fun d M3 => (t (156 + h) - d).toNat) (fun d M3 => aX l E pX12_layLikely (aU N S (fun M' => (∀ a i, (a = m → i ≠ 48) → a ≠ m + 25 → a ≠ m + 26 → M' a i = M a i) ∧ (∀ k, 0 ≤ k → k < 57 → M' (m + 25) k = oddsV t set 7 k) ∧ M' m 48 = allC t set 7)) 0 0 N S M3 123 [(0, (2, m)), (1, (0, set)), (2, (0, h)), (3, (0, t (156 + h))), (4, (1, (if t (156 + h) = 0 then 1 else 0) + sumN (fun d => t (191 + 4 * h + d)) d.toNat)), (6, (0, d))] []) (by
        intro d M3 hI3 ih3
        obtain ⟨u1, u2, u3, u4⟩ := hI3
        refine x_iload (pc := 123) dX12_layLikely_123 rfl ?_
        refine x_iload_n (pc := 125) dX12_layLikely_125 rfl rfl ?_
        refine x_icmp_ge (tgt := 191) (pc := 126) dX12_layLikely_126 (by decide) (fun c_126 => ?_) (fun c_126 => ?_)
        · refine x_iconst (pc := 191) dX12_layLikely_191 (by decide) ?_
          refine x_istore (pc := 192) dX12_layLikely_192 (by decide) rfl ?_
          have hchv : chV t h = (if t (156 + h) = 0 then 1 else 0) + sumN (fun d => t (191 + 4 * h + d)) d.toNat := by
            have hdr := hD.2.1 h k1.1 (by omega)
            unfold chV
            by_cases q : t (156 + h) = 0
            · rw [if_pos q, if_pos q, show d = 0 by omega]; rfl
            · rw [if_neg q, if_neg q, show d = t (156 + h) by omega, Int.zero_add]
          rw [← hchv]
          refine x_lo (lo' := [(0, (2, m)), (1, (0, set)), (2, (0, h)), (4, (1, chV t h)), (6, (0, 0))]) ⟨rfl, rfl, rfl, rfl, rfl, trivial⟩ (loop194 h7 hhb (0) _ ⟨by omega, fun a i x y => u2 a i y, fun k x y => ?_, fun k x y => by omega⟩)
          by_cases q : t (156 + h) = 0
          · exact u4 q k x y
          · have hdr := hD.2.1 h k1.1 (by omega)
            rw [u3 q k x y]
            unfold convV
            rw [if_neg q, show d = t (156 + h) by omega]
        · have hdr := hD.2.1 h k1.1 (by omega)
          have hnz : t (156 + h) ≠ 0 := by omega
          have z1 := hD.2.2.2.1 h d k1.1 (by omega) (by omega) (by omega)
          have z3 := hD.2.2.1 (4 * h + d) (by omega) (by omega)
          rw [show 163 + (4 * h + d) = 163 + 4 * h + d by omega] at z3
          have hps : ∀ k, 0 ≤ k → k < 57 → 0 ≤ (fun k => sumN (fun d => shiftV (oddsV t set h.toNat) (t (163 + 4 * h + d)) (t (191 + 4 * h + d)) k) d.toNat) k ∧ (fun k => sumN (fun d => shiftV (oddsV t set h.toNat) (t (163 + 4 * h + d)) (t (191 + 4 * h + d)) k) d.toNat) k ≤ 4000000000000 := fun k x y => by
            have w := part_r hD ⟨k1.1, by omega⟩ (b := 2176782336) (by omega) (fun k x y => by have := oddsV_r hD (set := set) h.toNat (by omega) k x y; have := p36_6 h.toNat (by omega); omega : ∀ k, 0 ≤ k → k < 57 → 0 ≤ (oddsV t set h.toNat) k ∧ (oddsV t set h.toNat) k ≤ 2176782336) (k := k) ⟨x, y⟩ d.toNat (by omega)
            have e : (9 * (2176782336 : Int)) * ((d.toNat : Nat) : Int) ≤ (9 * 2176782336) * 4 := Int.mul_le_mul_of_nonneg_left (by omega) (by omega)
            dsimp only
            omega
          have hsr := csum_r hD (h := h) ⟨k1.1, by omega⟩ d.toNat (by omega)
          have v1 : M3 (m + 1) (163 + 4 * h + d) = t (163 + 4 * h + d) := ((u2 _ _ (by omega)).trans (k2 _ _ (by omega) (by omega) (by omega))).trans (hT _ (by omega) (by omega))
          have v2 : M3 (m + 1) (191 + 4 * h + d) = t (191 + 4 * h + d) := ((u2 _ _ (by omega)).trans (k2 _ _ (by omega) (by omega) (by omega))).trans (hT _ (by omega) (by omega))
          refine x_aload_n (pc := 129) dX12_layLikely_129 rfl rfl ?_
          refine x_aload_n (pc := 130) dX12_layLikely_130 rfl rfl ?_
          refine x_getR (jj := 0) (pc := 131) dX12_layLikely_131 fX12_9 hS.1 rfl (by decide) rfl rM_0 ?_
          refine x_sipush (pc := 134) dX12_layLikely_134 (by decide) ?_
          refine x_iconst (pc := 137) dX12_layLikely_137 (by decide) ?_
          refine x_iload_n (pc := 138) dX12_layLikely_138 rfl rfl ?_
          refine x_imul (pc := 139) dX12_layLikely_139 (by omega) ?_
          refine x_iadd (pc := 140) dX12_layLikely_140 (by omega) ?_
          refine x_iload (pc := 141) dX12_layLikely_141 rfl ?_
          refine x_iadd (pc := 143) dX12_layLikely_143 (by omega) ?_
          refine x_ialoadV (pc := 144) dX12_layLikely_144 (sM_0 hS) (by omega) (by (repeat (first | rewrite [up_s] | rewrite [up_i (by omega)] | rewrite [up_a (by omega)] | rewrite [stM_a (by omega) (by omega)])); first | exact v3 | exact v1 | exact v2 | rfl) (fun g_144 => ?_)
          refine x_aload_n (pc := 145) dX12_layLikely_145 rfl rfl ?_
          refine x_getR (jj := 0) (pc := 146) dX12_layLikely_146 fX12_9 hS.1 rfl (by decide) rfl rM_0 ?_
          refine x_sipush (pc := 149) dX12_layLikely_149 (by decide) ?_
          refine x_iconst (pc := 152) dX12_layLikely_152 (by decide) ?_
          refine x_iload_n (pc := 153) dX12_layLikely_153 rfl rfl ?_
          refine x_imul (pc := 154) dX12_layLikely_154 (by omega) ?_
          refine x_iadd (pc := 155) dX12_layLikely_155 (by omega) ?_
          refine x_iload (pc := 156) dX12_layLikely_156 rfl ?_
          refine x_iadd (pc := 158) dX12_layLikely_158 (by omega) ?_
          refine x_ialoadV (pc := 159) dX12_layLikely_159 (sM_0 hS) (by omega) (by (repeat (first | rewrite [up_s] | rewrite [up_i (by omega)] | rewrite [up_a (by omega)] | rewrite [stM_a (by omega) (by omega)])); first | exact v3 | exact v1 | exact v2 | rfl) (fun g_159 => ?_)
          refine x_i2l (pc := 160) dX12_layLikely_160 ?_
          refine x_callV2 (pc := 161) dX12_layLikely_161 rfl kX12_416 (s_adds hfl m (t (163 + 4 * h + d)) (t (191 + 4 * h + d)) (fun k => sumN (fun d => shiftV (oddsV t set h.toNat) (t (163 + 4 * h + d)) (t (191 + 4 * h + d)) k) d.toNat) (oddsV t set h.toNat) hS z3 ⟨by omega, z1.2⟩ hps (fun k x y => by have := oddsV_r hD (set := set) h.toNat (by omega) k x y; have := p36_6 h.toNat (by omega); omega) (u3 hnz) (fun k x y => (u2 _ _ (by omega)).trans (k3 k x y))) hS.1 rfl rfl (Nat.le_of_ble_eq_true rfl) (k_U (fun M9 hM9 => ?_)) n_U
          obtain ⟨n1, n2⟩ := hM9
          have v3 : M9 (m + 1) (191 + 4 * h + d) = t (191 + 4 * h + d) := (n1 _ _ (by omega)).trans v2
          have e := sumN_1 (fun d => t (191 + 4 * h + d)) u1.1
          refine x_lload (pc := 164) dX12_layLikely_164 rfl ?_
          refine x_aload_n (pc := 166) dX12_layLikely_166 rfl rfl ?_
          refine x_getR (jj := 0) (pc := 167) dX12_layLikely_167 fX12_9 hS.1 rfl (by decide) rfl rM_0 ?_
          refine x_sipush (pc := 170) dX12_layLikely_170 (by decide) ?_
          refine x_iconst (pc := 173) dX12_layLikely_173 (by decide) ?_
          refine x_iload_n (pc := 174) dX12_layLikely_174 rfl rfl ?_
          refine x_imul (pc := 175) dX12_layLikely_175 (by omega) ?_
          refine x_iadd (pc := 176) dX12_layLikely_176 (by omega) ?_
          refine x_iload (pc := 177) dX12_layLikely_177 rfl ?_
          refine x_iadd (pc := 179) dX12_layLikely_179 (by omega) ?_
          refine x_ialoadV (pc := 180) dX12_layLikely_180 (sM_0 hS) (by omega) (by (repeat (first | rewrite [up_s] | rewrite [up_i (by omega)] | rewrite [up_a (by omega)] | rewrite [stM_a (by omega) (by omega)])); first | exact v3 | exact v1 | exact v2 | rfl) (fun g_180 => ?_)
          refine x_i2l (pc := 181) dX12_layLikely_181 ?_
          refine x_ladd (pc := 182) dX12_layLikely_182 (by split <;> omega) ?_
          refine x_lstore (pc := 183) dX12_layLikely_183 (by decide) rfl ?_
          refine x_iinc (pc := 185) dX12_layLikely_185 rfl (by omega) (by decide) rfl ?_
          refine x_goto (tgt := 123) (pc := 188) dX12_layLikely_188 (by decide) ?_
          refine x_lo (lo' := [(0, (2, m)), (1, (0, set)), (2, (0, h)), (3, (0, t (156 + h))), (4, (1, (if t (156 + h) = 0 then 1 else 0) + sumN (fun d => t (191 + 4 * h + d)) d.toNat + t (191 + 4 * h + d))), (6, (0, d + 1))]) ⟨rfl, rfl, rfl, rfl, rfl, rfl, trivial⟩ ?_
          have z := ih3 (d + 1) M9 ⟨by omega, fun a i x => (n1 a i x).trans (u2 a i x), fun _ k x y => by rw [n2 k x y, sumN_1 _ u1.1], fun q => absurd q hnz⟩ (by omega)
          rw [e, ← Int.add_assoc] at z
          exact z)
    have loop78 : (h < 7) → (hb set h = 1) → ∀ (j : Int) (M2 : aM), ((0 ≤ j ∧ j ≤ 57) ∧ (∀ a i, a ≠ m + 26 → M2 a i = M1 a i) ∧ ∀ k, 0 ≤ k → k < j → M2 (m + 26) k = 0) → aX l E pX12_layLikely (aU N S (fun M' => (∀ a i, (a = m → i ≠ 48) → a ≠ m + 25 → a ≠ m + 26 → M' a i = M a i) ∧ (∀ k, 0 ≤ k → k < 57 → M' (m + 25) k = oddsV t set 7 k) ∧ M' m 48 = allC t set 7)) 0 0 N S M2 78 [(0, (2, m)), (1, (0, set)), (2, (0, h)), (3, (0, t (156 + h))), (4, (1, (if t (156 + h) = 0 then 1 else 0))), (6, (0, j))] [] := by
      intro h7 hhb
      exact a_loop2 (fun j M2 => (0 ≤ j ∧ j ≤ 57) ∧ (∀ a i, a ≠ m + 26 → M2 a i = M1 a i) ∧ ∀ k, 0 ≤ k → k < j → M2 (m + 26) k = 0) (fun j M2 => (57 - j).toNat) (fun j M2 => aX l E pX12_layLikely (aU N S (fun M' => (∀ a i, (a = m → i ≠ 48) → a ≠ m + 25 → a ≠ m + 26 → M' a i = M a i) ∧ (∀ k, 0 ≤ k → k < 57 → M' (m + 25) k = oddsV t set 7 k) ∧ M' m 48 = allC t set 7)) 0 0 N S M2 78 [(0, (2, m)), (1, (0, set)), (2, (0, h)), (3, (0, t (156 + h))), (4, (1, (if t (156 + h) = 0 then 1 else 0))), (6, (0, j))] []) (by
        intro j M2 hI2 ih2
        obtain ⟨v0, v2, v3⟩ := hI2
        refine x_iload (pc := 78) dX12_layLikely_78 rfl ?_
        refine x_bipush (pc := 80) dX12_layLikely_80 (by decide) ?_
        refine x_icmp_ge (tgt := 99) (pc := 82) dX12_layLikely_82 (by decide) (fun c_82 => ?_) (fun c_82 => ?_)
        · refine x_iload_n (pc := 99) dX12_layLikely_99 rfl rfl ?_
          refine x_if_ne (tgt := 120) (pc := 100) dX12_layLikely_100 (by decide) (fun c_100 => ?_) (fun c_100 => ?_)
          · refine x_iconst (pc := 120) dX12_layLikely_120 (by decide) ?_
            refine x_istore (pc := 121) dX12_layLikely_121 (by decide) rfl ?_
            refine x_lo (lo' := [(0, (2, m)), (1, (0, set)), (2, (0, h)), (3, (0, t (156 + h))), (4, (1, (if t (156 + h) = 0 then 1 else 0) + sumN (fun d => t (191 + 4 * h + d)) (0 : Int).toNat)), (6, (0, 0))]) ⟨rfl, rfl, rfl, rfl, ?_, rfl, trivial⟩ (loop123 h7 hhb 0 _ ⟨⟨by omega, (hD.2.1 h k1.1 (by omega)).1⟩, v2, fun q k x y => v3 k x (by omega), fun q => absurd q (by assumption)⟩)
            · show some (1, (if t (156 + h) = 0 then (1 : Int) else 0)) = some (1, (if t (156 + h) = 0 then (1 : Int) else 0) + 0)
              rw [Int.add_zero]
          · have w1 := hD.1 (6 * h) (by omega) (by omega)
            rw [show 8 + 6 * h = 8 + 6 * h from rfl] at w1
            have v1 : M2 (m + 1) (8 + 6 * h) = t (8 + 6 * h) := ((v2 _ _ (by omega)).trans (k2 _ _ (by omega) (by omega) (by omega))).trans (hT _ (by omega) (by omega))
            refine x_aload_n (pc := 103) dX12_layLikely_103 rfl rfl ?_
            refine x_aload_n (pc := 104) dX12_layLikely_104 rfl rfl ?_
            refine x_getR (jj := 0) (pc := 105) dX12_layLikely_105 fX12_9 hS.1 rfl (by decide) rfl rM_0 ?_
            refine x_bipush (pc := 108) dX12_layLikely_108 (by decide) ?_
            refine x_bipush (pc := 110) dX12_layLikely_110 (by decide) ?_
            refine x_iload_n (pc := 112) dX12_layLikely_112 rfl rfl ?_
            refine x_imul (pc := 113) dX12_layLikely_113 (by omega) ?_
            refine x_iadd (pc := 114) dX12_layLikely_114 (by omega) ?_
            refine x_ialoadV (pc := 115) dX12_layLikely_115 (sM_0 hS) (by omega) (by (repeat (first | rewrite [up_s] | rewrite [up_i (by omega)] | rewrite [up_a (by omega)] | rewrite [stM_a (by omega) (by omega)])); first | exact v1 | rfl) (fun g_115 => ?_)
            refine x_lconst1 (pc := 116) dX12_layLikely_116 ?_
            refine x_callV2 (pc := 117) dX12_layLikely_117 rfl kX12_416 (s_adds hfl m (t (8 + 6 * h)) 1 (fun _ => 0) (oddsV t set h.toNat) hS w1 (by omega) (fun _ _ _ => by omega) (fun k x y => by have := oddsV_r hD (set := set) h.toNat (by omega) k x y; have := p36_6 h.toNat (by omega); omega) (fun k x y => v3 k x (by omega)) (fun k x y => (v2 _ _ (by omega)).trans (k3 k x y))) hS.1 rfl rfl (Nat.le_of_ble_eq_true rfl) (k_U (fun M9 hM9 => ?_)) n_U
            obtain ⟨n1, n2⟩ := hM9
            refine x_iconst (pc := 120) dX12_layLikely_120 (by decide) ?_
            refine x_istore (pc := 121) dX12_layLikely_121 (by decide) rfl ?_
            refine x_lo (lo' := [(0, (2, m)), (1, (0, set)), (2, (0, h)), (3, (0, t (156 + h))), (4, (1, (if t (156 + h) = 0 then 1 else 0) + sumN (fun d => t (191 + 4 * h + d)) (0 : Int).toNat)), (6, (0, 0))]) ⟨rfl, rfl, rfl, rfl, ?_, rfl, trivial⟩ (loop123 h7 hhb 0 _ ⟨⟨by omega, (hD.2.1 h k1.1 (by omega)).1⟩, fun a i x => (n1 a i x).trans (v2 a i x), fun q => absurd (by assumption) q, fun q k x y => ?_⟩)
            · show some (1, (if t (156 + h) = 0 then (1 : Int) else 0)) = some (1, (if t (156 + h) = 0 then (1 : Int) else 0) + 0)
              rw [Int.add_zero]
            · rw [n2 k x y, Int.zero_add]
              exact (if_pos q).symm
        · refine x_aload_n (pc := 85) dX12_layLikely_85 rfl rfl ?_
          refine x_getR (jj := 47) (pc := 86) dX12_layLikely_86 fX12_91 hS.1 rfl (by decide) rfl rM_47 ?_
          refine x_iload (pc := 89) dX12_layLikely_89 rfl ?_
          refine x_lconst0 (pc := 91) dX12_layLikely_91 ?_
          refine x_lastore (pc := 92) dX12_layLikely_92 (sM_47 hS) (by omega) ?_
          refine x_iinc (pc := 93) dX12_layLikely_93 rfl (by omega) (by decide) rfl ?_
          refine x_goto (tgt := 78) (pc := 96) dX12_layLikely_96 (by decide) ?_
          refine x_lo (lo' := [(0, (2, m)), (1, (0, set)), (2, (0, h)), (3, (0, t (156 + h))), (4, (1, (if t (156 + h) = 0 then 1 else 0))), (6, (0, (j + 1)))]) ⟨rfl, rfl, rfl, rfl, rfl, rfl, trivial⟩ (ih2 (j + 1) _ ⟨by omega, fun a i x => (up_a x).trans (v2 a i x), fun k x y => ?_⟩ (by omega))
          by_cases e : k = j
          · subst e; exact up_s
          · exact (up_i e).trans (v3 k x (by omega)))
    refine x_iload_n (pc := 36) dX12_layLikely_36 rfl rfl ?_
    refine x_bipush (pc := 37) dX12_layLikely_37 (by decide) ?_
    refine x_icmp_ge (tgt := 238) (pc := 39) dX12_layLikely_39 (by decide) (fun c_39 => ?_) (fun c_39 => ?_)
    · refine x_return (pc := 238) dX12_layLikely_238 rfl (by decide) ?_
      refine ⟨rfl, rfl, rfl, k2, fun k x y => ?_, ?_⟩
      · rw [k3 k x y, show h.toNat = 7 by omega]
      · rw [k4, show h.toNat = 7 by omega]
    · refine x_iload_n (pc := 42) dX12_layLikely_42 rfl rfl ?_
      refine x_iload_n (pc := 43) dX12_layLikely_43 rfl rfl ?_
      refine x_callS2 (pc := 44) dX12_layLikely_44 rfl kX12_136 (s_hasM hfl _ _) rfl (Nat.le_of_ble_eq_true rfl) (k_B (fun q_44 => ?_) (fun q_44 => ?_)) n_B
      · refine x_if_ne (tgt := 53) (pc := 47) dX12_layLikely_47 (by decide) (fun _ => ?_) (fun c => absurd c (by decide))
        refine x_aload_n (pc := 53) dX12_layLikely_53 rfl rfl ?_
        refine x_getR (jj := 0) (pc := 54) dX12_layLikely_54 fX12_9 hS.1 rfl (by decide) rfl rM_0 ?_
        refine x_sipush (pc := 57) dX12_layLikely_57 (by decide) ?_
        refine x_iload_n (pc := 60) dX12_layLikely_60 rfl rfl ?_
        refine x_iadd (pc := 61) dX12_layLikely_61 (by omega) ?_
        refine x_ialoadV (pc := 62) dX12_layLikely_62 (sM_0 hS) (by omega) (by (repeat (first | rewrite [up_s] | rewrite [up_i (by omega)] | rewrite [up_a (by omega)] | rewrite [stM_a (by omega) (by omega)])); first | exact (k2 _ _ (by omega) (by omega) (by omega)).trans (hT _ (by omega) (by omega)) | rfl) (fun g_62 => ?_)
        refine x_istore_n (pc := 63) dX12_layLikely_63 rfl (by decide) rfl ?_
        refine x_iload_n (pc := 64) dX12_layLikely_64 rfl rfl ?_
        refine x_if_ne (tgt := 72) (pc := 65) dX12_layLikely_65 (by decide) (fun c_65 => ?_) (fun c_65 => ?_)
        · refine x_lconst0 (pc := 72) dX12_layLikely_72 ?_
          refine x_lstore (pc := 73) dX12_layLikely_73 (by decide) rfl ?_
          refine x_iconst (pc := 75) dX12_layLikely_75 (by decide) ?_
          refine x_istore (pc := 76) dX12_layLikely_76 (by decide) rfl ?_
          refine x_lo (lo' := [(0, (2, m)), (1, (0, set)), (2, (0, h)), (3, (0, t (156 + h))), (4, (1, (if t (156 + h) = 0 then 1 else 0))), (6, (0, 0))]) ⟨rfl, rfl, rfl, rfl, ?_, rfl, trivial⟩ (loop78 (by omega) (by assumption) 0 _ ⟨by omega, fun _ _ _ => rfl, fun k x y => by omega⟩)
          show some (1, (0 : Int)) = some (1, if t (156 + h) = 0 then 1 else 0)
          rw [if_neg (by assumption)]
        · refine x_lconst1 (pc := 68) dX12_layLikely_68 ?_
          refine x_goto (tgt := 73) (pc := 69) dX12_layLikely_69 (by decide) ?_
          refine x_lstore (pc := 73) dX12_layLikely_73 (by decide) rfl ?_
          refine x_iconst (pc := 75) dX12_layLikely_75 (by decide) ?_
          refine x_istore (pc := 76) dX12_layLikely_76 (by decide) rfl ?_
          refine x_lo (lo' := [(0, (2, m)), (1, (0, set)), (2, (0, h)), (3, (0, t (156 + h))), (4, (1, (if t (156 + h) = 0 then 1 else 0))), (6, (0, 0))]) ⟨rfl, rfl, rfl, rfl, ?_, rfl, trivial⟩ (loop78 (by omega) (by assumption) 0 _ ⟨by omega, fun _ _ _ => rfl, fun k x y => by omega⟩)
          show some (1, (1 : Int)) = some (1, if t (156 + h) = 0 then 1 else 0)
          rw [if_pos (by assumption)]
      · refine x_if_ne (tgt := 53) (pc := 47) dX12_layLikely_47 (by decide) (fun c => absurd c (by decide)) (fun _ => ?_)
        refine x_goto (tgt := 232) (pc := 50) dX12_layLikely_50 (by decide) ?_
        refine x_iinc (pc := 232) dX12_layLikely_232 rfl (by omega) (by decide) rfl ?_
        refine x_goto (tgt := 36) (pc := 235) dX12_layLikely_235 (by decide) ?_
        refine x_lo (lo' := [(0, (2, m)), (1, (0, set)), (2, (0, (h + 1)))]) ⟨rfl, rfl, rfl, trivial⟩ (ih1 (h + 1) _ ⟨by omega, k2, fun k x y => ?_, ?_⟩ (by omega))
        · rw [oddsV_1 k1.1, if_neg (by assumption)]; exact k3 k x y
        · rw [allC_1 k1.1, if_neg (by assumption)]; exact k4)
  have loop2 := a_loop2 (fun j M2 => (0 ≤ j ∧ j ≤ 57) ∧ (∀ a i, a ≠ m + 25 → M2 a i = M a i) ∧ ∀ k, 0 ≤ k → k < j → M2 (m + 25) k = if k = 0 then 1 else 0) (fun j M2 => (57 - j).toNat) (fun j M2 => aX l E pX12_layLikely (aU N S (fun M' => (∀ a i, (a = m → i ≠ 48) → a ≠ m + 25 → a ≠ m + 26 → M' a i = M a i) ∧ (∀ k, 0 ≤ k → k < 57 → M' (m + 25) k = oddsV t set 7 k) ∧ M' m 48 = allC t set 7)) 0 0 N S M2 2 [(0, (2, m)), (1, (0, set)), (2, (0, j))] []) (by
    intro j M2 hI ih0
    obtain ⟨v1, v2, v3⟩ := hI
    refine x_iload_n (pc := 2) dX12_layLikely_2 rfl rfl ?_
    refine x_bipush (pc := 3) dX12_layLikely_3 (by decide) ?_
    refine x_icmp_ge (tgt := 29) (pc := 5) dX12_layLikely_5 (by decide) (fun c_5 => ?_) (fun c_5 => ?_)
    · refine x_aload_n (pc := 29) dX12_layLikely_29 rfl rfl ?_
      refine x_lconst1 (pc := 30) dX12_layLikely_30 ?_
      refine x_putJ (jj := 48) (pc := 31) dX12_layLikely_31 fX12_413 hS.1 rfl (by decide) rfl ?_
      refine x_iconst (pc := 34) dX12_layLikely_34 (by decide) ?_
      refine x_istore_n (pc := 35) dX12_layLikely_35 rfl (by decide) rfl ?_
      refine x_lo (lo' := [(0, (2, m)), (1, (0, set)), (2, (0, 0))]) ⟨rfl, rfl, rfl, trivial⟩ (loop36 (0) _ ⟨by omega, fun a i x y z => (up_a2 (by omega)).trans (v2 a i y), fun k x y => ?_, ?_⟩)
      · rw [up_a (by omega), v3 k x (by omega)]; rfl
      · rw [up_s]; rfl
    · refine x_aload_n (pc := 8) dX12_layLikely_8 rfl rfl ?_
      refine x_getR (jj := 46) (pc := 9) dX12_layLikely_9 fX12_88 hS.1 rfl (by decide) rfl rM_46 ?_
      refine x_iload_n (pc := 12) dX12_layLikely_12 rfl rfl ?_
      refine x_iload_n (pc := 13) dX12_layLikely_13 rfl rfl ?_
      refine x_if_ne (tgt := 21) (pc := 14) dX12_layLikely_14 (by decide) (fun c_14 => ?_) (fun c_14 => ?_)
      · refine x_lconst0 (pc := 21) dX12_layLikely_21 ?_
        refine x_lastore (pc := 22) dX12_layLikely_22 (sM_46 hS) (by omega) ?_
        refine x_iinc (pc := 23) dX12_layLikely_23 rfl (by omega) (by decide) rfl ?_
        refine x_goto (tgt := 2) (pc := 26) dX12_layLikely_26 (by decide) ?_
        refine x_lo (lo' := [(0, (2, m)), (1, (0, set)), (2, (0, (j + 1)))]) ⟨rfl, rfl, rfl, trivial⟩ (ih0 (j + 1) _ ⟨by omega, fun a i x => (up_a x).trans (v2 a i x), fun k x y => ?_⟩ (by omega))
        by_cases e : k = j
        · subst e; rw [up_s, if_neg (by assumption)]
        · exact (up_i e).trans (v3 k x (by omega))
      · refine x_lconst1 (pc := 17) dX12_layLikely_17 ?_
        refine x_goto (tgt := 22) (pc := 18) dX12_layLikely_18 (by decide) ?_
        refine x_lastore (pc := 22) dX12_layLikely_22 (sM_46 hS) (by omega) ?_
        refine x_iinc (pc := 23) dX12_layLikely_23 rfl (by omega) (by decide) rfl ?_
        refine x_goto (tgt := 2) (pc := 26) dX12_layLikely_26 (by decide) ?_
        refine x_lo (lo' := [(0, (2, m)), (1, (0, set)), (2, (0, (j + 1)))]) ⟨rfl, rfl, rfl, trivial⟩ (ih0 (j + 1) _ ⟨by omega, fun a i x => (up_a x).trans (v2 a i x), fun k x y => ?_⟩ (by omega))
        by_cases e : k = j
        · subst e; rw [up_s, if_pos (by assumption)]
        · exact (up_i e).trans (v3 k x (by omega)))
  refine x_iconst (pc := 0) dX12_layLikely_0 (by decide) ?_
  refine x_istore_n (pc := 1) dX12_layLikely_1 rfl (by decide) rfl ?_
  refine x_lo (lo' := [(0, (2, m)), (1, (0, set)), (2, (0, 0))]) ⟨rfl, rfl, rfl, trivial⟩ (loop2 (0) _ ⟨by omega, fun _ _ _ => rfl, fun k x y => by omega⟩)
theorem s_riskM {l : Launch} {E : aE} {N : Nat} {S : aS} {M : aM} (hfl : l.stackTraces = false) (m : Int) (A : aM) (hS : lyM S m) (hR : RM M m A) (hA : TOK (A 0)) (set q : Int) (hq : 0 ≤ q ∧ q ≤ 56) (hnb : buysV (A 0) q 0 ≠ -1) (hO : ∀ k, 0 ≤ k → k < 57 → M (m + 25) k = oddsV (A 0) set 7 k) (hAl : M m 48 = allC (A 0) set 7) : aMt l E pX12_riskOf [(2, m), (0, q)] N S M (aG N S (fun v M' => v = (1, riskC (A 0) set q (buysV (A 0) q 0)) ∧ frZ M M' m ∧ RM M' m A)) := by
  refine a_met hfl rfl (by decide +kernel) (Nat.le_of_ble_eq_true rfl) ?_
  have hbr : 0 ≤ buysV (A 0) q 0 ∧ buysV (A 0) q 0 ≤ 60000 := by
    have := buysV_lt (t := A 0) (q := q) (k := 0) hA.tt (by omega) (hA.2.2.2.2.2.2.2.2.2.2.2.2.2.2.2.2.2.2.1 0 (by omega) (by omega))
    omega
  refine x_aload_n (pc := 0) dX12_riskOf_0 rfl rfl ?_
  refine x_iload_n (pc := 1) dX12_riskOf_1 rfl rfl ?_
  refine x_iconst (pc := 2) dX12_riskOf_2 (by decide) ?_
  have hac9 := acost_r hA.td (set := set) hbr
  refine x_callV2 (pc := 3) dX12_riskOf_3 rfl kX12_279 (s_buysOf hfl m (core (A 0)) hS hR.re (core_tt hA.tt) hR.rp0 q 0 (by omega) (by omega) (by rw [core_hi (by omega)]; exact hA.2.2.2.2.2.2.2.2.2.2.2.2.2.2.2.2.2.2.1 0 (by omega) (by omega))) hS.1 rfl rfl (Nat.le_of_ble_eq_true rfl) (k_G (fun v9 M9 hM9 => ?_)) n_G
  obtain ⟨rfl, f9, p9, z9⟩ := hM9
  have R9 : RM M9 m A := hR.mk9w f9.k ⟨Or.inr p9, z9⟩ (RCw.cg hR.2.2.1 (fun i => f9 _ _ (by omega) (by omega)))
  rewrite [buysV_cg (u := A 0) (fun j hj => core_hi hj) _ _ (by omega), show encF FAR2 (buysV (A 0) q 0) = buysV (A 0) q 0 from if_neg hnb]
  refine x_i2l (pc := 6) dX12_riskOf_6 ?_
  refine x_aload_n (pc := 7) dX12_riskOf_7 rfl rfl ?_
  refine x_getJV (jj := 48) (pc := 8) dX12_riskOf_8 fX12_413 hS.1 rfl (by decide) rfl (by (repeat (first | rewrite [up_s] | rewrite [up_i (by omega)] | rewrite [up_a (by omega)] | rewrite [stM_a (by omega) (by omega)])); first | exact (f9 m 48 (by omega) (by omega)).trans hAl | rfl) ?_
  refine x_lmul (pc := 11) dX12_riskOf_11 (by rw [Int.mul_comm]; exact ⟨by omega, by omega⟩) ?_
  rewrite [Int.mul_comm (buysV (A 0) q 0)]
  refine x_lstore_n (pc := 12) dX12_riskOf_12 rfl (by decide) rfl ?_
  have loop := a_loop1 (fun k => 0 ≤ k ∧ k ≤ 57) (fun k => (57 - k).toNat) (fun k => aX l E pX12_riskOf (aG N S (fun v M' => v = (1, riskC (A 0) set q (buysV (A 0) q 0)) ∧ frZ M M' m ∧ RM M' m A)) 0 0 N S M9 16 [(0, (2, m)), (1, (0, q)), (2, (1, allC (A 0) set 7 * buysV (A 0) q 0 + sumN (fun k => oddsV (A 0) set 7 k * missV (A 0) q k) k.toNat)), (4, (0, k))] []) (by
    intro k hI ih
    have hso := rsum_r hA.td (set := set) hq k.toNat (by omega)
    have hac := acost_r hA.td (set := set) hbr
    have J66 : k < 57 → ∀ x : Int, x = missV (A 0) q k → aX l E pX12_riskOf (aG N S (fun v M' => v = (1, riskC (A 0) set q (buysV (A 0) q 0)) ∧ frZ M M' m ∧ RM M' m A)) 0 0 N S M9 66 [(0, (2, m)), (1, (0, q)), (2, (1, allC (A 0) set 7 * buysV (A 0) q 0 + sumN (fun k => oddsV (A 0) set 7 k * missV (A 0) q k) k.toNat)), (4, (0, k))] [(0, x), (1, oddsV (A 0) set 7 k), (1, allC (A 0) set 7 * buysV (A 0) q 0 + sumN (fun k => oddsV (A 0) set 7 k * missV (A 0) q k) k.toNat)] := by
      intro hk9 x hx
      have htr := term_r hA.td (set := set) hq (k := k) ⟨hI.1, hk9⟩
      refine x_i2l (pc := 66) dX12_riskOf_66 ?_
      refine x_lmul (pc := 67) dX12_riskOf_67 (by rw [hx]; omega) ?_
      refine x_ladd (pc := 68) dX12_riskOf_68 (by rw [hx]; omega) ?_
      refine x_lstore_n (pc := 69) dX12_riskOf_69 rfl (by decide) rfl ?_
      refine x_iinc (pc := 70) dX12_riskOf_70 rfl (by omega) (by decide) rfl ?_
      refine x_goto (tgt := 16) (pc := 73) dX12_riskOf_73 (by decide) ?_
      have e := sumN_1 (fun k => oddsV (A 0) set 7 k * missV (A 0) q k) hI.1
      rw [hx]
      refine x_lo (lo' := [(0, (2, m)), (1, (0, q)), (2, (1, allC (A 0) set 7 * buysV (A 0) q 0 + sumN (fun k => oddsV (A 0) set 7 k * missV (A 0) q k) k.toNat + oddsV (A 0) set 7 k * missV (A 0) q k)), (4, (0, k + 1))]) ⟨rfl, rfl, rfl, rfl, trivial⟩ ?_
      have z := ih (k + 1) ⟨by omega, by omega⟩ (by omega)
      rw [e, ← Int.add_assoc] at z
      exact z
    refine x_iload (pc := 16) dX12_riskOf_16 rfl ?_
    refine x_bipush (pc := 18) dX12_riskOf_18 (by decide) ?_
    refine x_icmp_ge (tgt := 76) (pc := 20) dX12_riskOf_20 (by decide) (fun c_20 => ?_) (fun c_20 => ?_)
    · refine x_lload_n (pc := 76) dX12_riskOf_76 rfl rfl ?_
      refine x_lreturn (pc := 77) dX12_riskOf_77 rfl (by decide) ?_
      refine ⟨_, rfl, rfl, rfl, ?_, f9, R9⟩
      unfold riskC
      rw [show k.toNat = 57 by omega]
    · refine x_lload_n (pc := 23) dX12_riskOf_23 rfl rfl ?_
      refine x_aload_n (pc := 24) dX12_riskOf_24 rfl rfl ?_
      refine x_getR (jj := 46) (pc := 25) dX12_riskOf_25 fX12_88 hS.1 rfl (by decide) rfl rM_46 ?_
      refine x_iload (pc := 28) dX12_riskOf_28 rfl ?_
      refine x_laloadV (pc := 30) dX12_riskOf_30 (sM_46 hS) (by omega) (by (repeat (first | rewrite [up_s] | rewrite [up_i (by omega)] | rewrite [up_a (by omega)] | rewrite [stM_a (by omega) (by omega)])); first | exact R9.1.1 _ (by omega) (by omega) | exact (f9 _ _ (by omega) (by omega)).trans (hO k hI.1 (by omega)) | rfl) (fun g_30 => ?_)
      refine x_iload (pc := 31) dX12_riskOf_31 rfl ?_
      refine x_iload_n (pc := 33) dX12_riskOf_33 rfl rfl ?_
      refine x_icmp_le (tgt := 53) (pc := 34) dX12_riskOf_34 (by decide) (fun c_34 => ?_) (fun c_34 => ?_)
      · refine x_aload_n (pc := 53) dX12_riskOf_53 rfl rfl ?_
        refine x_getR (jj := 0) (pc := 54) dX12_riskOf_54 fX12_9 hS.1 rfl (by decide) rfl rM_0 ?_
        refine x_sipush (pc := 57) dX12_riskOf_57 (by decide) ?_
        refine x_ialoadV (pc := 60) dX12_riskOf_60 (sM_0 hS) (by omega) (by (repeat (first | rewrite [up_s] | rewrite [up_i (by omega)] | rewrite [up_a (by omega)] | rewrite [stM_a (by omega) (by omega)])); first | exact R9.1.1 _ (by omega) (by omega) | exact (f9 _ _ (by omega) (by omega)).trans (hO k hI.1 (by omega)) | rfl) (fun g_60 => ?_)
        refine x_iload_n (pc := 61) dX12_riskOf_61 rfl rfl ?_
        refine x_iload (pc := 62) dX12_riskOf_62 rfl ?_
        refine x_isub (pc := 64) dX12_riskOf_64 (by omega) ?_
        refine x_imul (pc := 65) dX12_riskOf_65 (by have z := missV_r hA.td hq (k := k) ⟨hI.1, by omega⟩; unfold missV at z; rw [if_neg (by omega), Int.mul_comm] at z; omega) ?_
        exact x_lo (lo' := [(0, (2, m)), (1, (0, q)), (2, (1, allC (A 0) set 7 * buysV (A 0) q 0 + sumN (fun k => oddsV (A 0) set 7 k * missV (A 0) q k) k.toNat)), (4, (0, k))]) ⟨rfl, rfl, rfl, rfl, trivial⟩ (J66 (by omega) _ (by unfold missV; rw [if_neg (by omega), Int.mul_comm]))
      · refine x_aload_n (pc := 37) dX12_riskOf_37 rfl rfl ?_
        refine x_getR (jj := 0) (pc := 38) dX12_riskOf_38 fX12_9 hS.1 rfl (by decide) rfl rM_0 ?_
        refine x_sipush (pc := 41) dX12_riskOf_41 (by decide) ?_
        refine x_ialoadV (pc := 44) dX12_riskOf_44 (sM_0 hS) (by omega) (by (repeat (first | rewrite [up_s] | rewrite [up_i (by omega)] | rewrite [up_a (by omega)] | rewrite [stM_a (by omega) (by omega)])); first | exact R9.1.1 _ (by omega) (by omega) | exact (f9 _ _ (by omega) (by omega)).trans (hO k hI.1 (by omega)) | rfl) (fun g_44 => ?_)
        refine x_iload (pc := 45) dX12_riskOf_45 rfl ?_
        refine x_iload_n (pc := 47) dX12_riskOf_47 rfl rfl ?_
        refine x_isub (pc := 48) dX12_riskOf_48 (by omega) ?_
        refine x_imul (pc := 49) dX12_riskOf_49 (by have z := missV_r hA.td hq (k := k) ⟨hI.1, by omega⟩; unfold missV at z; rw [if_pos (by omega), Int.mul_comm] at z; omega) ?_
        refine x_goto (tgt := 66) (pc := 50) dX12_riskOf_50 (by decide) ?_
        exact x_lo (lo' := [(0, (2, m)), (1, (0, q)), (2, (1, allC (A 0) set 7 * buysV (A 0) q 0 + sumN (fun k => oddsV (A 0) set 7 k * missV (A 0) q k) k.toNat)), (4, (0, k))]) ⟨rfl, rfl, rfl, rfl, trivial⟩ (J66 (by omega) _ (by unfold missV; rw [if_pos (by omega), Int.mul_comm])))
  refine x_iconst (pc := 13) dX12_riskOf_13 (by decide) ?_
  refine x_istore (pc := 14) dX12_riskOf_14 (by decide) rfl ?_
  refine x_lo (lo' := [(0, (2, m)), (1, (0, q)), (2, (1, allC (A 0) set 7 * buysV (A 0) q 0 + sumN (fun k => oddsV (A 0) set 7 k * missV (A 0) q k) (0 : Int).toNat)), (4, (0, 0))]) ⟨rfl, rfl, ?_, rfl, trivial⟩ (loop 0 ⟨by omega, by omega⟩)
  show some (1, allC (A 0) set 7 * buysV (A 0) q 0) = some (1, allC (A 0) set 7 * buysV (A 0) q 0 + 0)
  rw [Int.add_zero]
