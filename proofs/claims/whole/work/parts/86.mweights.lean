/-! the reference: weights, ruled, keeps -/
def uV (t c : Int → Int) (h : Int) : Int := if t 252 = 0 then sumN (fun m => t (8 + 6 * h + m)) (t 244).toNat else if t 252 = 1 then c (b_shl 1 h) else 0
theorem uV_w {t c : Int → Int} {h : Int} (hr : 0 ≤ t 252 ∧ t 252 ≤ 2) (q : t 252 ≠ 2) : uV t c h = wgtV t c h := by
  unfold uV wgtV
  by_cases a : t 252 = 0
  · rw [if_pos a, if_pos a]
  · rw [if_neg a, if_neg a, if_pos (by omega), if_pos (by omega)]
theorem uV_r {t c : Int → Int} (hK : TQ t) (hr : 0 ≤ t 252 ∧ t 252 ≤ 2) (hc : costs9 c) {s h : Int} (hh : 0 ≤ h ∧ h < 7) (hs : hb s h = 1) (hw : wOK t c s = true) : 0 ≤ uV t c h ∧ uV t c h ≤ 233442 := by
  by_cases q : t 252 = 2
  · unfold uV
    rw [if_neg (by omega), if_neg (by omega)]
    omega
  · rw [uV_w hr q]; exact wgtV_r hK hr hc hh hs hw
theorem payS_0 {s : Int} : payS (fun _ => 0) s = 0 := by
  have z := sumN_le (f := fun h => if hb s h = 1 then (0 : Int) else 0) (c := 0) (n := 7) (fun i a b => by
    show 0 ≤ (if hb s i = 1 then (0 : Int) else 0) ∧ (if hb s i = 1 then (0 : Int) else 0) ≤ 0
    split <;> omega)
  show sumN (fun h => if hb s h = 1 then (0 : Int) else 0) 7 = 0
  omega
theorem wV_u {t c : Int → Int} (hr : 0 ≤ t 252 ∧ t 252 ≤ 2) {s : Int} (hs : 0 < s ∧ s < 128) (h : Int) : wV t c s h = if payS (uV t c) s = 0 then 1 else uV t c h := by
  by_cases q : t 252 = 2
  · have e : uV t c = fun _ => 0 := by
      funext i
      unfold uV
      rw [if_neg (by omega), if_neg (by omega)]
    rw [e, if_pos payS_0]
    unfold wV
    split
    · rfl
    · unfold wgtV
      rw [if_neg (by omega), if_neg (by omega)]
  · have e : uV t c = wgtV t c := by
      funext i
      exact uV_w hr q
    rw [e]
    rfl
theorem wV_u0 {t c : Int → Int} (hr : 0 ≤ t 252 ∧ t 252 ≤ 2) {s : Int} (hs : 0 < s ∧ s < 128) (q : payS (uV t c) s = 0) : wV t c s = fun _ => 1 := by
  funext h
  rw [wV_u hr hs, if_pos q]
theorem wV_u1 {t c : Int → Int} (hr : 0 ≤ t 252 ∧ t 252 ≤ 2) {s : Int} (hs : 0 < s ∧ s < 128) (q : payS (uV t c) s ≠ 0) : wV t c s = uV t c := by
  funext h
  rw [wV_u hr hs, if_neg q]
theorem dX12_isOf_0 : decode cX12_isOf 0 = .ok (.iload_n 2, 1) := by decide +kernel
theorem dX12_isOf_1 : decode cX12_isOf 1 = .ok (.i2l, 1) := by decide +kernel
theorem dX12_isOf_2 : decode cX12_isOf 2 = .ok (.lconst 0, 1) := by decide +kernel
theorem dX12_isOf_3 : decode cX12_isOf 3 = .ok (.ldc2_w 331, 3) := by decide +kernel
theorem dX12_isOf_6 : decode cX12_isOf 6 = .ok (.invokestatic 106, 3) := by decide +kernel
theorem dX12_isOf_9 : decode cX12_isOf 9 = .ok (.ifCond .eq 15, 3) := by decide +kernel
theorem dX12_isOf_12 : decode cX12_isOf 12 = .ok (.iload_n 1, 1) := by decide +kernel
theorem dX12_isOf_13 : decode cX12_isOf 13 = .ok (.iload_n 2, 1) := by decide +kernel
theorem dX12_isOf_14 : decode cX12_isOf 14 = .ok (.invokestatic 136, 3) := by decide +kernel
theorem dX12_isOf_17 : decode cX12_isOf 17 = .ok (.ifCond .eq 7, 3) := by decide +kernel
theorem dX12_isOf_20 : decode cX12_isOf 20 = .ok (.iconst 1, 1) := by decide +kernel
theorem dX12_isOf_21 : decode cX12_isOf 21 = .ok (.goto 4, 3) := by decide +kernel
theorem dX12_isOf_24 : decode cX12_isOf 24 = .ok (.iconst 0, 1) := by decide +kernel
theorem dX12_isOf_25 : decode cX12_isOf 25 = .ok (.ireturn, 1) := by decide +kernel
theorem dX12_weights_0 : decode cX12_weights 0 = .ok (.aload_n 0, 1) := by decide +kernel
theorem dX12_weights_1 : decode cX12_weights 1 = .ok (.getfield 9, 3) := by decide +kernel
theorem dX12_weights_4 : decode cX12_weights 4 = .ok (.sipush 252, 3) := by decide +kernel
theorem dX12_weights_7 : decode cX12_weights 7 = .ok (.iaload, 1) := by decide +kernel
theorem dX12_weights_8 : decode cX12_weights 8 = .ok (.istore_n 2, 1) := by decide +kernel
theorem dX12_weights_9 : decode cX12_weights 9 = .ok (.iconst 0, 1) := by decide +kernel
theorem dX12_weights_10 : decode cX12_weights 10 = .ok (.istore_n 3, 1) := by decide +kernel
theorem dX12_weights_11 : decode cX12_weights 11 = .ok (.iload_n 3, 1) := by decide +kernel
theorem dX12_weights_12 : decode cX12_weights 12 = .ok (.bipush 7, 2) := by decide +kernel
theorem dX12_weights_14 : decode cX12_weights 14 = .ok (.if_icmp .ge 115, 3) := by decide +kernel
theorem dX12_weights_17 : decode cX12_weights 17 = .ok (.aload_n 0, 1) := by decide +kernel
theorem dX12_weights_18 : decode cX12_weights 18 = .ok (.getfield 69, 3) := by decide +kernel
theorem dX12_weights_21 : decode cX12_weights 21 = .ok (.iload_n 3, 1) := by decide +kernel
theorem dX12_weights_22 : decode cX12_weights 22 = .ok (.lconst 0, 1) := by decide +kernel
theorem dX12_weights_23 : decode cX12_weights 23 = .ok (.lastore, 1) := by decide +kernel
theorem dX12_weights_24 : decode cX12_weights 24 = .ok (.iload_n 1, 1) := by decide +kernel
theorem dX12_weights_25 : decode cX12_weights 25 = .ok (.iload_n 3, 1) := by decide +kernel
theorem dX12_weights_26 : decode cX12_weights 26 = .ok (.invokestatic 136, 3) := by decide +kernel
theorem dX12_weights_29 : decode cX12_weights 29 = .ok (.ifCond .ne 6, 3) := by decide +kernel
theorem dX12_weights_32 : decode cX12_weights 32 = .ok (.goto 91, 3) := by decide +kernel
theorem dX12_weights_35 : decode cX12_weights 35 = .ok (.iload_n 2, 1) := by decide +kernel
theorem dX12_weights_36 : decode cX12_weights 36 = .ok (.iconst 1, 1) := by decide +kernel
theorem dX12_weights_37 : decode cX12_weights 37 = .ok (.if_icmp .ne 16, 3) := by decide +kernel
theorem dX12_weights_40 : decode cX12_weights 40 = .ok (.aload_n 0, 1) := by decide +kernel
theorem dX12_weights_41 : decode cX12_weights 41 = .ok (.iconst 1, 1) := by decide +kernel
theorem dX12_weights_42 : decode cX12_weights 42 = .ok (.iload_n 3, 1) := by decide +kernel
theorem dX12_weights_43 : decode cX12_weights 43 = .ok (.ishl, 1) := by decide +kernel
theorem dX12_weights_44 : decode cX12_weights 44 = .ok (.invokevirtual 307, 3) := by decide +kernel
theorem dX12_weights_47 : decode cX12_weights 47 = .ok (.iconst (-1), 1) := by decide +kernel
theorem dX12_weights_48 : decode cX12_weights 48 = .ok (.if_icmp .ne 5, 3) := by decide +kernel
theorem dX12_weights_51 : decode cX12_weights 51 = .ok (.lconst 0, 1) := by decide +kernel
theorem dX12_weights_52 : decode cX12_weights 52 = .ok (.lreturn, 1) := by decide +kernel
theorem dX12_weights_53 : decode cX12_weights 53 = .ok (.iload_n 2, 1) := by decide +kernel
theorem dX12_weights_54 : decode cX12_weights 54 = .ok (.iconst 1, 1) := by decide +kernel
theorem dX12_weights_55 : decode cX12_weights 55 = .ok (.if_icmp .ne 17, 3) := by decide +kernel
theorem dX12_weights_58 : decode cX12_weights 58 = .ok (.aload_n 0, 1) := by decide +kernel
theorem dX12_weights_59 : decode cX12_weights 59 = .ok (.getfield 69, 3) := by decide +kernel
theorem dX12_weights_62 : decode cX12_weights 62 = .ok (.iload_n 3, 1) := by decide +kernel
theorem dX12_weights_63 : decode cX12_weights 63 = .ok (.aload_n 0, 1) := by decide +kernel
theorem dX12_weights_64 : decode cX12_weights 64 = .ok (.iconst 1, 1) := by decide +kernel
theorem dX12_weights_65 : decode cX12_weights 65 = .ok (.iload_n 3, 1) := by decide +kernel
theorem dX12_weights_66 : decode cX12_weights 66 = .ok (.ishl, 1) := by decide +kernel
theorem dX12_weights_67 : decode cX12_weights 67 = .ok (.invokevirtual 307, 3) := by decide +kernel
theorem dX12_weights_70 : decode cX12_weights 70 = .ok (.i2l, 1) := by decide +kernel
theorem dX12_weights_71 : decode cX12_weights 71 = .ok (.lastore, 1) := by decide +kernel
theorem dX12_weights_72 : decode cX12_weights 72 = .ok (.iconst 0, 1) := by decide +kernel
theorem dX12_weights_73 : decode cX12_weights 73 = .ok (.istore 4, 2) := by decide +kernel
theorem dX12_weights_75 : decode cX12_weights 75 = .ok (.iload 4, 2) := by decide +kernel
theorem dX12_weights_77 : decode cX12_weights 77 = .ok (.aload_n 0, 1) := by decide +kernel
theorem dX12_weights_78 : decode cX12_weights 78 = .ok (.getfield 9, 3) := by decide +kernel
theorem dX12_weights_81 : decode cX12_weights 81 = .ok (.sipush 244, 3) := by decide +kernel
theorem dX12_weights_84 : decode cX12_weights 84 = .ok (.iaload, 1) := by decide +kernel
theorem dX12_weights_85 : decode cX12_weights 85 = .ok (.if_icmp .ge 38, 3) := by decide +kernel
theorem dX12_weights_88 : decode cX12_weights 88 = .ok (.iload_n 2, 1) := by decide +kernel
theorem dX12_weights_89 : decode cX12_weights 89 = .ok (.ifCond .ne 34, 3) := by decide +kernel
theorem dX12_weights_92 : decode cX12_weights 92 = .ok (.aload_n 0, 1) := by decide +kernel
theorem dX12_weights_93 : decode cX12_weights 93 = .ok (.getfield 69, 3) := by decide +kernel
theorem dX12_weights_96 : decode cX12_weights 96 = .ok (.iload_n 3, 1) := by decide +kernel
theorem dX12_weights_97 : decode cX12_weights 97 = .ok (.dup2, 1) := by decide +kernel
theorem dX12_weights_98 : decode cX12_weights 98 = .ok (.laload, 1) := by decide +kernel
theorem dX12_weights_99 : decode cX12_weights 99 = .ok (.aload_n 0, 1) := by decide +kernel
theorem dX12_weights_100 : decode cX12_weights 100 = .ok (.getfield 9, 3) := by decide +kernel
theorem dX12_weights_103 : decode cX12_weights 103 = .ok (.bipush 8, 2) := by decide +kernel
theorem dX12_weights_105 : decode cX12_weights 105 = .ok (.bipush 6, 2) := by decide +kernel
theorem dX12_weights_107 : decode cX12_weights 107 = .ok (.iload_n 3, 1) := by decide +kernel
theorem dX12_weights_108 : decode cX12_weights 108 = .ok (.imul, 1) := by decide +kernel
theorem dX12_weights_109 : decode cX12_weights 109 = .ok (.iadd, 1) := by decide +kernel
theorem dX12_weights_110 : decode cX12_weights 110 = .ok (.iload 4, 2) := by decide +kernel
theorem dX12_weights_112 : decode cX12_weights 112 = .ok (.iadd, 1) := by decide +kernel
theorem dX12_weights_113 : decode cX12_weights 113 = .ok (.iaload, 1) := by decide +kernel
theorem dX12_weights_114 : decode cX12_weights 114 = .ok (.i2l, 1) := by decide +kernel
theorem dX12_weights_115 : decode cX12_weights 115 = .ok (.ladd, 1) := by decide +kernel
theorem dX12_weights_116 : decode cX12_weights 116 = .ok (.lastore, 1) := by decide +kernel
theorem dX12_weights_117 : decode cX12_weights 117 = .ok (.iinc 4 1, 3) := by decide +kernel
theorem dX12_weights_120 : decode cX12_weights 120 = .ok (.goto (-45), 3) := by decide +kernel
theorem dX12_weights_123 : decode cX12_weights 123 = .ok (.iinc 3 1, 3) := by decide +kernel
theorem dX12_weights_126 : decode cX12_weights 126 = .ok (.goto (-115), 3) := by decide +kernel
theorem dX12_weights_129 : decode cX12_weights 129 = .ok (.aload_n 0, 1) := by decide +kernel
theorem dX12_weights_130 : decode cX12_weights 130 = .ok (.iload_n 1, 1) := by decide +kernel
theorem dX12_weights_131 : decode cX12_weights 131 = .ok (.invokevirtual 348, 3) := by decide +kernel
theorem dX12_weights_134 : decode cX12_weights 134 = .ok (.lconst 0, 1) := by decide +kernel
theorem dX12_weights_135 : decode cX12_weights 135 = .ok (.lcmp, 1) := by decide +kernel
theorem dX12_weights_136 : decode cX12_weights 136 = .ok (.ifCond .ne 36, 3) := by decide +kernel
theorem dX12_weights_139 : decode cX12_weights 139 = .ok (.iconst 0, 1) := by decide +kernel
theorem dX12_weights_140 : decode cX12_weights 140 = .ok (.istore_n 3, 1) := by decide +kernel
theorem dX12_weights_141 : decode cX12_weights 141 = .ok (.iload_n 3, 1) := by decide +kernel
theorem dX12_weights_142 : decode cX12_weights 142 = .ok (.bipush 7, 2) := by decide +kernel
theorem dX12_weights_144 : decode cX12_weights 144 = .ok (.if_icmp .ge 28, 3) := by decide +kernel
theorem dX12_weights_147 : decode cX12_weights 147 = .ok (.aload_n 0, 1) := by decide +kernel
theorem dX12_weights_148 : decode cX12_weights 148 = .ok (.getfield 69, 3) := by decide +kernel
theorem dX12_weights_151 : decode cX12_weights 151 = .ok (.iload_n 3, 1) := by decide +kernel
theorem dX12_weights_152 : decode cX12_weights 152 = .ok (.iload_n 1, 1) := by decide +kernel
theorem dX12_weights_153 : decode cX12_weights 153 = .ok (.iload_n 3, 1) := by decide +kernel
theorem dX12_weights_154 : decode cX12_weights 154 = .ok (.invokestatic 136, 3) := by decide +kernel
theorem dX12_weights_157 : decode cX12_weights 157 = .ok (.ifCond .eq 7, 3) := by decide +kernel
theorem dX12_weights_160 : decode cX12_weights 160 = .ok (.lconst 1, 1) := by decide +kernel
theorem dX12_weights_161 : decode cX12_weights 161 = .ok (.goto 4, 3) := by decide +kernel
theorem dX12_weights_164 : decode cX12_weights 164 = .ok (.lconst 0, 1) := by decide +kernel
theorem dX12_weights_165 : decode cX12_weights 165 = .ok (.lastore, 1) := by decide +kernel
theorem dX12_weights_166 : decode cX12_weights 166 = .ok (.iinc 3 1, 3) := by decide +kernel
theorem dX12_weights_169 : decode cX12_weights 169 = .ok (.goto (-28), 3) := by decide +kernel
theorem dX12_weights_172 : decode cX12_weights 172 = .ok (.aload_n 0, 1) := by decide +kernel
theorem dX12_weights_173 : decode cX12_weights 173 = .ok (.iload_n 1, 1) := by decide +kernel
theorem dX12_weights_174 : decode cX12_weights 174 = .ok (.invokevirtual 348, 3) := by decide +kernel
theorem dX12_weights_177 : decode cX12_weights 177 = .ok (.lreturn, 1) := by decide +kernel
theorem dX12_ruled_0 : decode cX12_ruled 0 = .ok (.aload_n 0, 1) := by decide +kernel
theorem dX12_ruled_1 : decode cX12_ruled 1 = .ok (.aload_n 0, 1) := by decide +kernel
theorem dX12_ruled_2 : decode cX12_ruled 2 = .ok (.iload_n 1, 1) := by decide +kernel
theorem dX12_ruled_3 : decode cX12_ruled 3 = .ok (.invokevirtual 143, 3) := by decide +kernel
theorem dX12_ruled_6 : decode cX12_ruled 6 = .ok (.ifCond .eq 12, 3) := by decide +kernel
theorem dX12_ruled_9 : decode cX12_ruled 9 = .ok (.aload_n 0, 1) := by decide +kernel
theorem dX12_ruled_10 : decode cX12_ruled 10 = .ok (.iload_n 1, 1) := by decide +kernel
theorem dX12_ruled_11 : decode cX12_ruled 11 = .ok (.iload_n 2, 1) := by decide +kernel
theorem dX12_ruled_12 : decode cX12_ruled 12 = .ok (.invokevirtual 396, 3) := by decide +kernel
theorem dX12_ruled_15 : decode cX12_ruled 15 = .ok (.ifCond .ne 7, 3) := by decide +kernel
theorem dX12_ruled_18 : decode cX12_ruled 18 = .ok (.iconst 1, 1) := by decide +kernel
theorem dX12_ruled_19 : decode cX12_ruled 19 = .ok (.goto 4, 3) := by decide +kernel
theorem dX12_ruled_22 : decode cX12_ruled 22 = .ok (.iconst 0, 1) := by decide +kernel
theorem dX12_ruled_23 : decode cX12_ruled 23 = .ok (.putfield 103, 3) := by decide +kernel
theorem dX12_ruled_26 : decode cX12_ruled 26 = .ok (.aload_n 0, 1) := by decide +kernel
theorem dX12_ruled_27 : decode cX12_ruled 27 = .ok (.getfield 103, 3) := by decide +kernel
theorem dX12_ruled_30 : decode cX12_ruled 30 = .ok (.ifCond .le 4, 3) := by decide +kernel
theorem dX12_ruled_33 : decode cX12_ruled 33 = .ok (.return_, 1) := by decide +kernel
theorem dX12_ruled_34 : decode cX12_ruled 34 = .ok (.aload_n 0, 1) := by decide +kernel
theorem dX12_ruled_35 : decode cX12_ruled 35 = .ok (.iload_n 1, 1) := by decide +kernel
theorem dX12_ruled_36 : decode cX12_ruled 36 = .ok (.invokevirtual 328, 3) := by decide +kernel
theorem dX12_ruled_39 : decode cX12_ruled 39 = .ok (.istore_n 3, 1) := by decide +kernel
theorem dX12_ruled_40 : decode cX12_ruled 40 = .ok (.iload_n 3, 1) := by decide +kernel
theorem dX12_ruled_41 : decode cX12_ruled 41 = .ok (.iconst (-1), 1) := by decide +kernel
theorem dX12_ruled_42 : decode cX12_ruled 42 = .ok (.if_icmp .ne 7, 3) := by decide +kernel
theorem dX12_ruled_45 : decode cX12_ruled 45 = .ok (.lconst 0, 1) := by decide +kernel
theorem dX12_ruled_46 : decode cX12_ruled 46 = .ok (.goto 8, 3) := by decide +kernel
theorem dX12_ruled_49 : decode cX12_ruled 49 = .ok (.aload_n 0, 1) := by decide +kernel
theorem dX12_ruled_50 : decode cX12_ruled 50 = .ok (.iload_n 1, 1) := by decide +kernel
theorem dX12_ruled_51 : decode cX12_ruled 51 = .ok (.invokevirtual 408, 3) := by decide +kernel
theorem dX12_ruled_54 : decode cX12_ruled 54 = .ok (.lstore 4, 2) := by decide +kernel
theorem dX12_ruled_56 : decode cX12_ruled 56 = .ok (.lload 4, 2) := by decide +kernel
theorem dX12_ruled_58 : decode cX12_ruled 58 = .ok (.lconst 0, 1) := by decide +kernel
theorem dX12_ruled_59 : decode cX12_ruled 59 = .ok (.lcmp, 1) := by decide +kernel
theorem dX12_ruled_60 : decode cX12_ruled 60 = .ok (.ifCond .ne 11, 3) := by decide +kernel
theorem dX12_ruled_63 : decode cX12_ruled 63 = .ok (.aload_n 0, 1) := by decide +kernel
theorem dX12_ruled_64 : decode cX12_ruled 64 = .ok (.iconst 2, 1) := by decide +kernel
theorem dX12_ruled_65 : decode cX12_ruled 65 = .ok (.putfield 103, 3) := by decide +kernel
theorem dX12_ruled_68 : decode cX12_ruled 68 = .ok (.goto 18, 3) := by decide +kernel
theorem dX12_ruled_71 : decode cX12_ruled 71 = .ok (.aload_n 0, 1) := by decide +kernel
theorem dX12_ruled_72 : decode cX12_ruled 72 = .ok (.iload_n 3, 1) := by decide +kernel
theorem dX12_ruled_73 : decode cX12_ruled 73 = .ok (.i2l, 1) := by decide +kernel
theorem dX12_ruled_74 : decode cX12_ruled 74 = .ok (.aload_n 0, 1) := by decide +kernel
theorem dX12_ruled_75 : decode cX12_ruled 75 = .ok (.getfield 69, 3) := by decide +kernel
theorem dX12_ruled_78 : decode cX12_ruled 78 = .ok (.iload_n 2, 1) := by decide +kernel
theorem dX12_ruled_79 : decode cX12_ruled 79 = .ok (.laload, 1) := by decide +kernel
theorem dX12_ruled_80 : decode cX12_ruled 80 = .ok (.lmul, 1) := by decide +kernel
theorem dX12_ruled_81 : decode cX12_ruled 81 = .ok (.lload 4, 2) := by decide +kernel
theorem dX12_ruled_83 : decode cX12_ruled 83 = .ok (.invokevirtual 392, 3) := by decide +kernel
theorem dX12_ruled_86 : decode cX12_ruled 86 = .ok (.return_, 1) := by decide +kernel
theorem dX12_keeps_0 : decode cX12_keeps 0 = .ok (.aload_n 0, 1) := by decide +kernel
theorem dX12_keeps_1 : decode cX12_keeps 1 = .ok (.iconst 0, 1) := by decide +kernel
theorem dX12_keeps_2 : decode cX12_keeps 2 = .ok (.putfield 103, 3) := by decide +kernel
theorem dX12_keeps_5 : decode cX12_keeps 5 = .ok (.aload_n 0, 1) := by decide +kernel
theorem dX12_keeps_6 : decode cX12_keeps 6 = .ok (.iload_n 1, 1) := by decide +kernel
theorem dX12_keeps_7 : decode cX12_keeps 7 = .ok (.invokevirtual 143, 3) := by decide +kernel
theorem dX12_keeps_10 : decode cX12_keeps 10 = .ok (.ifCond .ne 9, 3) := by decide +kernel
theorem dX12_keeps_13 : decode cX12_keeps 13 = .ok (.aload_n 0, 1) := by decide +kernel
theorem dX12_keeps_14 : decode cX12_keeps 14 = .ok (.iconst 1, 1) := by decide +kernel
theorem dX12_keeps_15 : decode cX12_keeps 15 = .ok (.invokevirtual 116, 3) := by decide +kernel
theorem dX12_keeps_18 : decode cX12_keeps 18 = .ok (.ireturn, 1) := by decide +kernel
theorem dX12_keeps_19 : decode cX12_keeps 19 = .ok (.aload_n 0, 1) := by decide +kernel
theorem dX12_keeps_20 : decode cX12_keeps 20 = .ok (.iload_n 1, 1) := by decide +kernel
theorem dX12_keeps_21 : decode cX12_keeps 21 = .ok (.invokevirtual 328, 3) := by decide +kernel
theorem dX12_keeps_24 : decode cX12_keeps 24 = .ok (.istore_n 2, 1) := by decide +kernel
theorem dX12_keeps_25 : decode cX12_keeps 25 = .ok (.iload_n 2, 1) := by decide +kernel
theorem dX12_keeps_26 : decode cX12_keeps 26 = .ok (.iconst (-1), 1) := by decide +kernel
theorem dX12_keeps_27 : decode cX12_keeps 27 = .ok (.if_icmp .ne 7, 3) := by decide +kernel
theorem dX12_keeps_30 : decode cX12_keeps 30 = .ok (.lconst 0, 1) := by decide +kernel
theorem dX12_keeps_31 : decode cX12_keeps 31 = .ok (.goto 8, 3) := by decide +kernel
theorem dX12_keeps_34 : decode cX12_keeps 34 = .ok (.aload_n 0, 1) := by decide +kernel
theorem dX12_keeps_35 : decode cX12_keeps 35 = .ok (.iload_n 1, 1) := by decide +kernel
theorem dX12_keeps_36 : decode cX12_keeps 36 = .ok (.invokevirtual 408, 3) := by decide +kernel
theorem dX12_keeps_39 : decode cX12_keeps 39 = .ok (.lstore_n 3, 1) := by decide +kernel
theorem dX12_keeps_40 : decode cX12_keeps 40 = .ok (.lload_n 3, 1) := by decide +kernel
theorem dX12_keeps_41 : decode cX12_keeps 41 = .ok (.lconst 0, 1) := by decide +kernel
theorem dX12_keeps_42 : decode cX12_keeps 42 = .ok (.lcmp, 1) := by decide +kernel
theorem dX12_keeps_43 : decode cX12_keeps 43 = .ok (.ifCond .ne 9, 3) := by decide +kernel
theorem dX12_keeps_46 : decode cX12_keeps 46 = .ok (.aload_n 0, 1) := by decide +kernel
theorem dX12_keeps_47 : decode cX12_keeps 47 = .ok (.iconst 2, 1) := by decide +kernel
theorem dX12_keeps_48 : decode cX12_keeps 48 = .ok (.invokevirtual 116, 3) := by decide +kernel
theorem dX12_keeps_51 : decode cX12_keeps 51 = .ok (.ireturn, 1) := by decide +kernel
theorem dX12_keeps_52 : decode cX12_keeps 52 = .ok (.iconst 0, 1) := by decide +kernel
theorem dX12_keeps_53 : decode cX12_keeps 53 = .ok (.istore 5, 2) := by decide +kernel
theorem dX12_keeps_55 : decode cX12_keeps 55 = .ok (.iload 5, 2) := by decide +kernel
theorem dX12_keeps_57 : decode cX12_keeps 57 = .ok (.bipush 7, 2) := by decide +kernel
theorem dX12_keeps_59 : decode cX12_keeps 59 = .ok (.if_icmp .ge 21, 3) := by decide +kernel
theorem dX12_keeps_62 : decode cX12_keeps 62 = .ok (.aload_n 0, 1) := by decide +kernel
theorem dX12_keeps_63 : decode cX12_keeps 63 = .ok (.getfield 69, 3) := by decide +kernel
theorem dX12_keeps_66 : decode cX12_keeps 66 = .ok (.iload 5, 2) := by decide +kernel
theorem dX12_keeps_68 : decode cX12_keeps 68 = .ok (.dup2, 1) := by decide +kernel
theorem dX12_keeps_69 : decode cX12_keeps 69 = .ok (.laload, 1) := by decide +kernel
theorem dX12_keeps_70 : decode cX12_keeps 70 = .ok (.iload_n 2, 1) := by decide +kernel
theorem dX12_keeps_71 : decode cX12_keeps 71 = .ok (.i2l, 1) := by decide +kernel
theorem dX12_keeps_72 : decode cX12_keeps 72 = .ok (.lmul, 1) := by decide +kernel
theorem dX12_keeps_73 : decode cX12_keeps 73 = .ok (.lastore, 1) := by decide +kernel
theorem dX12_keeps_74 : decode cX12_keeps 74 = .ok (.iinc 5 1, 3) := by decide +kernel
theorem dX12_keeps_77 : decode cX12_keeps 77 = .ok (.goto (-22), 3) := by decide +kernel
theorem dX12_keeps_80 : decode cX12_keeps 80 = .ok (.aload_n 0, 1) := by decide +kernel
theorem dX12_keeps_81 : decode cX12_keeps 81 = .ok (.iload_n 1, 1) := by decide +kernel
theorem dX12_keeps_82 : decode cX12_keeps 82 = .ok (.lload_n 3, 1) := by decide +kernel
theorem dX12_keeps_83 : decode cX12_keeps 83 = .ok (.invokevirtual 352, 3) := by decide +kernel
theorem dX12_keeps_86 : decode cX12_keeps 86 = .ok (.ireturn, 1) := by decide +kernel
theorem s_isOfM {l : Launch} {E : aE} {N : Nat} {S : aS} {M : aM} (hfl : l.stackTraces = false) (m s h : Int) : aMt l E pX12_isOf [(2, m), (0, s), (0, h)] N S M (aB (0 ≤ h ∧ h < 7 ∧ hb s h = 1) N S M) := by
  refine a_met hfl rfl (by decide +kernel) (Nat.le_of_ble_eq_true rfl) ?_
  refine x_iload_n (pc := 0) dX12_isOf_0 rfl rfl ?_
  refine x_i2l (pc := 1) dX12_isOf_1 ?_
  refine x_lconst0 (pc := 2) dX12_isOf_2 ?_
  refine x_ldc2 (n := 6) (pc := 3) cX12_331 (by decide) dX12_isOf_3 ?_
  refine x_callS3 (pc := 6) dX12_isOf_6 rfl kX12_106 (s_within hfl _ _ _) rfl (Nat.le_of_ble_eq_true rfl) (k_B (fun q_6 => ?_) (fun q_6 => ?_)) n_B
  · refine x_if_eq (tgt := 24) (pc := 9) dX12_isOf_9 (by decide) (fun c => absurd c (by decide)) (fun _ => ?_)
    refine x_iload_n (pc := 12) dX12_isOf_12 rfl rfl ?_
    refine x_iload_n (pc := 13) dX12_isOf_13 rfl rfl ?_
    refine x_callS2 (pc := 14) dX12_isOf_14 rfl kX12_136 (s_hasM hfl _ _) rfl (Nat.le_of_ble_eq_true rfl) (k_B (fun q_14 => ?_) (fun q_14 => ?_)) n_B
    · refine x_if_eq (tgt := 24) (pc := 17) dX12_isOf_17 (by decide) (fun c => absurd c (by decide)) (fun _ => ?_)
      refine x_iconst (pc := 20) dX12_isOf_20 (by decide) ?_
      refine x_goto (tgt := 25) (pc := 21) dX12_isOf_21 (by decide) ?_
      refine x_zreturn (pc := 25) dX12_isOf_25 rfl (by omega) (by decide) ?_
      exact b_1 ⟨by omega, by omega, by assumption⟩
    · refine x_if_eq (tgt := 24) (pc := 17) dX12_isOf_17 (by decide) (fun _ => ?_) (fun c => absurd c (by decide))
      refine x_iconst (pc := 24) dX12_isOf_24 (by decide) ?_
      refine x_zreturn (pc := 25) dX12_isOf_25 rfl (by omega) (by decide) ?_
      exact b_0 (by rintro ⟨u1, u2, u3⟩; exact absurd u3 (by assumption))
  · refine x_if_eq (tgt := 24) (pc := 9) dX12_isOf_9 (by decide) (fun _ => ?_) (fun c => absurd c (by decide))
    refine x_iconst (pc := 24) dX12_isOf_24 (by decide) ?_
    refine x_zreturn (pc := 25) dX12_isOf_25 rfl (by omega) (by decide) ?_
    exact b_0 (by omega)
theorem s_weights {l : Launch} {E : aE} {N : Nat} {S : aS} {M : aM} (hfl : l.stackTraces = false) (m : Int) (A : aM) (hS : lyM S m) (hR : RM M m A) (hA : TOK (A 0)) (s : Int) (hs : 0 < s ∧ s < 128) (hn : A 0 0 ≠ 0) : aMt l E pX12_weights [(2, m), (0, s)] N S M (aG N S (fun v M' => v = (1, if wOK (A 0) (costV (A 0)) s = true then payS (wV (A 0) (costV (A 0)) s) s else 0) ∧ frK M M' m ∧ RM M' m A ∧ (wOK (A 0) (costV (A 0)) s = true → ∀ h, 0 ≤ h → h < 7 → M' (m + 19) h = if hb s h = 1 then wV (A 0) (costV (A 0)) s h else 0))) := by
  refine a_met hfl rfl (by decide +kernel) (Nat.le_of_ble_eq_true rfl) ?_
  have hr : 0 ≤ A 0 252 ∧ A 0 252 ≤ 2 := hA.2.2.2.2.2.2.2.2.2.2.2.2.2.2.2.2.2.2.2.2
  have h6 := hA.tq.2.2.2.2.2.1
  have hcc : costV (core (A 0)) = costV (A 0) := costV_fun (core_same (A 0)) (by rw [core_hi (by omega)]; omega)
  have loop := a_loop2 (fun h M1 => (0 ≤ h ∧ h ≤ 7) ∧ frK M M1 m ∧ RM M1 m A ∧ ∀ i, 0 ≤ i → i < h → M1 (m + 19) i = (if hb s i = 1 then uV (A 0) (costV (A 0)) i else 0) ∧ (hb s i = 1 → A 0 252 = 1 → costV (A 0) (b_shl 1 i) ≠ -1)) (fun h M1 => (7 - h).toNat) (fun h M1 => aX l E pX12_weights (aG N S (fun v M' => v = (1, if wOK (A 0) (costV (A 0)) s = true then payS (wV (A 0) (costV (A 0)) s) s else 0) ∧ frK M M' m ∧ RM M' m A ∧ (wOK (A 0) (costV (A 0)) s = true → ∀ h, 0 ≤ h → h < 7 → M' (m + 19) h = if hb s h = 1 then wV (A 0) (costV (A 0)) s h else 0))) 0 0 N S M1 11 [(0, (2, m)), (1, (0, s)), (2, (0, A 0 252)), (3, (0, h))] []) (by
    intro h M1 hI ih
    obtain ⟨k1, k2, k3, k4⟩ := hI
    have step : ∀ M2, h < 7 → frK M M2 m → RM M2 m A → (∀ i, 0 ≤ i → i < h → M2 (m + 19) i = M1 (m + 19) i) → M2 (m + 19) h = (if hb s h = 1 then uV (A 0) (costV (A 0)) h else 0) → (hb s h = 1 → A 0 252 = 1 → costV (A 0) (b_shl 1 h) ≠ -1) → aX l E pX12_weights (aG N S (fun v M' => v = (1, if wOK (A 0) (costV (A 0)) s = true then payS (wV (A 0) (costV (A 0)) s) s else 0) ∧ frK M M' m ∧ RM M' m A ∧ (wOK (A 0) (costV (A 0)) s = true → ∀ h, 0 ≤ h → h < 7 → M' (m + 19) h = if hb s h = 1 then wV (A 0) (costV (A 0)) s h else 0))) 0 0 N S M2 11 [(0, (2, m)), (1, (0, s)), (2, (0, A 0 252)), (3, (0, h + 1))] [] := fun M2 a b c d e f => ih (h + 1) M2 ⟨by omega, b, c, fun i x y => by
      by_cases z : i = h
      · subst z; exact ⟨e, f⟩
      · rw [d i x (by omega)]; exact k4 i x (by omega)⟩ (by omega)
    refine x_iload_n (pc := 11) dX12_weights_11 rfl rfl ?_
    refine x_bipush (pc := 12) dX12_weights_12 (by decide) ?_
    refine x_icmp_ge (tgt := 129) (pc := 14) dX12_weights_14 (by decide) (fun c_14 => ?_) (fun c_14 => ?_)
    · have hok : wOK (A 0) (costV (A 0)) s = true := wOK_iff.mpr fun q i a b w => (k4 i a (by omega)).2 w q
      have hur := fun i a b w => uV_r hA.tq hr (costs_t hA.tq) (s := s) (h := i) ⟨a, b⟩ w hok
      refine x_aload_n (pc := 129) dX12_weights_129 rfl rfl ?_
      refine x_iload_n (pc := 130) dX12_weights_130 rfl rfl ?_
      refine x_callV1 (pc := 131) dX12_weights_131 rfl kX12_348 (s_paid hfl m s (uV (A 0) (costV (A 0))) hS (fun i a b z => by have := hur i a b z; omega) (fun i a b z => by rw [(k4 i a (by omega)).1, if_pos z])) hS.1 rfl rfl (Nat.le_of_ble_eq_true rfl) (k_R ?_) n_R
      refine x_lconst0 (pc := 134) dX12_weights_134 ?_
      refine x_lne (tgt := 172) (pc := 135) dX12_weights_135 dX12_weights_136 (by decide) (fun c_135 => ?_) (fun c_135 => ?_)
      · refine x_aload_n (pc := 172) dX12_weights_172 rfl rfl ?_
        refine x_iload_n (pc := 173) dX12_weights_173 rfl rfl ?_
        refine x_callV1 (pc := 174) dX12_weights_174 rfl kX12_348 (s_paid hfl m s (uV (A 0) (costV (A 0))) hS (fun i a b z => by have := hur i a b z; omega) (fun i a b z => by rw [(k4 i a (by omega)).1, if_pos z])) hS.1 rfl rfl (Nat.le_of_ble_eq_true rfl) (k_R ?_) n_R
        refine x_lreturn (pc := 177) dX12_weights_177 rfl (by decide) ?_
        refine ⟨_, rfl, rfl, rfl, ?_, k2, k3, fun _ i a b => ?_⟩
        · rw [if_pos hok, wV_u1 hr hs (by omega)]
        · rw [wV_u1 hr hs (by omega)]; exact (k4 i a (by omega)).1
      · refine x_iconst (pc := 139) dX12_weights_139 (by decide) ?_
        refine x_istore_n (pc := 140) dX12_weights_140 rfl (by decide) rfl ?_
        have lq := a_loop2 (fun i M3 => (0 ≤ i ∧ i ≤ 7) ∧ (∀ a j, a ≠ m + 19 → M3 a j = M1 a j) ∧ ∀ j, 0 ≤ j → j < i → M3 (m + 19) j = if hb s j = 1 then 1 else 0) (fun i M3 => (7 - i).toNat) (fun i M3 => aX l E pX12_weights (aG N S (fun v M' => v = (1, if wOK (A 0) (costV (A 0)) s = true then payS (wV (A 0) (costV (A 0)) s) s else 0) ∧ frK M M' m ∧ RM M' m A ∧ (wOK (A 0) (costV (A 0)) s = true → ∀ h, 0 ≤ h → h < 7 → M' (m + 19) h = if hb s h = 1 then wV (A 0) (costV (A 0)) s h else 0))) 0 0 N S M3 141 [(0, (2, m)), (1, (0, s)), (2, (0, A 0 252)), (3, (0, i))] []) (by
          intro i M3 hJ ih3
          obtain ⟨j1, j2, j3⟩ := hJ
          refine x_iload_n (pc := 141) dX12_weights_141 rfl rfl ?_
          refine x_bipush (pc := 142) dX12_weights_142 (by decide) ?_
          refine x_icmp_ge (tgt := 172) (pc := 144) dX12_weights_144 (by decide) (fun c_144 => ?_) (fun c_144 => ?_)
          · refine x_aload_n (pc := 172) dX12_weights_172 rfl rfl ?_
            refine x_iload_n (pc := 173) dX12_weights_173 rfl rfl ?_
            refine x_callV1 (pc := 174) dX12_weights_174 rfl kX12_348 (s_paid hfl m s (fun _ => 1) hS (fun i a b z => by omega) (fun i a b z => by rw [j3 i a (by omega), if_pos z])) hS.1 rfl rfl (Nat.le_of_ble_eq_true rfl) (k_R ?_) n_R
            refine x_lreturn (pc := 177) dX12_weights_177 rfl (by decide) ?_
            refine ⟨_, rfl, rfl, rfl, ?_, fun a i x y z => (j2 a i (by omega)).trans (k2 a i x y z), k3.mk9w (fun a i x y z => j2 a i (by omega)) (RP0.cg k3.rp0 fun a i x => j2 a i (by omega)) (RCw.cg k3.2.2.1 fun i => j2 _ i (by omega)), fun _ i a b => ?_⟩
            · rw [if_pos hok, wV_u0 hr hs (by omega)]
            · rw [wV_u0 hr hs (by omega)]; exact j3 i a (by omega)
          · refine x_aload_n (pc := 147) dX12_weights_147 rfl rfl ?_
            refine x_getR (jj := 36) (pc := 148) dX12_weights_148 fX12_69 hS.1 rfl (by decide) rfl rM_36 ?_
            refine x_iload_n (pc := 151) dX12_weights_151 rfl rfl ?_
            refine x_iload_n (pc := 152) dX12_weights_152 rfl rfl ?_
            refine x_iload_n (pc := 153) dX12_weights_153 rfl rfl ?_
            refine x_callS2 (pc := 154) dX12_weights_154 rfl kX12_136 (s_hasM hfl _ _) rfl (Nat.le_of_ble_eq_true rfl) (k_B (fun q_154 => ?_) (fun q_154 => ?_)) n_B
            · refine x_if_eq (tgt := 164) (pc := 157) dX12_weights_157 (by decide) (fun c => absurd c (by decide)) (fun _ => ?_)
              refine x_lconst1 (pc := 160) dX12_weights_160 ?_
              refine x_goto (tgt := 165) (pc := 161) dX12_weights_161 (by decide) ?_
              refine x_lastore (pc := 165) dX12_weights_165 (sM_36 hS) (by omega) ?_
              refine x_iinc (pc := 166) dX12_weights_166 rfl (by omega) (by decide) rfl ?_
              refine x_goto (tgt := 141) (pc := 169) dX12_weights_169 (by decide) ?_
              refine x_lo (lo' := [(0, (2, m)), (1, (0, s)), (2, (0, A 0 252)), (3, (0, (i + 1)))]) ⟨rfl, rfl, rfl, rfl, trivial⟩ (ih3 (i + 1) _ ⟨by omega, fun a j x => (up_a x).trans (j2 a j x), fun j x y => ?_⟩ (by omega))
              by_cases e : j = i
              · subst e; rw [if_pos (by assumption)]; exact up_s
              · exact (up_i e).trans (j3 j x (by omega))
            · refine x_if_eq (tgt := 164) (pc := 157) dX12_weights_157 (by decide) (fun _ => ?_) (fun c => absurd c (by decide))
              refine x_lconst0 (pc := 164) dX12_weights_164 ?_
              refine x_lastore (pc := 165) dX12_weights_165 (sM_36 hS) (by omega) ?_
              refine x_iinc (pc := 166) dX12_weights_166 rfl (by omega) (by decide) rfl ?_
              refine x_goto (tgt := 141) (pc := 169) dX12_weights_169 (by decide) ?_
              refine x_lo (lo' := [(0, (2, m)), (1, (0, s)), (2, (0, A 0 252)), (3, (0, (i + 1)))]) ⟨rfl, rfl, rfl, rfl, trivial⟩ (ih3 (i + 1) _ ⟨by omega, fun a j x => (up_a x).trans (j2 a j x), fun j x y => ?_⟩ (by omega))
              by_cases e : j = i
              · subst e; rw [if_neg (by assumption)]; exact up_s
              · exact (up_i e).trans (j3 j x (by omega)))
        refine x_lo (lo' := [(0, (2, m)), (1, (0, s)), (2, (0, A 0 252)), (3, (0, 0))]) ⟨rfl, rfl, rfl, rfl, trivial⟩ (lq (0) _ ⟨by omega, fun _ _ _ => rfl, fun j x y => by omega⟩)
    · refine x_aload_n (pc := 17) dX12_weights_17 rfl rfl ?_
      refine x_getR (jj := 36) (pc := 18) dX12_weights_18 fX12_69 hS.1 rfl (by decide) rfl rM_36 ?_
      refine x_iload_n (pc := 21) dX12_weights_21 rfl rfl ?_
      refine x_lconst0 (pc := 22) dX12_weights_22 ?_
      refine x_lastore (pc := 23) dX12_weights_23 (sM_36 hS) (by omega) ?_
      refine x_memI (fun M2 hM2 => ?_)
      have K2 : frK M M2 m := fun a i x y z => by rw [hM2]; exact (up_a (by omega)).trans (k2 a i x y z)
      have R2 : RM M2 m A := k3.mk9w (fun a i x y z => by rw [hM2]; exact up_a (by omega)) (RP0.cg k3.rp0 fun a i x => by rw [hM2]; exact up_a (by omega)) (RCw.cg k3.2.2.1 fun i => by rw [hM2]; exact up_a (by omega))
      have W2 : ∀ i, 0 ≤ i → i < h → M2 (m + 19) i = M1 (m + 19) i := fun i x y => by rw [hM2]; exact up_i (by omega)
      have V2 : M2 (m + 19) h = 0 := by rw [hM2]; exact up_s
      clear hM2
      have hsp := shl_pos (h := h) ⟨by omega, by omega⟩
      refine x_iload_n (pc := 24) dX12_weights_24 rfl rfl ?_
      refine x_iload_n (pc := 25) dX12_weights_25 rfl rfl ?_
      refine x_callS2 (pc := 26) dX12_weights_26 rfl kX12_136 (s_hasM hfl _ _) rfl (Nat.le_of_ble_eq_true rfl) (k_B (fun q_26 => ?_) (fun q_26 => ?_)) n_B
      · refine x_if_ne (tgt := 35) (pc := 29) dX12_weights_29 (by decide) (fun _ => ?_) (fun c => absurd c (by decide))
        refine x_iload_n (pc := 35) dX12_weights_35 rfl rfl ?_
        refine x_iconst (pc := 36) dX12_weights_36 (by decide) ?_
        refine x_icmp_ne (tgt := 53) (pc := 37) dX12_weights_37 (by decide) (fun c_37 => ?_) (fun c_37 => ?_)
        · refine x_iload_n (pc := 53) dX12_weights_53 rfl rfl ?_
          refine x_iconst (pc := 54) dX12_weights_54 (by decide) ?_
          refine x_icmp_ne (tgt := 72) (pc := 55) dX12_weights_55 (by decide) (fun c_55 => ?_) (fun c_55 => ?_)
          · refine x_iconst (pc := 72) dX12_weights_72 (by decide) ?_
            refine x_istore (pc := 73) dX12_weights_73 (by decide) rfl ?_
            by_cases q0 : A 0 252 = 0
            · have lp := a_loop2 (fun j M3 => (0 ≤ j ∧ j ≤ A 0 244) ∧ frK M M3 m ∧ RM M3 m A ∧ (∀ i, 0 ≤ i → i < h → M3 (m + 19) i = M1 (m + 19) i) ∧ M3 (m + 19) h = sumN (fun n => A 0 (8 + 6 * h + n)) j.toNat) (fun j M3 => (A 0 244 - j).toNat) (fun j M3 => aX l E pX12_weights (aG N S (fun v M' => v = (1, if wOK (A 0) (costV (A 0)) s = true then payS (wV (A 0) (costV (A 0)) s) s else 0) ∧ frK M M' m ∧ RM M' m A ∧ (wOK (A 0) (costV (A 0)) s = true → ∀ h, 0 ≤ h → h < 7 → M' (m + 19) h = if hb s h = 1 then wV (A 0) (costV (A 0)) s h else 0))) 0 0 N S M3 75 [(0, (2, m)), (1, (0, s)), (2, (0, A 0 252)), (3, (0, h)), (4, (0, j))] []) (by
                intro j M3 hJ ih2
                obtain ⟨j1, j2, j3, j4, j5⟩ := hJ
                refine x_iload (pc := 75) dX12_weights_75 rfl ?_
                refine x_aload_n (pc := 77) dX12_weights_77 rfl rfl ?_
                refine x_getR (jj := 0) (pc := 78) dX12_weights_78 fX12_9 hS.1 rfl (by decide) rfl rM_0 ?_
                refine x_sipush (pc := 81) dX12_weights_81 (by decide) ?_
                refine x_ialoadV (pc := 84) dX12_weights_84 (sM_0 hS) (by omega) (by (repeat (first | rewrite [up_s] | rewrite [up_i (by omega)] | rewrite [up_a (by omega)] | rewrite [stM_a (by omega) (by omega)])); first | exact R2.1.1 _ (by omega) (by omega) | exact k3.1.1 _ (by omega) (by omega) | exact j3.1.1 _ (by omega) (by omega) | exact j5 | exact R7.1.1 _ (by omega) (by omega) | rfl) (fun g_84 => ?_)
                refine x_icmp_ge (tgt := 123) (pc := 85) dX12_weights_85 (by decide) (fun c_85 => ?_) (fun c_85 => ?_)
                · refine x_iinc (pc := 123) dX12_weights_123 rfl (by omega) (by decide) rfl ?_
                  refine x_goto (tgt := 11) (pc := 126) dX12_weights_126 (by decide) ?_
                  refine x_lo (lo' := [(0, (2, m)), (1, (0, s)), (2, (0, A 0 252)), (3, (0, h + 1))]) ⟨rfl, rfl, rfl, rfl, trivial⟩ (step M3 (by omega) j2 j3 j4 ?_ (fun _ q => by omega))
                  rw [if_pos (by assumption), j5]
                  unfold uV
                  rw [if_pos q0, show j = A 0 244 by omega]
                · refine x_iload_n (pc := 88) dX12_weights_88 rfl rfl ?_
                  refine x_if_ne (tgt := 123) (pc := 89) dX12_weights_89 (by decide) (fun c_89 => ?_) (fun c_89 => ?_)
                  · refine x_iinc (pc := 123) dX12_weights_123 rfl (by omega) (by decide) rfl ?_
                    refine x_goto (tgt := 11) (pc := 126) dX12_weights_126 (by decide) ?_
                    exfalso; omega
                  · refine x_aload_n (pc := 92) dX12_weights_92 rfl rfl ?_
                    refine x_getR (jj := 36) (pc := 93) dX12_weights_93 fX12_69 hS.1 rfl (by decide) rfl rM_36 ?_
                    refine x_iload_n (pc := 96) dX12_weights_96 rfl rfl ?_
                    refine x_dup2 (pc := 97) dX12_weights_97 rfl rfl ?_
                    refine x_laloadV (pc := 98) dX12_weights_98 (sM_36 hS) (by omega) (by (repeat (first | rewrite [up_s] | rewrite [up_i (by omega)] | rewrite [up_a (by omega)] | rewrite [stM_a (by omega) (by omega)])); first | exact R2.1.1 _ (by omega) (by omega) | exact k3.1.1 _ (by omega) (by omega) | exact j3.1.1 _ (by omega) (by omega) | exact j5 | exact R7.1.1 _ (by omega) (by omega) | rfl) (fun g_98 => ?_)
                    refine x_aload_n (pc := 99) dX12_weights_99 rfl rfl ?_
                    refine x_getR (jj := 0) (pc := 100) dX12_weights_100 fX12_9 hS.1 rfl (by decide) rfl rM_0 ?_
                    refine x_bipush (pc := 103) dX12_weights_103 (by decide) ?_
                    refine x_bipush (pc := 105) dX12_weights_105 (by decide) ?_
                    refine x_iload_n (pc := 107) dX12_weights_107 rfl rfl ?_
                    refine x_imul (pc := 108) dX12_weights_108 (by omega) ?_
                    refine x_iadd (pc := 109) dX12_weights_109 (by omega) ?_
                    refine x_iload (pc := 110) dX12_weights_110 rfl ?_
                    refine x_iadd (pc := 112) dX12_weights_112 (by omega) ?_
                    have hwn := hA.2.2.1 (6 * h + j) (by omega) (by omega)
                    rewrite [show 8 + (6 * h + j) = 8 + 6 * h + j by omega] at hwn
                    have hso := sumN_le (f := (fun n => A 0 (8 + 6 * h + n))) (c := 8) (n := j.toNat) (fun i a b => by
                      have := hA.2.2.1 (6 * h + i) (by omega) (by omega)
                      rw [show 8 + (6 * h + i) = 8 + 6 * h + i by omega] at this
                      exact this)
                    refine x_ialoadV (pc := 113) dX12_weights_113 (sM_0 hS) (by omega) (by (repeat (first | rewrite [up_s] | rewrite [up_i (by omega)] | rewrite [up_a (by omega)] | rewrite [stM_a (by omega) (by omega)])); first | exact R2.1.1 _ (by omega) (by omega) | exact k3.1.1 _ (by omega) (by omega) | exact j3.1.1 _ (by omega) (by omega) | exact j5 | exact R7.1.1 _ (by omega) (by omega) | rfl) (fun g_113 => ?_)
                    refine x_i2l (pc := 114) dX12_weights_114 ?_
                    refine x_ladd (pc := 115) dX12_weights_115 (by omega) ?_
                    refine x_lastore (pc := 116) dX12_weights_116 (sM_36 hS) (by omega) ?_
                    refine x_iinc (pc := 117) dX12_weights_117 rfl (by omega) (by decide) rfl ?_
                    refine x_goto (tgt := 75) (pc := 120) dX12_weights_120 (by decide) ?_
                    have e := sumN_1 (fun n => A 0 (8 + 6 * h + n)) j1.1
                    refine x_lo (lo' := [(0, (2, m)), (1, (0, s)), (2, (0, A 0 252)), (3, (0, h)), (4, (0, (j + 1)))]) ⟨rfl, rfl, rfl, rfl, rfl, trivial⟩ (ih2 (j + 1) _ ⟨by omega, fun a i x y z => (up_a (by omega)).trans (j2 a i x y z), j3.mk9w (fun a i x y z => up_a (by omega)) (RP0.cg j3.rp0 fun a i x => up_a (by omega)) (RCw.cg j3.2.2.1 fun i => up_a (by omega)), fun i x y => (up_i (by omega)).trans (j4 i x y), ?_⟩ (by omega))
                    rw [e]
                    exact up_s)
              refine x_lo (lo' := [(0, (2, m)), (1, (0, s)), (2, (0, A 0 252)), (3, (0, h)), (4, (0, 0))]) ⟨rfl, rfl, rfl, rfl, rfl, trivial⟩ (lp (0) _ ⟨by omega, K2, R2, W2, V2⟩)
            · refine x_iload (pc := 75) dX12_weights_75 rfl ?_
              refine x_aload_n (pc := 77) dX12_weights_77 rfl rfl ?_
              refine x_getR (jj := 0) (pc := 78) dX12_weights_78 fX12_9 hS.1 rfl (by decide) rfl rM_0 ?_
              refine x_sipush (pc := 81) dX12_weights_81 (by decide) ?_
              refine x_ialoadV (pc := 84) dX12_weights_84 (sM_0 hS) (by omega) (by (repeat (first | rewrite [up_s] | rewrite [up_i (by omega)] | rewrite [up_a (by omega)] | rewrite [stM_a (by omega) (by omega)])); first | exact R2.1.1 _ (by omega) (by omega) | exact k3.1.1 _ (by omega) (by omega) | exact j3.1.1 _ (by omega) (by omega) | exact j5 | exact R7.1.1 _ (by omega) (by omega) | rfl) (fun g_84 => ?_)
              refine x_icmp_ge (tgt := 123) (pc := 85) dX12_weights_85 (by decide) (fun c_85 => ?_) (fun c_85 => ?_)
              · refine x_iinc (pc := 123) dX12_weights_123 rfl (by omega) (by decide) rfl ?_
                refine x_goto (tgt := 11) (pc := 126) dX12_weights_126 (by decide) ?_
                refine x_lo (lo' := [(0, (2, m)), (1, (0, s)), (2, (0, A 0 252)), (3, (0, h + 1))]) ⟨rfl, rfl, rfl, rfl, trivial⟩ (step M2 (by omega) K2 R2 W2 ?_ (fun _ q => by omega))
                rw [if_pos (by assumption), V2]
                unfold uV
                rw [if_neg (by omega), if_neg (by omega)]
              · refine x_iload_n (pc := 88) dX12_weights_88 rfl rfl ?_
                refine x_if_ne (tgt := 123) (pc := 89) dX12_weights_89 (by decide) (fun c_89 => ?_) (fun c_89 => ?_)
                · refine x_iinc (pc := 123) dX12_weights_123 rfl (by omega) (by decide) rfl ?_
                  refine x_goto (tgt := 11) (pc := 126) dX12_weights_126 (by decide) ?_
                  refine x_lo (lo' := [(0, (2, m)), (1, (0, s)), (2, (0, A 0 252)), (3, (0, h + 1))]) ⟨rfl, rfl, rfl, rfl, trivial⟩ (step M2 (by omega) K2 R2 W2 ?_ (fun _ q => by omega))
                  rw [if_pos (by assumption), V2]
                  unfold uV
                  rw [if_neg (by omega), if_neg (by omega)]
                · exfalso; omega
          · exfalso; omega
        · refine x_aload_n (pc := 40) dX12_weights_40 rfl rfl ?_
          refine x_iconst (pc := 41) dX12_weights_41 (by decide) ?_
          refine x_iload_n (pc := 42) dX12_weights_42 rfl rfl ?_
          refine x_ishl (pc := 43) dX12_weights_43 ?_
          refine x_callV1 (pc := 44) dX12_weights_44 rfl kX12_307 (s_MWcostOf hfl m (core (A 0)) hS R2.re (core_tq hA.tq) R2.rp0 (R2.2.2.1.st (by first | omega | exact isSet_0 (by omega) | exact isSet_0 (s := s) (by omega) | exact isSet_0 (s := x) (by omega))) (b_shl 1 h) hsp) hS.1 rfl rfl (Nat.le_of_ble_eq_true rfl) (k_G (fun v9 M9 hM9 => ?_)) n_G
          obtain ⟨rfl, f9, p9, c9⟩ := hM9
          have R9 : RM M9 m A := R2.mk9 f9.k p9 c9
          rewrite [hcc]
          have hcr := costs_m hA.tq (b_shl 1 h) ⟨by omega, by omega⟩
          refine x_iconst (pc := 47) dX12_weights_47 (by decide) ?_
          refine x_icmp_ne (tgt := 53) (pc := 48) dX12_weights_48 (by decide) (fun c_48 => ?_) (fun c_48 => ?_)
          · refine x_iload_n (pc := 53) dX12_weights_53 rfl rfl ?_
            refine x_iconst (pc := 54) dX12_weights_54 (by decide) ?_
            refine x_icmp_ne (tgt := 72) (pc := 55) dX12_weights_55 (by decide) (fun c_55 => ?_) (fun c_55 => ?_)
            · exfalso; omega
            · refine x_aload_n (pc := 58) dX12_weights_58 rfl rfl ?_
              refine x_getR (jj := 36) (pc := 59) dX12_weights_59 fX12_69 hS.1 rfl (by decide) rfl rM_36 ?_
              refine x_iload_n (pc := 62) dX12_weights_62 rfl rfl ?_
              refine x_aload_n (pc := 63) dX12_weights_63 rfl rfl ?_
              refine x_iconst (pc := 64) dX12_weights_64 (by decide) ?_
              refine x_iload_n (pc := 65) dX12_weights_65 rfl rfl ?_
              refine x_ishl (pc := 66) dX12_weights_66 ?_
              refine x_callV1 (pc := 67) dX12_weights_67 rfl kX12_307 (s_MWcostOf hfl m (core (A 0)) hS R9.re (core_tq hA.tq) R9.rp0 (R9.2.2.1.st (by first | omega | exact isSet_0 (by omega) | exact isSet_0 (s := s) (by omega) | exact isSet_0 (s := x) (by omega))) (b_shl 1 h) hsp) hS.1 rfl rfl (Nat.le_of_ble_eq_true rfl) (k_G (fun v8 M8 hM8 => ?_)) n_G
              obtain ⟨rfl, f8, p8, c8⟩ := hM8
              have R8 : RM M8 m A := R9.mk9 f8.k p8 c8
              rewrite [hcc]
              have hcr := costs_m hA.tq (b_shl 1 h) ⟨by omega, by omega⟩
              refine x_i2l (pc := 70) dX12_weights_70 ?_
              refine x_lastore (pc := 71) dX12_weights_71 (sM_36 hS) (by omega) ?_
              refine x_memI (fun M7 hM7 => ?_)
              have f87 : frL M2 M8 m := f9.tr f8
              have K7 : frK M M7 m := fun a i x y z => by rw [hM7]; exact (up_a (by omega)).trans ((K2.tr f87.k) a i x y z)
              have R7 : RM M7 m A := R8.mk9w (fun a i x y z => by rw [hM7]; exact up_a (by omega)) (RP0.cg R8.rp0 fun a i x => by rw [hM7]; exact up_a (by omega)) (RCw.cg R8.2.2.1 fun i => by rw [hM7]; exact up_a (by omega))
              have W7 : ∀ i, 0 ≤ i → i < h → M7 (m + 19) i = M1 (m + 19) i := fun i x y => by rw [hM7]; exact (up_i (by omega)).trans ((f87 _ _ (by omega) (by omega) (by omega)).trans (W2 i x y))
              have V7 : M7 (m + 19) h = uV (A 0) (costV (A 0)) h := by
                rw [hM7]; refine up_s.trans ?_
                unfold uV
                rw [if_neg (by omega), if_pos (by omega)]
              clear hM7
              refine x_iconst (pc := 72) dX12_weights_72 (by decide) ?_
              refine x_istore (pc := 73) dX12_weights_73 (by decide) rfl ?_
              refine x_iload (pc := 75) dX12_weights_75 rfl ?_
              refine x_aload_n (pc := 77) dX12_weights_77 rfl rfl ?_
              refine x_getR (jj := 0) (pc := 78) dX12_weights_78 fX12_9 hS.1 rfl (by decide) rfl rM_0 ?_
              refine x_sipush (pc := 81) dX12_weights_81 (by decide) ?_
              refine x_ialoadV (pc := 84) dX12_weights_84 (sM_0 hS) (by omega) (by (repeat (first | rewrite [up_s] | rewrite [up_i (by omega)] | rewrite [up_a (by omega)] | rewrite [stM_a (by omega) (by omega)])); first | exact R2.1.1 _ (by omega) (by omega) | exact k3.1.1 _ (by omega) (by omega) | exact j3.1.1 _ (by omega) (by omega) | exact j5 | exact R7.1.1 _ (by omega) (by omega) | rfl) (fun g_84 => ?_)
              refine x_icmp_ge (tgt := 123) (pc := 85) dX12_weights_85 (by decide) (fun c_85 => ?_) (fun c_85 => ?_)
              · refine x_iinc (pc := 123) dX12_weights_123 rfl (by omega) (by decide) rfl ?_
                refine x_goto (tgt := 11) (pc := 126) dX12_weights_126 (by decide) ?_
                refine x_lo (lo' := [(0, (2, m)), (1, (0, s)), (2, (0, A 0 252)), (3, (0, h + 1))]) ⟨rfl, rfl, rfl, rfl, trivial⟩ (step M7 (by omega) K7 R7 W7 ?_ (fun _ _ => by assumption))
                rw [if_pos (by assumption)]; exact V7
              · refine x_iload_n (pc := 88) dX12_weights_88 rfl rfl ?_
                refine x_if_ne (tgt := 123) (pc := 89) dX12_weights_89 (by decide) (fun c_89 => ?_) (fun c_89 => ?_)
                · refine x_iinc (pc := 123) dX12_weights_123 rfl (by omega) (by decide) rfl ?_
                  refine x_goto (tgt := 11) (pc := 126) dX12_weights_126 (by decide) ?_
                  refine x_lo (lo' := [(0, (2, m)), (1, (0, s)), (2, (0, A 0 252)), (3, (0, h + 1))]) ⟨rfl, rfl, rfl, rfl, trivial⟩ (step M7 (by omega) K7 R7 W7 ?_ (fun _ _ => by assumption))
                  rw [if_pos (by assumption)]; exact V7
                · exfalso; omega
          · refine x_lconst0 (pc := 51) dX12_weights_51 ?_
            refine x_lreturn (pc := 52) dX12_weights_52 rfl (by decide) ?_
            have hno : ¬ wOK (A 0) (costV (A 0)) s = true := fun q => wOK_iff.mp q (by omega) h k1.1 (by omega) (by assumption) (by assumption)
            exact ⟨_, rfl, rfl, rfl, by rw [if_neg hno], K2.tr f9.k, R9, fun q => absurd q hno⟩
      · refine x_if_ne (tgt := 35) (pc := 29) dX12_weights_29 (by decide) (fun c => absurd c (by decide)) (fun _ => ?_)
        refine x_goto (tgt := 123) (pc := 32) dX12_weights_32 (by decide) ?_
        refine x_iinc (pc := 123) dX12_weights_123 rfl (by omega) (by decide) rfl ?_
        refine x_goto (tgt := 11) (pc := 126) dX12_weights_126 (by decide) ?_
        refine x_lo (lo' := [(0, (2, m)), (1, (0, s)), (2, (0, A 0 252)), (3, (0, h + 1))]) ⟨rfl, rfl, rfl, rfl, trivial⟩ (step M2 (by omega) K2 R2 W2 ?_ (fun q => absurd q (by assumption)))
        rw [if_neg (by assumption)]; exact V2)
  refine x_aload_n (pc := 0) dX12_weights_0 rfl rfl ?_
  refine x_getR (jj := 0) (pc := 1) dX12_weights_1 fX12_9 hS.1 rfl (by decide) rfl rM_0 ?_
  refine x_sipush (pc := 4) dX12_weights_4 (by decide) ?_
  refine x_ialoadV (pc := 7) dX12_weights_7 (sM_0 hS) (by omega) (by (repeat (first | rewrite [up_s] | rewrite [up_i (by omega)] | rewrite [up_a (by omega)] | rewrite [stM_a (by omega) (by omega)])); first | exact hR.1.1 _ (by omega) (by omega) | rfl) (fun g_7 => ?_)
  refine x_istore_n (pc := 8) dX12_weights_8 rfl (by decide) rfl ?_
  refine x_iconst (pc := 9) dX12_weights_9 (by decide) ?_
  refine x_istore_n (pc := 10) dX12_weights_10 rfl (by decide) rfl ?_
  refine x_lo (lo' := [(0, (2, m)), (1, (0, s)), (2, (0, A 0 252)), (3, (0, 0))]) ⟨rfl, rfl, rfl, rfl, trivial⟩ (loop (0) _ ⟨by omega, frK.rf, hR, fun i x y => by omega⟩)
theorem isOfV_1 (s h : Int) : isOfV s h = 1 ↔ 0 ≤ h ∧ h < 7 ∧ hb s h = 1 := by
  unfold isOfV
  by_cases q : 0 ≤ h ∧ h < 7 ∧ hb s h = 1
  · rw [if_pos q]; exact ⟨fun _ => q, fun _ => rfl⟩
  · rw [if_neg q]; exact ⟨fun z => by omega, fun z => absurd z q⟩
theorem s_Mruled {l : Launch} {E : aE} {N : Nat} {S : aS} {M : aM} (hfl : l.stackTraces = false) (s h : Int) (m : Int) (A : aM) (hS : lyM S m) (hR : RM M m A) (hA : TOK (A 0)) : aMt l E pX12_ruled [(2, m), (0, s), (0, h)] N S M (aU N S (fun M' => M' m 3 = (spRuled A s h).1 ∧ RM M' m (spRuled A s h).2.2 ∧ frM M M' m)) := by
  refine a_met hfl rfl (by decide +kernel) (Nat.le_of_ble_eq_true rfl) ?_
  have e0 : M (m + 1) 0 = A 0 0 := hR.1.1 0 (by omega) (by omega)
  refine x_aload_n (pc := 0) dX12_ruled_0 rfl rfl ?_
  refine x_aload_n (pc := 1) dX12_ruled_1 rfl rfl ?_
  refine x_iload_n (pc := 2) dX12_ruled_2 rfl rfl ?_
  refine x_callV1 (pc := 3) dX12_ruled_3 rfl kX12_143 (s_isSet hfl m s hS) hS.1 rfl rfl (Nat.le_of_ble_eq_true rfl) (k_B (fun q_3 => ?_) (fun q_3 => ?_)) n_B
  · rw [e0] at q_3
    refine x_if_eq (tgt := 18) (pc := 6) dX12_ruled_6 (by decide) (fun c => absurd c (by decide)) (fun _ => ?_)
    refine x_aload_n (pc := 9) dX12_ruled_9 rfl rfl ?_
    refine x_iload_n (pc := 10) dX12_ruled_10 rfl rfl ?_
    refine x_iload_n (pc := 11) dX12_ruled_11 rfl rfl ?_
    refine x_callV2 (pc := 12) dX12_ruled_12 rfl kX12_396 (s_isOfM hfl m s h) hS.1 rfl rfl (Nat.le_of_ble_eq_true rfl) (k_B (fun q_12 => ?_) (fun q_12 => ?_)) n_B
    · refine x_if_ne (tgt := 22) (pc := 15) dX12_ruled_15 (by decide) (fun _ => ?_) (fun c => absurd c (by decide))
      refine x_iconst (pc := 22) dX12_ruled_22 (by decide) ?_
      refine x_putI (jj := 3) (pc := 23) dX12_ruled_23 fX12_103 hS.1 rfl (by decide) rfl ?_
      refine x_aload_n (pc := 26) dX12_ruled_26 rfl rfl ?_
      refine x_getIV (jj := 3) (pc := 27) dX12_ruled_27 fX12_103 hS.1 rfl (by decide) rfl (by (repeat (first | rewrite [up_s] | rewrite [up_i (by omega)] | rewrite [up_a (by omega)] | rewrite [stM_a (by omega) (by omega)])); first | exact R1.1.1 _ (by omega) (by omega) | exact hR.1.1 _ (by omega) (by omega) | rfl) ?_
      refine x_if_le (tgt := 34) (pc := 30) dX12_ruled_30 (by decide) (fun _ => ?_) (fun c => absurd c (by decide))
      have hnm : ¬ (¬ (0 < s ∧ s < b_shl 1 (A 0 0)) ∨ isOfV s h ≠ 1) := fun q => q.elim (fun q => q (by assumption)) (fun q => q ((isOfV_1 s h).mpr (by assumption)))
      refine x_memI (fun M1 hM1 => ?_)
      have R1 : RM M1 m A := by rw [hM1]; exact hR.up3
      have F1 : frM M M1 m := by rw [hM1]; exact frM.rf.up (by omega)
      have T1 : M1 m 3 = 0 := by rw [hM1]; exact up_s
      clear hM1
      have e0 : M1 (m + 1) 0 = A 0 0 := R1.1.1 0 (by omega) (by omega)
      have t0 := hA.1
      have h6 := hA.tq.2.2.2.2.2.1
      have hcc : costV (core (A 0)) = costV (A 0) := costV_fun (core_same (A 0)) (by rw [core_hi (by omega)]; omega)
      have hc := costs_t hA.tq
      have hto := totV_or (c := costV (A 0)) s
      have hsl := isSet_lt hA (s := s) (by omega)
      have hlt := totE_lt hc (s := s) (by omega)
      have hr : 0 ≤ A 0 252 ∧ A 0 252 ≤ 2 := hA.2.2.2.2.2.2.2.2.2.2.2.2.2.2.2.2.2.2.2.2
      refine x_aload_n (pc := 34) dX12_ruled_34 rfl rfl ?_
      refine x_iload_n (pc := 35) dX12_ruled_35 rfl rfl ?_
      refine x_callV1 (pc := 36) dX12_ruled_36 rfl kX12_328 (s_totalOf hfl m (core (A 0)) hS R1.re (core_tq hA.tq) R1.rp0 (R1.2.2.1.st (by first | omega | exact isSet_0 (by omega) | exact isSet_0 (s := s) (by omega) | exact isSet_0 (s := x) (by omega))) s ⟨by have := isSet_lt hA (s := s) (by omega); omega, by have := isSet_lt hA (s := s) (by omega); omega⟩) hS.1 rfl rfl (Nat.le_of_ble_eq_true rfl) (k_G (fun v9 M9 hM9 => ?_)) n_G
      obtain ⟨rfl, f9, p9, c9, b9⟩ := hM9
      have R9 : RM M9 m A := R1.mk9 f9.k p9 c9
      have T9 : M9 m 3 = 0 := (f9 m 3 (by omega) (by omega) (by omega)).trans T1
      have F9 : frM M M9 m := F1.tr f9.k.fr
      rewrite [hcc]
      rewrite [hcc] at b9
      refine x_istore_n (pc := 39) dX12_ruled_39 rfl (by decide) rfl ?_
      refine x_iload_n (pc := 40) dX12_ruled_40 rfl rfl ?_
      refine x_iconst (pc := 41) dX12_ruled_41 (by decide) ?_
      refine x_icmp_ne (tgt := 49) (pc := 42) dX12_ruled_42 (by decide) (fun c_42 => ?_) (fun c_42 => ?_)
      · refine x_aload_n (pc := 49) dX12_ruled_49 rfl rfl ?_
        refine x_iload_n (pc := 50) dX12_ruled_50 rfl rfl ?_
        refine x_callV1 (pc := 51) dX12_ruled_51 rfl kX12_408 (s_weights hfl m A hS R9 hA s hsl (by first | omega | exact isSet_0 (by omega) | exact isSet_0 (s := s) (by omega))) hS.1 rfl rfl (Nat.le_of_ble_eq_true rfl) (k_G (fun v8 M8 hM8 => ?_)) n_G
        obtain ⟨rfl, f8, R8, w8⟩ := hM8
        have T8 : M8 m 3 = 0 := (f8 m 3 (by omega) (by omega) (by omega)).trans T9
        have F8 : frM M M8 m := F9.tr f8.fr
        refine x_lstore (pc := 54) dX12_ruled_54 (by decide) rfl ?_
        refine x_lload (pc := 56) dX12_ruled_56 rfl ?_
        refine x_lconst0 (pc := 58) dX12_ruled_58 ?_
        refine x_lne (tgt := 71) (pc := 59) dX12_ruled_59 dX12_ruled_60 (by decide) (fun c_59 => ?_) (fun c_59 => ?_)
        · have hok : wOK (A 0) (costV (A 0)) s = true := by
            cases hq : wOK (A 0) (costV (A 0)) s with
            | true => rfl
            | false => rw [hq, if_neg (by decide)] at c_59; omega
          rw [if_pos hok] at c_59
          try rewrite [if_pos hok]
          have hwr := fun i a b w => wV_r hA.tq hr hc (s := s) (h := i) ⟨a, b⟩ w hok
          have hwp := wV_pos hA.tq hr hc hsl hok
          have hmm : 0 ≤ h ∧ h < 7 ∧ hb s h = 1 := by assumption
          have hrow : M8 (m + 19) h = wV (A 0) (costV (A 0)) s h := by rw [w8 hok h hmm.1 hmm.2.1, if_pos hmm.2.2]
          have hwh := hwr h hmm.1 hmm.2.1 hmm.2.2
          have hm1 : totV (costV (A 0)) s * wV (A 0) (costV (A 0)) s h ≤ totV (costV (A 0)) s * 233442 := Int.mul_le_mul_of_nonneg_left hwh.2 (by omega)
          have hm2 : 0 ≤ totV (costV (A 0)) s * wV (A 0) (costV (A 0)) s h := Int.mul_nonneg (by omega) hwh.1
          refine x_aload_n (pc := 71) dX12_ruled_71 rfl rfl ?_
          refine x_iload_n (pc := 72) dX12_ruled_72 rfl rfl ?_
          refine x_i2l (pc := 73) dX12_ruled_73 ?_
          refine x_aload_n (pc := 74) dX12_ruled_74 rfl rfl ?_
          refine x_getR (jj := 36) (pc := 75) dX12_ruled_75 fX12_69 hS.1 rfl (by decide) rfl rM_36 ?_
          refine x_iload_n (pc := 78) dX12_ruled_78 rfl rfl ?_
          refine x_laloadV (pc := 79) dX12_ruled_79 (sM_36 hS) (by omega) (by (repeat (first | rewrite [up_s] | rewrite [up_i (by omega)] | rewrite [up_a (by omega)] | rewrite [stM_a (by omega) (by omega)])); first | exact hrow | rfl) (fun g_79 => ?_)
          refine x_lmul (pc := 80) dX12_ruled_80 (by omega) ?_
          refine x_lload (pc := 81) dX12_ruled_81 rfl ?_
          refine x_callV2 (pc := 83) dX12_ruled_83 rfl kX12_392 (s_fraction hfl m (totV (costV (A 0)) s * wV (A 0) (costV (A 0)) s h) (payS (wV (A 0) (costV (A 0)) s) s) hS ⟨by omega, by omega⟩ ⟨by omega, by omega⟩) hS.1 rfl rfl (Nat.le_of_ble_eq_true rfl) (k_U (fun M6 hM6 => ?_)) n_U
          subst hM6
          refine x_return (pc := 86) dX12_ruled_86 rfl (by decide) ?_
          have e9 : spRuled A s h = (0, 0, frA A (totV (costV (A 0)) s * wV (A 0) (costV (A 0)) s h) (payS (wV (A 0) (costV (A 0)) s) s)) := by
            unfold spRuled
            rw [if_neg hnm, if_neg (is_rule ⟨by omega, hok⟩)]
          rw [e9]
          refine ⟨rfl, rfl, rfl, ?_, R8.fr, (F8.up (by omega)).up (by omega)⟩
          rw [up_i (by omega), up_i (by omega)]; exact T8
        · refine x_aload_n (pc := 63) dX12_ruled_63 rfl rfl ?_
          refine x_iconst (pc := 64) dX12_ruled_64 (by decide) ?_
          refine x_putI (jj := 3) (pc := 65) dX12_ruled_65 fX12_103 hS.1 rfl (by decide) rfl ?_
          refine x_goto (tgt := 86) (pc := 68) dX12_ruled_68 (by decide) ?_
          refine x_return (pc := 86) dX12_ruled_86 rfl (by decide) ?_
          have hno : wOK (A 0) (costV (A 0)) s = false := by
            cases hq : wOK (A 0) (costV (A 0)) s with
            | false => rfl
            | true =>
              have := wV_pos hA.tq hr hc hsl hq
              rw [if_pos hq] at c_59; omega
          have e9 : spRuled A s h = (2, 0, A) := by
            unfold spRuled
            rw [if_neg hnm, if_pos (Or.inr hno)]
          rw [e9]
          exact ⟨rfl, rfl, rfl, up_s, R8.up3, F8.up (by omega)⟩
      · refine x_lconst0 (pc := 45) dX12_ruled_45 ?_
        refine x_goto (tgt := 54) (pc := 46) dX12_ruled_46 (by decide) ?_
        refine x_lstore (pc := 54) dX12_ruled_54 (by decide) rfl ?_
        refine x_lload (pc := 56) dX12_ruled_56 rfl ?_
        refine x_lconst0 (pc := 58) dX12_ruled_58 ?_
        refine x_lne (tgt := 71) (pc := 59) dX12_ruled_59 dX12_ruled_60 (by decide) (fun c_59 => ?_) (fun c_59 => ?_)
        · exfalso; omega
        · refine x_aload_n (pc := 63) dX12_ruled_63 rfl rfl ?_
          refine x_iconst (pc := 64) dX12_ruled_64 (by decide) ?_
          refine x_putI (jj := 3) (pc := 65) dX12_ruled_65 fX12_103 hS.1 rfl (by decide) rfl ?_
          refine x_goto (tgt := 86) (pc := 68) dX12_ruled_68 (by decide) ?_
          refine x_return (pc := 86) dX12_ruled_86 rfl (by decide) ?_
          have e9 : spRuled A s h = (2, 0, A) := by
            unfold spRuled
            rw [if_neg hnm, if_pos (Or.inl (by omega))]
          rw [e9]
          exact ⟨rfl, rfl, rfl, up_s, R9.up3, F9.up (by omega)⟩
    · refine x_if_ne (tgt := 22) (pc := 15) dX12_ruled_15 (by decide) (fun c => absurd c (by decide)) (fun _ => ?_)
      refine x_iconst (pc := 18) dX12_ruled_18 (by decide) ?_
      refine x_goto (tgt := 23) (pc := 19) dX12_ruled_19 (by decide) ?_
      refine x_putI (jj := 3) (pc := 23) dX12_ruled_23 fX12_103 hS.1 rfl (by decide) rfl ?_
      refine x_aload_n (pc := 26) dX12_ruled_26 rfl rfl ?_
      refine x_getIV (jj := 3) (pc := 27) dX12_ruled_27 fX12_103 hS.1 rfl (by decide) rfl (by (repeat (first | rewrite [up_s] | rewrite [up_i (by omega)] | rewrite [up_a (by omega)] | rewrite [stM_a (by omega) (by omega)])); first | exact R1.1.1 _ (by omega) (by omega) | exact hR.1.1 _ (by omega) (by omega) | rfl) ?_
      refine x_if_le (tgt := 34) (pc := 30) dX12_ruled_30 (by decide) (fun c => absurd c (by decide)) (fun _ => ?_)
      refine x_return (pc := 33) dX12_ruled_33 rfl (by decide) ?_
      have e9 : spRuled A s h = (1, 0, A) := by
        unfold spRuled
        rw [if_pos (Or.inr (fun q => absurd ((isOfV_1 s h).mp q) (by assumption)))]
      rw [e9]
      exact ⟨rfl, rfl, rfl, up_s, hR.up3, frM.rf.up (by omega)⟩
  · rw [e0] at q_3
    refine x_if_eq (tgt := 18) (pc := 6) dX12_ruled_6 (by decide) (fun _ => ?_) (fun c => absurd c (by decide))
    refine x_iconst (pc := 18) dX12_ruled_18 (by decide) ?_
    refine x_goto (tgt := 23) (pc := 19) dX12_ruled_19 (by decide) ?_
    refine x_putI (jj := 3) (pc := 23) dX12_ruled_23 fX12_103 hS.1 rfl (by decide) rfl ?_
    refine x_aload_n (pc := 26) dX12_ruled_26 rfl rfl ?_
    refine x_getIV (jj := 3) (pc := 27) dX12_ruled_27 fX12_103 hS.1 rfl (by decide) rfl (by (repeat (first | rewrite [up_s] | rewrite [up_i (by omega)] | rewrite [up_a (by omega)] | rewrite [stM_a (by omega) (by omega)])); first | exact R1.1.1 _ (by omega) (by omega) | exact hR.1.1 _ (by omega) (by omega) | rfl) ?_
    refine x_if_le (tgt := 34) (pc := 30) dX12_ruled_30 (by decide) (fun c => absurd c (by decide)) (fun _ => ?_)
    refine x_return (pc := 33) dX12_ruled_33 rfl (by decide) ?_
    have e9 : spRuled A s h = (1, 0, A) := by
      unfold spRuled
      rw [if_pos (Or.inl (by assumption))]
    rw [e9]
    exact ⟨rfl, rfl, rfl, up_s, hR.up3, frM.rf.up (by omega)⟩
theorem s_Mkeeps {l : Launch} {E : aE} {N : Nat} {S : aS} {M : aM} (hfl : l.stackTraces = false) (s : Int) (m : Int) (A : aM) (hS : lyM S m) (hR : RM M m A) (hA : TOK (A 0)) : aMt l E pX12_keeps [(2, m), (0, s)] N S M (aG N S (opM M m 0 (spKeeps A s))) := by
  refine a_met hfl rfl (by decide +kernel) (Nat.le_of_ble_eq_true rfl) ?_
  refine x_aload_n (pc := 0) dX12_keeps_0 rfl rfl ?_
  refine x_iconst (pc := 1) dX12_keeps_1 (by decide) ?_
  refine x_putI (jj := 3) (pc := 2) dX12_keeps_2 fX12_103 hS.1 rfl (by decide) rfl ?_
  refine x_memI (fun M1 hM1 => ?_)
  have R1 : RM M1 m A := by rw [hM1]; exact hR.up3
  have F1 : frM M M1 m := by rw [hM1]; exact frM.rf.up (by omega)
  have T1 : M1 m 3 = 0 := by rw [hM1]; exact up_s
  clear hM1
  have e0 : M1 (m + 1) 0 = A 0 0 := R1.1.1 0 (by omega) (by omega)
  have t0 := hA.1
  refine x_aload_n (pc := 5) dX12_keeps_5 rfl rfl ?_
  refine x_iload_n (pc := 6) dX12_keeps_6 rfl rfl ?_
  refine x_callV1 (pc := 7) dX12_keeps_7 rfl kX12_143 (s_isSet hfl m s hS) hS.1 rfl rfl (Nat.le_of_ble_eq_true rfl) (k_B (fun q_7 => ?_) (fun q_7 => ?_)) n_B
  · rw [e0] at q_7
    refine x_if_ne (tgt := 19) (pc := 10) dX12_keeps_10 (by decide) (fun _ => ?_) (fun c => absurd c (by decide))
    have h6 := hA.tq.2.2.2.2.2.1
    have hcc : costV (core (A 0)) = costV (A 0) := costV_fun (core_same (A 0)) (by rw [core_hi (by omega)]; omega)
    have hc := costs_t hA.tq
    have hto := totV_or (c := costV (A 0)) s
    have hsl := isSet_lt hA (s := s) (by omega)
    have hlt := totE_lt hc (s := s) (by omega)
    have hr : 0 ≤ A 0 252 ∧ A 0 252 ≤ 2 := hA.2.2.2.2.2.2.2.2.2.2.2.2.2.2.2.2.2.2.2.2
    refine x_aload_n (pc := 19) dX12_keeps_19 rfl rfl ?_
    refine x_iload_n (pc := 20) dX12_keeps_20 rfl rfl ?_
    refine x_callV1 (pc := 21) dX12_keeps_21 rfl kX12_328 (s_totalOf hfl m (core (A 0)) hS R1.re (core_tq hA.tq) R1.rp0 (R1.2.2.1.st (by first | omega | exact isSet_0 (by omega) | exact isSet_0 (s := s) (by omega) | exact isSet_0 (s := x) (by omega))) s ⟨by have := isSet_lt hA (s := s) (by omega); omega, by have := isSet_lt hA (s := s) (by omega); omega⟩) hS.1 rfl rfl (Nat.le_of_ble_eq_true rfl) (k_G (fun v9 M9 hM9 => ?_)) n_G
    obtain ⟨rfl, f9, p9, c9, b9⟩ := hM9
    have R9 : RM M9 m A := R1.mk9 f9.k p9 c9
    have T9 : M9 m 3 = 0 := (f9 m 3 (by omega) (by omega) (by omega)).trans T1
    have F9 : frM M M9 m := F1.tr f9.k.fr
    rewrite [hcc]
    rewrite [hcc] at b9
    refine x_istore_n (pc := 24) dX12_keeps_24 rfl (by decide) rfl ?_
    refine x_iload_n (pc := 25) dX12_keeps_25 rfl rfl ?_
    refine x_iconst (pc := 26) dX12_keeps_26 (by decide) ?_
    refine x_icmp_ne (tgt := 34) (pc := 27) dX12_keeps_27 (by decide) (fun c_27 => ?_) (fun c_27 => ?_)
    · refine x_aload_n (pc := 34) dX12_keeps_34 rfl rfl ?_
      refine x_iload_n (pc := 35) dX12_keeps_35 rfl rfl ?_
      refine x_callV1 (pc := 36) dX12_keeps_36 rfl kX12_408 (s_weights hfl m A hS R9 hA s hsl (by first | omega | exact isSet_0 (by omega) | exact isSet_0 (s := s) (by omega))) hS.1 rfl rfl (Nat.le_of_ble_eq_true rfl) (k_G (fun v8 M8 hM8 => ?_)) n_G
      obtain ⟨rfl, f8, R8, w8⟩ := hM8
      have T8 : M8 m 3 = 0 := (f8 m 3 (by omega) (by omega) (by omega)).trans T9
      have F8 : frM M M8 m := F9.tr f8.fr
      refine x_lstore_n (pc := 39) dX12_keeps_39 rfl (by decide) rfl ?_
      refine x_lload_n (pc := 40) dX12_keeps_40 rfl rfl ?_
      refine x_lconst0 (pc := 41) dX12_keeps_41 ?_
      refine x_lne (tgt := 52) (pc := 42) dX12_keeps_42 dX12_keeps_43 (by decide) (fun c_42 => ?_) (fun c_42 => ?_)
      · have hok : wOK (A 0) (costV (A 0)) s = true := by
          cases hq : wOK (A 0) (costV (A 0)) s with
          | true => rfl
          | false => rw [hq, if_neg (by decide)] at c_42; omega
        rw [if_pos hok] at c_42
        try rewrite [if_pos hok]
        have hwr := fun i a b w => wV_r hA.tq hr hc (s := s) (h := i) ⟨a, b⟩ w hok
        have hwp := wV_pos hA.tq hr hc hsl hok
        have loop := a_loop2 (fun h M2 => (0 ≤ h ∧ h ≤ 7) ∧ (∀ a i, a ≠ m + 19 → M2 a i = M8 a i) ∧ (∀ i, 0 ≤ i → i < h → M2 (m + 19) i = if hb s i = 1 then wV (A 0) (costV (A 0)) s i * totV (costV (A 0)) s else 0) ∧ ∀ i, h ≤ i → i < 7 → M2 (m + 19) i = if hb s i = 1 then wV (A 0) (costV (A 0)) s i else 0) (fun h M2 => (7 - h).toNat) (fun h M2 => aX l E pX12_keeps (aG N S (opM M m 0 (spKeeps A s))) 0 0 N S M2 55 [(0, (2, m)), (1, (0, s)), (2, (0, totV (costV (A 0)) s)), (3, (1, payS (wV (A 0) (costV (A 0)) s) s)), (5, (0, h))] []) (by
          intro h M2 hI ih
          obtain ⟨k1, k2, k3, k4⟩ := hI
          refine x_iload (pc := 55) dX12_keeps_55 rfl ?_
          refine x_bipush (pc := 57) dX12_keeps_57 (by decide) ?_
          refine x_icmp_ge (tgt := 80) (pc := 59) dX12_keeps_59 (by decide) (fun c_59 => ?_) (fun c_59 => ?_)
          · have K8 : frK M8 M2 m := fun a i x y z => k2 a i (by omega)
            have R2 : RM M2 m A := R8.mk9w K8 (RP0.cg R8.rp0 fun a i x => k2 a i (by omega)) (RCw.cg R8.2.2.1 fun i => k2 _ i (by omega))
            have T2 : M2 m 3 = 0 := (k2 m 3 (by omega)).trans T8
            have F2 : frM M M2 m := F8.tr K8.fr
            refine x_aload_n (pc := 80) dX12_keeps_80 rfl rfl ?_
            refine x_iload_n (pc := 81) dX12_keeps_81 rfl rfl ?_
            refine x_lload_n (pc := 82) dX12_keeps_82 rfl rfl ?_
            have hpb : ∀ i, 0 ≤ i → i < 7 → hb s i = 1 → 0 ≤ wV (A 0) (costV (A 0)) s i * totV (costV (A 0)) s ∧ wV (A 0) (costV (A 0)) s i * totV (costV (A 0)) s ≤ 1000000000000 := fun i a b z => by
              have h1 := hwr i a b z
              have h2 : wV (A 0) (costV (A 0)) s i * totV (costV (A 0)) s ≤ 233442 * totV (costV (A 0)) s := Int.mul_le_mul_of_nonneg_right h1.2 (by omega)
              have h3 : 0 ≤ wV (A 0) (costV (A 0)) s i * totV (costV (A 0)) s := Int.mul_nonneg h1.1 (by omega)
              omega
            refine x_callV2 (pc := 83) dX12_keeps_83 rfl kX12_352 (s_leaves hfl m A hS R2 hA s (payS (wV (A 0) (costV (A 0)) s) s) (fun h => wV (A 0) (costV (A 0)) s h * totV (costV (A 0)) s) hsl (by first | omega | exact isSet_0 (by omega) | exact isSet_0 (s := s) (by omega)) ⟨by omega, by omega⟩ (fun i a b z => hpb i a b z) (fun i a b z => by rw [k3 i a (by omega), if_pos z])) hS.1 rfl rfl (Nat.le_of_ble_eq_true rfl) (k_G (fun v7 M7 hM7 => ?_)) n_G
            obtain ⟨rfl, f7, R7⟩ := hM7
            have T7 : M7 m 3 = 0 := (f7 m 3 (by omega) (by omega) (by omega)).trans T2
            have F7 : frM M M7 m := F2.tr f7.k.fr
            refine x_ireturn (pc := 86) dX12_keeps_86 rfl (by decide) ?_
            have e9 : spKeeps A s = (0, leavesV (costV (A 0)) (fun h => wV (A 0) (costV (A 0)) s h * totV (costV (A 0)) s) (payS (wV (A 0) (costV (A 0)) s) s) s, A) := by
              unfold spKeeps
              rw [if_neg (by omega), if_neg (is_rule ⟨by omega, hok⟩)]
            rw [e9]
            exact ⟨_, rfl, rfl, rfl, rfl, T7, fun _ => rfl, R7, F7⟩
          · obtain ⟨y, hy, hy0⟩ : ∃ y, y = (if hb s h = 1 then wV (A 0) (costV (A 0)) s h else 0) ∧ 0 ≤ y ∧ y ≤ 233442 := ⟨_, rfl, by
              split
              · exact hwr h k1.1 (by omega) (by assumption)
              · omega⟩
            have hm1 : y * totV (costV (A 0)) s ≤ 233442 * totV (costV (A 0)) s := Int.mul_le_mul_of_nonneg_right hy0.2 (by omega)
            have hm2 : 0 ≤ y * totV (costV (A 0)) s := Int.mul_nonneg hy0.1 (by omega)
            refine x_aload_n (pc := 62) dX12_keeps_62 rfl rfl ?_
            refine x_getR (jj := 36) (pc := 63) dX12_keeps_63 fX12_69 hS.1 rfl (by decide) rfl rM_36 ?_
            refine x_iload (pc := 66) dX12_keeps_66 rfl ?_
            refine x_dup2 (pc := 68) dX12_keeps_68 rfl rfl ?_
            refine x_laloadV (pc := 69) dX12_keeps_69 (sM_36 hS) (by omega) (by (repeat (first | rewrite [up_s] | rewrite [up_i (by omega)] | rewrite [up_a (by omega)] | rewrite [stM_a (by omega) (by omega)])); first | exact (k4 h (by omega) (by omega)).trans hy.symm | rfl) (fun g_69 => ?_)
            refine x_iload_n (pc := 70) dX12_keeps_70 rfl rfl ?_
            refine x_i2l (pc := 71) dX12_keeps_71 ?_
            refine x_lmul (pc := 72) dX12_keeps_72 (by omega) ?_
            refine x_lastore (pc := 73) dX12_keeps_73 (sM_36 hS) (by omega) ?_
            refine x_iinc (pc := 74) dX12_keeps_74 rfl (by omega) (by decide) rfl ?_
            refine x_goto (tgt := 55) (pc := 77) dX12_keeps_77 (by decide) ?_
            refine x_lo (lo' := [(0, (2, m)), (1, (0, s)), (2, (0, totV (costV (A 0)) s)), (3, (1, payS (wV (A 0) (costV (A 0)) s) s)), (5, (0, (h + 1)))]) ⟨rfl, rfl, rfl, rfl, rfl, trivial⟩ (ih (h + 1) _ ⟨by omega, fun a i x => (up_a x).trans (k2 a i x), fun i x y => ?_, fun i x y => (up_i (by omega)).trans (k4 i (by omega) y)⟩ (by omega))
            by_cases e : i = h
            · subst e
              rw [up_s, hy]
              split
              · rfl
              · exact Int.zero_mul _
            · exact (up_i e).trans (k3 i x (by omega)))
        refine x_iconst (pc := 52) dX12_keeps_52 (by decide) ?_
        refine x_istore (pc := 53) dX12_keeps_53 (by decide) rfl ?_
        refine x_lo (lo' := [(0, (2, m)), (1, (0, s)), (2, (0, totV (costV (A 0)) s)), (3, (1, payS (wV (A 0) (costV (A 0)) s) s)), (5, (0, 0))]) ⟨rfl, rfl, rfl, rfl, rfl, trivial⟩ (loop (0) _ ⟨by omega, fun _ _ _ => rfl, fun i x y => by omega, fun i x y => w8 hok i x y⟩)
      · refine x_aload_n (pc := 46) dX12_keeps_46 rfl rfl ?_
        refine x_iconst (pc := 47) dX12_keeps_47 (by decide) ?_
        refine x_callV1 (pc := 48) dX12_keeps_48 rfl kX12_116 (s_fails hfl m _ hS) hS.1 rfl rfl (Nat.le_of_ble_eq_true rfl) (k_G (fun v9 M9 hM9 => ?_)) n_G
        obtain ⟨rfl, rfl⟩ := hM9
        refine x_ireturn (pc := 51) dX12_keeps_51 rfl (by decide) ?_
        have hno : wOK (A 0) (costV (A 0)) s = false := by
          cases hq : wOK (A 0) (costV (A 0)) s with
          | false => rfl
          | true =>
            have := wV_pos hA.tq hr hc hsl hq
            rw [if_pos hq] at c_42; omega
        have e9 : spKeeps A s = (2, 0, A) := by
          unfold spKeeps
          rw [if_neg (by omega), if_pos (Or.inr hno)]
        rw [e9]
        exact ⟨_, rfl, rfl, rfl, rfl, up_s, fun q => absurd q (show ¬ (2 : Int) = 0 by decide), R8.up3, F8.up (by omega)⟩
    · refine x_lconst0 (pc := 30) dX12_keeps_30 ?_
      refine x_goto (tgt := 39) (pc := 31) dX12_keeps_31 (by decide) ?_
      refine x_lstore_n (pc := 39) dX12_keeps_39 rfl (by decide) rfl ?_
      refine x_lload_n (pc := 40) dX12_keeps_40 rfl rfl ?_
      refine x_lconst0 (pc := 41) dX12_keeps_41 ?_
      refine x_lne (tgt := 52) (pc := 42) dX12_keeps_42 dX12_keeps_43 (by decide) (fun c_42 => ?_) (fun c_42 => ?_)
      · exfalso; omega
      · refine x_aload_n (pc := 46) dX12_keeps_46 rfl rfl ?_
        refine x_iconst (pc := 47) dX12_keeps_47 (by decide) ?_
        refine x_callV1 (pc := 48) dX12_keeps_48 rfl kX12_116 (s_fails hfl m _ hS) hS.1 rfl rfl (Nat.le_of_ble_eq_true rfl) (k_G (fun v9 M9 hM9 => ?_)) n_G
        obtain ⟨rfl, rfl⟩ := hM9
        refine x_ireturn (pc := 51) dX12_keeps_51 rfl (by decide) ?_
        have e9 : spKeeps A s = (2, 0, A) := by
          unfold spKeeps
          rw [if_neg (by omega), if_pos (Or.inl (by omega))]
        rw [e9]
        exact ⟨_, rfl, rfl, rfl, rfl, up_s, fun q => absurd q (show ¬ (2 : Int) = 0 by decide), R9.up3, F9.up (by omega)⟩
  · rw [e0] at q_7
    refine x_if_ne (tgt := 19) (pc := 10) dX12_keeps_10 (by decide) (fun c => absurd c (by decide)) (fun _ => ?_)
    refine x_aload_n (pc := 13) dX12_keeps_13 rfl rfl ?_
    refine x_iconst (pc := 14) dX12_keeps_14 (by decide) ?_
    refine x_callV1 (pc := 15) dX12_keeps_15 rfl kX12_116 (s_fails hfl m _ hS) hS.1 rfl rfl (Nat.le_of_ble_eq_true rfl) (k_G (fun v9 M9 hM9 => ?_)) n_G
    obtain ⟨rfl, rfl⟩ := hM9
    refine x_ireturn (pc := 18) dX12_keeps_18 rfl (by decide) ?_
    have e9 : spKeeps A s = (1, 0, A) := by
      unfold spKeeps
      rw [if_pos (by omega)]
    rw [e9]
    exact ⟨_, rfl, rfl, rfl, rfl, up_s, fun q => absurd q (show ¬ (1 : Int) = 0 by decide), R1.up3, F1.up (by omega)⟩
