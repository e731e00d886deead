/-! count -/
theorem dX11_count_0 : decode cX11_count 0 = .ok (.aload_n 0, 1) := by decide +kernel
theorem dX11_count_1 : decode cX11_count 1 = .ok (.getfield 10, 3) := by decide +kernel
theorem dX11_count_4 : decode cX11_count 4 = .ok (.getfield 29, 3) := by decide +kernel
theorem dX11_count_7 : decode cX11_count 7 = .ok (.astore_n 2, 1) := by decide +kernel
theorem dX11_count_8 : decode cX11_count 8 = .ok (.iload_n 1, 1) := by decide +kernel
theorem dX11_count_9 : decode cX11_count 9 = .ok (.tableswitch 114 0 9 #[55, 63, 68, 73, 78, 86, 94, 99, 104, 109], 55) := by decide +kernel
theorem dX11_count_64 : decode cX11_count 64 = .ok (.aload_n 0, 1) := by decide +kernel
theorem dX11_count_65 : decode cX11_count 65 = .ok (.getfield 10, 3) := by decide +kernel
theorem dX11_count_68 : decode cX11_count 68 = .ok (.getfield 355, 3) := by decide +kernel
theorem dX11_count_71 : decode cX11_count 71 = .ok (.ireturn, 1) := by decide +kernel
theorem dX11_count_72 : decode cX11_count 72 = .ok (.aload_n 2, 1) := by decide +kernel
theorem dX11_count_73 : decode cX11_count 73 = .ok (.getfield 358, 3) := by decide +kernel
theorem dX11_count_76 : decode cX11_count 76 = .ok (.ireturn, 1) := by decide +kernel
theorem dX11_count_77 : decode cX11_count 77 = .ok (.aload_n 2, 1) := by decide +kernel
theorem dX11_count_78 : decode cX11_count 78 = .ok (.getfield 361, 3) := by decide +kernel
theorem dX11_count_81 : decode cX11_count 81 = .ok (.ireturn, 1) := by decide +kernel
theorem dX11_count_82 : decode cX11_count 82 = .ok (.aload_n 2, 1) := by decide +kernel
theorem dX11_count_83 : decode cX11_count 83 = .ok (.getfield 194, 3) := by decide +kernel
theorem dX11_count_86 : decode cX11_count 86 = .ok (.ireturn, 1) := by decide +kernel
theorem dX11_count_87 : decode cX11_count 87 = .ok (.aload_n 0, 1) := by decide +kernel
theorem dX11_count_88 : decode cX11_count 88 = .ok (.getfield 23, 3) := by decide +kernel
theorem dX11_count_91 : decode cX11_count 91 = .ok (.getfield 141, 3) := by decide +kernel
theorem dX11_count_94 : decode cX11_count 94 = .ok (.ireturn, 1) := by decide +kernel
theorem dX11_count_95 : decode cX11_count 95 = .ok (.aload_n 0, 1) := by decide +kernel
theorem dX11_count_96 : decode cX11_count 96 = .ok (.getfield 10, 3) := by decide +kernel
theorem dX11_count_99 : decode cX11_count 99 = .ok (.invokevirtual 364, 3) := by decide +kernel
theorem dX11_count_102 : decode cX11_count 102 = .ok (.ireturn, 1) := by decide +kernel
theorem dX11_count_103 : decode cX11_count 103 = .ok (.aload_n 2, 1) := by decide +kernel
theorem dX11_count_104 : decode cX11_count 104 = .ok (.getfield 368, 3) := by decide +kernel
theorem dX11_count_107 : decode cX11_count 107 = .ok (.ireturn, 1) := by decide +kernel
theorem dX11_count_108 : decode cX11_count 108 = .ok (.aload_n 2, 1) := by decide +kernel
theorem dX11_count_109 : decode cX11_count 109 = .ok (.getfield 371, 3) := by decide +kernel
theorem dX11_count_112 : decode cX11_count 112 = .ok (.ireturn, 1) := by decide +kernel
theorem dX11_count_113 : decode cX11_count 113 = .ok (.aload_n 2, 1) := by decide +kernel
theorem dX11_count_114 : decode cX11_count 114 = .ok (.getfield 374, 3) := by decide +kernel
theorem dX11_count_117 : decode cX11_count 117 = .ok (.ireturn, 1) := by decide +kernel
theorem dX11_count_118 : decode cX11_count 118 = .ok (.aload_n 2, 1) := by decide +kernel
theorem dX11_count_119 : decode cX11_count 119 = .ok (.getfield 377, 3) := by decide +kernel
theorem dX11_count_122 : decode cX11_count 122 = .ok (.ireturn, 1) := by decide +kernel
theorem dX11_count_123 : decode cX11_count 123 = .ok (.iconst (-1), 1) := by decide +kernel
theorem dX11_count_124 : decode cX11_count 124 = .ok (.ireturn, 1) := by decide +kernel
def spCount (A : aM) (w : Int) : Int × Int × aM := (0, if w = 0 then A 0 0 else if w = 1 then A 0 220 else if w = 2 then A 0 233 else if w = 3 then A 0 244 else if w = 4 then A 2 0 else if w = 5 then sumN (fun i => A 0 (156 + i)) 7 else if w = 6 then A 0 252 else if w = 7 then A 0 251 else if w = 8 then A 0 242 else if w = 9 then A 0 243 else -1, A)
theorem s_Mcount {l : Launch} {E : aE} {N : Nat} {S : aS} {M : aM} (hfl : l.stackTraces = false) (w : Int) (m : Int) (A : aM) (hS : lyM S m) (hR : RM M m A) (hA : TOK (A 0)) : aMt l E pX12_count [(2, m), (0, w)] N S M (aG N S (opM M m 0 (spCount A w))) := by
  refine a_met hfl rfl (by decide +kernel) (Nat.le_of_ble_eq_true rfl) ?_
  refine x_aload_n (pc := 0) dX12_count_0 rfl rfl ?_
  refine x_iconst (pc := 1) dX12_count_1 (by decide) ?_
  refine x_putI (jj := 3) (pc := 2) dX12_count_2 fX12_103 hS.1 rfl (by decide) rfl ?_
  refine x_memI (fun M1 hM1 => ?_)
  have R1 : RM M1 m A := by rw [hM1]; exact hR.up3
  have F1 : frM M M1 m := by rw [hM1]; exact frM.rf.up (by omega)
  have T1 : M1 m 3 = 0 := by rw [hM1]; exact up_s
  clear hM1
  have e0 : M1 (m + 1) 0 = A 0 0 := R1.1.1 0 (by omega) (by omega)
  have t0 := hA.1
  refine x_iconst (pc := 5) dX12_count_5 (by decide) ?_
  refine x_istore_n (pc := 6) dX12_count_6 rfl (by decide) rfl ?_
  refine x_iload_n (pc := 7) dX12_count_7 rfl rfl ?_
  by_cases w0 : w = 0
  · subst w0
    refine x_tableIn (off := 56) (tgt := 64) (pc := 8) dX12_count_8 (by decide) (by decide) rfl (by decide) ?_
    refine x_aload_n (pc := 64) dX12_count_64 rfl rfl ?_
    refine x_getR (jj := 0) (pc := 65) dX12_count_65 fX12_9 hS.1 rfl (by decide) rfl rM_0 ?_
    refine x_iconst (pc := 68) dX12_count_68 (by decide) ?_
    refine x_ialoadV (pc := 69) dX12_count_69 (sM_0 hS) (by omega) (by (repeat (first | rewrite [up_s] | rewrite [up_i (by omega)] | rewrite [up_a (by omega)] | rewrite [stM_a (by omega) (by omega)])); first | exact R1.1.1 _ (by omega) (by omega) | exact R1.1.2.1 | rfl) (fun g_69 => ?_)
    refine x_ireturn (pc := 70) dX12_count_70 rfl (by decide) ?_
    have e9 : spCount A 0 = (0, A 0 0, A) := by
      unfold spCount
      rw [if_pos rfl]
    rw [e9]
    exact ⟨_, rfl, rfl, rfl, rfl, T1, fun _ => rfl, R1, F1⟩
  by_cases w1 : w = 1
  · subst w1
    refine x_tableIn (off := 63) (tgt := 71) (pc := 8) dX12_count_8 (by decide) (by decide) rfl (by decide) ?_
    refine x_aload_n (pc := 71) dX12_count_71 rfl rfl ?_
    refine x_getR (jj := 0) (pc := 72) dX12_count_72 fX12_9 hS.1 rfl (by decide) rfl rM_0 ?_
    refine x_sipush (pc := 75) dX12_count_75 (by decide) ?_
    refine x_ialoadV (pc := 78) dX12_count_78 (sM_0 hS) (by omega) (by (repeat (first | rewrite [up_s] | rewrite [up_i (by omega)] | rewrite [up_a (by omega)] | rewrite [stM_a (by omega) (by omega)])); first | exact R1.1.1 _ (by omega) (by omega) | exact R1.1.2.1 | rfl) (fun g_78 => ?_)
    refine x_ireturn (pc := 79) dX12_count_79 rfl (by decide) ?_
    have e9 : spCount A 1 = (0, A 0 220, A) := by
      unfold spCount
      rw [if_neg (by omega), if_pos rfl]
    rw [e9]
    exact ⟨_, rfl, rfl, rfl, rfl, T1, fun _ => rfl, R1, F1⟩
  by_cases w2 : w = 2
  · subst w2
    refine x_tableIn (off := 72) (tgt := 80) (pc := 8) dX12_count_8 (by decide) (by decide) rfl (by decide) ?_
    refine x_aload_n (pc := 80) dX12_count_80 rfl rfl ?_
    refine x_getR (jj := 0) (pc := 81) dX12_count_81 fX12_9 hS.1 rfl (by decide) rfl rM_0 ?_
    refine x_sipush (pc := 84) dX12_count_84 (by decide) ?_
    refine x_ialoadV (pc := 87) dX12_count_87 (sM_0 hS) (by omega) (by (repeat (first | rewrite [up_s] | rewrite [up_i (by omega)] | rewrite [up_a (by omega)] | rewrite [stM_a (by omega) (by omega)])); first | exact R1.1.1 _ (by omega) (by omega) | exact R1.1.2.1 | rfl) (fun g_87 => ?_)
    refine x_ireturn (pc := 88) dX12_count_88 rfl (by decide) ?_
    have e9 : spCount A 2 = (0, A 0 233, A) := by
      unfold spCount
      rw [if_neg (by omega), if_neg (by omega), if_pos rfl]
    rw [e9]
    exact ⟨_, rfl, rfl, rfl, rfl, T1, fun _ => rfl, R1, F1⟩
  by_cases w3 : w = 3
  · subst w3
    refine x_tableIn (off := 81) (tgt := 89) (pc := 8) dX12_count_8 (by decide) (by decide) rfl (by decide) ?_
    refine x_aload_n (pc := 89) dX12_count_89 rfl rfl ?_
    refine x_getR (jj := 0) (pc := 90) dX12_count_90 fX12_9 hS.1 rfl (by decide) rfl rM_0 ?_
    refine x_sipush (pc := 93) dX12_count_93 (by decide) ?_
    refine x_ialoadV (pc := 96) dX12_count_96 (sM_0 hS) (by omega) (by (repeat (first | rewrite [up_s] | rewrite [up_i (by omega)] | rewrite [up_a (by omega)] | rewrite [stM_a (by omega) (by omega)])); first | exact R1.1.1 _ (by omega) (by omega) | exact R1.1.2.1 | rfl) (fun g_96 => ?_)
    refine x_ireturn (pc := 97) dX12_count_97 rfl (by decide) ?_
    have e9 : spCount A 3 = (0, A 0 244, A) := by
      unfold spCount
      rw [if_neg (by omega), if_neg (by omega), if_neg (by omega), if_pos rfl]
    rw [e9]
    exact ⟨_, rfl, rfl, rfl, rfl, T1, fun _ => rfl, R1, F1⟩
  by_cases w4 : w = 4
  · subst w4
    refine x_tableIn (off := 90) (tgt := 98) (pc := 8) dX12_count_8 (by decide) (by decide) rfl (by decide) ?_
    refine x_aload_n (pc := 98) dX12_count_98 rfl rfl ?_
    refine x_getIV (jj := 6) (pc := 99) dX12_count_99 fX12_149 hS.1 rfl (by decide) rfl (by (repeat (first | rewrite [up_s] | rewrite [up_i (by omega)] | rewrite [up_a (by omega)] | rewrite [stM_a (by omega) (by omega)])); first | exact R1.1.1 _ (by omega) (by omega) | exact R1.1.2.1 | rfl) ?_
    refine x_ireturn (pc := 102) dX12_count_102 rfl (by decide) ?_
    have e9 : spCount A 4 = (0, A 2 0, A) := by
      unfold spCount
      rw [if_neg (by omega), if_neg (by omega), if_neg (by omega), if_neg (by omega), if_pos rfl]
    rw [e9]
    exact ⟨_, rfl, rfl, rfl, rfl, T1, fun _ => rfl, R1, F1⟩
  by_cases w5 : w = 5
  · subst w5
    refine x_tableIn (off := 95) (tgt := 103) (pc := 8) dX12_count_8 (by decide) (by decide) rfl (by decide) ?_
    refine x_iconst (pc := 103) dX12_count_103 (by decide) ?_
    refine x_istore_n (pc := 104) dX12_count_104 rfl (by decide) rfl ?_
    have loop := a_loop2 (fun i x => 0 ≤ i ∧ i ≤ 7 ∧ x = sumN (fun i => A 0 (156 + i)) i.toNat) (fun i _ => (7 - i).toNat) (fun i x => aX l E pX12_count (aG N S (opM M m 0 (spCount A 5))) 0 0 N S M1 105 [(0, (2, m)), (1, (0, 5)), (2, (0, x)), (3, (0, i))] []) (by
      intro i x hI ih
      have i0 := hI.1
      have i1 := hI.2.1
      have hx : 0 ≤ x ∧ x ≤ 28 := by
        have := sumN_le (n := i.toNat) (c := 4) (f := fun i => A 0 (156 + i)) fun j a b => hA.2.2.2.2.2.2.2.1 j a (by omega)
        rw [hI.2.2]
        omega
      have hd := fun (q : i < 7) => hA.2.2.2.2.2.2.2.1 i i0 q
      refine x_iload_n (pc := 105) dX12_count_105 rfl rfl ?_
      refine x_bipush (pc := 106) dX12_count_106 (by decide) ?_
      refine x_icmp_ge (tgt := 130) (pc := 108) dX12_count_108 (by decide) (fun c_108 => ?_) (fun c_108 => ?_)
      · refine x_iload_n (pc := 130) dX12_count_130 rfl rfl ?_
        refine x_ireturn (pc := 131) dX12_count_131 rfl (by decide) ?_
        have e9 : spCount A 5 = (0, sumN (fun i => A 0 (156 + i)) 7, A) := by
          unfold spCount
          rw [if_neg (by omega), if_neg (by omega), if_neg (by omega), if_neg (by omega), if_neg (by omega), if_pos rfl]
        rw [e9]
        exact ⟨_, rfl, rfl, rfl, rfl, T1, fun _ => by rw [hI.2.2, show i.toNat = 7 by omega], R1, F1⟩
      · refine x_iload_n (pc := 111) dX12_count_111 rfl rfl ?_
        refine x_aload_n (pc := 112) dX12_count_112 rfl rfl ?_
        refine x_getR (jj := 0) (pc := 113) dX12_count_113 fX12_9 hS.1 rfl (by decide) rfl rM_0 ?_
        refine x_sipush (pc := 116) dX12_count_116 (by decide) ?_
        refine x_iload_n (pc := 119) dX12_count_119 rfl rfl ?_
        refine x_iadd (pc := 120) dX12_count_120 (by omega) ?_
        refine x_ialoadV (pc := 121) dX12_count_121 (sM_0 hS) (by omega) (by (repeat (first | rewrite [up_s] | rewrite [up_i (by omega)] | rewrite [up_a (by omega)] | rewrite [stM_a (by omega) (by omega)])); first | exact R1.1.1 _ (by omega) (by omega) | exact R1.1.2.1 | rfl) (fun g_121 => ?_)
        refine x_iadd (pc := 122) dX12_count_122 (by omega) ?_
        refine x_istore_n (pc := 123) dX12_count_123 rfl (by decide) rfl ?_
        refine x_iinc (pc := 124) dX12_count_124 rfl (by omega) (by decide) rfl ?_
        refine x_goto (tgt := 105) (pc := 127) dX12_count_127 (by decide) ?_
        refine x_lo (lo' := [(0, (2, m)), (1, (0, 5)), (2, (0, x + A 0 (156 + i))), (3, (0, i + 1))]) ⟨rfl, rfl, rfl, rfl, trivial⟩ (ih (i + 1) _ ⟨by omega, by omega, ?_⟩ (by omega))
        rw [sumN_1 _ hI.1, hI.2.2])
    exact x_lo (lo' := [(0, (2, m)), (1, (0, 5)), (2, (0, 0)), (3, (0, 0))]) ⟨rfl, rfl, rfl, rfl, trivial⟩ (loop 0 0 ⟨by omega, by omega, rfl⟩)
  by_cases w6 : w = 6
  · subst w6
    refine x_tableIn (off := 124) (tgt := 132) (pc := 8) dX12_count_8 (by decide) (by decide) rfl (by decide) ?_
    refine x_aload_n (pc := 132) dX12_count_132 rfl rfl ?_
    refine x_getR (jj := 0) (pc := 133) dX12_count_133 fX12_9 hS.1 rfl (by decide) rfl rM_0 ?_
    refine x_sipush (pc := 136) dX12_count_136 (by decide) ?_
    refine x_ialoadV (pc := 139) dX12_count_139 (sM_0 hS) (by omega) (by (repeat (first | rewrite [up_s] | rewrite [up_i (by omega)] | rewrite [up_a (by omega)] | rewrite [stM_a (by omega) (by omega)])); first | exact R1.1.1 _ (by omega) (by omega) | exact R1.1.2.1 | rfl) (fun g_139 => ?_)
    refine x_ireturn (pc := 140) dX12_count_140 rfl (by decide) ?_
    have e9 : spCount A 6 = (0, A 0 252, A) := by
      unfold spCount
      rw [if_neg (by omega), if_neg (by omega), if_neg (by omega), if_neg (by omega), if_neg (by omega), if_neg (by omega), if_pos rfl]
    rw [e9]
    exact ⟨_, rfl, rfl, rfl, rfl, T1, fun _ => rfl, R1, F1⟩
  by_cases w7 : w = 7
  · subst w7
    refine x_tableIn (off := 133) (tgt := 141) (pc := 8) dX12_count_8 (by decide) (by decide) rfl (by decide) ?_
    refine x_aload_n (pc := 141) dX12_count_141 rfl rfl ?_
    refine x_getR (jj := 0) (pc := 142) dX12_count_142 fX12_9 hS.1 rfl (by decide) rfl rM_0 ?_
    refine x_sipush (pc := 145) dX12_count_145 (by decide) ?_
    refine x_ialoadV (pc := 148) dX12_count_148 (sM_0 hS) (by omega) (by (repeat (first | rewrite [up_s] | rewrite [up_i (by omega)] | rewrite [up_a (by omega)] | rewrite [stM_a (by omega) (by omega)])); first | exact R1.1.1 _ (by omega) (by omega) | exact R1.1.2.1 | rfl) (fun g_148 => ?_)
    refine x_ireturn (pc := 149) dX12_count_149 rfl (by decide) ?_
    have e9 : spCount A 7 = (0, A 0 251, A) := by
      unfold spCount
      rw [if_neg (by omega), if_neg (by omega), if_neg (by omega), if_neg (by omega), if_neg (by omega), if_neg (by omega), if_neg (by omega), if_pos rfl]
    rw [e9]
    exact ⟨_, rfl, rfl, rfl, rfl, T1, fun _ => rfl, R1, F1⟩
  by_cases w8 : w = 8
  · subst w8
    refine x_tableIn (off := 142) (tgt := 150) (pc := 8) dX12_count_8 (by decide) (by decide) rfl (by decide) ?_
    refine x_aload_n (pc := 150) dX12_count_150 rfl rfl ?_
    refine x_getR (jj := 0) (pc := 151) dX12_count_151 fX12_9 hS.1 rfl (by decide) rfl rM_0 ?_
    refine x_sipush (pc := 154) dX12_count_154 (by decide) ?_
    refine x_ialoadV (pc := 157) dX12_count_157 (sM_0 hS) (by omega) (by (repeat (first | rewrite [up_s] | rewrite [up_i (by omega)] | rewrite [up_a (by omega)] | rewrite [stM_a (by omega) (by omega)])); first | exact R1.1.1 _ (by omega) (by omega) | exact R1.1.2.1 | rfl) (fun g_157 => ?_)
    refine x_ireturn (pc := 158) dX12_count_158 rfl (by decide) ?_
    have e9 : spCount A 8 = (0, A 0 242, A) := by
      unfold spCount
      rw [if_neg (by omega), if_neg (by omega), if_neg (by omega), if_neg (by omega), if_neg (by omega), if_neg (by omega), if_neg (by omega), if_neg (by omega), if_pos rfl]
    rw [e9]
    exact ⟨_, rfl, rfl, rfl, rfl, T1, fun _ => rfl, R1, F1⟩
  by_cases w9 : w = 9
  · subst w9
    refine x_tableIn (off := 151) (tgt := 159) (pc := 8) dX12_count_8 (by decide) (by decide) rfl (by decide) ?_
    refine x_aload_n (pc := 159) dX12_count_159 rfl rfl ?_
    refine x_getR (jj := 0) (pc := 160) dX12_count_160 fX12_9 hS.1 rfl (by decide) rfl rM_0 ?_
    refine x_sipush (pc := 163) dX12_count_163 (by decide) ?_
    refine x_ialoadV (pc := 166) dX12_count_166 (sM_0 hS) (by omega) (by (repeat (first | rewrite [up_s] | rewrite [up_i (by omega)] | rewrite [up_a (by omega)] | rewrite [stM_a (by omega) (by omega)])); first | exact R1.1.1 _ (by omega) (by omega) | exact R1.1.2.1 | rfl) (fun g_166 => ?_)
    refine x_ireturn (pc := 167) dX12_count_167 rfl (by decide) ?_
    have e9 : spCount A 9 = (0, A 0 243, A) := by
      unfold spCount
      rw [if_neg (by omega), if_neg (by omega), if_neg (by omega), if_neg (by omega), if_neg (by omega), if_neg (by omega), if_neg (by omega), if_neg (by omega), if_neg (by omega), if_pos rfl]
    rw [e9]
    exact ⟨_, rfl, rfl, rfl, rfl, T1, fun _ => rfl, R1, F1⟩
  refine x_tableOut (tgt := 168) (pc := 8) dX12_count_8 (by omega) (by decide) ?_
  refine x_iconst (pc := 168) dX12_count_168 (by decide) ?_
  refine x_ireturn (pc := 169) dX12_count_169 rfl (by decide) ?_
  have e9 : spCount A w = (0, -1, A) := by
    unfold spCount
    rw [if_neg (by omega), if_neg (by omega), if_neg (by omega), if_neg (by omega), if_neg (by omega), if_neg (by omega), if_neg (by omega), if_neg (by omega), if_neg (by omega), if_neg (by omega)]
  rw [e9]
  exact ⟨_, rfl, rfl, rfl, rfl, T1, fun _ => rfl, R1, F1⟩
theorem s_Ccount {l : Launch} {E : aE} {N : Nat} {S : aS} {M : aM} (hfl : l.stackTraces = false) (w : Int) (hC : lyC S) (A : aM) (hR : RC M N S A) (hA : TOK (A 0)) : aMt l E pX11_count [(2, 0), (0, w)] N S M (opC M N S 0 (spCount A w) (fun _ => 0)) := by
  refine a_met hfl rfl (by decide +kernel) (Nat.le_of_ble_eq_true rfl) ?_
  have c0 : M 1 1 = A 0 0 := hR.1.1.1
  have t0 := hA.1
  have t9 := hA.2.2.2.2.2.2.2.2.2.2.2.2.2.2.2.2.2.1
  refine x_aload_n (pc := 0) dX11_count_0 rfl rfl ?_
  refine x_getR (jj := 0) (pc := 1) dX11_count_1 fX11_10 (sC_0 hC) rfl (by decide) rfl rC_0_0 ?_
  refine x_getR (jj := 0) (pc := 4) dX11_count_4 fX11_29 (hC.2.1).2.1 rfl (by decide) rfl rS_0 ?_
  refine x_astore_n (pc := 7) dX11_count_7 rfl (by decide) rfl ?_
  refine x_iload_n (pc := 8) dX11_count_8 rfl rfl ?_
  by_cases w0 : w = 0
  · subst w0
    refine x_tableIn (off := 55) (tgt := 64) (pc := 9) dX11_count_9 (by decide) (by decide) rfl (by decide) ?_
    refine x_aload_n (pc := 64) dX11_count_64 rfl rfl ?_
    refine x_getR (jj := 0) (pc := 65) dX11_count_65 fX11_10 (sC_0 hC) rfl (by decide) rfl rC_0_0 ?_
    refine x_getIV (jj := 1) (pc := 68) dX11_count_68 fX11_355 (hC.2.1).2.1 rfl (by decide) rfl (by (repeat (first | rewrite [up_s] | rewrite [up_i (by omega)] | rewrite [up_a (by omega)])); first | exact hR.1.1.1 | rfl) ?_
    refine x_ireturn (pc := 71) dX11_count_71 rfl (by decide) ?_
    have e9 : spCount A 0 = (0, A 0 0, A) := by
      unfold spCount
      rw [if_pos rfl]
    rw [e9]
    exact ⟨rfl, rfl, fun _ _ _ _ => rfl, hR, Or.inl ⟨rfl, rfl⟩⟩
  by_cases w1 : w = 1
  · subst w1
    refine x_tableIn (off := 63) (tgt := 72) (pc := 9) dX11_count_9 (by decide) (by decide) rfl (by decide) ?_
    refine x_aload_n (pc := 72) dX11_count_72 rfl rfl ?_
    refine x_getIV (jj := 1) (pc := 73) dX11_count_73 fX11_358 (hC.2.1.1).1 rfl (by decide) rfl (by (repeat (first | rewrite [up_s] | rewrite [up_i (by omega)] | rewrite [up_a (by omega)])); first | exact hR.1.2.2.1 | rfl) ?_
    refine x_ireturn (pc := 76) dX11_count_76 rfl (by decide) ?_
    have e9 : spCount A 1 = (0, A 0 220, A) := by
      unfold spCount
      rw [if_neg (by omega), if_pos rfl]
    rw [e9]
    exact ⟨rfl, rfl, fun _ _ _ _ => rfl, hR, Or.inl ⟨rfl, rfl⟩⟩
  by_cases w2 : w = 2
  · subst w2
    refine x_tableIn (off := 68) (tgt := 77) (pc := 9) dX11_count_9 (by decide) (by decide) rfl (by decide) ?_
    refine x_aload_n (pc := 77) dX11_count_77 rfl rfl ?_
    refine x_getIV (jj := 4) (pc := 78) dX11_count_78 fX11_361 (hC.2.1.1).1 rfl (by decide) rfl (by (repeat (first | rewrite [up_s] | rewrite [up_i (by omega)] | rewrite [up_a (by omega)])); first | exact hR.1.2.2.2.2.1 | rfl) ?_
    refine x_ireturn (pc := 81) dX11_count_81 rfl (by decide) ?_
    have e9 : spCount A 2 = (0, A 0 233, A) := by
      unfold spCount
      rw [if_neg (by omega), if_neg (by omega), if_pos rfl]
    rw [e9]
    exact ⟨rfl, rfl, fun _ _ _ _ => rfl, hR, Or.inl ⟨rfl, rfl⟩⟩
  by_cases w3 : w = 3
  · subst w3
    refine x_tableIn (off := 73) (tgt := 82) (pc := 9) dX11_count_9 (by decide) (by decide) rfl (by decide) ?_
    refine x_aload_n (pc := 82) dX11_count_82 rfl rfl ?_
    refine x_getIV (jj := 9) (pc := 83) dX11_count_83 fX11_194 (hC.2.1.1).1 rfl (by decide) rfl (by (repeat (first | rewrite [up_s] | rewrite [up_i (by omega)] | rewrite [up_a (by omega)])); first | exact hR.1.2.2.2.2.2.2.2.2.1 | rfl) ?_
    refine x_ireturn (pc := 86) dX11_count_86 rfl (by decide) ?_
    have e9 : spCount A 3 = (0, A 0 244, A) := by
      unfold spCount
      rw [if_neg (by omega), if_neg (by omega), if_neg (by omega), if_pos rfl]
    rw [e9]
    exact ⟨rfl, rfl, fun _ _ _ _ => rfl, hR, Or.inl ⟨rfl, rfl⟩⟩
  by_cases w4 : w = 4
  · subst w4
    refine x_tableIn (off := 78) (tgt := 87) (pc := 9) dX11_count_9 (by decide) (by decide) rfl (by decide) ?_
    refine x_aload_n (pc := 87) dX11_count_87 rfl rfl ?_
    refine x_getR (jj := 2) (pc := 88) dX11_count_88 fX11_23 (sC_0 hC) rfl (by decide) rfl rC_0_2 ?_
    refine x_getIV (jj := 1) (pc := 91) dX11_count_91 fX11_141 (sC_17 hC) rfl (by decide) rfl (by (repeat (first | rewrite [up_s] | rewrite [up_i (by omega)] | rewrite [up_a (by omega)])); first | exact hR.2.2.1.1 | rfl) ?_
    refine x_ireturn (pc := 94) dX11_count_94 rfl (by decide) ?_
    have e9 : spCount A 4 = (0, A 2 0, A) := by
      unfold spCount
      rw [if_neg (by omega), if_neg (by omega), if_neg (by omega), if_neg (by omega), if_pos rfl]
    rw [e9]
    exact ⟨rfl, rfl, fun _ _ _ _ => rfl, hR, Or.inl ⟨rfl, rfl⟩⟩
  by_cases w5 : w = 5
  · subst w5
    refine x_tableIn (off := 86) (tgt := 95) (pc := 9) dX11_count_9 (by decide) (by decide) rfl (by decide) ?_
    refine x_aload_n (pc := 95) dX11_count_95 rfl rfl ?_
    refine x_getR (jj := 0) (pc := 96) dX11_count_96 fX11_10 (sC_0 hC) rfl (by decide) rfl rC_0_0 ?_
    refine x_callV0 (pc := 99) dX11_count_99 rfl kX11_364 (s_allDoubts hfl 1 hC.2.1 (fun i a b => by rw [hR.1.1.2.2.2.2.2.2.2.1 i a b]; have := hA.2.2.2.2.2.2.2.1 i a b; omega)) (hC.2.1).2.1 rfl rfl (Nat.le_of_ble_eq_true rfl) (k_R ?_) n_R
    refine x_ireturn (pc := 102) dX11_count_102 rfl (by decide) ?_
    have e9 : spCount A 5 = (0, sumN (fun i => A 0 (156 + i)) 7, A) := by
      unfold spCount
      rw [if_neg (by omega), if_neg (by omega), if_neg (by omega), if_neg (by omega), if_neg (by omega), if_pos rfl]
    rw [e9]
    rw [show sumN (M (1 + 12)) 7 = sumN (fun i => A 0 (156 + i)) 7 from sumN_congr fun i a b => hR.1.1.2.2.2.2.2.2.2.1 i a (by omega)]
    exact ⟨rfl, rfl, fun _ _ _ _ => rfl, hR, Or.inl ⟨rfl, rfl⟩⟩
  by_cases w6 : w = 6
  · subst w6
    refine x_tableIn (off := 94) (tgt := 103) (pc := 9) dX11_count_9 (by decide) (by decide) rfl (by decide) ?_
    refine x_aload_n (pc := 103) dX11_count_103 rfl rfl ?_
    refine x_getIV (jj := 12) (pc := 104) dX11_count_104 fX11_368 (hC.2.1.1).1 rfl (by decide) rfl (by (repeat (first | rewrite [up_s] | rewrite [up_i (by omega)] | rewrite [up_a (by omega)])); first | exact hR.1.2.2.2.2.2.2.2.2.2.2.2 | rfl) ?_
    refine x_ireturn (pc := 107) dX11_count_107 rfl (by decide) ?_
    have e9 : spCount A 6 = (0, A 0 252, A) := by
      unfold spCount
      rw [if_neg (by omega), if_neg (by omega), if_neg (by omega), if_neg (by omega), if_neg (by omega), if_neg (by omega), if_pos rfl]
    rw [e9]
    exact ⟨rfl, rfl, fun _ _ _ _ => rfl, hR, Or.inl ⟨rfl, rfl⟩⟩
  by_cases w7 : w = 7
  · subst w7
    refine x_tableIn (off := 99) (tgt := 108) (pc := 9) dX11_count_9 (by decide) (by decide) rfl (by decide) ?_
    refine x_aload_n (pc := 108) dX11_count_108 rfl rfl ?_
    refine x_getIV (jj := 11) (pc := 109) dX11_count_109 fX11_371 (hC.2.1.1).1 rfl (by decide) rfl (by (repeat (first | rewrite [up_s] | rewrite [up_i (by omega)] | rewrite [up_a (by omega)])); first | exact hR.1.2.2.2.2.2.2.2.2.2.2.1 | rfl) ?_
    refine x_ireturn (pc := 112) dX11_count_112 rfl (by decide) ?_
    have e9 : spCount A 7 = (0, A 0 251, A) := by
      unfold spCount
      rw [if_neg (by omega), if_neg (by omega), if_neg (by omega), if_neg (by omega), if_neg (by omega), if_neg (by omega), if_neg (by omega), if_pos rfl]
    rw [e9]
    exact ⟨rfl, rfl, fun _ _ _ _ => rfl, hR, Or.inl ⟨rfl, rfl⟩⟩
  by_cases w8 : w = 8
  · subst w8
    refine x_tableIn (off := 104) (tgt := 113) (pc := 9) dX11_count_9 (by decide) (by decide) rfl (by decide) ?_
    refine x_aload_n (pc := 113) dX11_count_113 rfl rfl ?_
    refine x_getIV (jj := 7) (pc := 114) dX11_count_114 fX11_374 (hC.2.1.1).1 rfl (by decide) rfl (by (repeat (first | rewrite [up_s] | rewrite [up_i (by omega)] | rewrite [up_a (by omega)])); first | exact hR.1.2.2.2.2.2.2.1 | rfl) ?_
    refine x_ireturn (pc := 117) dX11_count_117 rfl (by decide) ?_
    have e9 : spCount A 8 = (0, A 0 242, A) := by
      unfold spCount
      rw [if_neg (by omega), if_neg (by omega), if_neg (by omega), if_neg (by omega), if_neg (by omega), if_neg (by omega), if_neg (by omega), if_neg (by omega), if_pos rfl]
    rw [e9]
    exact ⟨rfl, rfl, fun _ _ _ _ => rfl, hR, Or.inl ⟨rfl, rfl⟩⟩
  by_cases w9 : w = 9
  · subst w9
    refine x_tableIn (off := 109) (tgt := 118) (pc := 9) dX11_count_9 (by decide) (by decide) rfl (by decide) ?_
    refine x_aload_n (pc := 118) dX11_count_118 rfl rfl ?_
    refine x_getIV (jj := 8) (pc := 119) dX11_count_119 fX11_377 (hC.2.1.1).1 rfl (by decide) rfl (by (repeat (first | rewrite [up_s] | rewrite [up_i (by omega)] | rewrite [up_a (by omega)])); first | exact hR.1.2.2.2.2.2.2.2.1 | rfl) ?_
    refine x_ireturn (pc := 122) dX11_count_122 rfl (by decide) ?_
    have e9 : spCount A 9 = (0, A 0 243, A) := by
      unfold spCount
      rw [if_neg (by omega), if_neg (by omega), if_neg (by omega), if_neg (by omega), if_neg (by omega), if_neg (by omega), if_neg (by omega), if_neg (by omega), if_neg (by omega), if_pos rfl]
    rw [e9]
    exact ⟨rfl, rfl, fun _ _ _ _ => rfl, hR, Or.inl ⟨rfl, rfl⟩⟩
  refine x_tableOut (tgt := 123) (pc := 9) dX11_count_9 (by omega) (by decide) ?_
  refine x_iconst (pc := 123) dX11_count_123 (by decide) ?_
  refine x_ireturn (pc := 124) dX11_count_124 rfl (by decide) ?_
  have e9 : spCount A w = (0, -1, A) := by
    unfold spCount
    rw [if_neg (by omega), if_neg (by omega), if_neg (by omega), if_neg (by omega), if_neg (by omega), if_neg (by omega), if_neg (by omega), if_neg (by omega), if_neg (by omega), if_neg (by omega)]
  rw [e9]
  exact ⟨rfl, rfl, fun _ _ _ _ => rfl, hR, Or.inl ⟨rfl, rfl⟩⟩
