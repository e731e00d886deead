/-! take -/
def tkB (A : aM) (t : Int) : Int → Bool := fun i => decide (0 ≤ A 5 (40 * t + i) ∧ A 5 (40 * t + i) ≤ 8)
def tkA (A : aM) (t h k : Int) : aM := fun r j => if r = 0 ∧ 8 + 6 * h ≤ j ∧ j < 8 + 6 * h + k then A 5 (40 * t + (j - (8 + 6 * h))) else A r j
def spTake (A : aM) (t h : Int) : Int × Int × aM := if ¬ (0 ≤ t ∧ t ≤ 3) ∨ ¬ (0 ≤ h ∧ h < A 0 0) then (1, 0, A) else if A 3 t = -1 then (2, 0, A) else if 6 < A 4 t ∨ allB (tkB A t) (A 4 t).toNat = false then (3, 0, A) else (0, A 4 t, tkA A t h (A 4 t))
theorem tkB_iff {A : aM} {t i : Int} : tkB A t i = true ↔ 0 ≤ A 5 (40 * t + i) ∧ A 5 (40 * t + i) ≤ 8 := decide_eq_true_iff
theorem tkA_up {A : aM} {t h k : Int} (hk : 0 ≤ k) : up (tkA A t h k) 0 (8 + 6 * h + k) (A 5 (40 * t + k)) = tkA A t h (k + 1) := by
  funext r j
  unfold tkA up
  by_cases e : r = 0 ∧ j = 8 + 6 * h + k
  · rw [if_pos e, if_pos (by omega)]
    congr 1
    omega
  · rw [if_neg e]
    dsimp only
    by_cases e2 : r = 0 ∧ 8 + 6 * h ≤ j ∧ j < 8 + 6 * h + k
    · rw [if_pos e2, if_pos (by omega)]
    · rw [if_neg e2, if_neg (show ¬ (r = 0 ∧ 8 + 6 * h ≤ j ∧ j < 8 + 6 * h + (k + 1)) by omega)]
theorem tkA_0 {A : aM} {t h : Int} : tkA A t h 0 = A := by
  funext r j
  unfold tkA
  rw [if_neg (by omega)]
/-- words of one house's wants and cellar -/
theorem RC.hs {M M1 A A' : aM} {N : Nat} {S : aS} {h : Int} (hR : RC M N S A) (t9 : 1 ≤ A 0 244 ∧ A 0 244 ≤ 6) (hh : 0 ≤ h ∧ h < 7) (hM : ∀ a, a ≠ 9 → eqR M M1 a) (hA : ∀ r, r ≠ 0 → A' r = A r) (hT : ∀ j, ¬ (8 + 6 * h ≤ j ∧ j < 14 + 6 * h) → A' 0 j = A 0 j) (hH : RHs M1 1 (A' 0)) : RC (up (fgM M1 31 h 128) 82 5 0) N S A' := by
  refine RC.mk0 hR hA (fun j hj => hT j (by omega)) (fun b x y z j => ?_) (fun b x y j => ?_) ?_ ?_ (Or.inl up_s)
  · rw [up_a z, fgM_a y]; exact hM b (by omega) j
  · rw [up_a (by omega), fgM_a (by omega)]; exact hM b (by omega) j
  · exact hH.cg fun b x y j => by rw [up_a (by omega), fgM_a (by omega)]
  · refine RPl.cg (RPl.fg (RPl.cg hR.2.2.2.2.2.2.1 (hM 31 (by omega))) (by omega) hh (v := A' 0) fun j a1 a2 a3 a4 a5 => hT j a5) (fun j => up_a (by omega))
theorem s_Mtake {l : Launch} {E : aE} {N : Nat} {S : aS} {M : aM} (hfl : l.stackTraces = false) (t h : Int) (m : Int) (A : aM) (hS : lyM S m) (hR : RM M m A) (hA : TOK (A 0)) (hB : ∀ i, 0 ≤ i → i < 4 → (-1 ≤ A 3 i ∧ A 3 i ≤ 3) ∧ (0 ≤ A 4 i ∧ A 4 i ≤ 40)) : aMt l E pX12_take [(2, m), (0, t), (0, h)] N S M (aG N S (opM M m 0 (spTake A t h))) := by
  refine a_met hfl rfl (by decide +kernel) (Nat.le_of_ble_eq_true rfl) ?_
  refine x_aload_n (pc := 0) dX12_take_0 rfl rfl ?_
  refine x_iconst (pc := 1) dX12_take_1 (by decide) ?_
  refine x_putI (jj := 3) (pc := 2) dX12_take_2 fX12_103 hS.1 rfl (by decide) rfl ?_
  refine x_memI (fun M1 hM1 => ?_)
  have R1 : RM M1 m A := by rw [hM1]; exact hR.up3
  have F1 : frM M M1 m := by rw [hM1]; exact frM.rf.up (by omega)
  have T1 : M1 m 3 = 0 := by rw [hM1]; exact up_s
  clear hM1
  have e0 : M1 (m + 1) 0 = A 0 0 := R1.1.1 0 (by omega) (by omega)
  have t0 := hA.1
  refine x_iload_n (pc := 5) dX12_take_5 rfl rfl ?_
  refine x_callS1 (pc := 6) dX12_take_6 rfl kX12_405 (s_isTray hfl t) rfl (Nat.le_of_ble_eq_true rfl) (k_B (fun q_6 => ?_) (fun q_6 => ?_)) n_B
  · refine x_if_eq (tgt := 20) (pc := 9) dX12_take_9 (by decide) (fun c => absurd c (by decide)) (fun _ => ?_)
    refine x_aload_n (pc := 12) dX12_take_12 rfl rfl ?_
    refine x_iload_n (pc := 13) dX12_take_13 rfl rfl ?_
    refine x_callV1 (pc := 14) dX12_take_14 rfl kX12_123 (s_isHouse hfl m _ hS (by omega)) hS.1 rfl rfl (Nat.le_of_ble_eq_true rfl) (k_B (fun q_14 => ?_) (fun q_14 => ?_)) n_B
    · refine x_if_ne (tgt := 26) (pc := 17) dX12_take_17 (by decide) (fun _ => ?_) (fun c => absurd c (by decide))
      have hBt := hB t (by omega) (by omega)
      refine x_aload_n (pc := 26) dX12_take_26 rfl rfl ?_
      refine x_getR (jj := 49) (pc := 27) dX12_take_27 fX12_94 hS.1 rfl (by decide) rfl rM_49 ?_
      refine x_iload_n (pc := 30) dX12_take_30 rfl rfl ?_
      refine x_ialoadV (pc := 31) dX12_take_31 (sM_49 hS) (by omega) (by (repeat (first | rewrite [up_s] | rewrite [up_i (by omega)] | rewrite [up_a (by omega)] | rewrite [stM_a (by omega) (by omega)])); first | exact (R1.1.2.2.2.2.1 _ (by omega) (by omega)).1 | exact (R1.1.2.2.2.2.1 _ (by omega) (by omega)).2 | exact R1.1.2.2.2.2.2.1 _ (by omega) (by omega) | exact R1.1.1 _ (by omega) (by omega) | rfl) (fun g_31 => ?_)
      refine x_iconst (pc := 32) dX12_take_32 (by decide) ?_
      refine x_icmp_ne (tgt := 42) (pc := 33) dX12_take_33 (by decide) (fun c_33 => ?_) (fun c_33 => ?_)
      · refine x_aload_n (pc := 42) dX12_take_42 rfl rfl ?_
        refine x_getR (jj := 50) (pc := 43) dX12_take_43 fX12_97 hS.1 rfl (by decide) rfl rM_50 ?_
        refine x_iload_n (pc := 46) dX12_take_46 rfl rfl ?_
        refine x_ialoadV (pc := 47) dX12_take_47 (sM_50 hS) (by omega) (by (repeat (first | rewrite [up_s] | rewrite [up_i (by omega)] | rewrite [up_a (by omega)] | rewrite [stM_a (by omega) (by omega)])); first | exact (R1.1.2.2.2.2.1 _ (by omega) (by omega)).1 | exact (R1.1.2.2.2.2.1 _ (by omega) (by omega)).2 | exact R1.1.2.2.2.2.2.1 _ (by omega) (by omega) | exact R1.1.1 _ (by omega) (by omega) | rfl) (fun g_47 => ?_)
        refine x_bipush (pc := 48) dX12_take_48 (by decide) ?_
        refine x_icmp_le (tgt := 59) (pc := 50) dX12_take_50 (by decide) (fun c_50 => ?_) (fun c_50 => ?_)
        · refine x_iconst (pc := 59) dX12_take_59 (by decide) ?_
          refine x_istore_n (pc := 60) dX12_take_60 rfl (by decide) rfl ?_
          have loop1 := a_loop1 (fun i => 0 ≤ i ∧ i ≤ A 4 t ∧ ∀ j, 0 ≤ j → j < i → 0 ≤ A 5 (40 * t + j) ∧ A 5 (40 * t + j) ≤ 8) (fun i => (A 4 t - i).toNat) (fun i => aX l E pX12_take (aG N S (opM M m 0 (spTake A t h))) 0 0 N S M1 61 [(0, (2, m)), (1, (0, t)), (2, (0, h)), (3, (0, i))] []) (by
            intro i hI ih
            have i0 := hI.1
            have i1 := hI.2.1
            refine x_iload_n (pc := 61) dX12_take_61 rfl rfl ?_
            refine x_aload_n (pc := 62) dX12_take_62 rfl rfl ?_
            refine x_getR (jj := 50) (pc := 63) dX12_take_63 fX12_97 hS.1 rfl (by decide) rfl rM_50 ?_
            refine x_iload_n (pc := 66) dX12_take_66 rfl rfl ?_
            refine x_ialoadV (pc := 67) dX12_take_67 (sM_50 hS) (by omega) (by (repeat (first | rewrite [up_s] | rewrite [up_i (by omega)] | rewrite [up_a (by omega)] | rewrite [stM_a (by omega) (by omega)])); first | exact (R1.1.2.2.2.2.1 _ (by omega) (by omega)).1 | exact (R1.1.2.2.2.2.1 _ (by omega) (by omega)).2 | exact R1.1.2.2.2.2.2.1 _ (by omega) (by omega) | exact R1.1.1 _ (by omega) (by omega) | rfl) (fun g_67 => ?_)
            refine x_icmp_ge (tgt := 104) (pc := 68) dX12_take_68 (by decide) (fun c_68 => ?_) (fun c_68 => ?_)
            · refine x_iconst (pc := 104) dX12_take_104 (by decide) ?_
              refine x_istore_n (pc := 105) dX12_take_105 rfl (by decide) rfl ?_
              have hall : allB (tkB A t) (A 4 t).toNat = true := allB_iff.mpr fun j a b => tkB_iff.mpr (hI.2.2 j a (by omega))
              have loop2 := a_loop2 (fun i M2 => 0 ≤ i ∧ i ≤ A 4 t ∧ M2 m 3 = 0 ∧ frM M M2 m ∧ z78 M2 m ∧ RMs M2 m (tkA A t h i)) (fun i _ => (A 4 t - i).toNat) (fun i M2 => aX l E pX12_take (aG N S (opM M m 0 (spTake A t h))) 0 0 N S M2 106 [(0, (2, m)), (1, (0, t)), (2, (0, h)), (3, (0, i))] []) (by
                intro i M2 hI ih
                have i0 := hI.1
                have i1 := hI.2.1
                have R2 := hI.2.2.2.2.2
                have s4 : M2 (m + 28) t = A 4 t := (R2.2.2.2.2.1 t (by omega) (by omega)).2.trans (by unfold tkA; rw [if_neg (by omega)])
                have s5 : ∀ j, 0 ≤ j → j < 160 → M2 (m + 29) j = A 5 j := fun j a b => (R2.2.2.2.2.2.1 j a b).trans (by unfold tkA; rw [if_neg (by omega)])
                refine x_iload_n (pc := 106) dX12_take_106 rfl rfl ?_
                refine x_aload_n (pc := 107) dX12_take_107 rfl rfl ?_
                refine x_getR (jj := 50) (pc := 108) dX12_take_108 fX12_97 hS.1 rfl (by decide) rfl rM_50 ?_
                refine x_iload_n (pc := 111) dX12_take_111 rfl rfl ?_
                refine x_ialoadV (pc := 112) dX12_take_112 (sM_50 hS) (by omega) (by (repeat (first | rewrite [up_s] | rewrite [up_i (by omega)] | rewrite [up_a (by omega)] | rewrite [stM_a (by omega) (by omega)])); first | exact s4 | exact s5 _ (by omega) (by omega) | rfl) (fun g_112 => ?_)
                refine x_icmp_ge (tgt := 148) (pc := 113) dX12_take_113 (by decide) (fun c_113 => ?_) (fun c_113 => ?_)
                · refine x_aload_n (pc := 148) dX12_take_148 rfl rfl ?_
                  refine x_callV0 (pc := 149) dX12_take_149 rfl kX12_120 (s_stale hfl m hS) hS.1 rfl rfl (Nat.le_of_ble_eq_true rfl) (k_U (fun M9 hM9 => ?_)) n_U
                  subst hM9
                  refine x_aload_n (pc := 152) dX12_take_152 rfl rfl ?_
                  refine x_getR (jj := 50) (pc := 153) dX12_take_153 fX12_97 hS.1 rfl (by decide) rfl rM_50 ?_
                  refine x_iload_n (pc := 156) dX12_take_156 rfl rfl ?_
                  refine x_ialoadV (pc := 157) dX12_take_157 (sM_50 hS) (by omega) (by (repeat (first | rewrite [up_s] | rewrite [up_i (by omega)] | rewrite [up_a (by omega)] | rewrite [stM_a (by omega) (by omega)])); first | exact s4 | exact s5 _ (by omega) (by omega) | rfl) (fun g_157 => ?_)
                  refine x_ireturn (pc := 158) dX12_take_158 rfl (by decide) ?_
                  have hi9 : i = A 4 t := by omega
                  have e9 : spTake A t h = (0, A 4 t, tkA A t h (A 4 t)) := by
                    unfold spTake
                    rw [if_neg (by omega), if_neg (by assumption), if_neg (fun z => z.elim (fun z => by omega) fun z => absurd (hall.symm.trans z) (by decide))]
                  rw [e9]
                  rw [hi9] at R2
                  exact ⟨_, rfl, rfl, rfl, rfl, by rw [stM_a (by omega) (by omega)]; exact hI.2.2.1, fun _ => rfl, RM.stale R2 hI.2.2.2.2.1, hI.2.2.2.1.st⟩
                · refine x_aload_n (pc := 116) dX12_take_116 rfl rfl ?_
                  refine x_getR (jj := 0) (pc := 117) dX12_take_117 fX12_9 hS.1 rfl (by decide) rfl rM_0 ?_
                  refine x_bipush (pc := 120) dX12_take_120 (by decide) ?_
                  refine x_bipush (pc := 122) dX12_take_122 (by decide) ?_
                  refine x_iload_n (pc := 124) dX12_take_124 rfl rfl ?_
                  refine x_imul (pc := 125) dX12_take_125 (by omega) ?_
                  refine x_iadd (pc := 126) dX12_take_126 (by omega) ?_
                  refine x_iload_n (pc := 127) dX12_take_127 rfl rfl ?_
                  refine x_iadd (pc := 128) dX12_take_128 (by omega) ?_
                  refine x_aload_n (pc := 129) dX12_take_129 rfl rfl ?_
                  refine x_getR (jj := 51) (pc := 130) dX12_take_130 fX12_100 hS.1 rfl (by decide) rfl rM_51 ?_
                  refine x_bipush (pc := 133) dX12_take_133 (by decide) ?_
                  refine x_iload_n (pc := 135) dX12_take_135 rfl rfl ?_
                  refine x_imul (pc := 136) dX12_take_136 (by omega) ?_
                  refine x_iload_n (pc := 137) dX12_take_137 rfl rfl ?_
                  refine x_iadd (pc := 138) dX12_take_138 (by omega) ?_
                  refine x_laloadV (pc := 139) dX12_take_139 (sM_51 hS) (by omega) (by (repeat (first | rewrite [up_s] | rewrite [up_i (by omega)] | rewrite [up_a (by omega)] | rewrite [stM_a (by omega) (by omega)])); first | exact s4 | exact s5 _ (by omega) (by omega) | rfl) (fun g_139 => ?_)
                  refine x_l2i (pc := 140) dX12_take_140 ?_
                  refine x_iastore (pc := 141) dX12_take_141 (sM_0 hS) (by omega) ?_
                  refine x_iinc (pc := 142) dX12_take_142 rfl (by omega) (by decide) rfl ?_
                  refine x_goto (tgt := 106) (pc := 145) dX12_take_145 (by decide) ?_
                  refine x_lo (lo' := [(0, (2, m)), (1, (0, t)), (2, (0, h)), (3, (0, i + 1))]) ⟨rfl, rfl, rfl, rfl, trivial⟩ (ih (i + 1) _ ⟨by omega, by omega, by rw [up_a (by omega)]; exact hI.2.2.1, hI.2.2.2.1.up (by omega), hI.2.2.2.2.1.up (by omega), ?_⟩ (by omega))
                  have z := R2.told (i := 8 + 6 * h + i) (v := A 5 (40 * t + i))
                  rw [tkA_up (by omega)] at z
                  rw [b_l2i_id (by have := tkB_iff.mp (allB_iff.mp hall i (by omega) (by omega)); omega)]
                  exact z)
              exact x_lo (lo' := [(0, (2, m)), (1, (0, t)), (2, (0, h)), (3, (0, 0))]) ⟨rfl, rfl, rfl, rfl, trivial⟩ (loop2 0 M1 ⟨by omega, by omega, T1, F1, R1.z, by rw [tkA_0]; exact R1.1⟩)
            · refine x_aload_n (pc := 71) dX12_take_71 rfl rfl ?_
              refine x_getR (jj := 51) (pc := 72) dX12_take_72 fX12_100 hS.1 rfl (by decide) rfl rM_51 ?_
              refine x_bipush (pc := 75) dX12_take_75 (by decide) ?_
              refine x_iload_n (pc := 77) dX12_take_77 rfl rfl ?_
              refine x_imul (pc := 78) dX12_take_78 (by omega) ?_
              refine x_iload_n (pc := 79) dX12_take_79 rfl rfl ?_
              refine x_iadd (pc := 80) dX12_take_80 (by omega) ?_
              refine x_laloadV (pc := 81) dX12_take_81 (sM_51 hS) (by omega) (by (repeat (first | rewrite [up_s] | rewrite [up_i (by omega)] | rewrite [up_a (by omega)] | rewrite [stM_a (by omega) (by omega)])); first | exact (R1.1.2.2.2.2.1 _ (by omega) (by omega)).1 | exact (R1.1.2.2.2.2.1 _ (by omega) (by omega)).2 | exact R1.1.2.2.2.2.2.1 _ (by omega) (by omega) | exact R1.1.1 _ (by omega) (by omega) | rfl) (fun g_81 => ?_)
              refine x_lconst0 (pc := 82) dX12_take_82 ?_
              refine x_ldc2 (n := 8) (pc := 83) cX12_114 (by decide) dX12_take_83 ?_
              refine x_callS3 (pc := 86) dX12_take_86 rfl kX12_106 (s_within hfl _ _ _) rfl (Nat.le_of_ble_eq_true rfl) (k_B (fun q_86 => ?_) (fun q_86 => ?_)) n_B
              · refine x_if_ne (tgt := 98) (pc := 89) dX12_take_89 (by decide) (fun _ => ?_) (fun c => absurd c (by decide))
                refine x_iinc (pc := 98) dX12_take_98 rfl (by omega) (by decide) rfl ?_
                refine x_goto (tgt := 61) (pc := 101) dX12_take_101 (by decide) ?_
                refine x_lo (lo' := [(0, (2, m)), (1, (0, t)), (2, (0, h)), (3, (0, i + 1))]) ⟨rfl, rfl, rfl, rfl, trivial⟩ (ih (i + 1) ⟨by omega, by omega, fun j a b => ?_⟩ (by omega))
                by_cases e : j = i
                · subst e; exact q_86
                · exact hI.2.2 j a (by omega)
              · refine x_if_ne (tgt := 98) (pc := 89) dX12_take_89 (by decide) (fun c => absurd c (by decide)) (fun _ => ?_)
                refine x_aload_n (pc := 92) dX12_take_92 rfl rfl ?_
                refine x_iconst (pc := 93) dX12_take_93 (by decide) ?_
                refine x_callV1 (pc := 94) dX12_take_94 rfl kX12_116 (s_fails hfl m _ hS) hS.1 rfl rfl (Nat.le_of_ble_eq_true rfl) (k_G (fun v9 M9 hM9 => ?_)) n_G
                obtain ⟨rfl, rfl⟩ := hM9
                refine x_ireturn (pc := 97) dX12_take_97 rfl (by decide) ?_
                have e9 : spTake A t h = (3, 0, A) := by
                  unfold spTake
                  rw [if_neg (by omega), if_neg (by assumption), if_pos (Or.inr (Bool.eq_false_iff.mpr fun z => q_86 (tkB_iff.mp (allB_iff.mp z i (by omega) (by omega)))))]
                rw [e9]
                exact ⟨_, rfl, rfl, rfl, rfl, up_s, fun q => absurd q (show ¬ (3 : Int) = 0 by decide), R1.up3, F1.up (by omega)⟩)
          exact x_lo (lo' := [(0, (2, m)), (1, (0, t)), (2, (0, h)), (3, (0, 0))]) ⟨rfl, rfl, rfl, rfl, trivial⟩ (loop1 0 ⟨by omega, by omega, fun j a b => by omega⟩)
        · refine x_aload_n (pc := 53) dX12_take_53 rfl rfl ?_
          refine x_iconst (pc := 54) dX12_take_54 (by decide) ?_
          refine x_callV1 (pc := 55) dX12_take_55 rfl kX12_116 (s_fails hfl m _ hS) hS.1 rfl rfl (Nat.le_of_ble_eq_true rfl) (k_G (fun v9 M9 hM9 => ?_)) n_G
          obtain ⟨rfl, rfl⟩ := hM9
          refine x_ireturn (pc := 58) dX12_take_58 rfl (by decide) ?_
          have e9 : spTake A t h = (3, 0, A) := by
            unfold spTake
            rw [if_neg (by omega), if_neg (by assumption), if_pos (Or.inl (by omega))]
          rw [e9]
          exact ⟨_, rfl, rfl, rfl, rfl, up_s, fun q => absurd q (show ¬ (3 : Int) = 0 by decide), R1.up3, F1.up (by omega)⟩
      · refine x_aload_n (pc := 36) dX12_take_36 rfl rfl ?_
        refine x_iconst (pc := 37) dX12_take_37 (by decide) ?_
        refine x_callV1 (pc := 38) dX12_take_38 rfl kX12_116 (s_fails hfl m _ hS) hS.1 rfl rfl (Nat.le_of_ble_eq_true rfl) (k_G (fun v9 M9 hM9 => ?_)) n_G
        obtain ⟨rfl, rfl⟩ := hM9
        refine x_ireturn (pc := 41) dX12_take_41 rfl (by decide) ?_
        have e9 : spTake A t h = (2, 0, A) := by
          unfold spTake
          rw [if_neg (by omega), if_pos (by assumption)]
        rw [e9]
        exact ⟨_, rfl, rfl, rfl, rfl, up_s, fun q => absurd q (show ¬ (2 : Int) = 0 by decide), R1.up3, F1.up (by omega)⟩
    · refine x_if_ne (tgt := 26) (pc := 17) dX12_take_17 (by decide) (fun c => absurd c (by decide)) (fun _ => ?_)
      refine x_aload_n (pc := 20) dX12_take_20 rfl rfl ?_
      refine x_iconst (pc := 21) dX12_take_21 (by decide) ?_
      refine x_callV1 (pc := 22) dX12_take_22 rfl kX12_116 (s_fails hfl m _ hS) hS.1 rfl rfl (Nat.le_of_ble_eq_true rfl) (k_G (fun v9 M9 hM9 => ?_)) n_G
      obtain ⟨rfl, rfl⟩ := hM9
      refine x_ireturn (pc := 25) dX12_take_25 rfl (by decide) ?_
      have e9 : spTake A t h = (1, 0, A) := by
        unfold spTake
        rw [if_pos (by omega)]
      rw [e9]
      exact ⟨_, rfl, rfl, rfl, rfl, up_s, fun q => absurd q (show ¬ (1 : Int) = 0 by decide), R1.up3, F1.up (by omega)⟩
  · refine x_if_eq (tgt := 20) (pc := 9) dX12_take_9 (by decide) (fun _ => ?_) (fun c => absurd c (by decide))
    refine x_aload_n (pc := 20) dX12_take_20 rfl rfl ?_
    refine x_iconst (pc := 21) dX12_take_21 (by decide) ?_
    refine x_callV1 (pc := 22) dX12_take_22 rfl kX12_116 (s_fails hfl m _ hS) hS.1 rfl rfl (Nat.le_of_ble_eq_true rfl) (k_G (fun v9 M9 hM9 => ?_)) n_G
    obtain ⟨rfl, rfl⟩ := hM9
    refine x_ireturn (pc := 25) dX12_take_25 rfl (by decide) ?_
    have e9 : spTake A t h = (1, 0, A) := by
      unfold spTake
      rw [if_pos (by omega)]
    rw [e9]
    exact ⟨_, rfl, rfl, rfl, rfl, up_s, fun q => absurd q (show ¬ (1 : Int) = 0 by decide), R1.up3, F1.up (by omega)⟩
theorem s_Ctake {l : Launch} {E : aE} {N : Nat} {S : aS} {M : aM} (hfl : l.stackTraces = false) (t h : Int) (hC : lyC S) (A : aM) (hR : RC M N S A) (hA : TOK (A 0)) (hB : ∀ i, 0 ≤ i → i < 4 → (-1 ≤ A 3 i ∧ A 3 i ≤ 3) ∧ (0 ≤ A 4 i ∧ A 4 i ≤ 40)) : aMt l E pX11_take [(2, 0), (0, t), (0, h)] N S M (opC M N S 0 (spTake A t h) (fun k => if k = 1 then 2 else if k = 2 then 1 else 0)) := by
  refine a_met hfl rfl (by decide +kernel) (Nat.le_of_ble_eq_true rfl) ?_
  have c0 : M 1 1 = A 0 0 := hR.1.1.1
  have t0 := hA.1
  have t9 := hA.2.2.2.2.2.2.2.2.2.2.2.2.2.2.2.2.2.1
  refine x_aload_n (pc := 0) dX11_take_0 rfl rfl ?_
  refine x_iload_n (pc := 1) dX11_take_1 rfl rfl ?_
  refine x_callV1 (pc := 2) dX11_take_2 rfl kX11_273 (s_needTray hfl _) (sC_0 hC) rfl rfl (Nat.le_of_ble_eq_true rfl) (k_N (fun h_2 => ?_)) (n_N (fun h_2 => (by have e9 : spTake A t h = (1, 0, A) := (by unfold spTake; rw [if_pos (Or.inl h_2)]); rw [e9]; exact ⟨rfl, rfl, fun _ _ _ _ => rfl, hR, Or.inr ⟨show ¬ (1 : Int) = 0 by decide, rfl⟩⟩)))
  refine x_aload_n (pc := 5) dX11_take_5 rfl rfl ?_
  refine x_iload_n (pc := 6) dX11_take_6 rfl rfl ?_
  refine x_callV1 (pc := 7) dX11_take_7 rfl kX11_101 (s_needHouse hfl _ hC) (sC_0 hC) rfl rfl (Nat.le_of_ble_eq_true rfl) (k_N (fun h_7 => ?_)) (n_N (fun h_7 => (by have e9 : spTake A t h = (1, 0, A) := (by unfold spTake; rw [if_pos (Or.inr (by omega))]); rw [e9]; exact ⟨rfl, rfl, fun _ _ _ _ => rfl, hR, Or.inr ⟨show ¬ (1 : Int) = 0 by decide, rfl⟩⟩)))
  refine x_aload_n (pc := 10) dX11_take_10 rfl rfl ?_
  refine x_iload_n (pc := 11) dX11_take_11 rfl rfl ?_
  have hBt := hB t (by omega) (by omega)
  have g7 := hR.2.2.2.1.1 t (by omega) (by omega)
  have g105 := g7.1
  refine x_callV1 (pc := 12) dX11_take_12 rfl kX11_329 (s_needLaid hfl t hC (by omega)) (sC_0 hC) rfl rfl (Nat.le_of_ble_eq_true rfl) (k_N (fun h_12 => ?_)) (n_N (fun h_12 => (by split at g105 <;> first | exact absurd (show M 105 t ≠ -1 by omega) h_12 | (have e9 : spTake A t h = (2, 0, A) := (by unfold spTake; rw [if_neg (by omega), if_pos (by assumption)]); rw [e9]; exact ⟨rfl, rfl, fun _ _ _ _ => rfl, hR, Or.inr ⟨show ¬ (2 : Int) = 0 by decide, rfl⟩⟩))))
  have hl3 : A 3 t ≠ -1 := fun q => by rw [if_pos q] at g105; exact h_12 g105
  rw [if_neg hl3] at g105
  have g106 := g7.2 hl3
  refine x_aload_n (pc := 15) dX11_take_15 rfl rfl ?_
  refine x_getR (jj := 9) (pc := 16) dX11_take_16 fX11_86 (sC_0 hC) rfl (by decide) rfl rC_0_9 ?_
  refine x_getR (jj := 0) (pc := 19) dX11_take_19 fX11_332 (sC_104 hC) rfl (by decide) rfl rC_104_0 ?_
  refine x_iload_n (pc := 22) dX11_take_22 rfl rfl ?_
  refine x_ialoadV (pc := 23) dX11_take_23 (sC_105 hC) (by omega) (by (repeat (first | rewrite [up_s] | rewrite [up_i (by omega)] | rewrite [up_a (by omega)])); first | exact g105 | rfl) (fun g_23 => ?_)
  refine x_istore_n (pc := 24) dX11_take_24 rfl (by decide) rfl ?_
  refine x_aload_n (pc := 25) dX11_take_25 rfl rfl ?_
  refine x_iload_n (pc := 26) dX11_take_26 rfl rfl ?_
  refine x_iconst (pc := 27) dX11_take_27 (by decide) ?_
  refine x_bipush (pc := 28) dX11_take_28 (by decide) ?_
  refine x_callV3 (pc := 30) dX11_take_30 rfl kX11_175 (s_needWithin hfl _ _ _) (sC_0 hC) rfl rfl (Nat.le_of_ble_eq_true rfl) (k_N (fun h_30 => ?_)) (n_N (fun h_30 => (by have e9 : spTake A t h = (3, 0, A) := (by unfold spTake; rw [if_neg (by omega), if_neg hl3, if_pos (Or.inl (by omega))]); rw [e9]; exact ⟨rfl, rfl, fun _ _ _ _ => rfl, hR, Or.inr ⟨show ¬ (3 : Int) = 0 by decide, rfl⟩⟩)))
  refine x_iconst (pc := 33) dX11_take_33 (by decide) ?_
  refine x_istore (pc := 34) dX11_take_34 (by decide) rfl ?_
  have loop1 := a_loop1 (fun i => 0 ≤ i ∧ i ≤ A 4 t ∧ ∀ j, 0 ≤ j → j < i → 0 ≤ A 5 (40 * t + j) ∧ A 5 (40 * t + j) ≤ 8) (fun i => (A 4 t - i).toNat) (fun i => aX l E pX11_take (opC M N S 0 (spTake A t h) (fun k => if k = 1 then 2 else if k = 2 then 1 else 0)) (0 + pX11_needTray.2.2.2.2.1.cells + pX11_needHouse.2.2.2.2.1.cells + pX11_needLaid.2.2.2.2.1.cells + pX11_needWithin.2.2.2.2.1.cells) (0 + pX11_needTray.2.2.2.2.1.slots + pX11_needHouse.2.2.2.2.1.slots + pX11_needLaid.2.2.2.2.1.slots + pX11_needWithin.2.2.2.2.1.slots) N S M 36 [(0, (2, 0)), (1, (0, t)), (2, (0, h)), (3, (0, A 4 t)), (4, (0, i))] []) (by
    intro i hI ih
    have i0 := hI.1
    have i1 := hI.2.1
    have e5 : i < A 4 t → M 107 (t * 40 + i) = A 5 (40 * t + i) := fun q => by
      rw [hR.2.2.2.1.2 _ (by omega) (by omega), show t * 40 + i = 40 * t + i by omega]
    refine x_iload (pc := 36) dX11_take_36 rfl ?_
    refine x_iload_n (pc := 38) dX11_take_38 rfl rfl ?_
    refine x_icmp_ge (tgt := 84) (pc := 39) dX11_take_39 (by decide) (fun c_39 => ?_) (fun c_39 => ?_)
    · refine x_iconst (pc := 84) dX11_take_84 (by decide) ?_
      refine x_istore (pc := 85) dX11_take_85 (by decide) rfl ?_
      have hall : allB (tkB A t) (A 4 t).toNat = true := allB_iff.mpr fun j a b => tkB_iff.mpr (hI.2.2 j a (by omega))
      have loop2 := a_loop2 (fun i M2 => 0 ≤ i ∧ i ≤ A 4 t ∧ (∀ a, a ≠ 9 → eqR M M2 a) ∧ RHs M2 1 (tkA A t h i 0)) (fun i _ => (A 4 t - i).toNat) (fun i M2 => aX l E pX11_take (opC M N S 0 (spTake A t h) (fun k => if k = 1 then 2 else if k = 2 then 1 else 0)) (0 + pX11_needTray.2.2.2.2.1.cells + pX11_needHouse.2.2.2.2.1.cells + pX11_needLaid.2.2.2.2.1.cells + pX11_needWithin.2.2.2.2.1.cells) (0 + pX11_needTray.2.2.2.2.1.slots + pX11_needHouse.2.2.2.2.1.slots + pX11_needLaid.2.2.2.2.1.slots + pX11_needWithin.2.2.2.2.1.slots) N S M2 87 [(0, (2, 0)), (1, (0, t)), (2, (0, h)), (3, (0, A 4 t)), (4, (0, i))] []) (by
        intro i M2 hI ih
        have i0 := hI.1
        have i1 := hI.2.1
        have e5 : i < A 4 t → M2 107 (t * 40 + i) = A 5 (40 * t + i) := fun q => by
          rw [hI.2.2.1 107 (by omega), hR.2.2.2.1.2 _ (by omega) (by omega), show t * 40 + i = 40 * t + i by omega]
        refine x_iload (pc := 87) dX11_take_87 rfl ?_
        refine x_iload_n (pc := 89) dX11_take_89 rfl rfl ?_
        refine x_icmp_ge (tgt := 125) (pc := 90) dX11_take_90 (by decide) (fun c_90 => ?_) (fun c_90 => ?_)
        · refine x_aload_n (pc := 125) dX11_take_125 rfl rfl ?_
          refine x_iload_n (pc := 126) dX11_take_126 rfl rfl ?_
          refine x_callV1 (pc := 127) dX11_take_127 rfl kX11_98 (s_forgetHouse hfl _ hC) (sC_0 hC) rfl rfl (Nat.le_of_ble_eq_true rfl) (k_U (fun M9 hM9 => ?_)) n_U
          subst hM9
          refine x_iload_n (pc := 130) dX11_take_130 rfl rfl ?_
          refine x_ireturn (pc := 131) dX11_take_131 rfl (by decide) ?_
          have hi9 : i = A 4 t := by omega
          have e9 : spTake A t h = (0, A 4 t, tkA A t h (A 4 t)) := by
            unfold spTake
            rw [if_neg (by omega), if_neg (by assumption), if_neg (fun z => z.elim (fun z => by omega) fun z => absurd (hall.symm.trans z) (by decide))]
          rw [e9]
          rw [hi9] at hI
          exact ⟨rfl, rfl, fun a j x y => by rw [up_a (by omega), fgM_a (by omega)]; exact hI.2.2.1 a (by omega) j, RC.hs hR t9 (by omega) hI.2.2.1 (fun r hr => funext fun j => by dsimp only; unfold tkA; rw [if_neg (by omega)]) (fun j hj => by dsimp only; unfold tkA; rw [if_neg (by omega)]) hI.2.2.2, Or.inl ⟨rfl, rfl⟩⟩
        · refine x_aload_n (pc := 93) dX11_take_93 rfl rfl ?_
          refine x_getR (jj := 0) (pc := 94) dX11_take_94 fX11_10 (sC_0 hC) rfl (by decide) rfl rC_0_0 ?_
          refine x_getR (jj := 3) (pc := 97) dX11_take_97 fX11_108 (hC.2.1).2.1 rfl (by decide) rfl rS_3 ?_
          refine x_iload_n (pc := 100) dX11_take_100 rfl rfl ?_
          refine x_bipush (pc := 101) dX11_take_101 (by decide) ?_
          refine x_imul (pc := 103) dX11_take_103 (by omega) ?_
          refine x_iload (pc := 104) dX11_take_104 rfl ?_
          refine x_iadd (pc := 106) dX11_take_106 (by omega) ?_
          refine x_aload_n (pc := 107) dX11_take_107 rfl rfl ?_
          refine x_getR (jj := 9) (pc := 108) dX11_take_108 fX11_86 (sC_0 hC) rfl (by decide) rfl rC_0_9 ?_
          refine x_iload_n (pc := 111) dX11_take_111 rfl rfl ?_
          refine x_iload (pc := 112) dX11_take_112 rfl ?_
          refine x_callV2 (pc := 114) dX11_take_114 rfl kX11_342 (s_at hfl t i hC (by omega) (by omega)) (sC_104 hC) rfl rfl (Nat.le_of_ble_eq_true rfl) (k_R ?_) n_R
          refine x_l2i (pc := 117) dX11_take_117 ?_
          refine x_iastore (pc := 118) dX11_take_118 (hC.2.1).2.2.2.1 (by omega) ?_
          refine x_iinc (pc := 119) dX11_take_119 rfl (by omega) (by decide) rfl ?_
          refine x_goto (tgt := 87) (pc := 122) dX11_take_122 (by decide) ?_
          refine x_lo (lo' := [(0, (2, 0)), (1, (0, t)), (2, (0, h)), (3, (0, A 4 t)), (4, (0, i + 1))]) ⟨rfl, rfl, rfl, rfl, rfl, trivial⟩ (ih (i + 1) _ ⟨by omega, by omega, fun a x j => by rw [up_a (show a ≠ 1 + 8 from fun z => x (by omega))]; exact hI.2.2.1 a x j, ?_⟩ (by omega))
          have z := hI.2.2.2.u8 (i := 6 * h + i) (v := A 5 (40 * t + i)) (by omega)
          rw [b_l2i_id (by rw [e5 (by omega)]; have := tkB_iff.mp (allB_iff.mp hall i (by omega) (by omega)); omega), e5 (by omega), ← tkA_up hI.1, up_0]
          rw [show 8 + 6 * h + i = 8 + (6 * h + i) by omega, show h * 6 + i = 6 * h + i by omega]
          exact z)
      exact x_lo (lo' := [(0, (2, 0)), (1, (0, t)), (2, (0, h)), (3, (0, A 4 t)), (4, (0, 0))]) ⟨rfl, rfl, rfl, rfl, rfl, trivial⟩ (loop2 0 M ⟨by omega, by omega, fun a x j => rfl, by rw [tkA_0]; exact hR.1.1⟩)
    · refine x_aload_n (pc := 42) dX11_take_42 rfl rfl ?_
      refine x_getR (jj := 9) (pc := 43) dX11_take_43 fX11_86 (sC_0 hC) rfl (by decide) rfl rC_0_9 ?_
      refine x_iload_n (pc := 46) dX11_take_46 rfl rfl ?_
      refine x_iload (pc := 47) dX11_take_47 rfl ?_
      refine x_callV2 (pc := 49) dX11_take_49 rfl kX11_342 (s_at hfl t i hC (by omega) (by omega)) (sC_104 hC) rfl rfl (Nat.le_of_ble_eq_true rfl) (k_R ?_) n_R
      refine x_lstore (pc := 52) dX11_take_52 (by decide) rfl ?_
      refine x_lload (pc := 54) dX11_take_54 rfl ?_
      refine x_lconst0 (pc := 56) dX11_take_56 ?_
      refine x_llt (tgt := 70) (pc := 57) dX11_take_57 dX11_take_58 (by decide) (fun c_57 => ?_) (fun c_57 => ?_)
      · refine x_throw (pc := 70) thX11_148_150 rfl trivial dX11_take_70 dX11_take_73 dX11_take_74 dX11_take_77 (by decide) ?_
        have e9 : spTake A t h = (3, 0, A) := by
          unfold spTake
          rw [if_neg (by omega), if_neg hl3, if_pos (Or.inr (Bool.eq_false_iff.mpr fun z => by have := tkB_iff.mp (allB_iff.mp z i (by omega) (by omega)); rw [e5 (by omega)] at *; omega))]
        rw [e9]
        exact ⟨rfl, rfl, fun _ _ _ _ => rfl, hR, Or.inr ⟨show ¬ (3 : Int) = 0 by decide, rfl⟩⟩
      · refine x_lload (pc := 61) dX11_take_61 rfl ?_
        refine x_ldc2 (n := 8) (pc := 63) cX11_345 (by decide) dX11_take_63 ?_
        refine x_lle (tgt := 78) (pc := 66) dX11_take_66 dX11_take_67 (by decide) (fun c_66 => ?_) (fun c_66 => ?_)
        · refine x_iinc (pc := 78) dX11_take_78 rfl (by omega) (by decide) rfl ?_
          refine x_goto (tgt := 36) (pc := 81) dX11_take_81 (by decide) ?_
          refine x_lo (lo' := [(0, (2, 0)), (1, (0, t)), (2, (0, h)), (3, (0, A 4 t)), (4, (0, i + 1))]) ⟨rfl, rfl, rfl, rfl, rfl, trivial⟩ (ih (i + 1) ⟨by omega, by omega, fun j a b => ?_⟩ (by omega))
          by_cases e : j = i
          · subst e; rw [← e5 (by omega)]; omega
          · exact hI.2.2 j a (by omega)
        · refine x_throw (pc := 70) thX11_148_150 rfl trivial dX11_take_70 dX11_take_73 dX11_take_74 dX11_take_77 (by decide) ?_
          have e9 : spTake A t h = (3, 0, A) := by
            unfold spTake
            rw [if_neg (by omega), if_neg hl3, if_pos (Or.inr (Bool.eq_false_iff.mpr fun z => by have := tkB_iff.mp (allB_iff.mp z i (by omega) (by omega)); rw [e5 (by omega)] at *; omega))]
          rw [e9]
          exact ⟨rfl, rfl, fun _ _ _ _ => rfl, hR, Or.inr ⟨show ¬ (3 : Int) = 0 by decide, rfl⟩⟩)
  exact x_lo (lo' := [(0, (2, 0)), (1, (0, t)), (2, (0, h)), (3, (0, A 4 t)), (4, (0, 0))]) ⟨rfl, rfl, rfl, rfl, rfl, trivial⟩ (loop1 0 ⟨by omega, by omega, fun j a b => by omega⟩)
