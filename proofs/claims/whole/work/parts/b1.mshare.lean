/-! the reference: share, row -/
theorem s_Mshare {l : Launch} {E : aE} {N : Nat} {S : aS} {M : aM} (hfl : l.stackTraces = false) (s h most : Int) (hmo : most = 0 ∨ most = 1) (m : Int) (A : aM) (hS : lyM S m) (hR : RM M m A) (hA : TOK (A 0)) : aMt l E pX12_share [(2, m), (0, s), (0, h), (0, most)] N S M (aU N S (fun M' => M' m 3 = (spShare A s h most).1 ∧ RM M' m (spShare A s h most).2.2 ∧ frM M M' m)) := by
  refine a_met hfl rfl (by decide +kernel) (Nat.le_of_ble_eq_true rfl) ?_
  have e0 : M (m + 1) 0 = A 0 0 := hR.1.1 0 (by omega) (by omega)
  have t0 := hA.1
  have h6 := hA.tq.2.2.2.2.2.1
  have hcc : costV (core (A 0)) = costV (A 0) := costV_fun (core_same (A 0)) (by rw [core_hi (by omega)]; omega)
  have hc := costs_t hA.tq
  refine x_aload_n (pc := 0) dX12_share_0 rfl rfl ?_
  refine x_aload_n (pc := 1) dX12_share_1 rfl rfl ?_
  refine x_iload_n (pc := 2) dX12_share_2 rfl rfl ?_
  refine x_callV1 (pc := 3) dX12_share_3 rfl kX12_383 (s_isFew hfl m s hS (by omega)) hS.1 rfl rfl (Nat.le_of_ble_eq_true rfl) (k_B (fun q_3 => ?_) (fun q_3 => ?_)) n_B
  · rw [e0] at q_3
    refine x_if_eq (tgt := 18) (pc := 6) dX12_share_6 (by decide) (fun c => absurd c (by decide)) (fun _ => ?_)
    refine x_aload_n (pc := 9) dX12_share_9 rfl rfl ?_
    refine x_iload_n (pc := 10) dX12_share_10 rfl rfl ?_
    refine x_iload_n (pc := 11) dX12_share_11 rfl rfl ?_
    refine x_callV2 (pc := 12) dX12_share_12 rfl kX12_396 (s_isOfM hfl m s h) hS.1 rfl rfl (Nat.le_of_ble_eq_true rfl) (k_B (fun q_12 => ?_) (fun q_12 => ?_)) n_B
    · refine x_if_ne (tgt := 22) (pc := 15) dX12_share_15 (by decide) (fun _ => ?_) (fun c => absurd c (by decide))
      refine x_aload_n (pc := 22) dX12_share_22 rfl rfl ?_
      have hnm : ¬ (¬ ((0 < s ∧ s < b_shl 1 (A 0 0)) ∧ 2 ≤ sumN (hb s) 7 ∧ sumN (hb s) 7 ≤ 5) ∨ isOfV s h ≠ 1) := fun q => q.elim (fun q => q q_3) (fun q => q ((isOfV_1 s h).mpr q_12))
      have hm9 := q_12
      have hs := isSet_lt hA (s := s) (by omega)
      have hcT := costs_t hA.tq
      refine x_iload_n (pc := 23) dX12_share_23 rfl rfl ?_
      refine x_callV1 (pc := 24) dX12_share_24 rfl kX12_399 (s_holdsSome hfl m s A hS hR hA (by first | omega | exact isSet_0 (by omega) | exact isSet_0 (s := s) (by omega)) hs (by omega)) hS.1 rfl rfl (Nat.le_of_ble_eq_true rfl) (k_G (fun v9 M9 hM9 => ?_)) n_G
      obtain ⟨rfl, R9, F9⟩ := hM9
      refine x_if_ne (tgt := 34) (pc := 27) dX12_share_27 (by decide) (fun c_27 => ?_) (fun c_27 => ?_)
      · obtain ⟨ht9, hz9⟩ : totE (costV (A 0)) s ≠ -1 ∧ mssV (costV (A 0)) s = 0 := by
          refine Classical.byContradiction fun q => ?_
          rw [if_neg q] at c_27
          exact c_27 rfl
        have hP := FV_pb hcT hs ht9
        have hwv := wN_v (s := s) ⟨by omega, hs.2⟩
        have hw5 : wN s ≤ 5 := by omega
        have hh31 := hN_le (c := costV (A 0)) (s := s) ⟨by omega, hs.2⟩ (by omega)
        have hok1 := can1_ok hcT hs (by omega) ht9
        have hnl := nmV_lt (c := costV (A 0)) (s := s) hw5
        have hco := colV_p ⟨hm9.1, hm9.2.1⟩ hm9.2.2
        refine x_iconst (pc := 34) dX12_share_34 (by decide) ?_
        refine x_putI (jj := 3) (pc := 35) dX12_share_35 fX12_103 hS.1 rfl (by decide) rfl ?_
        refine x_aload_n (pc := 38) dX12_share_38 rfl rfl ?_
        refine x_getIV (jj := 3) (pc := 39) dX12_share_39 fX12_103 hS.1 rfl (by decide) rfl (by (repeat (first | rewrite [up_s] | rewrite [up_i (by omega)] | rewrite [up_a (by omega)] | rewrite [stM_a (by omega) (by omega)])); first | exact hR.1.1 _ (by omega) (by omega) | rfl) ?_
        refine x_if_le (tgt := 46) (pc := 42) dX12_share_42 (by decide) (fun _ => ?_) (fun c => absurd c (by decide))
        refine x_memI (fun M5 hM5 => ?_)
        have R5 : RM M5 m A := by rw [hM5]; exact R9.up3
        have F5 : frM M M5 m := by rw [hM5]; exact F9.up (by omega)
        have T5 : M5 m 3 = 0 := by rw [hM5]; exact up_s
        clear hM5
        refine x_aload_n (pc := 46) dX12_share_46 rfl rfl ?_
        refine x_iload_n (pc := 47) dX12_share_47 rfl rfl ?_
        refine x_callV1 (pc := 48) dX12_share_48 rfl kX12_386 (s_table hfl m s 0 A hS R5 hA (by first | omega | exact isSet_0 (by omega) | exact isSet_0 (s := s) (by omega)) hs (by omega) hP T5 (ZS s most (colV s h)) rfl) hS.1 rfl rfl (Nat.le_of_ble_eq_true rfl) (k_U (fun M8 hM8 => ?_)) n_U
        obtain ⟨x8, w8, R8, g8, T8⟩ := hM8
        have F8 : frM M M8 m := F5.tr g8
        refine x_aload_n (pc := 51) dX12_share_51 rfl rfl ?_
        refine x_aload_n (pc := 52) dX12_share_52 rfl rfl ?_
        refine x_iload_n (pc := 53) dX12_share_53 rfl rfl ?_
        refine x_callV1 (pc := 54) dX12_share_54 rfl kX12_402 (s_columnOf hfl m hS (colV s h) h (by have := hco.1; omega) ((w8 _ hco.1).trans hco.2.1) (fun i hi => by rw [w8 i (by have := hco.1; omega)]; exact hco.2.2 i hi)) hS.1 rfl rfl (Nat.le_of_ble_eq_true rfl) (k_R ?_) n_R
        refine x_iload_n (pc := 57) dX12_share_57 rfl rfl ?_
        refine x_if_eq (tgt := 65) (pc := 58) dX12_share_58 (by decide) (fun c_58 => ?_) (fun c_58 => ?_)
        · refine x_iconst (pc := 65) dX12_share_65 (by decide) ?_
          refine x_callV2 (pc := 66) dX12_share_66 rfl kX12_370 (s_aim hfl m (colV s h : Int) (-1) (wN s) (hN (costV (A 0)) s) 1 hS hw5 (by omega) x8.1.1 x8.1.2.1 x8.1.2.2.1 (by omega)) hS.1 rfl rfl (Nat.le_of_ble_eq_true rfl) (k_U (fun M4 hM4 => ?_)) n_U
          obtain ⟨y1, y2, y3, y4⟩ := hM4
          have x4 := x8.aim hw5 hP.1 (sgV_aim (most := most) (way := (-1)) hco.1 (if_neg (by omega)).symm) y1 y2 y3 y4
          have R4 : RM M4 m A := R8.ft fun a i q1 q2 => y4 _ _ (by omega) (by omega)
          have T4 : M4 m 3 = 0 := (y4 _ _ (by omega) (by omega)).trans T8
          have F4 : frM M M4 m := F8.tr fun a i q => y4 _ _ (by omega) (by omega)
          refine x_aload_n (pc := 69) dX12_share_69 rfl rfl ?_
          have hz0 : ∀ q, q < 2 → bdV (wN s) ((ZS s most (colV s h)) q) := fun q hq => by
            unfold ZS
            by_cases e : q = 0
            · rw [if_pos e]; exact zA_bd _
            · rw [if_neg e]; exact sgV_bd (by have := hco.1; omega)
          refine x_callV0 (pc := 70) dX12_share_70 rfl kX12_388 (s_solve hfl m hS x4 hP hw5 hh31 (by have := hco.1; omega) hz0 (st0_ok hP) hnl (by omega)) hS.1 rfl rfl (Nat.le_of_ble_eq_true rfl) (k_G (fun v7 M7 hM7 => ?_)) n_G
          obtain ⟨rfl, x7, f7⟩ := hM7
          have R7 := R4.frT f7
          have T7 : M7 m 3 = 0 := (f7 m 3 (by omega) (by omega)).trans T4
          have F7 : frM M M7 m := F4.tr f7.m
          have hok2 : OKx (wN s) (hN (costV (A 0)) s) (FV (costV (A 0)) s) (shV (costV (A 0)) s most (colV s h)) := sxD_ok hcT hs (by omega) ht9 hok1
          have hob := ov_fr hcT hs (by omega) ht9 hok2
          have hvb := val_fr hcT hs (by omega) ht9 hok2 hco.1
          have x7 : RTm M7 m (wN s) (hN (costV (A 0)) s) (FV (costV (A 0)) s) (shV (costV (A 0)) s most (colV s h)) (nmV (costV (A 0)) s) 2 (ZS s most (colV s h)) _ := x7
          have e7 : ta (wN s) (FV (costV (A 0)) s) (slS (wN s) (hN (costV (A 0)) s) (FV (costV (A 0)) s) (ZS s most (colV s h)) (st0 (wN s)) (fun _ => false) 2).1 ((ZS s most (colV s h)) (2 - 1)) (wN s) = ta (wN s) (FV (costV (A 0)) s) (shV (costV (A 0)) s most (colV s h)) (sgV most (colV s h)) (wN s) := rfl
          rewrite [e7]
          have hsg := ta_sg (w := wN s) (F := FV (costV (A 0)) s) (st := shV (costV (A 0)) s most (colV s h)) (most := most) (v := colV s h) (k := wN s) (by omega)
          refine x_lstore (pc := 73) dX12_share_73 (by decide) rfl ?_
          refine x_aload_n (pc := 75) dX12_share_75 rfl rfl ?_
          refine x_iload_n (pc := 76) dX12_share_76 rfl rfl ?_
          refine x_if_eq (tgt := 85) (pc := 77) dX12_share_77 (by decide) (fun c_77 => ?_) (fun c_77 => ?_)
          · rw [if_neg (by omega)] at hsg
            rewrite [hsg]
            refine x_lload (pc := 85) dX12_share_85 rfl ?_
            refine x_lneg (pc := 87) dX12_share_87 (by omega) ?_
            try rewrite [Int.neg_neg]
            refine x_aload_n (pc := 88) dX12_share_88 rfl rfl ?_
            refine x_getJV (jj := 45) (pc := 89) dX12_share_89 fX12_364 hS.1 rfl (by decide) rfl (by (repeat (first | rewrite [up_s] | rewrite [up_i (by omega)] | rewrite [up_a (by omega)] | rewrite [stM_a (by omega) (by omega)])); first | exact x7.1.2.2.2 | rfl) ?_
            refine x_callV2 (pc := 92) dX12_share_92 rfl kX12_392 (s_fraction hfl m (ta (wN s) (FV (costV (A 0)) s) (shV (costV (A 0)) s most (colV s h)) (iM (colV s h)) (wN s)) (ov (wN s) (FV (costV (A 0)) s) (shV (costV (A 0)) s most (colV s h))) hS ⟨by omega, by omega⟩ ⟨by omega, by omega⟩) hS.1 rfl rfl (Nat.le_of_ble_eq_true rfl) (k_U (fun M6 hM6 => ?_)) n_U
            subst hM6
            refine x_return (pc := 95) dX12_share_95 rfl (by decide) ?_
            have e9 : spShare A s h most = (0, 0, frA A (ta (wN s) (FV (costV (A 0)) s) (shV (costV (A 0)) s most (colV s h)) (iM (colV s h)) (wN s)) (ov (wN s) (FV (costV (A 0)) s) (shV (costV (A 0)) s most (colV s h)))) := by
              unfold spShare
              rw [if_neg hnm, if_neg (fun q => q.elim (fun q => ht9 q) (fun q => q hz9))]
            rw [e9]
            exact ⟨rfl, rfl, rfl, by rw [up_i (by omega), up_i (by omega)]; exact T7, R7.fr, (F7.up (by omega)).up (by omega)⟩
          · rw [if_pos (by omega)] at hsg
            rewrite [hsg]
            refine x_lload (pc := 80) dX12_share_80 rfl ?_
            refine x_goto (tgt := 88) (pc := 82) dX12_share_82 (by decide) ?_
            try rewrite [Int.neg_neg]
            refine x_aload_n (pc := 88) dX12_share_88 rfl rfl ?_
            refine x_getJV (jj := 45) (pc := 89) dX12_share_89 fX12_364 hS.1 rfl (by decide) rfl (by (repeat (first | rewrite [up_s] | rewrite [up_i (by omega)] | rewrite [up_a (by omega)] | rewrite [stM_a (by omega) (by omega)])); first | exact x7.1.2.2.2 | rfl) ?_
            refine x_callV2 (pc := 92) dX12_share_92 rfl kX12_392 (s_fraction hfl m (ta (wN s) (FV (costV (A 0)) s) (shV (costV (A 0)) s most (colV s h)) (iM (colV s h)) (wN s)) (ov (wN s) (FV (costV (A 0)) s) (shV (costV (A 0)) s most (colV s h))) hS ⟨by omega, by omega⟩ ⟨by omega, by omega⟩) hS.1 rfl rfl (Nat.le_of_ble_eq_true rfl) (k_U (fun M6 hM6 => ?_)) n_U
            subst hM6
            refine x_return (pc := 95) dX12_share_95 rfl (by decide) ?_
            have e9 : spShare A s h most = (0, 0, frA A (ta (wN s) (FV (costV (A 0)) s) (shV (costV (A 0)) s most (colV s h)) (iM (colV s h)) (wN s)) (ov (wN s) (FV (costV (A 0)) s) (shV (costV (A 0)) s most (colV s h)))) := by
              unfold spShare
              rw [if_neg hnm, if_neg (fun q => q.elim (fun q => ht9 q) (fun q => q hz9))]
            rw [e9]
            exact ⟨rfl, rfl, rfl, by rw [up_i (by omega), up_i (by omega)]; exact T7, R7.fr, (F7.up (by omega)).up (by omega)⟩
        · refine x_iconst (pc := 61) dX12_share_61 (by decide) ?_
          refine x_goto (tgt := 66) (pc := 62) dX12_share_62 (by decide) ?_
          refine x_callV2 (pc := 66) dX12_share_66 rfl kX12_370 (s_aim hfl m (colV s h : Int) 1 (wN s) (hN (costV (A 0)) s) 1 hS hw5 (by omega) x8.1.1 x8.1.2.1 x8.1.2.2.1 (by omega)) hS.1 rfl rfl (Nat.le_of_ble_eq_true rfl) (k_U (fun M4 hM4 => ?_)) n_U
          obtain ⟨y1, y2, y3, y4⟩ := hM4
          have x4 := x8.aim hw5 hP.1 (sgV_aim (most := most) (way := 1) hco.1 (if_pos (by omega)).symm) y1 y2 y3 y4
          have R4 : RM M4 m A := R8.ft fun a i q1 q2 => y4 _ _ (by omega) (by omega)
          have T4 : M4 m 3 = 0 := (y4 _ _ (by omega) (by omega)).trans T8
          have F4 : frM M M4 m := F8.tr fun a i q => y4 _ _ (by omega) (by omega)
          refine x_aload_n (pc := 69) dX12_share_69 rfl rfl ?_
          have hz0 : ∀ q, q < 2 → bdV (wN s) ((ZS s most (colV s h)) q) := fun q hq => by
            unfold ZS
            by_cases e : q = 0
            · rw [if_pos e]; exact zA_bd _
            · rw [if_neg e]; exact sgV_bd (by have := hco.1; omega)
          refine x_callV0 (pc := 70) dX12_share_70 rfl kX12_388 (s_solve hfl m hS x4 hP hw5 hh31 (by have := hco.1; omega) hz0 (st0_ok hP) hnl (by omega)) hS.1 rfl rfl (Nat.le_of_ble_eq_true rfl) (k_G (fun v7 M7 hM7 => ?_)) n_G
          obtain ⟨rfl, x7, f7⟩ := hM7
          have R7 := R4.frT f7
          have T7 : M7 m 3 = 0 := (f7 m 3 (by omega) (by omega)).trans T4
          have F7 : frM M M7 m := F4.tr f7.m
          have hok2 : OKx (wN s) (hN (costV (A 0)) s) (FV (costV (A 0)) s) (shV (costV (A 0)) s most (colV s h)) := sxD_ok hcT hs (by omega) ht9 hok1
          have hob := ov_fr hcT hs (by omega) ht9 hok2
          have hvb := val_fr hcT hs (by omega) ht9 hok2 hco.1
          have x7 : RTm M7 m (wN s) (hN (costV (A 0)) s) (FV (costV (A 0)) s) (shV (costV (A 0)) s most (colV s h)) (nmV (costV (A 0)) s) 2 (ZS s most (colV s h)) _ := x7
          have e7 : ta (wN s) (FV (costV (A 0)) s) (slS (wN s) (hN (costV (A 0)) s) (FV (costV (A 0)) s) (ZS s most (colV s h)) (st0 (wN s)) (fun _ => false) 2).1 ((ZS s most (colV s h)) (2 - 1)) (wN s) = ta (wN s) (FV (costV (A 0)) s) (shV (costV (A 0)) s most (colV s h)) (sgV most (colV s h)) (wN s) := rfl
          rewrite [e7]
          have hsg := ta_sg (w := wN s) (F := FV (costV (A 0)) s) (st := shV (costV (A 0)) s most (colV s h)) (most := most) (v := colV s h) (k := wN s) (by omega)
          refine x_lstore (pc := 73) dX12_share_73 (by decide) rfl ?_
          refine x_aload_n (pc := 75) dX12_share_75 rfl rfl ?_
          refine x_iload_n (pc := 76) dX12_share_76 rfl rfl ?_
          refine x_if_eq (tgt := 85) (pc := 77) dX12_share_77 (by decide) (fun c_77 => ?_) (fun c_77 => ?_)
          · rw [if_neg (by omega)] at hsg
            rewrite [hsg]
            refine x_lload (pc := 85) dX12_share_85 rfl ?_
            refine x_lneg (pc := 87) dX12_share_87 (by omega) ?_
            try rewrite [Int.neg_neg]
            refine x_aload_n (pc := 88) dX12_share_88 rfl rfl ?_
            refine x_getJV (jj := 45) (pc := 89) dX12_share_89 fX12_364 hS.1 rfl (by decide) rfl (by (repeat (first | rewrite [up_s] | rewrite [up_i (by omega)] | rewrite [up_a (by omega)] | rewrite [stM_a (by omega) (by omega)])); first | exact x7.1.2.2.2 | rfl) ?_
            refine x_callV2 (pc := 92) dX12_share_92 rfl kX12_392 (s_fraction hfl m (ta (wN s) (FV (costV (A 0)) s) (shV (costV (A 0)) s most (colV s h)) (iM (colV s h)) (wN s)) (ov (wN s) (FV (costV (A 0)) s) (shV (costV (A 0)) s most (colV s h))) hS ⟨by omega, by omega⟩ ⟨by omega, by omega⟩) hS.1 rfl rfl (Nat.le_of_ble_eq_true rfl) (k_U (fun M6 hM6 => ?_)) n_U
            subst hM6
            refine x_return (pc := 95) dX12_share_95 rfl (by decide) ?_
            have e9 : spShare A s h most = (0, 0, frA A (ta (wN s) (FV (costV (A 0)) s) (shV (costV (A 0)) s most (colV s h)) (iM (colV s h)) (wN s)) (ov (wN s) (FV (costV (A 0)) s) (shV (costV (A 0)) s most (colV s h)))) := by
              unfold spShare
              rw [if_neg hnm, if_neg (fun q => q.elim (fun q => ht9 q) (fun q => q hz9))]
            rw [e9]
            exact ⟨rfl, rfl, rfl, by rw [up_i (by omega), up_i (by omega)]; exact T7, R7.fr, (F7.up (by omega)).up (by omega)⟩
          · rw [if_pos (by omega)] at hsg
            rewrite [hsg]
            refine x_lload (pc := 80) dX12_share_80 rfl ?_
            refine x_goto (tgt := 88) (pc := 82) dX12_share_82 (by decide) ?_
            try rewrite [Int.neg_neg]
            refine x_aload_n (pc := 88) dX12_share_88 rfl rfl ?_
            refine x_getJV (jj := 45) (pc := 89) dX12_share_89 fX12_364 hS.1 rfl (by decide) rfl (by (repeat (first | rewrite [up_s] | rewrite [up_i (by omega)] | rewrite [up_a (by omega)] | rewrite [stM_a (by omega) (by omega)])); first | exact x7.1.2.2.2 | rfl) ?_
            refine x_callV2 (pc := 92) dX12_share_92 rfl kX12_392 (s_fraction hfl m (ta (wN s) (FV (costV (A 0)) s) (shV (costV (A 0)) s most (colV s h)) (iM (colV s h)) (wN s)) (ov (wN s) (FV (costV (A 0)) s) (shV (costV (A 0)) s most (colV s h))) hS ⟨by omega, by omega⟩ ⟨by omega, by omega⟩) hS.1 rfl rfl (Nat.le_of_ble_eq_true rfl) (k_U (fun M6 hM6 => ?_)) n_U
            subst hM6
            refine x_return (pc := 95) dX12_share_95 rfl (by decide) ?_
            have e9 : spShare A s h most = (0, 0, frA A (ta (wN s) (FV (costV (A 0)) s) (shV (costV (A 0)) s most (colV s h)) (iM (colV s h)) (wN s)) (ov (wN s) (FV (costV (A 0)) s) (shV (costV (A 0)) s most (colV s h)))) := by
              unfold spShare
              rw [if_neg hnm, if_neg (fun q => q.elim (fun q => ht9 q) (fun q => q hz9))]
            rw [e9]
            exact ⟨rfl, rfl, rfl, by rw [up_i (by omega), up_i (by omega)]; exact T7, R7.fr, (F7.up (by omega)).up (by omega)⟩
      · refine x_iconst (pc := 30) dX12_share_30 (by decide) ?_
        refine x_goto (tgt := 35) (pc := 31) dX12_share_31 (by decide) ?_
        refine x_putI (jj := 3) (pc := 35) dX12_share_35 fX12_103 hS.1 rfl (by decide) rfl ?_
        refine x_aload_n (pc := 38) dX12_share_38 rfl rfl ?_
        refine x_getIV (jj := 3) (pc := 39) dX12_share_39 fX12_103 hS.1 rfl (by decide) rfl (by (repeat (first | rewrite [up_s] | rewrite [up_i (by omega)] | rewrite [up_a (by omega)] | rewrite [stM_a (by omega) (by omega)])); first | exact hR.1.1 _ (by omega) (by omega) | rfl) ?_
        refine x_if_le (tgt := 46) (pc := 42) dX12_share_42 (by decide) (fun c => absurd c (by decide)) (fun _ => ?_)
        refine x_return (pc := 45) dX12_share_45 rfl (by decide) ?_
        have e9 : spShare A s h most = (2, 0, A) := by
          unfold spShare
          rw [if_neg hnm, if_pos ?_]
          by_cases q1 : totE (costV (A 0)) s = -1
          · exact Or.inl q1
          · refine Or.inr fun q2 => ?_
            rw [if_pos ⟨q1, q2⟩] at c_27
            omega
        rw [e9]
        exact ⟨rfl, rfl, rfl, up_s, R9.up3, F9.up (by omega)⟩
    · refine x_if_ne (tgt := 22) (pc := 15) dX12_share_15 (by decide) (fun c => absurd c (by decide)) (fun _ => ?_)
      refine x_iconst (pc := 18) dX12_share_18 (by decide) ?_
      refine x_goto (tgt := 35) (pc := 19) dX12_share_19 (by decide) ?_
      refine x_putI (jj := 3) (pc := 35) dX12_share_35 fX12_103 hS.1 rfl (by decide) rfl ?_
      refine x_aload_n (pc := 38) dX12_share_38 rfl rfl ?_
      refine x_getIV (jj := 3) (pc := 39) dX12_share_39 fX12_103 hS.1 rfl (by decide) rfl (by (repeat (first | rewrite [up_s] | rewrite [up_i (by omega)] | rewrite [up_a (by omega)] | rewrite [stM_a (by omega) (by omega)])); first | exact hR.1.1 _ (by omega) (by omega) | rfl) ?_
      refine x_if_le (tgt := 46) (pc := 42) dX12_share_42 (by decide) (fun c => absurd c (by decide)) (fun _ => ?_)
      refine x_return (pc := 45) dX12_share_45 rfl (by decide) ?_
      have e9 : spShare A s h most = (1, 0, A) := by
        unfold spShare
        rw [if_pos (Or.inr (fun q => absurd ((isOfV_1 s h).mp q) (by assumption)))]
      rw [e9]
      exact ⟨rfl, rfl, rfl, up_s, hR.up3, frM.rf.up (by omega)⟩
  · rw [e0] at q_3
    refine x_if_eq (tgt := 18) (pc := 6) dX12_share_6 (by decide) (fun _ => ?_) (fun c => absurd c (by decide))
    refine x_iconst (pc := 18) dX12_share_18 (by decide) ?_
    refine x_goto (tgt := 35) (pc := 19) dX12_share_19 (by decide) ?_
    refine x_putI (jj := 3) (pc := 35) dX12_share_35 fX12_103 hS.1 rfl (by decide) rfl ?_
    refine x_aload_n (pc := 38) dX12_share_38 rfl rfl ?_
    refine x_getIV (jj := 3) (pc := 39) dX12_share_39 fX12_103 hS.1 rfl (by decide) rfl (by (repeat (first | rewrite [up_s] | rewrite [up_i (by omega)] | rewrite [up_a (by omega)] | rewrite [stM_a (by omega) (by omega)])); first | exact hR.1.1 _ (by omega) (by omega) | rfl) ?_
    refine x_if_le (tgt := 46) (pc := 42) dX12_share_42 (by decide) (fun c => absurd c (by decide)) (fun _ => ?_)
    refine x_return (pc := 45) dX12_share_45 rfl (by decide) ?_
    have e9 : spShare A s h most = (1, 0, A) := by
      unfold spShare
      rw [if_pos (Or.inl (by assumption))]
    rw [e9]
    exact ⟨rfl, rfl, rfl, up_s, hR.up3, frM.rf.up (by omega)⟩
theorem s_Mrow {l : Launch} {E : aE} {N : Nat} {S : aS} {M : aM} (hfl : l.stackTraces = false) (s h : Int) (m : Int) (A : aM) (hS : lyM S m) (hR : RM M m A) (hA : TOK (A 0)) : aMt l E pX12_row [(2, m), (0, s), (0, h)] N S M (aU N S (fun M' => M' m 3 = (spRow A s h).1 ∧ RM M' m (spRow A s h).2.2 ∧ frM M M' m)) := by
  refine a_met hfl rfl (by decide +kernel) (Nat.le_of_ble_eq_true rfl) ?_
  have e0 : M (m + 1) 0 = A 0 0 := hR.1.1 0 (by omega) (by omega)
  have t0 := hA.1
  have h6 := hA.tq.2.2.2.2.2.1
  have hcc : costV (core (A 0)) = costV (A 0) := costV_fun (core_same (A 0)) (by rw [core_hi (by omega)]; omega)
  have hc := costs_t hA.tq
  refine x_aload_n (pc := 0) dX12_row_0 rfl rfl ?_
  refine x_aload_n (pc := 1) dX12_row_1 rfl rfl ?_
  refine x_iload_n (pc := 2) dX12_row_2 rfl rfl ?_
  refine x_callV1 (pc := 3) dX12_row_3 rfl kX12_383 (s_isFew hfl m s hS (by omega)) hS.1 rfl rfl (Nat.le_of_ble_eq_true rfl) (k_B (fun q_3 => ?_) (fun q_3 => ?_)) n_B
  · rw [e0] at q_3
    refine x_if_eq (tgt := 18) (pc := 6) dX12_row_6 (by decide) (fun c => absurd c (by decide)) (fun _ => ?_)
    refine x_aload_n (pc := 9) dX12_row_9 rfl rfl ?_
    refine x_iload_n (pc := 10) dX12_row_10 rfl rfl ?_
    refine x_iload_n (pc := 11) dX12_row_11 rfl rfl ?_
    refine x_callV2 (pc := 12) dX12_row_12 rfl kX12_396 (s_isOfM hfl m s h) hS.1 rfl rfl (Nat.le_of_ble_eq_true rfl) (k_B (fun q_12 => ?_) (fun q_12 => ?_)) n_B
    · refine x_if_ne (tgt := 22) (pc := 15) dX12_row_15 (by decide) (fun _ => ?_) (fun c => absurd c (by decide))
      refine x_aload_n (pc := 22) dX12_row_22 rfl rfl ?_
      have hnm : ¬ (¬ ((0 < s ∧ s < b_shl 1 (A 0 0)) ∧ 2 ≤ sumN (hb s) 7 ∧ sumN (hb s) 7 ≤ 5) ∨ isOfV s h ≠ 1) := fun q => q.elim (fun q => q q_3) (fun q => q ((isOfV_1 s h).mpr q_12))
      have hm9 := q_12
      have hs := isSet_lt hA (s := s) (by omega)
      have hcT := costs_t hA.tq
      refine x_iload_n (pc := 23) dX12_row_23 rfl rfl ?_
      refine x_callV1 (pc := 24) dX12_row_24 rfl kX12_399 (s_holdsSome hfl m s A hS hR hA (by first | omega | exact isSet_0 (by omega) | exact isSet_0 (s := s) (by omega)) hs (by omega)) hS.1 rfl rfl (Nat.le_of_ble_eq_true rfl) (k_G (fun v9 M9 hM9 => ?_)) n_G
      obtain ⟨rfl, R9, F9⟩ := hM9
      refine x_if_ne (tgt := 34) (pc := 27) dX12_row_27 (by decide) (fun c_27 => ?_) (fun c_27 => ?_)
      · obtain ⟨ht9, hz9⟩ : totE (costV (A 0)) s ≠ -1 ∧ mssV (costV (A 0)) s = 0 := by
          refine Classical.byContradiction fun q => ?_
          rw [if_neg q] at c_27
          exact c_27 rfl
        have hP := FV_pb hcT hs ht9
        have hwv := wN_v (s := s) ⟨by omega, hs.2⟩
        have hw5 : wN s ≤ 5 := by omega
        have hh31 := hN_le (c := costV (A 0)) (s := s) ⟨by omega, hs.2⟩ (by omega)
        have hok1 := can1_ok hcT hs (by omega) ht9
        have hnl := nmV_lt (c := costV (A 0)) (s := s) hw5
        have hco := colV_p ⟨hm9.1, hm9.2.1⟩ hm9.2.2
        refine x_iconst (pc := 34) dX12_row_34 (by decide) ?_
        refine x_putI (jj := 3) (pc := 35) dX12_row_35 fX12_103 hS.1 rfl (by decide) rfl ?_
        refine x_aload_n (pc := 38) dX12_row_38 rfl rfl ?_
        refine x_getIV (jj := 3) (pc := 39) dX12_row_39 fX12_103 hS.1 rfl (by decide) rfl (by (repeat (first | rewrite [up_s] | rewrite [up_i (by omega)] | rewrite [up_a (by omega)] | rewrite [stM_a (by omega) (by omega)])); first | exact hR.1.1 _ (by omega) (by omega) | rfl) ?_
        refine x_if_le (tgt := 46) (pc := 42) dX12_row_42 (by decide) (fun _ => ?_) (fun c => absurd c (by decide))
        refine x_memI (fun M5 hM5 => ?_)
        have R5 : RM M5 m A := by rw [hM5]; exact R9.up3
        have F5 : frM M M5 m := by rw [hM5]; exact F9.up (by omega)
        have T5 : M5 m 3 = 0 := by rw [hM5]; exact up_s
        clear hM5
        refine x_aload_n (pc := 46) dX12_row_46 rfl rfl ?_
        refine x_iload_n (pc := 47) dX12_row_47 rfl rfl ?_
        refine x_callV1 (pc := 48) dX12_row_48 rfl kX12_386 (s_table hfl m s 0 A hS R5 hA (by first | omega | exact isSet_0 (by omega) | exact isSet_0 (s := s) (by omega)) hs (by omega) hP T5 (ZR s) rfl) hS.1 rfl rfl (Nat.le_of_ble_eq_true rfl) (k_U (fun M8 hM8 => ?_)) n_U
        obtain ⟨x8, w8, R8, g8, T8⟩ := hM8
        have F8 : frM M M8 m := F5.tr g8
        refine x_iconst (pc := 51) dX12_row_51 (by decide) ?_
        refine x_istore_n (pc := 52) dX12_row_52 rfl (by decide) rfl ?_
        have loop := a_loop2 (α := Nat) (β := aM) (fun i M1 => i ≤ colV s h + 1 ∧ RTm M1 m (wN s) (hN (costV (A 0)) s) (FV (costV (A 0)) s) (st0 (wN s)) (nmV (costV (A 0)) s) (i + 1) (ZR s) (fun _ => false) ∧ (∀ j : Nat, j < wN s → M1 (m + 21) j = whoV s j) ∧ RM M1 m A ∧ frM M M1 m ∧ M1 m 3 = 0) (fun i M1 => colV s h + 1 - i) (fun i M1 => aX l E pX12_row (aU N S (fun M' => M' m 3 = (spRow A s h).1 ∧ RM M' m (spRow A s h).2.2 ∧ frM M M' m)) 0 0 N S M1 53 [(0, (2, m)), (1, (0, s)), (2, (0, h)), (3, (0, (i : Int)))] []) (by
          intro i M1 hI ih
          obtain ⟨k1, k2, k3, k4, k5, k6⟩ := hI
          refine x_iload_n (pc := 53) dX12_row_53 rfl rfl ?_
          refine x_aload_n (pc := 54) dX12_row_54 rfl rfl ?_
          refine x_iload_n (pc := 55) dX12_row_55 rfl rfl ?_
          refine x_callV1 (pc := 56) dX12_row_56 rfl kX12_402 (s_columnOf hfl m hS (colV s h) h (by have := hco.1; omega) ((k3 _ hco.1).trans hco.2.1) (fun i hi => by rw [k3 i (by have := hco.1; omega)]; exact hco.2.2 i hi)) hS.1 rfl rfl (Nat.le_of_ble_eq_true rfl) (k_R ?_) n_R
          refine x_icmp_gt (tgt := 74) (pc := 59) dX12_row_59 (by decide) (fun c_59 => ?_) (fun c_59 => ?_)
          · have ei : i = colV s h + 1 := by omega
            subst ei
            refine x_aload_n (pc := 74) dX12_row_74 rfl rfl ?_
            refine x_aload_n (pc := 75) dX12_row_75 rfl rfl ?_
            have hz0 : ∀ q, q < colV s h + 1 + 1 → bdV (wN s) ((ZR s) q) := fun q hq => by
              unfold ZR
              by_cases e : q = 0
              · rw [if_pos e]; exact zA_bd _
              · rw [if_neg e]; exact sgV_bd (by have := hco.1; omega)
            refine x_callV0 (pc := 76) dX12_row_76 rfl kX12_388 (s_solve hfl m hS k2 hP hw5 hh31 (by have := hco.1; omega) hz0 (st0_ok hP) hnl (by omega)) hS.1 rfl rfl (Nat.le_of_ble_eq_true rfl) (k_G (fun v7 M7 hM7 => ?_)) n_G
            obtain ⟨rfl, x7, f7⟩ := hM7
            have R7 := k4.frT f7
            have T7 : M7 m 3 = 0 := (f7 m 3 (by omega) (by omega)).trans k6
            have F7 : frM M M7 m := k5.tr f7.m
            have hok2 : OKx (wN s) (hN (costV (A 0)) s) (FV (costV (A 0)) s) ((rwS (costV (A 0)) s (colV s h + 1)).1) := rwS_ok hcT hs (by omega) ht9 _
            have hob := ov_fr hcT hs (by omega) ht9 hok2
            have hvb := val_fr hcT hs (by omega) ht9 hok2 hco.1
            have esl : (slS (wN s) (hN (costV (A 0)) s) (FV (costV (A 0)) s) (ZR s) (st0 (wN s)) (fun _ => false) (colV s h + 1 + 1)).1 = (rwS (costV (A 0)) s (colV s h + 1)).1 := congrArg Prod.fst (slR (costV (A 0)) s (colV s h + 1))
            rw [esl] at x7
            rewrite [esl]
            have x7 : RTm M7 m (wN s) (hN (costV (A 0)) s) (FV (costV (A 0)) s) ((rwS (costV (A 0)) s (colV s h + 1)).1) (nmV (costV (A 0)) s) _ (ZR s) _ := x7
            rewrite [show (ZR s (colV s h + 1 + 1 - 1)) = sgV 0 (colV s h) from rfl]
            rewrite [ta_sg (by omega), if_neg (by decide)]
            refine x_lneg (pc := 79) dX12_row_79 (by omega) ?_
            rewrite [Int.neg_neg]
            refine x_aload_n (pc := 80) dX12_row_80 rfl rfl ?_
            refine x_getJV (jj := 45) (pc := 81) dX12_row_81 fX12_364 hS.1 rfl (by decide) rfl (by (repeat (first | rewrite [up_s] | rewrite [up_i (by omega)] | rewrite [up_a (by omega)] | rewrite [stM_a (by omega) (by omega)])); first | exact x7.1.2.2.2 | rfl) ?_
            refine x_callV2 (pc := 84) dX12_row_84 rfl kX12_392 (s_fraction hfl m (ta (wN s) (FV (costV (A 0)) s) ((rwS (costV (A 0)) s (colV s h + 1)).1) (iM (colV s h)) (wN s)) (ov (wN s) (FV (costV (A 0)) s) ((rwS (costV (A 0)) s (colV s h + 1)).1)) hS ⟨by omega, by omega⟩ ⟨by omega, by omega⟩) hS.1 rfl rfl (Nat.le_of_ble_eq_true rfl) (k_U (fun M6 hM6 => ?_)) n_U
            subst hM6
            refine x_return (pc := 87) dX12_row_87 rfl (by decide) ?_
            have e9 : spRow A s h = (0, 0, frA A (ta (wN s) (FV (costV (A 0)) s) ((rwS (costV (A 0)) s (colV s h + 1)).1) (iM (colV s h)) (wN s)) (ov (wN s) (FV (costV (A 0)) s) ((rwS (costV (A 0)) s (colV s h + 1)).1))) := by
              unfold spRow
              rw [if_neg hnm, if_neg (fun q => q.elim (fun q => ht9 q) (fun q => q hz9))]
            rw [e9]
            exact ⟨rfl, rfl, rfl, by rw [up_i (by omega), up_i (by omega)]; exact T7, R7.fr, (F7.up (by omega)).up (by omega)⟩
          · refine x_aload_n (pc := 62) dX12_row_62 rfl rfl ?_
            refine x_iload_n (pc := 63) dX12_row_63 rfl rfl ?_
            refine x_iconst (pc := 64) dX12_row_64 (by decide) ?_
            refine x_callV2 (pc := 65) dX12_row_65 rfl kX12_370 (s_aim hfl m (i : Int) (-1) (wN s) (hN (costV (A 0)) s) (i + 1) hS hw5 (by have := hco.1; omega) k2.1.1 k2.1.2.1 k2.1.2.2.1 (Or.inr rfl)) hS.1 rfl rfl (Nat.le_of_ble_eq_true rfl) (k_U (fun M4 hM4 => ?_)) n_U
            obtain ⟨y1, y2, y3, y4⟩ := hM4
            have x4 := k2.aim hw5 hP.1 (show ZR s (i + 1) (wN s) = 0 ∧ ∀ c, c < wN s → ZR s (i + 1) c = if (i : Int) = -1 ∨ (i : Int) = (c : Int) then -1 else 0 from sgV_aim (most := 0) (way := -1) (v := i) (by have := hco.1; omega) rfl) y1 y2 y3 y4
            have R4 : RM M4 m A := k4.ft fun a i q1 q2 => y4 _ _ (by omega) (by omega)
            have T4 : M4 m 3 = 0 := (y4 _ _ (by omega) (by omega)).trans k6
            have F4 : frM M M4 m := k5.tr fun a i q => y4 _ _ (by omega) (by omega)
            refine x_iinc (pc := 68) dX12_row_68 rfl (by omega) (by decide) rfl ?_
            refine x_goto (tgt := 53) (pc := 71) dX12_row_71 (by decide) ?_
            exact x_lo (lo' := [(0, (2, m)), (1, (0, s)), (2, (0, h)), (3, (0, ((i + 1 : Nat) : Int)))]) ⟨rfl, rfl, rfl, rfl, trivial⟩ (ih (i + 1) M4 ⟨by omega, x4, fun j hj => (y4 _ _ (by omega) (by omega)).trans (k3 j hj), R4, F4, T4⟩ (by omega)))
        exact x_lo (lo' := [(0, (2, m)), (1, (0, s)), (2, (0, h)), (3, (0, ((0 : Nat) : Int)))]) ⟨rfl, rfl, rfl, rfl, trivial⟩ (loop 0 M8 ⟨by omega, x8, w8, R8, F8, T8⟩)
      · refine x_iconst (pc := 30) dX12_row_30 (by decide) ?_
        refine x_goto (tgt := 35) (pc := 31) dX12_row_31 (by decide) ?_
        refine x_putI (jj := 3) (pc := 35) dX12_row_35 fX12_103 hS.1 rfl (by decide) rfl ?_
        refine x_aload_n (pc := 38) dX12_row_38 rfl rfl ?_
        refine x_getIV (jj := 3) (pc := 39) dX12_row_39 fX12_103 hS.1 rfl (by decide) rfl (by (repeat (first | rewrite [up_s] | rewrite [up_i (by omega)] | rewrite [up_a (by omega)] | rewrite [stM_a (by omega) (by omega)])); first | exact hR.1.1 _ (by omega) (by omega) | rfl) ?_
        refine x_if_le (tgt := 46) (pc := 42) dX12_row_42 (by decide) (fun c => absurd c (by decide)) (fun _ => ?_)
        refine x_return (pc := 45) dX12_row_45 rfl (by decide) ?_
        have e9 : spRow A s h = (2, 0, A) := by
          unfold spRow
          rw [if_neg hnm, if_pos ?_]
          by_cases q1 : totE (costV (A 0)) s = -1
          · exact Or.inl q1
          · refine Or.inr fun q2 => ?_
            rw [if_pos ⟨q1, q2⟩] at c_27
            omega
        rw [e9]
        exact ⟨rfl, rfl, rfl, up_s, R9.up3, F9.up (by omega)⟩
    · refine x_if_ne (tgt := 22) (pc := 15) dX12_row_15 (by decide) (fun c => absurd c (by decide)) (fun _ => ?_)
      refine x_iconst (pc := 18) dX12_row_18 (by decide) ?_
      refine x_goto (tgt := 35) (pc := 19) dX12_row_19 (by decide) ?_
      refine x_putI (jj := 3) (pc := 35) dX12_row_35 fX12_103 hS.1 rfl (by decide) rfl ?_
      refine x_aload_n (pc := 38) dX12_row_38 rfl rfl ?_
      refine x_getIV (jj := 3) (pc := 39) dX12_row_39 fX12_103 hS.1 rfl (by decide) rfl (by (repeat (first | rewrite [up_s] | rewrite [up_i (by omega)] | rewrite [up_a (by omega)] | rewrite [stM_a (by omega) (by omega)])); first | exact hR.1.1 _ (by omega) (by omega) | rfl) ?_
      refine x_if_le (tgt := 46) (pc := 42) dX12_row_42 (by decide) (fun c => absurd c (by decide)) (fun _ => ?_)
      refine x_return (pc := 45) dX12_row_45 rfl (by decide) ?_
      have e9 : spRow A s h = (1, 0, A) := by
        unfold spRow
        rw [if_pos (Or.inr (fun q => absurd ((isOfV_1 s h).mp q) (by assumption)))]
      rw [e9]
      exact ⟨rfl, rfl, rfl, up_s, hR.up3, frM.rf.up (by omega)⟩
  · rw [e0] at q_3
    refine x_if_eq (tgt := 18) (pc := 6) dX12_row_6 (by decide) (fun _ => ?_) (fun c => absurd c (by decide))
    refine x_iconst (pc := 18) dX12_row_18 (by decide) ?_
    refine x_goto (tgt := 35) (pc := 19) dX12_row_19 (by decide) ?_
    refine x_putI (jj := 3) (pc := 35) dX12_row_35 fX12_103 hS.1 rfl (by decide) rfl ?_
    refine x_aload_n (pc := 38) dX12_row_38 rfl rfl ?_
    refine x_getIV (jj := 3) (pc := 39) dX12_row_39 fX12_103 hS.1 rfl (by decide) rfl (by (repeat (first | rewrite [up_s] | rewrite [up_i (by omega)] | rewrite [up_a (by omega)] | rewrite [stM_a (by omega) (by omega)])); first | exact hR.1.1 _ (by omega) (by omega) | rfl) ?_
    refine x_if_le (tgt := 46) (pc := 42) dX12_row_42 (by decide) (fun c => absurd c (by decide)) (fun _ => ?_)
    refine x_return (pc := 45) dX12_row_45 rfl (by decide) ?_
    have e9 : spRow A s h = (1, 0, A) := by
      unfold spRow
      rw [if_pos (Or.inl (by assumption))]
    rw [e9]
    exact ⟨rfl, rfl, rfl, up_s, hR.up3, frM.rf.up (by omega)⟩
