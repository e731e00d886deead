/-! a proof that no parting holds: the reference -/
theorem s_Mproof {l : Launch} {E : aE} {N : Nat} {S : aS} {M : aM} (hfl : l.stackTraces = false) (t s d : Int) (m : Int) (A : aM) (hS : lyM S m) (hR : RM M m A) (hA : TOK (A 0)) (hD : ∀ i, 0 ≤ i → i < 4 → (-1 ≤ A 3 i ∧ A 3 i ≤ 3) ∧ (0 ≤ A 4 i ∧ A 4 i ≤ 40)) : aMt l E pX12_proof [(2, m), (0, t), (0, s), (0, d)] N S M (aG N S (opM M m 0 (spProof A t s d))) := by
  refine a_met hfl rfl (by decide +kernel) (Nat.le_of_ble_eq_true rfl) ?_
  refine x_aload_n (pc := 0) dX12_proof_0 rfl rfl ?_
  refine x_iconst (pc := 1) dX12_proof_1 (by decide) ?_
  refine x_putI (jj := 3) (pc := 2) dX12_proof_2 fX12_103 hS.1 rfl (by decide) rfl ?_
  refine x_memI (fun M1 hM1 => ?_)
  have R1 : RM M1 m A := by rw [hM1]; exact hR.up3
  have F1 : frM M M1 m := by rw [hM1]; exact frM.rf.up (by omega)
  have T1 : M1 m 3 = 0 := by rw [hM1]; exact up_s
  clear hM1
  have e0 : M1 (m + 1) 0 = A 0 0 := R1.1.1 0 (by omega) (by omega)
  have t0 := hA.1
  refine x_iload_n (pc := 5) dX12_proof_5 rfl rfl ?_
  refine x_callS1 (pc := 6) dX12_proof_6 rfl kX12_405 (s_isTray hfl t) rfl (Nat.le_of_ble_eq_true rfl) (k_B (fun q_6 => ?_) (fun q_6 => ?_)) n_B
  · refine x_if_ne (tgt := 18) (pc := 9) dX12_proof_9 (by decide) (fun _ => ?_) (fun c => absurd c (by decide))
    refine x_aload_n (pc := 18) dX12_proof_18 rfl rfl ?_
    refine x_iload_n (pc := 19) dX12_proof_19 rfl rfl ?_
    refine x_callV1 (pc := 20) dX12_proof_20 rfl kX12_383 (s_isFew hfl m s hS (by omega)) hS.1 rfl rfl (Nat.le_of_ble_eq_true rfl) (k_B (fun q_20 => ?_) (fun q_20 => ?_)) n_B
    · rw [e0] at q_20
      refine x_if_eq (tgt := 38) (pc := 23) dX12_proof_23 (by decide) (fun c => absurd c (by decide)) (fun _ => ?_)
      refine x_iload_n (pc := 26) dX12_proof_26 rfl rfl ?_
      refine x_i2l (pc := 27) dX12_proof_27 ?_
      refine x_lconst1 (pc := 28) dX12_proof_28 ?_
      refine x_ldc2 (n := 1000) (pc := 29) cX12_346 (by decide) dX12_proof_29 ?_
      refine x_callS3 (pc := 32) dX12_proof_32 rfl kX12_106 (s_within hfl _ _ _) rfl (Nat.le_of_ble_eq_true rfl) (k_B (fun q_32 => ?_) (fun q_32 => ?_)) n_B
      · refine x_if_ne (tgt := 44) (pc := 35) dX12_proof_35 (by decide) (fun _ => ?_) (fun c => absurd c (by decide))
        have h6 := hA.tq.2.2.2.2.2.1
        have hcc : costV (core (A 0)) = costV (A 0) := costV_fun (core_same (A 0)) (by rw [core_hi (by omega)]; omega)
        have hc := costs_t hA.tq
        have hsl := isSet_lt hA (s := s) (by omega)
        refine x_aload_n (pc := 44) dX12_proof_44 rfl rfl ?_
        refine x_iload_n (pc := 45) dX12_proof_45 rfl rfl ?_
        refine x_callV1 (pc := 46) dX12_proof_46 rfl kX12_328 (s_totalOf hfl m (core (A 0)) hS R1.re (core_tq hA.tq) R1.rp0 (R1.2.2.1.st (by first | omega | exact isSet_0 (by omega) | exact isSet_0 (s := s) (by omega) | exact isSet_0 (s := x) (by omega))) s ⟨by omega, by omega⟩) hS.1 rfl rfl (Nat.le_of_ble_eq_true rfl) (k_G (fun v9 M9 hM9 => ?_)) n_G
        obtain ⟨rfl, f9, p9, c9, b9⟩ := hM9
        have R9 : RM M9 m A := R1.mk9 f9.k p9 c9
        have T9 : M9 m 3 = 0 := (f9 m 3 (by omega) (by omega) (by omega)).trans T1
        have F9 : frM M M9 m := F1.tr f9.k.fr
        rewrite [hcc]
        rewrite [hcc] at b9
        refine x_istore (pc := 49) dX12_proof_49 (by decide) rfl ?_
        have hto := totV_or (c := costV (A 0)) s
        have hlt := totE_lt hc (s := s) (by omega)
        have hDt := hD t (by omega) (by omega)
        refine x_iload (pc := 51) dX12_proof_51 rfl ?_
        refine x_iconst (pc := 53) dX12_proof_53 (by decide) ?_
        refine x_icmp_ne (tgt := 63) (pc := 54) dX12_proof_54 (by decide) (fun c_54 => ?_) (fun c_54 => ?_)
        · refine x_aload_n (pc := 63) dX12_proof_63 rfl rfl ?_
          refine x_getR (jj := 49) (pc := 64) dX12_proof_64 fX12_94 hS.1 rfl (by decide) rfl rM_49 ?_
          refine x_iload_n (pc := 67) dX12_proof_67 rfl rfl ?_
          refine x_ialoadV (pc := 68) dX12_proof_68 (sM_49 hS) (by omega) (by (repeat (first | rewrite [up_s] | rewrite [up_i (by omega)] | rewrite [up_a (by omega)] | rewrite [stM_a (by omega) (by omega)])); first | exact (R9.1.2.2.2.2.1 _ (by omega) (by omega)).1 | exact (R9.1.2.2.2.2.1 _ (by omega) (by omega)).2 | exact R1.1.1 _ (by omega) (by omega) | rfl) (fun g_68 => ?_)
          refine x_iconst (pc := 69) dX12_proof_69 (by decide) ?_
          refine x_icmp_eq (tgt := 84) (pc := 70) dX12_proof_70 (by decide) (fun c_70 => ?_) (fun c_70 => ?_)
          · refine x_iconst (pc := 84) dX12_proof_84 (by decide) ?_
            refine x_zreturn (pc := 85) dX12_proof_85 rfl (by omega) (by decide) ?_
            have e9 : spProof A t s d = (0, 0, A) := by
              unfold spProof
              rw [if_neg (by omega), if_neg (by omega), if_neg (by omega), pfV_a (Or.inl (by assumption))]
            rw [e9]
            exact ⟨_, rfl, rfl, rfl, rfl, T9, fun _ => rfl, R9, F9⟩
          · refine x_aload_n (pc := 73) dX12_proof_73 rfl rfl ?_
            refine x_getR (jj := 50) (pc := 74) dX12_proof_74 fX12_97 hS.1 rfl (by decide) rfl rM_50 ?_
            refine x_iload_n (pc := 77) dX12_proof_77 rfl rfl ?_
            refine x_ialoadV (pc := 78) dX12_proof_78 (sM_50 hS) (by omega) (by (repeat (first | rewrite [up_s] | rewrite [up_i (by omega)] | rewrite [up_a (by omega)] | rewrite [stM_a (by omega) (by omega)])); first | exact (R9.1.2.2.2.2.1 _ (by omega) (by omega)).1 | exact (R9.1.2.2.2.2.1 _ (by omega) (by omega)).2 | exact R1.1.1 _ (by omega) (by omega) | rfl) (fun g_78 => ?_)
            refine x_iconst (pc := 79) dX12_proof_79 (by decide) ?_
            refine x_irem (pc := 80) dX12_proof_80 (by omega) ?_
            refine x_if_eq (tgt := 86) (pc := 81) dX12_proof_81 (by decide) (fun c_81 => ?_) (fun c_81 => ?_)
            · have h3 : A 3 t ≠ -1 := by assumption
              have hev : A 4 t % 2 = 0 := by rw [← tm2 hDt.2.1]; assumption
              have lp := a_loop2 (fun k M2 => (0 ≤ k ∧ 2 * k ≤ A 4 t) ∧ M2 m 3 = 0 ∧ RM M2 m A ∧ frM M M2 m ∧ (∀ j, 0 ≤ j → j < k → pfG A t s j = true) ∧ ∀ h, 0 ≤ h → h < 7 → M2 (m + 19) h = pfC A t h k.toNat) (fun k M2 => (A 4 t - 2 * k).toNat) (fun k M2 => aX l E pX12_proof (aG N S (opM M m 0 (spProof A t s d))) 0 0 N S M2 119 [(0, (2, m)), (1, (0, t)), (2, (0, s)), (3, (0, d)), (4, (0, totV (costV (A 0)) s)), (5, (1, pfS A t k.toNat)), (7, (0, 40 * t + 2 * k))] []) (by
                intro k M2 hJ ih2
                obtain ⟨k1, k3, k4, k5, k6, k7⟩ := hJ
                refine x_iload (pc := 119) dX12_proof_119 rfl ?_
                refine x_bipush (pc := 121) dX12_proof_121 (by decide) ?_
                refine x_iload_n (pc := 123) dX12_proof_123 rfl rfl ?_
                refine x_imul (pc := 124) dX12_proof_124 (by omega) ?_
                refine x_aload_n (pc := 125) dX12_proof_125 rfl rfl ?_
                refine x_getR (jj := 50) (pc := 126) dX12_proof_126 fX12_97 hS.1 rfl (by decide) rfl rM_50 ?_
                refine x_iload_n (pc := 129) dX12_proof_129 rfl rfl ?_
                refine x_ialoadV (pc := 130) dX12_proof_130 (sM_50 hS) (by omega) (by (repeat (first | rewrite [up_s] | rewrite [up_i (by omega)] | rewrite [up_a (by omega)] | rewrite [stM_a (by omega) (by omega)])); first | exact (R9.1.2.2.2.2.1 _ (by omega) (by omega)).1 | exact (R9.1.2.2.2.2.1 _ (by omega) (by omega)).2 | exact (k4.1.2.2.2.2.1 _ (by omega) (by omega)).2 | exact hNX _ k4 | exact hNY _ k4 | exact hNX _ R8 | exact hNY _ R8 | exact hNX _ R7 | exact hNY _ R7 | exact hNX _ R3 | exact hNY _ R3 | exact j4 h (by omega) (by omega) | exact k7 h (by omega) (by omega) | rfl) (fun g_130 => ?_)
                refine x_iadd (pc := 131) dX12_proof_131 (by omega) ?_
                refine x_icmp_ge (tgt := 292) (pc := 132) dX12_proof_132 (by decide) (fun c_132 => ?_) (fun c_132 => ?_)
                · have hk : k.toNat = (A 4 t / 2).toNat := by omega
                  have hps := pfS_r (t := t) (s := s) hA.tq hsl.2 (n := k.toNat) (fun j a b => k6 j a (by omega))
                  rewrite [hk] at hps
                  rewrite [hk]
                  have hm3 : totV (costV (A 0)) s * d ≤ totV (costV (A 0)) s * 1000 := Int.mul_le_mul_of_nonneg_left (by omega) (by omega)
                  have hm4 : 0 ≤ totV (costV (A 0)) s * d := Int.mul_nonneg (by omega) (by omega)
                  have lr := a_loop2 (fun h z => (0 ≤ h ∧ h ≤ 7) ∧ ((z = 1 ∧ pfS A t (A 4 t / 2).toNat < totV (costV (A 0)) s * d ∧ ∀ i, 0 ≤ i → i < h → hb s i = 1 → d ≤ pfC A t i (A 4 t / 2).toNat) ∨ (z = 0 ∧ pfV A t s d = 0))) (fun h z => (7 - h).toNat) (fun h z => aX l E pX12_proof (aG N S (opM M m 0 (spProof A t s d))) 0 0 N S M2 314 [(0, (2, m)), (1, (0, t)), (2, (0, s)), (3, (0, d)), (4, (0, totV (costV (A 0)) s)), (7, (0, z)), (8, (0, h))] []) (by
                    intro h z hJ ih4
                    obtain ⟨j1, j2⟩ := hJ
                    refine x_iload (pc := 314) dX12_proof_314 rfl ?_
                    refine x_bipush (pc := 316) dX12_proof_316 (by decide) ?_
                    refine x_icmp_ge (tgt := 361) (pc := 318) dX12_proof_318 (by decide) (fun c_318 => ?_) (fun c_318 => ?_)
                    · refine x_iload (pc := 361) dX12_proof_361 rfl ?_
                      have hz01 : z = 0 ∨ z = 1 := by rcases j2 with j2 | j2 <;> omega
                      refine x_zreturn (pc := 363) dX12_proof_363 rfl (by omega) (by decide) ?_
                      rcases j2 with ⟨rfl, j2, j3⟩ | ⟨rfl, j2⟩
                      · have e9 : spProof A t s d = (0, pfV A t s d, A) := by
                          unfold spProof
                          rw [if_neg (by omega), if_neg (by omega), if_neg (by omega)]
                        rw [e9, pfV_1 h3 hev (fun j a b => k6 j a (by omega)) (fun i a b w => j3 i a (by omega) w) j2]
                        exact ⟨_, rfl, rfl, rfl, rfl, k3, fun _ => rfl, k4, k5⟩
                      · have e9 : spProof A t s d = (0, pfV A t s d, A) := by
                          unfold spProof
                          rw [if_neg (by omega), if_neg (by omega), if_neg (by omega)]
                        rw [e9, j2]
                        exact ⟨_, rfl, rfl, rfl, rfl, k3, fun _ => rfl, k4, k5⟩
                    · refine x_iload (pc := 321) dX12_proof_321 rfl ?_
                      refine x_if_eq (tgt := 352) (pc := 323) dX12_proof_323 (by decide) (fun c_323 => ?_) (fun c_323 => ?_)
                      · refine x_iconst (pc := 352) dX12_proof_352 (by decide) ?_
                        refine x_istore (pc := 353) dX12_proof_353 (by decide) rfl ?_
                        refine x_iinc (pc := 355) dX12_proof_355 rfl (by omega) (by decide) rfl ?_
                        refine x_goto (tgt := 314) (pc := 358) dX12_proof_358 (by decide) ?_
                        refine x_lo (lo' := [(0, (2, m)), (1, (0, t)), (2, (0, s)), (3, (0, d)), (4, (0, totV (costV (A 0)) s)), (7, (0, 0)), (8, (0, h + 1))]) ⟨rfl, rfl, rfl, rfl, rfl, rfl, rfl, trivial⟩ (ih4 (h + 1) 0 ⟨by omega, ?_⟩ (by omega))
                        exact Or.inr ⟨rfl, j2.elim (fun q => by have := q.1; omega) (fun q => q.2)⟩
                      · refine x_iload_n (pc := 326) dX12_proof_326 rfl rfl ?_
                        refine x_iload (pc := 327) dX12_proof_327 rfl ?_
                        refine x_callS2 (pc := 329) dX12_proof_329 rfl kX12_136 (s_hasM hfl _ _) rfl (Nat.le_of_ble_eq_true rfl) (k_B (fun q_329 => ?_) (fun q_329 => ?_)) n_B
                        · refine x_if_eq (tgt := 348) (pc := 332) dX12_proof_332 (by decide) (fun c => absurd c (by decide)) (fun _ => ?_)
                          refine x_aload_n (pc := 335) dX12_proof_335 rfl rfl ?_
                          refine x_getR (jj := 36) (pc := 336) dX12_proof_336 fX12_69 hS.1 rfl (by decide) rfl rM_36 ?_
                          refine x_iload (pc := 339) dX12_proof_339 rfl ?_
                          refine x_laloadV (pc := 341) dX12_proof_341 (sM_36 hS) (by omega) (by (repeat (first | rewrite [up_s] | rewrite [up_i (by omega)] | rewrite [up_a (by omega)] | rewrite [stM_a (by omega) (by omega)])); first | exact (k7 h (by omega) (by omega)).trans (congrArg _ hk) | rfl) (fun g_341 => ?_)
                          refine x_iload_n (pc := 342) dX12_proof_342 rfl rfl ?_
                          refine x_i2l (pc := 343) dX12_proof_343 ?_
                          refine x_llt (tgt := 352) (pc := 344) dX12_proof_344 dX12_proof_345 (by decide) (fun c_344 => ?_) (fun c_344 => ?_)
                          · refine x_iconst (pc := 352) dX12_proof_352 (by decide) ?_
                            refine x_istore (pc := 353) dX12_proof_353 (by decide) rfl ?_
                            refine x_iinc (pc := 355) dX12_proof_355 rfl (by omega) (by decide) rfl ?_
                            refine x_goto (tgt := 314) (pc := 358) dX12_proof_358 (by decide) ?_
                            refine x_lo (lo' := [(0, (2, m)), (1, (0, t)), (2, (0, s)), (3, (0, d)), (4, (0, totV (costV (A 0)) s)), (7, (0, 0)), (8, (0, h + 1))]) ⟨rfl, rfl, rfl, rfl, rfl, rfl, rfl, trivial⟩ (ih4 (h + 1) 0 ⟨by omega, ?_⟩ (by omega))
                            refine Or.inr ⟨rfl, pfV_c fun q => ?_⟩
                            have := q h (by omega) (by omega) (by assumption)
                            omega
                          · refine x_iconst (pc := 348) dX12_proof_348 (by decide) ?_
                            refine x_goto (tgt := 353) (pc := 349) dX12_proof_349 (by decide) ?_
                            refine x_istore (pc := 353) dX12_proof_353 (by decide) rfl ?_
                            refine x_iinc (pc := 355) dX12_proof_355 rfl (by omega) (by decide) rfl ?_
                            refine x_goto (tgt := 314) (pc := 358) dX12_proof_358 (by decide) ?_
                            refine x_lo (lo' := [(0, (2, m)), (1, (0, t)), (2, (0, s)), (3, (0, d)), (4, (0, totV (costV (A 0)) s)), (7, (0, 1)), (8, (0, h + 1))]) ⟨rfl, rfl, rfl, rfl, rfl, rfl, rfl, trivial⟩ (ih4 (h + 1) 1 ⟨by omega, ?_⟩ (by omega))
                            refine Or.inl ⟨rfl, ?_⟩
                            rcases j2 with j2 | j2
                            · refine ⟨j2.2.1, fun i a b w => ?_⟩
                              by_cases e : i = h
                              · subst e; omega
                              · exact j2.2.2 i a (by omega) w
                            · omega
                        · refine x_if_eq (tgt := 348) (pc := 332) dX12_proof_332 (by decide) (fun _ => ?_) (fun c => absurd c (by decide))
                          refine x_iconst (pc := 348) dX12_proof_348 (by decide) ?_
                          refine x_goto (tgt := 353) (pc := 349) dX12_proof_349 (by decide) ?_
                          refine x_istore (pc := 353) dX12_proof_353 (by decide) rfl ?_
                          refine x_iinc (pc := 355) dX12_proof_355 rfl (by omega) (by decide) rfl ?_
                          refine x_goto (tgt := 314) (pc := 358) dX12_proof_358 (by decide) ?_
                          refine x_lo (lo' := [(0, (2, m)), (1, (0, t)), (2, (0, s)), (3, (0, d)), (4, (0, totV (costV (A 0)) s)), (7, (0, 1)), (8, (0, h + 1))]) ⟨rfl, rfl, rfl, rfl, rfl, rfl, rfl, trivial⟩ (ih4 (h + 1) 1 ⟨by omega, ?_⟩ (by omega))
                          refine Or.inl ⟨rfl, ?_⟩
                          rcases j2 with j2 | j2
                          · refine ⟨j2.2.1, fun i a b w => ?_⟩
                            by_cases e : i = h
                            · subst e; exact absurd w (by assumption)
                            · exact j2.2.2 i a (by omega) w
                          · omega)
                  refine x_lload (pc := 292) dX12_proof_292 rfl ?_
                  refine x_iload (pc := 294) dX12_proof_294 rfl ?_
                  refine x_i2l (pc := 296) dX12_proof_296 ?_
                  refine x_iload_n (pc := 297) dX12_proof_297 rfl rfl ?_
                  refine x_i2l (pc := 298) dX12_proof_298 ?_
                  refine x_lmul (pc := 299) dX12_proof_299 (by omega) ?_
                  refine x_lge (tgt := 308) (pc := 300) dX12_proof_300 dX12_proof_301 (by decide) (fun c_300 => ?_) (fun c_300 => ?_)
                  · refine x_iconst (pc := 308) dX12_proof_308 (by decide) ?_
                    refine x_istore (pc := 309) dX12_proof_309 (by decide) rfl ?_
                    refine x_iconst (pc := 311) dX12_proof_311 (by decide) ?_
                    refine x_istore (pc := 312) dX12_proof_312 (by decide) rfl ?_
                    refine x_lo (lo' := [(0, (2, m)), (1, (0, t)), (2, (0, s)), (3, (0, d)), (4, (0, totV (costV (A 0)) s)), (7, (0, 0)), (8, (0, 0))]) ⟨rfl, rfl, rfl, rfl, rfl, rfl, rfl, trivial⟩ (lr (0) (0) ⟨by omega, Or.inr ⟨rfl, pfV_s (by omega)⟩⟩)
                  · refine x_iconst (pc := 304) dX12_proof_304 (by decide) ?_
                    refine x_goto (tgt := 309) (pc := 305) dX12_proof_305 (by decide) ?_
                    refine x_istore (pc := 309) dX12_proof_309 (by decide) rfl ?_
                    refine x_iconst (pc := 311) dX12_proof_311 (by decide) ?_
                    refine x_istore (pc := 312) dX12_proof_312 (by decide) rfl ?_
                    refine x_lo (lo' := [(0, (2, m)), (1, (0, t)), (2, (0, s)), (3, (0, d)), (4, (0, totV (costV (A 0)) s)), (7, (0, 1)), (8, (0, 0))]) ⟨rfl, rfl, rfl, rfl, rfl, rfl, rfl, trivial⟩ (lr (0) (1) ⟨by omega, Or.inl ⟨rfl, by omega, fun i a b => by omega⟩⟩)
                · have p1 := k1
                  have hNX : ∀ M', RM M' m A → M' (m + 29) (40 * t + 2 * k) = pfX A t k := fun M' z => (z.1.2.2.2.2.2.1 _ (by omega) (by omega))
                  have hNY : ∀ M', RM M' m A → M' (m + 29) (40 * t + 2 * k + 1) = pfY A t k := fun M' z => (z.1.2.2.2.2.2.1 _ (by omega) (by omega))
                  refine x_aload_n (pc := 135) dX12_proof_135 rfl rfl ?_
                  refine x_getR (jj := 51) (pc := 136) dX12_proof_136 fX12_100 hS.1 rfl (by decide) rfl rM_51 ?_
                  refine x_iload (pc := 139) dX12_proof_139 rfl ?_
                  refine x_laloadV (pc := 141) dX12_proof_141 (sM_51 hS) (by omega) (by (repeat (first | rewrite [up_s] | rewrite [up_i (by omega)] | rewrite [up_a (by omega)] | rewrite [stM_a (by omega) (by omega)])); first | exact (R9.1.2.2.2.2.1 _ (by omega) (by omega)).1 | exact (R9.1.2.2.2.2.1 _ (by omega) (by omega)).2 | exact (k4.1.2.2.2.2.1 _ (by omega) (by omega)).2 | exact hNX _ k4 | exact hNY _ k4 | exact hNX _ R8 | exact hNY _ R8 | exact hNX _ R7 | exact hNY _ R7 | exact hNX _ R3 | exact hNY _ R3 | exact j4 h (by omega) (by omega) | exact k7 h (by omega) (by omega) | rfl) (fun g_141 => ?_)
                  refine x_lconst1 (pc := 142) dX12_proof_142 ?_
                  refine x_iload_n (pc := 143) dX12_proof_143 rfl rfl ?_
                  refine x_i2l (pc := 144) dX12_proof_144 ?_
                  refine x_callS3 (pc := 145) dX12_proof_145 rfl kX12_106 (s_within hfl _ _ _) rfl (Nat.le_of_ble_eq_true rfl) (k_B (fun q_145 => ?_) (fun q_145 => ?_)) n_B
                  · refine x_if_eq (tgt := 201) (pc := 148) dX12_proof_148 (by decide) (fun c => absurd c (by decide)) (fun _ => ?_)
                    refine x_aload_n (pc := 151) dX12_proof_151 rfl rfl ?_
                    refine x_getR (jj := 51) (pc := 152) dX12_proof_152 fX12_100 hS.1 rfl (by decide) rfl rM_51 ?_
                    refine x_iload (pc := 155) dX12_proof_155 rfl ?_
                    refine x_laloadV (pc := 157) dX12_proof_157 (sM_51 hS) (by omega) (by (repeat (first | rewrite [up_s] | rewrite [up_i (by omega)] | rewrite [up_a (by omega)] | rewrite [stM_a (by omega) (by omega)])); first | exact (R9.1.2.2.2.2.1 _ (by omega) (by omega)).1 | exact (R9.1.2.2.2.2.1 _ (by omega) (by omega)).2 | exact (k4.1.2.2.2.2.1 _ (by omega) (by omega)).2 | exact hNX _ k4 | exact hNY _ k4 | exact hNX _ R8 | exact hNY _ R8 | exact hNX _ R7 | exact hNY _ R7 | exact hNX _ R3 | exact hNY _ R3 | exact j4 h (by omega) (by omega) | exact k7 h (by omega) (by omega) | rfl) (fun g_157 => ?_)
                    refine x_l2i (pc := 158) dX12_proof_158 ?_
                    rewrite [b_l2i_id ⟨by omega, by omega⟩]
                    refine x_iload_n (pc := 159) dX12_proof_159 rfl rfl ?_
                    refine x_iconst (pc := 160) dX12_proof_160 (by decide) ?_
                    refine x_ixor (pc := 161) dX12_proof_161 ?_
                    refine x_iand (pc := 162) dX12_proof_162 ?_
                    refine x_if_ne (tgt := 201) (pc := 163) dX12_proof_163 (by decide) (fun c_163 => ?_) (fun c_163 => ?_)
                    · refine x_iconst (pc := 201) dX12_proof_201 (by decide) ?_
                      refine x_zreturn (pc := 202) dX12_proof_202 rfl (by omega) (by decide) ?_
                      have hbad : pfG A t s k = false := decide_eq_false (by rintro ⟨u1, u2, u3, u4, u5, u6⟩; first | exact absurd u3 (by assumption) | exact absurd (by assumption) u4 | omega)
                      have e9 : spProof A t s d = (0, 0, A) := by
                        unfold spProof
                        rw [if_neg (by omega), if_neg (by omega), if_neg (by omega), pfV_g (k := k) p1.1 (by omega) hbad]
                      rw [e9]
                      first | exact ⟨_, rfl, rfl, rfl, rfl, k3, fun _ => rfl, k4, k5⟩ | exact ⟨_, rfl, rfl, rfl, rfl, T8, fun _ => rfl, R8, F8⟩
                    · refine x_aload_n (pc := 166) dX12_proof_166 rfl rfl ?_
                      refine x_aload_n (pc := 167) dX12_proof_167 rfl rfl ?_
                      refine x_getR (jj := 51) (pc := 168) dX12_proof_168 fX12_100 hS.1 rfl (by decide) rfl rM_51 ?_
                      refine x_iload (pc := 171) dX12_proof_171 rfl ?_
                      refine x_laloadV (pc := 173) dX12_proof_173 (sM_51 hS) (by omega) (by (repeat (first | rewrite [up_s] | rewrite [up_i (by omega)] | rewrite [up_a (by omega)] | rewrite [stM_a (by omega) (by omega)])); first | exact (R9.1.2.2.2.2.1 _ (by omega) (by omega)).1 | exact (R9.1.2.2.2.2.1 _ (by omega) (by omega)).2 | exact (k4.1.2.2.2.2.1 _ (by omega) (by omega)).2 | exact hNX _ k4 | exact hNY _ k4 | exact hNX _ R8 | exact hNY _ R8 | exact hNX _ R7 | exact hNY _ R7 | exact hNX _ R3 | exact hNY _ R3 | exact j4 h (by omega) (by omega) | exact k7 h (by omega) (by omega) | rfl) (fun g_173 => ?_)
                      refine x_l2i (pc := 174) dX12_proof_174 ?_
                      rewrite [b_l2i_id ⟨by omega, by omega⟩]
                      refine x_callV1 (pc := 175) dX12_proof_175 rfl kX12_307 (s_MWcostOf hfl m (core (A 0)) hS k4.re (core_tq hA.tq) k4.rp0 (k4.2.2.1.st (by first | omega | exact isSet_0 (by omega) | exact isSet_0 (s := s) (by omega) | exact isSet_0 (s := x) (by omega))) (pfX A t k) ⟨by omega, by omega⟩) hS.1 rfl rfl (Nat.le_of_ble_eq_true rfl) (k_G (fun v8 M8 hM8 => ?_)) n_G
                      obtain ⟨rfl, f8, p8, c8⟩ := hM8
                      have R8 : RM M8 m A := k4.mk9 f8.k p8 c8
                      have T8 : M8 m 3 = 0 := (f8 m 3 (by omega) (by omega) (by omega)).trans k3
                      have F8 : frM M M8 m := k5.tr f8.k.fr
                      rewrite [hcc]
                      have hcx := costs_m hA.tq (pfX A t k) ⟨by omega, by omega⟩
                      refine x_iconst (pc := 178) dX12_proof_178 (by decide) ?_
                      refine x_icmp_eq (tgt := 201) (pc := 179) dX12_proof_179 (by decide) (fun c_179 => ?_) (fun c_179 => ?_)
                      · refine x_iconst (pc := 201) dX12_proof_201 (by decide) ?_
                        refine x_zreturn (pc := 202) dX12_proof_202 rfl (by omega) (by decide) ?_
                        have hbad : pfG A t s k = false := decide_eq_false (by rintro ⟨u1, u2, u3, u4, u5, u6⟩; first | exact absurd u3 (by assumption) | exact absurd (by assumption) u4 | omega)
                        have e9 : spProof A t s d = (0, 0, A) := by
                          unfold spProof
                          rw [if_neg (by omega), if_neg (by omega), if_neg (by omega), pfV_g (k := k) p1.1 (by omega) hbad]
                        rw [e9]
                        first | exact ⟨_, rfl, rfl, rfl, rfl, k3, fun _ => rfl, k4, k5⟩ | exact ⟨_, rfl, rfl, rfl, rfl, T8, fun _ => rfl, R8, F8⟩
                      · refine x_aload_n (pc := 182) dX12_proof_182 rfl rfl ?_
                        refine x_getR (jj := 51) (pc := 183) dX12_proof_183 fX12_100 hS.1 rfl (by decide) rfl rM_51 ?_
                        refine x_iload (pc := 186) dX12_proof_186 rfl ?_
                        refine x_iconst (pc := 188) dX12_proof_188 (by decide) ?_
                        refine x_iadd (pc := 189) dX12_proof_189 (by omega) ?_
                        refine x_laloadV (pc := 190) dX12_proof_190 (sM_51 hS) (by omega) (by (repeat (first | rewrite [up_s] | rewrite [up_i (by omega)] | rewrite [up_a (by omega)] | rewrite [stM_a (by omega) (by omega)])); first | exact (R9.1.2.2.2.2.1 _ (by omega) (by omega)).1 | exact (R9.1.2.2.2.2.1 _ (by omega) (by omega)).2 | exact (k4.1.2.2.2.2.1 _ (by omega) (by omega)).2 | exact hNX _ k4 | exact hNY _ k4 | exact hNX _ R8 | exact hNY _ R8 | exact hNX _ R7 | exact hNY _ R7 | exact hNX _ R3 | exact hNY _ R3 | exact j4 h (by omega) (by omega) | exact k7 h (by omega) (by omega) | rfl) (fun g_190 => ?_)
                        refine x_lconst0 (pc := 191) dX12_proof_191 ?_
                        refine x_ldc2 (n := 100000) (pc := 192) cX12_336 (by decide) dX12_proof_192 ?_
                        refine x_callS3 (pc := 195) dX12_proof_195 rfl kX12_106 (s_within hfl _ _ _) rfl (Nat.le_of_ble_eq_true rfl) (k_B (fun q_195 => ?_) (fun q_195 => ?_)) n_B
                        · refine x_if_ne (tgt := 203) (pc := 198) dX12_proof_198 (by decide) (fun _ => ?_) (fun c => absurd c (by decide))
                          have hgk : pfG A t s k = true := decide_eq_true ⟨by omega, by omega, by assumption, by assumption, by omega, by omega⟩
                          have hpm := pf_m (c := costV (A 0) (pfX A t k)) (y := pfY A t k) ⟨by omega, by omega⟩ ⟨by omega, by omega⟩
                          have hps := pfS_r (t := t) (s := s) hA.tq hsl.2 (n := k.toNat) (fun j a b => k6 j a (by omega))
                          rewrite [Int.mul_comm (costV (A 0) (pfX A t k))] at hpm
                          refine x_lload (pc := 203) dX12_proof_203 rfl ?_
                          refine x_aload_n (pc := 205) dX12_proof_205 rfl rfl ?_
                          refine x_getR (jj := 51) (pc := 206) dX12_proof_206 fX12_100 hS.1 rfl (by decide) rfl rM_51 ?_
                          refine x_iload (pc := 209) dX12_proof_209 rfl ?_
                          refine x_iconst (pc := 211) dX12_proof_211 (by decide) ?_
                          refine x_iadd (pc := 212) dX12_proof_212 (by omega) ?_
                          refine x_laloadV (pc := 213) dX12_proof_213 (sM_51 hS) (by omega) (by (repeat (first | rewrite [up_s] | rewrite [up_i (by omega)] | rewrite [up_a (by omega)] | rewrite [stM_a (by omega) (by omega)])); first | exact (R9.1.2.2.2.2.1 _ (by omega) (by omega)).1 | exact (R9.1.2.2.2.2.1 _ (by omega) (by omega)).2 | exact (k4.1.2.2.2.2.1 _ (by omega) (by omega)).2 | exact hNX _ k4 | exact hNY _ k4 | exact hNX _ R8 | exact hNY _ R8 | exact hNX _ R7 | exact hNY _ R7 | exact hNX _ R3 | exact hNY _ R3 | exact j4 h (by omega) (by omega) | exact k7 h (by omega) (by omega) | rfl) (fun g_213 => ?_)
                          refine x_aload_n (pc := 214) dX12_proof_214 rfl rfl ?_
                          refine x_aload_n (pc := 215) dX12_proof_215 rfl rfl ?_
                          refine x_getR (jj := 51) (pc := 216) dX12_proof_216 fX12_100 hS.1 rfl (by decide) rfl rM_51 ?_
                          refine x_iload (pc := 219) dX12_proof_219 rfl ?_
                          refine x_laloadV (pc := 221) dX12_proof_221 (sM_51 hS) (by omega) (by (repeat (first | rewrite [up_s] | rewrite [up_i (by omega)] | rewrite [up_a (by omega)] | rewrite [stM_a (by omega) (by omega)])); first | exact (R9.1.2.2.2.2.1 _ (by omega) (by omega)).1 | exact (R9.1.2.2.2.2.1 _ (by omega) (by omega)).2 | exact (k4.1.2.2.2.2.1 _ (by omega) (by omega)).2 | exact hNX _ k4 | exact hNY _ k4 | exact hNX _ R8 | exact hNY _ R8 | exact hNX _ R7 | exact hNY _ R7 | exact hNX _ R3 | exact hNY _ R3 | exact j4 h (by omega) (by omega) | exact k7 h (by omega) (by omega) | rfl) (fun g_221 => ?_)
                          refine x_l2i (pc := 222) dX12_proof_222 ?_
                          rewrite [b_l2i_id ⟨by omega, by omega⟩]
                          refine x_callV1 (pc := 223) dX12_proof_223 rfl kX12_307 (s_MWcostOf hfl m (core (A 0)) hS R8.re (core_tq hA.tq) R8.rp0 (R8.2.2.1.st (by first | omega | exact isSet_0 (by omega) | exact isSet_0 (s := s) (by omega) | exact isSet_0 (s := x) (by omega))) (pfX A t k) ⟨by omega, by omega⟩) hS.1 rfl rfl (Nat.le_of_ble_eq_true rfl) (k_G (fun v7 M7 hM7 => ?_)) n_G
                          obtain ⟨rfl, f7, p7, c7⟩ := hM7
                          have R7 : RM M7 m A := R8.mk9 f7.k p7 c7
                          have T7 : M7 m 3 = 0 := (f7 m 3 (by omega) (by omega) (by omega)).trans T8
                          have F7 : frM M M7 m := F8.tr f7.k.fr
                          rewrite [hcc]
                          have hcx := costs_m hA.tq (pfX A t k) ⟨by omega, by omega⟩
                          refine x_i2l (pc := 226) dX12_proof_226 ?_
                          refine x_lmul (pc := 227) dX12_proof_227 (by omega) ?_
                          refine x_ladd (pc := 228) dX12_proof_228 (by omega) ?_
                          have f87 := f8.tr f7
                          refine x_lstore (pc := 229) dX12_proof_229 (by decide) rfl ?_
                          refine x_iconst (pc := 231) dX12_proof_231 (by decide) ?_
                          refine x_istore (pc := 232) dX12_proof_232 (by decide) rfl ?_
                          have lq := a_loop2 (fun h M3 => (0 ≤ h ∧ h ≤ 7) ∧ (∀ a i, a ≠ m + 19 → M3 a i = M7 a i) ∧ (∀ i, 0 ≤ i → i < h → M3 (m + 19) i = pfC A t i k.toNat + if hb (pfX A t k) i = 1 then pfY A t k else 0) ∧ ∀ i, h ≤ i → i < 7 → M3 (m + 19) i = pfC A t i k.toNat) (fun h M3 => (7 - h).toNat) (fun h M3 => aX l E pX12_proof (aG N S (opM M m 0 (spProof A t s d))) 0 0 N S M3 234 [(0, (2, m)), (1, (0, t)), (2, (0, s)), (3, (0, d)), (4, (0, totV (costV (A 0)) s)), (5, (1, pfS A t k.toNat + pfY A t k * costV (A 0) (pfX A t k))), (7, (0, 40 * t + 2 * k)), (8, (0, h))] []) (by
                            intro h M3 hJ ih3
                            obtain ⟨j1, j2, j3, j4⟩ := hJ
                            have R3 : RM M3 m A := R7.mk9w (fun a i x y z => j2 a i (by omega)) (RP0.cg R7.rp0 fun a i x => j2 a i (by omega)) (RCw.cg R7.2.2.1 fun i => j2 _ i (by omega))
                            refine x_iload (pc := 234) dX12_proof_234 rfl ?_
                            refine x_bipush (pc := 236) dX12_proof_236 (by decide) ?_
                            refine x_icmp_ge (tgt := 286) (pc := 238) dX12_proof_238 (by decide) (fun c_238 => ?_) (fun c_238 => ?_)
                            · refine x_iinc (pc := 286) dX12_proof_286 rfl (by omega) (by decide) rfl ?_
                              refine x_goto (tgt := 119) (pc := 289) dX12_proof_289 (by decide) ?_
                              have e := sumN_1 (fun k => costV (A 0) (pfX A t k) * pfY A t k) p1.1
                              refine x_lo (lo' := [(0, (2, m)), (1, (0, t)), (2, (0, s)), (3, (0, d)), (4, (0, totV (costV (A 0)) s)), (5, (1, pfS A t (k + 1).toNat)), (7, (0, 40 * t + 2 * k + 2))]) ⟨rfl, rfl, rfl, rfl, rfl, ?_, rfl, trivial⟩ ?_
                              · show some (1, pfS A t k.toNat + pfY A t k * costV (A 0) (pfX A t k)) = some (1, pfS A t (k + 1).toNat)
                                rw [Int.mul_comm (pfY A t k)]
                                exact congrArg (fun z => some (1, z)) e.symm
                              rewrite [show 40 * t + 2 * k + 2 = 40 * t + 2 * (k + 1) by omega]
                              refine ih2 (k + 1) M3 ⟨by omega, (j2 m 3 (by omega)).trans T7, R3, F7.tr (fun a i x => j2 a i (by omega)), fun j a b => ?_, fun h a b => ?_⟩ (by omega)
                              · by_cases e2 : j = k
                                · subst e2; exact hgk
                                · exact k6 j a (by omega)
                              · rw [j3 h a (by omega)]
                                exact (sumN_1 (fun k => if hb (pfX A t k) h = 1 then pfY A t k else 0) p1.1).symm
                            · refine x_aload_n (pc := 241) dX12_proof_241 rfl rfl ?_
                              refine x_getR (jj := 36) (pc := 242) dX12_proof_242 fX12_69 hS.1 rfl (by decide) rfl rM_36 ?_
                              refine x_iload (pc := 245) dX12_proof_245 rfl ?_
                              refine x_dup2 (pc := 247) dX12_proof_247 rfl rfl ?_
                              refine x_laloadV (pc := 248) dX12_proof_248 (sM_36 hS) (by omega) (by (repeat (first | rewrite [up_s] | rewrite [up_i (by omega)] | rewrite [up_a (by omega)] | rewrite [stM_a (by omega) (by omega)])); first | exact (R9.1.2.2.2.2.1 _ (by omega) (by omega)).1 | exact (R9.1.2.2.2.2.1 _ (by omega) (by omega)).2 | exact (k4.1.2.2.2.2.1 _ (by omega) (by omega)).2 | exact hNX _ k4 | exact hNY _ k4 | exact hNX _ R8 | exact hNY _ R8 | exact hNX _ R7 | exact hNY _ R7 | exact hNX _ R3 | exact hNY _ R3 | exact j4 h (by omega) (by omega) | exact k7 h (by omega) (by omega) | rfl) (fun g_248 => ?_)
                              refine x_aload_n (pc := 249) dX12_proof_249 rfl rfl ?_
                              refine x_getR (jj := 51) (pc := 250) dX12_proof_250 fX12_100 hS.1 rfl (by decide) rfl rM_51 ?_
                              refine x_iload (pc := 253) dX12_proof_253 rfl ?_
                              refine x_laloadV (pc := 255) dX12_proof_255 (sM_51 hS) (by omega) (by (repeat (first | rewrite [up_s] | rewrite [up_i (by omega)] | rewrite [up_a (by omega)] | rewrite [stM_a (by omega) (by omega)])); first | exact (R9.1.2.2.2.2.1 _ (by omega) (by omega)).1 | exact (R9.1.2.2.2.2.1 _ (by omega) (by omega)).2 | exact (k4.1.2.2.2.2.1 _ (by omega) (by omega)).2 | exact hNX _ k4 | exact hNY _ k4 | exact hNX _ R8 | exact hNY _ R8 | exact hNX _ R7 | exact hNY _ R7 | exact hNX _ R3 | exact hNY _ R3 | exact j4 h (by omega) (by omega) | exact k7 h (by omega) (by omega) | rfl) (fun g_255 => ?_)
                              refine x_l2i (pc := 256) dX12_proof_256 ?_
                              rewrite [b_l2i_id ⟨by omega, by omega⟩]
                              refine x_iload (pc := 257) dX12_proof_257 rfl ?_
                              refine x_callS2 (pc := 259) dX12_proof_259 rfl kX12_136 (s_hasM hfl _ _) rfl (Nat.le_of_ble_eq_true rfl) (k_B (fun q_259 => ?_) (fun q_259 => ?_)) n_B
                              · refine x_if_eq (tgt := 277) (pc := 262) dX12_proof_262 (by decide) (fun c => absurd c (by decide)) (fun _ => ?_)
                                refine x_aload_n (pc := 265) dX12_proof_265 rfl rfl ?_
                                refine x_getR (jj := 51) (pc := 266) dX12_proof_266 fX12_100 hS.1 rfl (by decide) rfl rM_51 ?_
                                refine x_iload (pc := 269) dX12_proof_269 rfl ?_
                                refine x_iconst (pc := 271) dX12_proof_271 (by decide) ?_
                                refine x_iadd (pc := 272) dX12_proof_272 (by omega) ?_
                                refine x_laloadV (pc := 273) dX12_proof_273 (sM_51 hS) (by omega) (by (repeat (first | rewrite [up_s] | rewrite [up_i (by omega)] | rewrite [up_a (by omega)] | rewrite [stM_a (by omega) (by omega)])); first | exact (R9.1.2.2.2.2.1 _ (by omega) (by omega)).1 | exact (R9.1.2.2.2.2.1 _ (by omega) (by omega)).2 | exact (k4.1.2.2.2.2.1 _ (by omega) (by omega)).2 | exact hNX _ k4 | exact hNY _ k4 | exact hNX _ R8 | exact hNY _ R8 | exact hNX _ R7 | exact hNY _ R7 | exact hNX _ R3 | exact hNY _ R3 | exact j4 h (by omega) (by omega) | exact k7 h (by omega) (by omega) | rfl) (fun g_273 => ?_)
                                refine x_goto (tgt := 278) (pc := 274) dX12_proof_274 (by decide) ?_
                                have hcr := pfC_r (A := A) (t := t) (s := s) (h := h) (n := k.toNat) (fun j a b => k6 j a (by omega))
                                refine x_ladd (pc := 278) dX12_proof_278 (by omega) ?_
                                refine x_lastore (pc := 279) dX12_proof_279 (sM_36 hS) (by omega) ?_
                                refine x_iinc (pc := 280) dX12_proof_280 rfl (by omega) (by decide) rfl ?_
                                refine x_goto (tgt := 234) (pc := 283) dX12_proof_283 (by decide) ?_
                                refine x_lo (lo' := [(0, (2, m)), (1, (0, t)), (2, (0, s)), (3, (0, d)), (4, (0, totV (costV (A 0)) s)), (5, (1, pfS A t k.toNat + pfY A t k * costV (A 0) (pfX A t k))), (7, (0, 40 * t + 2 * k)), (8, (0, (h + 1)))]) ⟨rfl, rfl, rfl, rfl, rfl, rfl, rfl, rfl, trivial⟩ (ih3 (h + 1) _ ⟨by omega, fun a i x => (up_a x).trans (j2 a i x), fun i a b => ?_, fun i a b => (up_i (by omega)).trans (j4 i (by omega) b)⟩ (by omega))
                                by_cases e : i = h
                                · subst e; rw [up_s, if_pos (by assumption)]
                                · exact (up_i e).trans (j3 i a (by omega))
                              · refine x_if_eq (tgt := 277) (pc := 262) dX12_proof_262 (by decide) (fun _ => ?_) (fun c => absurd c (by decide))
                                refine x_lconst0 (pc := 277) dX12_proof_277 ?_
                                have hcr := pfC_r (A := A) (t := t) (s := s) (h := h) (n := k.toNat) (fun j a b => k6 j a (by omega))
                                refine x_ladd (pc := 278) dX12_proof_278 (by omega) ?_
                                refine x_lastore (pc := 279) dX12_proof_279 (sM_36 hS) (by omega) ?_
                                refine x_iinc (pc := 280) dX12_proof_280 rfl (by omega) (by decide) rfl ?_
                                refine x_goto (tgt := 234) (pc := 283) dX12_proof_283 (by decide) ?_
                                refine x_lo (lo' := [(0, (2, m)), (1, (0, t)), (2, (0, s)), (3, (0, d)), (4, (0, totV (costV (A 0)) s)), (5, (1, pfS A t k.toNat + pfY A t k * costV (A 0) (pfX A t k))), (7, (0, 40 * t + 2 * k)), (8, (0, (h + 1)))]) ⟨rfl, rfl, rfl, rfl, rfl, rfl, rfl, rfl, trivial⟩ (ih3 (h + 1) _ ⟨by omega, fun a i x => (up_a x).trans (j2 a i x), fun i a b => ?_, fun i a b => (up_i (by omega)).trans (j4 i (by omega) b)⟩ (by omega))
                                by_cases e : i = h
                                · subst e; rw [up_s, if_neg (by assumption)]
                                · exact (up_i e).trans (j3 i a (by omega)))
                          refine x_lo (lo' := [(0, (2, m)), (1, (0, t)), (2, (0, s)), (3, (0, d)), (4, (0, totV (costV (A 0)) s)), (5, (1, pfS A t k.toNat + pfY A t k * costV (A 0) (pfX A t k))), (7, (0, 40 * t + 2 * k)), (8, (0, 0))]) ⟨rfl, rfl, rfl, rfl, rfl, rfl, rfl, rfl, trivial⟩ (lq (0) _ ⟨by omega, fun _ _ _ => rfl, fun i a b => by omega, fun i a b => (f87 _ _ (by omega) (by omega) (by omega)).trans (k7 i a b)⟩)
                        · refine x_if_ne (tgt := 203) (pc := 198) dX12_proof_198 (by decide) (fun c => absurd c (by decide)) (fun _ => ?_)
                          refine x_iconst (pc := 201) dX12_proof_201 (by decide) ?_
                          refine x_zreturn (pc := 202) dX12_proof_202 rfl (by omega) (by decide) ?_
                          have hbad : pfG A t s k = false := decide_eq_false (by rintro ⟨u1, u2, u3, u4, u5, u6⟩; first | exact absurd u3 (by assumption) | exact absurd (by assumption) u4 | omega)
                          have e9 : spProof A t s d = (0, 0, A) := by
                            unfold spProof
                            rw [if_neg (by omega), if_neg (by omega), if_neg (by omega), pfV_g (k := k) p1.1 (by omega) hbad]
                          rw [e9]
                          first | exact ⟨_, rfl, rfl, rfl, rfl, k3, fun _ => rfl, k4, k5⟩ | exact ⟨_, rfl, rfl, rfl, rfl, T8, fun _ => rfl, R8, F8⟩
                  · refine x_if_eq (tgt := 201) (pc := 148) dX12_proof_148 (by decide) (fun _ => ?_) (fun c => absurd c (by decide))
                    refine x_iconst (pc := 201) dX12_proof_201 (by decide) ?_
                    refine x_zreturn (pc := 202) dX12_proof_202 rfl (by omega) (by decide) ?_
                    have hbad : pfG A t s k = false := decide_eq_false (by rintro ⟨u1, u2, u3, u4, u5, u6⟩; first | exact absurd u3 (by assumption) | exact absurd (by assumption) u4 | omega)
                    have e9 : spProof A t s d = (0, 0, A) := by
                      unfold spProof
                      rw [if_neg (by omega), if_neg (by omega), if_neg (by omega), pfV_g (k := k) p1.1 (by omega) hbad]
                    rw [e9]
                    first | exact ⟨_, rfl, rfl, rfl, rfl, k3, fun _ => rfl, k4, k5⟩ | exact ⟨_, rfl, rfl, rfl, rfl, T8, fun _ => rfl, R8, F8⟩)
              have lz := a_loop2 (fun h M3 => (0 ≤ h ∧ h ≤ 7) ∧ (∀ a i, a ≠ m + 19 → M3 a i = M9 a i) ∧ ∀ i, 0 ≤ i → i < h → M3 (m + 19) i = 0) (fun h M3 => (7 - h).toNat) (fun h M3 => aX l E pX12_proof (aG N S (opM M m 0 (spProof A t s d))) 0 0 N S M3 89 [(0, (2, m)), (1, (0, t)), (2, (0, s)), (3, (0, d)), (4, (0, totV (costV (A 0)) s)), (5, (0, h))] []) (by
                intro h M3 hJ ih5
                obtain ⟨j1, j2, j3⟩ := hJ
                refine x_iload (pc := 89) dX12_proof_89 rfl ?_
                refine x_bipush (pc := 91) dX12_proof_91 (by decide) ?_
                refine x_icmp_ge (tgt := 110) (pc := 93) dX12_proof_93 (by decide) (fun c_93 => ?_) (fun c_93 => ?_)
                · refine x_lconst0 (pc := 110) dX12_proof_110 ?_
                  refine x_lstore (pc := 111) dX12_proof_111 (by decide) rfl ?_
                  refine x_bipush (pc := 113) dX12_proof_113 (by decide) ?_
                  refine x_iload_n (pc := 115) dX12_proof_115 rfl rfl ?_
                  refine x_imul (pc := 116) dX12_proof_116 (by omega) ?_
                  refine x_istore (pc := 117) dX12_proof_117 (by decide) rfl ?_
                  have R3 : RM M3 m A := R9.mk9w (fun a i x y z => j2 a i (by omega)) (RP0.cg R9.rp0 fun a i x => j2 a i (by omega)) (RCw.cg R9.2.2.1 fun i => j2 _ i (by omega))
                  refine x_lo (lo' := [(0, (2, m)), (1, (0, t)), (2, (0, s)), (3, (0, d)), (4, (0, totV (costV (A 0)) s)), (5, (1, pfS A t (0 : Int).toNat)), (7, (0, 40 * t + 2 * 0))]) ⟨rfl, rfl, rfl, rfl, rfl, rfl, by rw [show 40 * t + 2 * 0 = 40 * t by omega]; rfl, trivial⟩ (lp (0) _ ⟨by omega, (j2 m 3 (by omega)).trans T9, R3, F9.tr (fun a i x => j2 a i (by omega)), fun j a b => by omega, fun i a b => j3 i a (by omega)⟩)
                · refine x_aload_n (pc := 96) dX12_proof_96 rfl rfl ?_
                  refine x_getR (jj := 36) (pc := 97) dX12_proof_97 fX12_69 hS.1 rfl (by decide) rfl rM_36 ?_
                  refine x_iload (pc := 100) dX12_proof_100 rfl ?_
                  refine x_lconst0 (pc := 102) dX12_proof_102 ?_
                  refine x_lastore (pc := 103) dX12_proof_103 (sM_36 hS) (by omega) ?_
                  refine x_iinc (pc := 104) dX12_proof_104 rfl (by omega) (by decide) rfl ?_
                  refine x_goto (tgt := 89) (pc := 107) dX12_proof_107 (by decide) ?_
                  refine x_lo (lo' := [(0, (2, m)), (1, (0, t)), (2, (0, s)), (3, (0, d)), (4, (0, totV (costV (A 0)) s)), (5, (0, (h + 1)))]) ⟨rfl, rfl, rfl, rfl, rfl, rfl, trivial⟩ (ih5 (h + 1) _ ⟨by omega, fun a i x => (up_a x).trans (j2 a i x), fun i a b => ?_⟩ (by omega))
                  by_cases e : i = h
                  · subst e; exact up_s
                  · exact (up_i e).trans (j3 i a (by omega)))
              refine x_iconst (pc := 86) dX12_proof_86 (by decide) ?_
              refine x_istore (pc := 87) dX12_proof_87 (by decide) rfl ?_
              refine x_lo (lo' := [(0, (2, m)), (1, (0, t)), (2, (0, s)), (3, (0, d)), (4, (0, totV (costV (A 0)) s)), (5, (0, 0))]) ⟨rfl, rfl, rfl, rfl, rfl, rfl, trivial⟩ (lz (0) _ ⟨by omega, fun _ _ _ => rfl, fun i a b => by omega⟩)
            · refine x_iconst (pc := 84) dX12_proof_84 (by decide) ?_
              refine x_zreturn (pc := 85) dX12_proof_85 rfl (by omega) (by decide) ?_
              have e9 : spProof A t s d = (0, 0, A) := by
                unfold spProof
                rw [if_neg (by omega), if_neg (by omega), if_neg (by omega), pfV_a (Or.inr (by rw [← tm2 hDt.2.1]; assumption))]
              rw [e9]
              exact ⟨_, rfl, rfl, rfl, rfl, T9, fun _ => rfl, R9, F9⟩
        · refine x_aload_n (pc := 57) dX12_proof_57 rfl rfl ?_
          refine x_iconst (pc := 58) dX12_proof_58 (by decide) ?_
          refine x_callV1 (pc := 59) dX12_proof_59 rfl kX12_133 (s_fell hfl m _ hS) hS.1 rfl rfl (Nat.le_of_ble_eq_true rfl) (k_G (fun v9 M9 hM9 => ?_)) n_G
          obtain ⟨rfl, rfl⟩ := hM9
          refine x_zreturn (pc := 62) dX12_proof_62 rfl (by omega) (by decide) ?_
          have e9 : spProof A t s d = (3, 0, A) := by
            unfold spProof
            rw [if_neg (by omega), if_neg (by omega), if_pos (by omega)]
          rw [e9]
          exact ⟨_, rfl, rfl, rfl, rfl, up_s, fun q => absurd q (show ¬ (3 : Int) = 0 by decide), R9.up3, F9.up (by omega)⟩
      · refine x_if_ne (tgt := 44) (pc := 35) dX12_proof_35 (by decide) (fun c => absurd c (by decide)) (fun _ => ?_)
        refine x_aload_n (pc := 38) dX12_proof_38 rfl rfl ?_
        refine x_iconst (pc := 39) dX12_proof_39 (by decide) ?_
        refine x_callV1 (pc := 40) dX12_proof_40 rfl kX12_133 (s_fell hfl m _ hS) hS.1 rfl rfl (Nat.le_of_ble_eq_true rfl) (k_G (fun v9 M9 hM9 => ?_)) n_G
        obtain ⟨rfl, rfl⟩ := hM9
        refine x_zreturn (pc := 43) dX12_proof_43 rfl (by omega) (by decide) ?_
        have e9 : spProof A t s d = (2, 0, A) := by
          unfold spProof
          (repeat' split) <;> first | rfl | (exfalso; omega)
        rw [e9]
        exact ⟨_, rfl, rfl, rfl, rfl, up_s, fun q => absurd q (show ¬ (2 : Int) = 0 by decide), R1.up3, F1.up (by omega)⟩
    · rw [e0] at q_20
      refine x_if_eq (tgt := 38) (pc := 23) dX12_proof_23 (by decide) (fun _ => ?_) (fun c => absurd c (by decide))
      refine x_aload_n (pc := 38) dX12_proof_38 rfl rfl ?_
      refine x_iconst (pc := 39) dX12_proof_39 (by decide) ?_
      refine x_callV1 (pc := 40) dX12_proof_40 rfl kX12_133 (s_fell hfl m _ hS) hS.1 rfl rfl (Nat.le_of_ble_eq_true rfl) (k_G (fun v9 M9 hM9 => ?_)) n_G
      obtain ⟨rfl, rfl⟩ := hM9
      refine x_zreturn (pc := 43) dX12_proof_43 rfl (by omega) (by decide) ?_
      have e9 : spProof A t s d = (2, 0, A) := by
        unfold spProof
        (repeat' split) <;> first | rfl | (exfalso; omega)
      rw [e9]
      exact ⟨_, rfl, rfl, rfl, rfl, up_s, fun q => absurd q (show ¬ (2 : Int) = 0 by decide), R1.up3, F1.up (by omega)⟩
  · refine x_if_ne (tgt := 18) (pc := 9) dX12_proof_9 (by decide) (fun c => absurd c (by decide)) (fun _ => ?_)
    refine x_aload_n (pc := 12) dX12_proof_12 rfl rfl ?_
    refine x_iconst (pc := 13) dX12_proof_13 (by decide) ?_
    refine x_callV1 (pc := 14) dX12_proof_14 rfl kX12_133 (s_fell hfl m _ hS) hS.1 rfl rfl (Nat.le_of_ble_eq_true rfl) (k_G (fun v9 M9 hM9 => ?_)) n_G
    obtain ⟨rfl, rfl⟩ := hM9
    refine x_zreturn (pc := 17) dX12_proof_17 rfl (by omega) (by decide) ?_
    have e9 : spProof A t s d = (1, 0, A) := by
      unfold spProof
      (repeat' split) <;> first | rfl | (exfalso; omega)
    rw [e9]
    exact ⟨_, rfl, rfl, rfl, rfl, up_s, fun q => absurd q (show ¬ (1 : Int) = 0 by decide), R1.up3, F1.up (by omega)⟩
