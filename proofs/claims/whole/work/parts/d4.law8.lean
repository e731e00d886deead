/-! THE LAW: its cases -/
theorem dL_law_2520 : decode code 2520 = .ok (.aload_n 1, 1) := by decide +kernel
theorem dL_law_2521 : decode code 2521 = .ok (.aload_n 0, 1) := by decide +kernel
theorem dL_law_2522 : decode code 2522 = .ok (.iload 4, 2) := by decide +kernel
theorem dL_law_2524 : decode code 2524 = .ok (.iconst 1, 1) := by decide +kernel
theorem dL_law_2525 : decode code 2525 = .ok (.iadd, 1) := by decide +kernel
theorem dL_law_2526 : decode code 2526 = .ok (.iaload, 1) := by decide +kernel
theorem dL_law_2527 : decode code 2527 = .ok (.invokestatic 267, 3) := by decide +kernel
theorem dL_law_2530 : decode code 2530 = .ok (.istore 5, 2) := by decide +kernel
theorem dL_law_2532 : decode code 2532 = .ok (.aload_n 2, 1) := by decide +kernel
theorem dL_law_2533 : decode code 2533 = .ok (.aload_n 0, 1) := by decide +kernel
theorem dL_law_2534 : decode code 2534 = .ok (.iload 4, 2) := by decide +kernel
theorem dL_law_2536 : decode code 2536 = .ok (.iconst 1, 1) := by decide +kernel
theorem dL_law_2537 : decode code 2537 = .ok (.iadd, 1) := by decide +kernel
theorem dL_law_2538 : decode code 2538 = .ok (.iaload, 1) := by decide +kernel
theorem dL_law_2539 : decode code 2539 = .ok (.invokevirtual 270, 3) := by decide +kernel
theorem dL_law_2542 : decode code 2542 = .ok (.aload_n 2, 1) := by decide +kernel
theorem dL_law_2543 : decode code 2543 = .ok (.invokevirtual 142, 3) := by decide +kernel
theorem dL_law_2546 : decode code 2546 = .ok (.iload 5, 2) := by decide +kernel
theorem dL_law_2548 : decode code 2548 = .ok (.if_icmp .eq 5, 3) := by decide +kernel
theorem dL_law_2551 : decode code 2551 = .ok (.iconst 0, 1) := by decide +kernel
theorem dL_law_2552 : decode code 2552 = .ok (.ireturn, 1) := by decide +kernel
theorem dL_law_2553 : decode code 2553 = .ok (.goto 64, 3) := by decide +kernel
theorem kLH_267 : a_kSH RL 267 pL_image 2 := ⟨(lw_ok_in (List.mem_of_getElem? (i := 1512) (by decide +kernel)) rfl), (lw_ok_in (List.mem_of_getElem? (i := 109) (by decide +kernel)) rfl), by decide +kernel, (lw_ok_in (List.mem_of_getElem? (i := 1510) (by decide +kernel)) rfl), (lw_ok_in (List.mem_of_getElem? (i := 1511) (by decide +kernel)) rfl)⟩
theorem kL_270 : a_kV RL 270 pX12_image 1 := ⟨cbX12_image, (lw_ok_in (List.mem_of_getElem? (i := 2110) (by decide +kernel)) rfl), (lw_ok_in (List.mem_of_getElem? (i := 2111) (by decide +kernel)) rfl), (lw_ok_in (List.mem_of_getElem? (i := 2112) (by decide +kernel)) rfl)⟩
theorem case_image {l : Launch} {E : aE} {hh : List (Nat × Nat × Nat × Nat)} {n N : Nat} {S : aS} {M A : aM} (hfl : l.stackTraces = false) (h42 : E.2.2.2 42 ≤ 3072) (hi : 6 * (n : Int) + 6 ≤ (E.2.2.2 42 : Int)) (hW : LWI N S M A) (hN9 : N ≤ 140 + 15 * n) (tail : lawTail l E hh n) : aX l E (pL_law hh) QL (200 + 40 * n) (20000 + 400 * n) N S M 2520 [(0, (2, -43)), (1, (2, 0)), (2, (2, 109)), (3, (2, 139)), (4, (0, 6 * (n : Int)))] [] := by
  obtain ⟨hN0, hC, hS9, hO, hR, hRM, hI⟩ := id hW
  have hM := hS9
  have hn : n ≤ 511 := by omega
  refine x_aload_n (pc := 2520) dL_law_2520 rfl rfl ?_
  refine x_aload_n (pc := 2521) dL_law_2521 rfl rfl ?_
  refine x_iload (pc := 2522) dL_law_2522 rfl ?_
  refine x_iconst (pc := 2524) dL_law_2524 (by decide) ?_
  refine x_iadd (pc := 2525) dL_law_2525 (by omega) ?_
  refine x_sld (pc := 2526) dL_law_2526 ⟨by omega, by omega⟩ ?_
  refine x_callS2H (pc := 2527) dL_law_2527 kLH_267 (h_image hfl (a_scr E (6 * (n : Int) + 1)) A hW (by omega)) (a_rmL rfl rfl (by show 200 + 40 * n + 16 ≤ 601024; omega) (by show 20000 + 400 * n + 189 ≤ 7293034; omega)) (Nat.le_of_ble_eq_true rfl) (k_hQv (fun N9 S9 M9 g1 g2 g3 f9 R9 => ?_)) n_hQv
  refine x_room (kc' := 220 + 40 * n) (ks' := 20200 + 400 * n) (by show 200 + 40 * n + 16 ≤ 220 + 40 * n; omega) (by show 20000 + 400 * n + 189 ≤ 20200 + 400 * n; omega) ?_
  have hC9 : lyC S9 := hC.cg fun k a b => g3 k (by omega)
  have hM9 : lyM S9 109 := hM.cg fun k a b => g3 k (by omega)
  have hO9 : S9 139 = (14, 1, rN) := (g3 139 (by omega)).trans hO
  have RM9 : RM M9 109 A := hRM.cgo fun a p q i => f9 a i (by omega) (by omega)
  refine x_istore (pc := 2530) dL_law_2530 (by show _ < 8; decide) rfl ?_
  refine x_aload_n (pc := 2532) dL_law_2532 rfl rfl ?_
  refine x_aload_n (pc := 2533) dL_law_2533 rfl rfl ?_
  refine x_iload (pc := 2534) dL_law_2534 rfl ?_
  refine x_iconst (pc := 2536) dL_law_2536 (by decide) ?_
  refine x_iadd (pc := 2537) dL_law_2537 (by omega) ?_
  refine x_sld (pc := 2538) dL_law_2538 ⟨by omega, by omega⟩ ?_
  refine x_callV1N (pc := 2539) dL_law_2539 kL_270 (s_Mimage hfl (a_scr E (6 * (n : Int) + 1)) 109 A hM9 RM9 hI.1) hM9.1 rfl (a_rmL rfl rfl (by show 220 + 40 * n + 0 ≤ 601024; omega) (by show 20200 + 400 * n + 0 ≤ 7293034; omega)) (Nat.le_of_ble_eq_true rfl) (k_U (fun M8 hM8 => ?_)) n_UN
  obtain ⟨t8, R8, F8⟩ := hM8
  have RC8 : RC M8 N9 S9 (spImage A (a_scr E (6 * (n : Int) + 1))).2.2 := R9.cgo fun a q i => F8 a i (by omega)
  refine x_aload_n (pc := 2542) dL_law_2542 rfl rfl ?_
  refine x_callV0N (pc := 2543) dL_law_2543 kL_142 (s_thrown hfl 109 hM9) hM9.1 rfl (a_rmL rfl rfl (by show 220 + 40 * n + 0 + 0 ≤ 601024; omega) (by show 20200 + 400 * n + 0 + 0 ≤ 7293034; omega)) (Nat.le_of_ble_eq_true rfl) (k_R ?_) n_RN
  rw [t8]
  refine x_iload (pc := 2546) dL_law_2546 rfl ?_
  refine x_icmp_eq (tgt := 2553) (pc := 2548) dL_law_2548 (by decide) (fun c_2548 => ?_) (fun c_2548 => ?_)
  · refine x_goto (tgt := 2617) (pc := 2553) dL_law_2553 (by decide) ?_
    exact x_lo (lo' := [(0, (2, -43)), (1, (2, 0)), (2, (2, 109)), (3, (2, 139)), (4, (0, 6 * (n : Int)))]) ⟨rfl, rfl, rfl, rfl, rfl, trivial⟩ (x_room (by show 220 + 40 * n + 0 + 0 ≤ 200 + 40 * (n + 1); omega) (by show 20200 + 400 * n + 0 + 0 ≤ 20000 + 400 * (n + 1); omega) (tail N9 S9 M8 (spImage A (a_scr E (6 * (n : Int) + 1))).2.2 ⟨by omega, hC9, hM9, hO9, RC8, R8, INV.image hI (a_scr E (6 * (n : Int) + 1))⟩ (by omega)))
  · exfalso; omega
theorem dL_law_2556 : decode code 2556 = .ok (.aload_n 1, 1) := by decide +kernel
theorem dL_law_2557 : decode code 2557 = .ok (.aload_n 0, 1) := by decide +kernel
theorem dL_law_2558 : decode code 2558 = .ok (.iload 4, 2) := by decide +kernel
theorem dL_law_2560 : decode code 2560 = .ok (.iconst 1, 1) := by decide +kernel
theorem dL_law_2561 : decode code 2561 = .ok (.iadd, 1) := by decide +kernel
theorem dL_law_2562 : decode code 2562 = .ok (.iaload, 1) := by decide +kernel
theorem dL_law_2563 : decode code 2563 = .ok (.invokestatic 271, 3) := by decide +kernel
theorem dL_law_2566 : decode code 2566 = .ok (.istore 5, 2) := by decide +kernel
theorem dL_law_2568 : decode code 2568 = .ok (.aload_n 2, 1) := by decide +kernel
theorem dL_law_2569 : decode code 2569 = .ok (.aload_n 0, 1) := by decide +kernel
theorem dL_law_2570 : decode code 2570 = .ok (.iload 4, 2) := by decide +kernel
theorem dL_law_2572 : decode code 2572 = .ok (.iconst 1, 1) := by decide +kernel
theorem dL_law_2573 : decode code 2573 = .ok (.iadd, 1) := by decide +kernel
theorem dL_law_2574 : decode code 2574 = .ok (.iaload, 1) := by decide +kernel
theorem dL_law_2575 : decode code 2575 = .ok (.invokevirtual 273, 3) := by decide +kernel
theorem dL_law_2578 : decode code 2578 = .ok (.aload_n 2, 1) := by decide +kernel
theorem dL_law_2579 : decode code 2579 = .ok (.invokevirtual 142, 3) := by decide +kernel
theorem dL_law_2582 : decode code 2582 = .ok (.iload 5, 2) := by decide +kernel
theorem dL_law_2584 : decode code 2584 = .ok (.if_icmp .eq 5, 3) := by decide +kernel
theorem dL_law_2587 : decode code 2587 = .ok (.iconst 0, 1) := by decide +kernel
theorem dL_law_2588 : decode code 2588 = .ok (.ireturn, 1) := by decide +kernel
theorem dL_law_2589 : decode code 2589 = .ok (.goto 28, 3) := by decide +kernel
theorem kLH_271 : a_kSH RL 271 pL_restore 2 := ⟨(lw_ok_in (List.mem_of_getElem? (i := 1529) (by decide +kernel)) rfl), (lw_ok_in (List.mem_of_getElem? (i := 109) (by decide +kernel)) rfl), by decide +kernel, (lw_ok_in (List.mem_of_getElem? (i := 1527) (by decide +kernel)) rfl), (lw_ok_in (List.mem_of_getElem? (i := 1528) (by decide +kernel)) rfl)⟩
theorem kL_273 : a_kV RL 273 pX12_restore 1 := ⟨cbX12_restore, (lw_ok_in (List.mem_of_getElem? (i := 2114) (by decide +kernel)) rfl), (lw_ok_in (List.mem_of_getElem? (i := 2115) (by decide +kernel)) rfl), (lw_ok_in (List.mem_of_getElem? (i := 2116) (by decide +kernel)) rfl)⟩
theorem case_restore {l : Launch} {E : aE} {hh : List (Nat × Nat × Nat × Nat)} {n N : Nat} {S : aS} {M A : aM} (hfl : l.stackTraces = false) (h42 : E.2.2.2 42 ≤ 3072) (hi : 6 * (n : Int) + 6 ≤ (E.2.2.2 42 : Int)) (hW : LWI N S M A) (hN9 : N ≤ 140 + 15 * n) (tail : lawTail l E hh n) : aX l E (pL_law hh) QL (200 + 40 * n) (20000 + 400 * n) N S M 2556 [(0, (2, -43)), (1, (2, 0)), (2, (2, 109)), (3, (2, 139)), (4, (0, 6 * (n : Int)))] [] := by
  obtain ⟨hN0, hC, hS9, hO, hR, hRM, hI⟩ := id hW
  have hM := hS9
  have hn : n ≤ 511 := by omega
  refine x_aload_n (pc := 2556) dL_law_2556 rfl rfl ?_
  refine x_aload_n (pc := 2557) dL_law_2557 rfl rfl ?_
  refine x_iload (pc := 2558) dL_law_2558 rfl ?_
  refine x_iconst (pc := 2560) dL_law_2560 (by decide) ?_
  refine x_iadd (pc := 2561) dL_law_2561 (by omega) ?_
  refine x_sld (pc := 2562) dL_law_2562 ⟨by omega, by omega⟩ ?_
  refine x_callS2H (pc := 2563) dL_law_2563 kLH_271 (h_restore hfl (a_scr E (6 * (n : Int) + 1)) A hW) (a_rmL rfl rfl (by show 200 + 40 * n + 2 ≤ 601024; omega) (by show 20000 + 400 * n + 12 ≤ 7293034; omega)) (Nat.le_of_ble_eq_true rfl) (k_hQv (fun N9 S9 M9 g1 g2 g3 f9 R9 => ?_)) n_hQv
  refine x_room (kc' := 220 + 40 * n) (ks' := 20200 + 400 * n) (by show 200 + 40 * n + 2 ≤ 220 + 40 * n; omega) (by show 20000 + 400 * n + 12 ≤ 20200 + 400 * n; omega) ?_
  have hC9 : lyC S9 := hC.cg fun k a b => g3 k (by omega)
  have hM9 : lyM S9 109 := hM.cg fun k a b => g3 k (by omega)
  have hO9 : S9 139 = (14, 1, rN) := (g3 139 (by omega)).trans hO
  have RM9 : RM M9 109 A := hRM.cgo fun a p q i => f9 a i (by omega) (by omega)
  refine x_istore (pc := 2566) dL_law_2566 (by show _ < 8; decide) rfl ?_
  refine x_aload_n (pc := 2568) dL_law_2568 rfl rfl ?_
  refine x_aload_n (pc := 2569) dL_law_2569 rfl rfl ?_
  refine x_iload (pc := 2570) dL_law_2570 rfl ?_
  refine x_iconst (pc := 2572) dL_law_2572 (by decide) ?_
  refine x_iadd (pc := 2573) dL_law_2573 (by omega) ?_
  refine x_sld (pc := 2574) dL_law_2574 ⟨by omega, by omega⟩ ?_
  refine x_callV1N (pc := 2575) dL_law_2575 kL_273 (s_Mrestore hfl (a_scr E (6 * (n : Int) + 1)) 109 A hM9 RM9 hI.1) hM9.1 rfl (a_rmL rfl rfl (by show 220 + 40 * n + 0 ≤ 601024; omega) (by show 20200 + 400 * n + 0 ≤ 7293034; omega)) (Nat.le_of_ble_eq_true rfl) (k_U (fun M8 hM8 => ?_)) n_UN
  obtain ⟨t8, R8, F8⟩ := hM8
  have RC8 : RC M8 N9 S9 (spRestore A (a_scr E (6 * (n : Int) + 1))).2.2 := R9.cgo fun a q i => F8 a i (by omega)
  refine x_aload_n (pc := 2578) dL_law_2578 rfl rfl ?_
  refine x_callV0N (pc := 2579) dL_law_2579 kL_142 (s_thrown hfl 109 hM9) hM9.1 rfl (a_rmL rfl rfl (by show 220 + 40 * n + 0 + 0 ≤ 601024; omega) (by show 20200 + 400 * n + 0 + 0 ≤ 7293034; omega)) (Nat.le_of_ble_eq_true rfl) (k_R ?_) n_RN
  rw [t8]
  refine x_iload (pc := 2582) dL_law_2582 rfl ?_
  refine x_icmp_eq (tgt := 2589) (pc := 2584) dL_law_2584 (by decide) (fun c_2584 => ?_) (fun c_2584 => ?_)
  · refine x_goto (tgt := 2617) (pc := 2589) dL_law_2589 (by decide) ?_
    exact x_lo (lo' := [(0, (2, -43)), (1, (2, 0)), (2, (2, 109)), (3, (2, 139)), (4, (0, 6 * (n : Int)))]) ⟨rfl, rfl, rfl, rfl, rfl, trivial⟩ (x_room (by show 220 + 40 * n + 0 + 0 ≤ 200 + 40 * (n + 1); omega) (by show 20200 + 400 * n + 0 + 0 ≤ 20000 + 400 * (n + 1); omega) (tail N9 S9 M8 (spRestore A (a_scr E (6 * (n : Int) + 1))).2.2 ⟨by omega, hC9, hM9, hO9, RC8, R8, INV.restore hI (a_scr E (6 * (n : Int) + 1))⟩ (by omega)))
  · exfalso; omega
theorem dL_law_2592 : decode code 2592 = .ok (.aload_n 1, 1) := by decide +kernel
theorem dL_law_2593 : decode code 2593 = .ok (.aload_n 0, 1) := by decide +kernel
theorem dL_law_2594 : decode code 2594 = .ok (.iload 4, 2) := by decide +kernel
theorem dL_law_2596 : decode code 2596 = .ok (.iconst 1, 1) := by decide +kernel
theorem dL_law_2597 : decode code 2597 = .ok (.iadd, 1) := by decide +kernel
theorem dL_law_2598 : decode code 2598 = .ok (.iaload, 1) := by decide +kernel
theorem dL_law_2599 : decode code 2599 = .ok (.invokevirtual 274, 3) := by decide +kernel
theorem dL_law_2602 : decode code 2602 = .ok (.aload_n 2, 1) := by decide +kernel
theorem dL_law_2603 : decode code 2603 = .ok (.aload_n 0, 1) := by decide +kernel
theorem dL_law_2604 : decode code 2604 = .ok (.iload 4, 2) := by decide +kernel
theorem dL_law_2606 : decode code 2606 = .ok (.iconst 1, 1) := by decide +kernel
theorem dL_law_2607 : decode code 2607 = .ok (.iadd, 1) := by decide +kernel
theorem dL_law_2608 : decode code 2608 = .ok (.iaload, 1) := by decide +kernel
theorem dL_law_2609 : decode code 2609 = .ok (.invokevirtual 277, 3) := by decide +kernel
theorem dL_law_2612 : decode code 2612 = .ok (.if_icmp .eq 5, 3) := by decide +kernel
theorem dL_law_2615 : decode code 2615 = .ok (.iconst 0, 1) := by decide +kernel
theorem dL_law_2616 : decode code 2616 = .ok (.ireturn, 1) := by decide +kernel
theorem kL_274 : a_kV RL 274 pX11_count 1 := ⟨cbX11_count, (lw_ok_in (List.mem_of_getElem? (i := 624) (by decide +kernel)) rfl), (lw_ok_in (List.mem_of_getElem? (i := 625) (by decide +kernel)) rfl), (lw_ok_in (List.mem_of_getElem? (i := 626) (by decide +kernel)) rfl)⟩
theorem kL_277 : a_kV RL 277 pX12_count 1 := ⟨cbX12_count, (lw_ok_in (List.mem_of_getElem? (i := 2118) (by decide +kernel)) rfl), (lw_ok_in (List.mem_of_getElem? (i := 2119) (by decide +kernel)) rfl), (lw_ok_in (List.mem_of_getElem? (i := 2120) (by decide +kernel)) rfl)⟩
theorem case_count {l : Launch} {E : aE} {hh : List (Nat × Nat × Nat × Nat)} {n N : Nat} {S : aS} {M A : aM} (hfl : l.stackTraces = false) (h42 : E.2.2.2 42 ≤ 3072) (hi : 6 * (n : Int) + 6 ≤ (E.2.2.2 42 : Int)) (hW : LWI N S M A) (hN9 : N ≤ 140 + 15 * n) (tail : lawTail l E hh n) : aX l E (pL_law hh) QL (200 + 40 * n) (20000 + 400 * n) N S M 2592 [(0, (2, -43)), (1, (2, 0)), (2, (2, 109)), (3, (2, 139)), (4, (0, 6 * (n : Int)))] [] := by
  obtain ⟨hN, hC, hS9, hO, hR, hRM, hI⟩ := id hW
  have hM := hS9
  have hn : n ≤ 511 := by omega
  refine x_aload_n (pc := 2592) dL_law_2592 rfl rfl ?_
  refine x_aload_n (pc := 2593) dL_law_2593 rfl rfl ?_
  refine x_iload (pc := 2594) dL_law_2594 rfl ?_
  refine x_iconst (pc := 2596) dL_law_2596 (by decide) ?_
  refine x_iadd (pc := 2597) dL_law_2597 (by omega) ?_
  refine x_sld (pc := 2598) dL_law_2598 ⟨by omega, by omega⟩ ?_
  have h0 : (spCount A (a_scr E (6 * (n : Int) + 1))).1 = 0 := by
    unfold spCount
    (repeat' split) <;> rfl
  refine x_callV1N (pc := 2599) dL_law_2599 kL_274 (s_Ccount hfl (a_scr E (6 * (n : Int) + 1)) hC A hR hI.1) (sC_0 hC) rfl (a_rmL rfl rfl (by show 200 + 40 * n + 0 ≤ 601024; omega) (by show 20000 + 400 * n + 0 ≤ 7293034; omega)) (Nat.le_of_ble_eq_true rfl) (k_op (fun M9 hz hf R9 => ?_)) (n_opN h0)
  refine x_room (kc' := 220 + 40 * n) (ks' := 20200 + 400 * n) (by show 200 + 40 * n + 0 ≤ 220 + 40 * n; omega) (by show 20000 + 400 * n + 0 ≤ 20200 + 400 * n; omega) ?_
  have hC9 := hC
  have hM9 := hM
  have hO9 := hO
  have RM9 : RM M9 109 A := hRM.cgo fun a p q i => hf a i (by omega) (by omega)
  refine x_aload_n (pc := 2602) dL_law_2602 rfl rfl ?_
  refine x_aload_n (pc := 2603) dL_law_2603 rfl rfl ?_
  refine x_iload (pc := 2604) dL_law_2604 rfl ?_
  refine x_iconst (pc := 2606) dL_law_2606 (by decide) ?_
  refine x_iadd (pc := 2607) dL_law_2607 (by omega) ?_
  refine x_sld (pc := 2608) dL_law_2608 ⟨by omega, by omega⟩ ?_
  refine x_callV1N (pc := 2609) dL_law_2609 kL_277 (s_Mcount hfl (a_scr E (6 * (n : Int) + 1)) 109 A hM9 RM9 hI.1) hM9.1 rfl (a_rmL rfl rfl (by show 220 + 40 * n + 0 ≤ 601024; omega) (by show 20200 + 400 * n + 0 ≤ 7293034; omega)) (Nat.le_of_ble_eq_true rfl) (k_G (fun v8 M8 hM8 => ?_)) n_GN
  obtain ⟨kd, t8, e8, R8, F8⟩ := hM8
  rw [e8 h0]
  have RC8 : RC M8 N S (spCount A (a_scr E (6 * (n : Int) + 1))).2.2 := R9.cgo fun a q i => F8 a i (by omega)
  refine x_icmp_eq (tgt := 2617) (pc := 2612) dL_law_2612 (by decide) (fun c_2612 => ?_) (fun c_2612 => ?_)
  · exact x_lo (lo' := [(0, (2, -43)), (1, (2, 0)), (2, (2, 109)), (3, (2, 139)), (4, (0, 6 * (n : Int)))]) ⟨rfl, rfl, rfl, rfl, rfl, trivial⟩ (x_room (by show 220 + 40 * n + 0 ≤ 200 + 40 * (n + 1); omega) (by show 20200 + 400 * n + 0 ≤ 20000 + 400 * (n + 1); omega) (tail N S M8 (spCount A (a_scr E (6 * (n : Int) + 1))).2.2 ⟨by omega, hC9, hM9, hO9, RC8, R8, INV.count_ hI (a_scr E (6 * (n : Int) + 1))⟩ (by omega)))
  · exfalso; omega
