/-! THE LAW: its cases -/
theorem dL_law_416 : decode code 416 = .ok (.aload_n 1, 1) := by decide +kernel
theorem dL_law_417 : decode code 417 = .ok (.aload_n 0, 1) := by decide +kernel
theorem dL_law_418 : decode code 418 = .ok (.iload 4, 2) := by decide +kernel
theorem dL_law_420 : decode code 420 = .ok (.iconst 1, 1) := by decide +kernel
theorem dL_law_421 : decode code 421 = .ok (.iadd, 1) := by decide +kernel
theorem dL_law_422 : decode code 422 = .ok (.iaload, 1) := by decide +kernel
theorem dL_law_423 : decode code 423 = .ok (.aload_n 0, 1) := by decide +kernel
theorem dL_law_424 : decode code 424 = .ok (.iload 4, 2) := by decide +kernel
theorem dL_law_426 : decode code 426 = .ok (.iconst 2, 1) := by decide +kernel
theorem dL_law_427 : decode code 427 = .ok (.iadd, 1) := by decide +kernel
theorem dL_law_428 : decode code 428 = .ok (.iaload, 1) := by decide +kernel
theorem dL_law_429 : decode code 429 = .ok (.aload_n 3, 1) := by decide +kernel
theorem dL_law_430 : decode code 430 = .ok (.invokestatic 154, 3) := by decide +kernel
theorem dL_law_433 : decode code 433 = .ok (.istore 5, 2) := by decide +kernel
theorem dL_law_435 : decode code 435 = .ok (.aload_n 2, 1) := by decide +kernel
theorem dL_law_436 : decode code 436 = .ok (.aload_n 0, 1) := by decide +kernel
theorem dL_law_437 : decode code 437 = .ok (.iload 4, 2) := by decide +kernel
theorem dL_law_439 : decode code 439 = .ok (.iconst 1, 1) := by decide +kernel
theorem dL_law_440 : decode code 440 = .ok (.iadd, 1) := by decide +kernel
theorem dL_law_441 : decode code 441 = .ok (.iaload, 1) := by decide +kernel
theorem dL_law_442 : decode code 442 = .ok (.aload_n 0, 1) := by decide +kernel
theorem dL_law_443 : decode code 443 = .ok (.iload 4, 2) := by decide +kernel
theorem dL_law_445 : decode code 445 = .ok (.iconst 2, 1) := by decide +kernel
theorem dL_law_446 : decode code 446 = .ok (.iadd, 1) := by decide +kernel
theorem dL_law_447 : decode code 447 = .ok (.iaload, 1) := by decide +kernel
theorem dL_law_448 : decode code 448 = .ok (.invokevirtual 156, 3) := by decide +kernel
theorem dL_law_451 : decode code 451 = .ok (.istore 6, 2) := by decide +kernel
theorem dL_law_453 : decode code 453 = .ok (.aload_n 2, 1) := by decide +kernel
theorem dL_law_454 : decode code 454 = .ok (.invokevirtual 142, 3) := by decide +kernel
theorem dL_law_457 : decode code 457 = .ok (.iload 5, 2) := by decide +kernel
theorem dL_law_459 : decode code 459 = .ok (.if_icmp .eq 5, 3) := by decide +kernel
theorem dL_law_462 : decode code 462 = .ok (.iconst 0, 1) := by decide +kernel
theorem dL_law_463 : decode code 463 = .ok (.ireturn, 1) := by decide +kernel
theorem dL_law_464 : decode code 464 = .ok (.iload 5, 2) := by decide +kernel
theorem dL_law_466 : decode code 466 = .ok (.ifCond .ne 22, 3) := by decide +kernel
theorem dL_law_469 : decode code 469 = .ok (.aload_n 3, 1) := by decide +kernel
theorem dL_law_470 : decode code 470 = .ok (.iconst 0, 1) := by decide +kernel
theorem dL_law_471 : decode code 471 = .ok (.laload, 1) := by decide +kernel
theorem dL_law_472 : decode code 472 = .ok (.iload 6, 2) := by decide +kernel
theorem dL_law_474 : decode code 474 = .ok (.ifCond .eq 7, 3) := by decide +kernel
theorem dL_law_477 : decode code 477 = .ok (.lconst 1, 1) := by decide +kernel
theorem dL_law_478 : decode code 478 = .ok (.goto 4, 3) := by decide +kernel
theorem dL_law_481 : decode code 481 = .ok (.lconst 0, 1) := by decide +kernel
theorem dL_law_482 : decode code 482 = .ok (.lcmp, 1) := by decide +kernel
theorem dL_law_483 : decode code 483 = .ok (.ifCond .eq 5, 3) := by decide +kernel
theorem dL_law_486 : decode code 486 = .ok (.iconst 0, 1) := by decide +kernel
theorem dL_law_487 : decode code 487 = .ok (.ireturn, 1) := by decide +kernel
theorem dL_law_488 : decode code 488 = .ok (.goto 2129, 3) := by decide +kernel
theorem kLH_154 : a_kSH RL 154 pL_bar 4 := ⟨(lw_ok_in (List.mem_of_getElem? (i := 775) (by decide +kernel)) rfl), (lw_ok_in (List.mem_of_getElem? (i := 109) (by decide +kernel)) rfl), by decide +kernel, (lw_ok_in (List.mem_of_getElem? (i := 773) (by decide +kernel)) rfl), (lw_ok_in (List.mem_of_getElem? (i := 774) (by decide +kernel)) rfl)⟩
theorem kL_156 : a_kV RL 156 pX12_bar 2 := ⟨cbX12_bar, (lw_ok_in (List.mem_of_getElem? (i := 1734) (by decide +kernel)) rfl), (lw_ok_in (List.mem_of_getElem? (i := 1735) (by decide +kernel)) rfl), (lw_ok_in (List.mem_of_getElem? (i := 1736) (by decide +kernel)) rfl)⟩
theorem case_bar {l : Launch} {E : aE} {hh : List (Nat × Nat × Nat × Nat)} {n N : Nat} {S : aS} {M A : aM} (hfl : l.stackTraces = false) (h42 : E.2.2.2 42 ≤ 3072) (hi : 6 * (n : Int) + 6 ≤ (E.2.2.2 42 : Int)) (hW : LWI N S M A) (hN9 : N ≤ 140 + 15 * n) (tail : lawTail l E hh n) : aX l E (pL_law hh) QL (200 + 40 * n) (20000 + 400 * n) N S M 416 [(0, (2, -43)), (1, (2, 0)), (2, (2, 109)), (3, (2, 139)), (4, (0, 6 * (n : Int)))] [] := by
  obtain ⟨hN0, hC, hS9, hO, hR, hRM, hI⟩ := id hW
  have hM := hS9
  have hn : n ≤ 511 := by omega
  refine x_aload_n (pc := 416) dL_law_416 rfl rfl ?_
  refine x_aload_n (pc := 417) dL_law_417 rfl rfl ?_
  refine x_iload (pc := 418) dL_law_418 rfl ?_
  refine x_iconst (pc := 420) dL_law_420 (by decide) ?_
  refine x_iadd (pc := 421) dL_law_421 (by omega) ?_
  refine x_sld (pc := 422) dL_law_422 ⟨by omega, by omega⟩ ?_
  refine x_aload_n (pc := 423) dL_law_423 rfl rfl ?_
  refine x_iload (pc := 424) dL_law_424 rfl ?_
  refine x_iconst (pc := 426) dL_law_426 (by decide) ?_
  refine x_iadd (pc := 427) dL_law_427 (by omega) ?_
  refine x_sld (pc := 428) dL_law_428 ⟨by omega, by omega⟩ ?_
  refine x_aload_n (pc := 429) dL_law_429 rfl rfl ?_
  refine x_callS4H (pc := 430) dL_law_430 kLH_154 (h_bar hfl (a_scr E (6 * (n : Int) + 1)) (a_scr E (6 * (n : Int) + 2)) A hW) (a_rmL rfl rfl (by show 200 + 40 * n + 3 ≤ 601024; omega) (by show 20000 + 400 * n + 18 ≤ 7293034; omega)) (Nat.le_of_ble_eq_true rfl) (k_hQ (fun M9 f9 R9 v9 => ?_)) n_hQ
  refine x_room (kc' := 220 + 40 * n) (ks' := 20200 + 400 * n) (by show 200 + 40 * n + 3 ≤ 220 + 40 * n; omega) (by show 20000 + 400 * n + 18 ≤ 20200 + 400 * n; omega) ?_
  have hC9 := hC
  have hM9 := hM
  have hO9 := hO
  have RM9 : RM M9 109 A := hRM.cgo fun a p q i => f9 a i (by omega) (by omega)
  refine x_istore (pc := 433) dL_law_433 (by show _ < 8; decide) rfl ?_
  refine x_aload_n (pc := 435) dL_law_435 rfl rfl ?_
  refine x_aload_n (pc := 436) dL_law_436 rfl rfl ?_
  refine x_iload (pc := 437) dL_law_437 rfl ?_
  refine x_iconst (pc := 439) dL_law_439 (by decide) ?_
  refine x_iadd (pc := 440) dL_law_440 (by omega) ?_
  refine x_sld (pc := 441) dL_law_441 ⟨by omega, by omega⟩ ?_
  refine x_aload_n (pc := 442) dL_law_442 rfl rfl ?_
  refine x_iload (pc := 443) dL_law_443 rfl ?_
  refine x_iconst (pc := 445) dL_law_445 (by decide) ?_
  refine x_iadd (pc := 446) dL_law_446 (by omega) ?_
  refine x_sld (pc := 447) dL_law_447 ⟨by omega, by omega⟩ ?_
  refine x_callV2N (pc := 448) dL_law_448 kL_156 (s_Mbar hfl (a_scr E (6 * (n : Int) + 1)) (a_scr E (6 * (n : Int) + 2)) 109 A hM9 RM9 hI.1) hM9.1 rfl (a_rmL rfl rfl (by show 220 + 40 * n + 0 ≤ 601024; omega) (by show 20200 + 400 * n + 0 ≤ 7293034; omega)) (Nat.le_of_ble_eq_true rfl) (k_G (fun v8 M8 hM8 => ?_)) n_GN
  obtain ⟨kd, t8, e8, R8, F8⟩ := hM8
  obtain ⟨k8, w8⟩ := v8
  have kd : k8 = 0 := kd
  subst kd
  have RC8 : RC M8 N S (spBar A (a_scr E (6 * (n : Int) + 1)) (a_scr E (6 * (n : Int) + 2))).2.2 := R9.cgo fun a q i => F8 a i (by omega)
  refine x_istore (pc := 451) dL_law_451 (by show _ < 8; decide) rfl ?_
  refine x_aload_n (pc := 453) dL_law_453 rfl rfl ?_
  refine x_callV0N (pc := 454) dL_law_454 kL_142 (s_thrown hfl 109 hM9) hM9.1 rfl (a_rmL rfl rfl (by show 220 + 40 * n + 0 + 0 ≤ 601024; omega) (by show 20200 + 400 * n + 0 + 0 ≤ 7293034; omega)) (Nat.le_of_ble_eq_true rfl) (k_R ?_) n_RN
  rw [t8]
  refine x_iload (pc := 457) dL_law_457 rfl ?_
  refine x_icmp_eq (tgt := 464) (pc := 459) dL_law_459 (by decide) (fun c_459 => ?_) (fun c_459 => ?_)
  · refine x_iload (pc := 464) dL_law_464 rfl ?_
    refine x_if_ne (tgt := 488) (pc := 466) dL_law_466 (by decide) (fun c_466 => ?_) (fun c_466 => ?_)
    · refine x_goto (tgt := 2617) (pc := 488) dL_law_488 (by decide) ?_
      exact x_lo (lo' := [(0, (2, -43)), (1, (2, 0)), (2, (2, 109)), (3, (2, 139)), (4, (0, 6 * (n : Int)))]) ⟨rfl, rfl, rfl, rfl, rfl, trivial⟩ (x_room (by show 220 + 40 * n + 0 + 0 ≤ 200 + 40 * (n + 1); omega) (by show 20200 + 400 * n + 0 + 0 ≤ 20000 + 400 * (n + 1); omega) (tail N S M8 (spBar A (a_scr E (6 * (n : Int) + 1)) (a_scr E (6 * (n : Int) + 2))).2.2 ⟨by omega, hC9, hM9, hO9, RC8, R8, INV.bar hI (a_scr E (6 * (n : Int) + 1)) (a_scr E (6 * (n : Int) + 2))⟩ (by omega)))
    · have e139 : M8 139 0 = (spBar A (a_scr E (6 * (n : Int) + 1)) (a_scr E (6 * (n : Int) + 2))).2.1 := (F8 139 0 (by omega)).trans (v9 c_466)
      have ew : w8 = (spBar A (a_scr E (6 * (n : Int) + 1)) (a_scr E (6 * (n : Int) + 2))).2.1 := congrArg Prod.snd (e8 c_466)
      have hb9 := bb_bar A (a_scr E (6 * (n : Int) + 1)) (a_scr E (6 * (n : Int) + 2)) c_466
      refine x_aload_n (pc := 469) dL_law_469 rfl rfl ?_
      refine x_iconst (pc := 470) dL_law_470 (by decide) ?_
      refine x_laloadV (pc := 471) dL_law_471 hO9 (by omega) (by (repeat (first | rewrite [up_s] | rewrite [up_i (by omega)] | rewrite [up_a (by omega)])); first | exact e139 | rfl) (fun g_471 => ?_)
      refine x_iload (pc := 472) dL_law_472 rfl ?_
      refine x_if_eq (tgt := 481) (pc := 474) dL_law_474 (by decide) (fun c_474 => ?_) (fun c_474 => ?_)
      · refine x_lconst0 (pc := 481) dL_law_481 ?_
        refine x_leq (tgt := 488) (pc := 482) dL_law_482 dL_law_483 (by decide) (fun c_482 => ?_) (fun c_482 => ?_)
        · refine x_goto (tgt := 2617) (pc := 488) dL_law_488 (by decide) ?_
          exact x_lo (lo' := [(0, (2, -43)), (1, (2, 0)), (2, (2, 109)), (3, (2, 139)), (4, (0, 6 * (n : Int)))]) ⟨rfl, rfl, rfl, rfl, rfl, trivial⟩ (x_room (by show 220 + 40 * n + 0 + 0 ≤ 200 + 40 * (n + 1); omega) (by show 20200 + 400 * n + 0 + 0 ≤ 20000 + 400 * (n + 1); omega) (tail N S M8 (spBar A (a_scr E (6 * (n : Int) + 1)) (a_scr E (6 * (n : Int) + 2))).2.2 ⟨by omega, hC9, hM9, hO9, RC8, R8, INV.bar hI (a_scr E (6 * (n : Int) + 1)) (a_scr E (6 * (n : Int) + 2))⟩ (by omega)))
        · exfalso; omega
      · refine x_lconst1 (pc := 477) dL_law_477 ?_
        refine x_goto (tgt := 482) (pc := 478) dL_law_478 (by decide) ?_
        refine x_leq (tgt := 488) (pc := 482) dL_law_482 dL_law_483 (by decide) (fun c_482 => ?_) (fun c_482 => ?_)
        · refine x_goto (tgt := 2617) (pc := 488) dL_law_488 (by decide) ?_
          exact x_lo (lo' := [(0, (2, -43)), (1, (2, 0)), (2, (2, 109)), (3, (2, 139)), (4, (0, 6 * (n : Int)))]) ⟨rfl, rfl, rfl, rfl, rfl, trivial⟩ (x_room (by show 220 + 40 * n + 0 + 0 ≤ 200 + 40 * (n + 1); omega) (by show 20200 + 400 * n + 0 + 0 ≤ 20000 + 400 * (n + 1); omega) (tail N S M8 (spBar A (a_scr E (6 * (n : Int) + 1)) (a_scr E (6 * (n : Int) + 2))).2.2 ⟨by omega, hC9, hM9, hO9, RC8, R8, INV.bar hI (a_scr E (6 * (n : Int) + 1)) (a_scr E (6 * (n : Int) + 2))⟩ (by omega)))
        · exfalso; omega
  · exfalso; omega
theorem dL_law_491 : decode code 491 = .ok (.aload_n 1, 1) := by decide +kernel
theorem dL_law_492 : decode code 492 = .ok (.aload_n 0, 1) := by decide +kernel
theorem dL_law_493 : decode code 493 = .ok (.iload 4, 2) := by decide +kernel
theorem dL_law_495 : decode code 495 = .ok (.iconst 1, 1) := by decide +kernel
theorem dL_law_496 : decode code 496 = .ok (.iadd, 1) := by decide +kernel
theorem dL_law_497 : decode code 497 = .ok (.iaload, 1) := by decide +kernel
theorem dL_law_498 : decode code 498 = .ok (.aload_n 0, 1) := by decide +kernel
theorem dL_law_499 : decode code 499 = .ok (.iload 4, 2) := by decide +kernel
theorem dL_law_501 : decode code 501 = .ok (.iconst 2, 1) := by decide +kernel
theorem dL_law_502 : decode code 502 = .ok (.iadd, 1) := by decide +kernel
theorem dL_law_503 : decode code 503 = .ok (.iaload, 1) := by decide +kernel
theorem dL_law_504 : decode code 504 = .ok (.aload_n 0, 1) := by decide +kernel
theorem dL_law_505 : decode code 505 = .ok (.iload 4, 2) := by decide +kernel
theorem dL_law_507 : decode code 507 = .ok (.iconst 3, 1) := by decide +kernel
theorem dL_law_508 : decode code 508 = .ok (.iadd, 1) := by decide +kernel
theorem dL_law_509 : decode code 509 = .ok (.iaload, 1) := by decide +kernel
theorem dL_law_510 : decode code 510 = .ok (.ifCond .eq 7, 3) := by decide +kernel
theorem dL_law_513 : decode code 513 = .ok (.iconst 1, 1) := by decide +kernel
theorem dL_law_514 : decode code 514 = .ok (.goto 4, 3) := by decide +kernel
theorem dL_law_517 : decode code 517 = .ok (.iconst 0, 1) := by decide +kernel
theorem dL_law_518 : decode code 518 = .ok (.aload_n 3, 1) := by decide +kernel
theorem dL_law_519 : decode code 519 = .ok (.invokestatic 157, 3) := by decide +kernel
theorem dL_law_522 : decode code 522 = .ok (.istore 5, 2) := by decide +kernel
theorem dL_law_524 : decode code 524 = .ok (.aload_n 2, 1) := by decide +kernel
theorem dL_law_525 : decode code 525 = .ok (.aload_n 0, 1) := by decide +kernel
theorem dL_law_526 : decode code 526 = .ok (.iload 4, 2) := by decide +kernel
theorem dL_law_528 : decode code 528 = .ok (.iconst 1, 1) := by decide +kernel
theorem dL_law_529 : decode code 529 = .ok (.iadd, 1) := by decide +kernel
theorem dL_law_530 : decode code 530 = .ok (.iaload, 1) := by decide +kernel
theorem dL_law_531 : decode code 531 = .ok (.aload_n 0, 1) := by decide +kernel
theorem dL_law_532 : decode code 532 = .ok (.iload 4, 2) := by decide +kernel
theorem dL_law_534 : decode code 534 = .ok (.iconst 2, 1) := by decide +kernel
theorem dL_law_535 : decode code 535 = .ok (.iadd, 1) := by decide +kernel
theorem dL_law_536 : decode code 536 = .ok (.iaload, 1) := by decide +kernel
theorem dL_law_537 : decode code 537 = .ok (.aload_n 0, 1) := by decide +kernel
theorem dL_law_538 : decode code 538 = .ok (.iload 4, 2) := by decide +kernel
theorem dL_law_540 : decode code 540 = .ok (.iconst 3, 1) := by decide +kernel
theorem dL_law_541 : decode code 541 = .ok (.iadd, 1) := by decide +kernel
theorem dL_law_542 : decode code 542 = .ok (.iaload, 1) := by decide +kernel
theorem dL_law_543 : decode code 543 = .ok (.ifCond .eq 7, 3) := by decide +kernel
theorem dL_law_546 : decode code 546 = .ok (.iconst 1, 1) := by decide +kernel
theorem dL_law_547 : decode code 547 = .ok (.goto 4, 3) := by decide +kernel
theorem dL_law_550 : decode code 550 = .ok (.iconst 0, 1) := by decide +kernel
theorem dL_law_551 : decode code 551 = .ok (.invokevirtual 160, 3) := by decide +kernel
theorem dL_law_554 : decode code 554 = .ok (.istore 6, 2) := by decide +kernel
theorem dL_law_556 : decode code 556 = .ok (.aload_n 2, 1) := by decide +kernel
theorem dL_law_557 : decode code 557 = .ok (.invokevirtual 142, 3) := by decide +kernel
theorem dL_law_560 : decode code 560 = .ok (.iload 5, 2) := by decide +kernel
theorem dL_law_562 : decode code 562 = .ok (.if_icmp .eq 5, 3) := by decide +kernel
theorem dL_law_565 : decode code 565 = .ok (.iconst 0, 1) := by decide +kernel
theorem dL_law_566 : decode code 566 = .ok (.ireturn, 1) := by decide +kernel
theorem dL_law_567 : decode code 567 = .ok (.iload 5, 2) := by decide +kernel
theorem dL_law_569 : decode code 569 = .ok (.ifCond .ne 22, 3) := by decide +kernel
theorem dL_law_572 : decode code 572 = .ok (.aload_n 3, 1) := by decide +kernel
theorem dL_law_573 : decode code 573 = .ok (.iconst 0, 1) := by decide +kernel
theorem dL_law_574 : decode code 574 = .ok (.laload, 1) := by decide +kernel
theorem dL_law_575 : decode code 575 = .ok (.iload 6, 2) := by decide +kernel
theorem dL_law_577 : decode code 577 = .ok (.ifCond .eq 7, 3) := by decide +kernel
theorem dL_law_580 : decode code 580 = .ok (.lconst 1, 1) := by decide +kernel
theorem dL_law_581 : decode code 581 = .ok (.goto 4, 3) := by decide +kernel
theorem dL_law_584 : decode code 584 = .ok (.lconst 0, 1) := by decide +kernel
theorem dL_law_585 : decode code 585 = .ok (.lcmp, 1) := by decide +kernel
theorem dL_law_586 : decode code 586 = .ok (.ifCond .eq 5, 3) := by decide +kernel
theorem dL_law_589 : decode code 589 = .ok (.iconst 0, 1) := by decide +kernel
theorem dL_law_590 : decode code 590 = .ok (.ireturn, 1) := by decide +kernel
theorem dL_law_591 : decode code 591 = .ok (.goto 2026, 3) := by decide +kernel
theorem kLH_157 : a_kSH RL 157 pL_trust 5 := ⟨(lw_ok_in (List.mem_of_getElem? (i := 787) (by decide +kernel)) rfl), (lw_ok_in (List.mem_of_getElem? (i := 109) (by decide +kernel)) rfl), by decide +kernel, (lw_ok_in (List.mem_of_getElem? (i := 785) (by decide +kernel)) rfl), (lw_ok_in (List.mem_of_getElem? (i := 786) (by decide +kernel)) rfl)⟩
theorem kL_160 : a_kV RL 160 pX12_trust 3 := ⟨cbX12_trust, (lw_ok_in (List.mem_of_getElem? (i := 1742) (by decide +kernel)) rfl), (lw_ok_in (List.mem_of_getElem? (i := 1743) (by decide +kernel)) rfl), (lw_ok_in (List.mem_of_getElem? (i := 1744) (by decide +kernel)) rfl)⟩
theorem case_trust {l : Launch} {E : aE} {hh : List (Nat × Nat × Nat × Nat)} {n N : Nat} {S : aS} {M A : aM} (hfl : l.stackTraces = false) (h42 : E.2.2.2 42 ≤ 3072) (hi : 6 * (n : Int) + 6 ≤ (E.2.2.2 42 : Int)) (hW : LWI N S M A) (hN9 : N ≤ 140 + 15 * n) (tail : lawTail l E hh n) : aX l E (pL_law hh) QL (200 + 40 * n) (20000 + 400 * n) N S M 491 [(0, (2, -43)), (1, (2, 0)), (2, (2, 109)), (3, (2, 139)), (4, (0, 6 * (n : Int)))] [] := by
  obtain ⟨hN0, hC, hS9, hO, hR, hRM, hI⟩ := id hW
  have hM := hS9
  have hn : n ≤ 511 := by omega
  refine x_aload_n (pc := 491) dL_law_491 rfl rfl ?_
  refine x_aload_n (pc := 492) dL_law_492 rfl rfl ?_
  refine x_iload (pc := 493) dL_law_493 rfl ?_
  refine x_iconst (pc := 495) dL_law_495 (by decide) ?_
  refine x_iadd (pc := 496) dL_law_496 (by omega) ?_
  refine x_sld (pc := 497) dL_law_497 ⟨by omega, by omega⟩ ?_
  refine x_aload_n (pc := 498) dL_law_498 rfl rfl ?_
  refine x_iload (pc := 499) dL_law_499 rfl ?_
  refine x_iconst (pc := 501) dL_law_501 (by decide) ?_
  refine x_iadd (pc := 502) dL_law_502 (by omega) ?_
  refine x_sld (pc := 503) dL_law_503 ⟨by omega, by omega⟩ ?_
  refine x_aload_n (pc := 504) dL_law_504 rfl rfl ?_
  refine x_iload (pc := 505) dL_law_505 rfl ?_
  refine x_iconst (pc := 507) dL_law_507 (by decide) ?_
  refine x_iadd (pc := 508) dL_law_508 (by omega) ?_
  refine x_sld (pc := 509) dL_law_509 ⟨by omega, by omega⟩ ?_
  refine x_if_eq (tgt := 517) (pc := 510) dL_law_510 (by decide) (fun c_510 => ?_) (fun c_510 => ?_)
  · refine x_iconst (pc := 517) dL_law_517 (by decide) ?_
    refine x_aload_n (pc := 518) dL_law_518 rfl rfl ?_
    refine x_callS5H (pc := 519) dL_law_519 kLH_157 (h_trust hfl (a_scr E (6 * (n : Int) + 1)) (a_scr E (6 * (n : Int) + 2)) 0 (Or.inl rfl) A hW) (a_rmL rfl rfl (by show 200 + 40 * n + 3 ≤ 601024; omega) (by show 20000 + 400 * n + 18 ≤ 7293034; omega)) (Nat.le_of_ble_eq_true rfl) (k_hQ (fun M9 f9 R9 v9 => ?_)) n_hQ
    refine x_room (kc' := 220 + 40 * n) (ks' := 20200 + 400 * n) (by show 200 + 40 * n + 3 ≤ 220 + 40 * n; omega) (by show 20000 + 400 * n + 18 ≤ 20200 + 400 * n; omega) ?_
    have hC9 := hC
    have hM9 := hM
    have hO9 := hO
    have RM9 : RM M9 109 A := hRM.cgo fun a p q i => f9 a i (by omega) (by omega)
    refine x_istore (pc := 522) dL_law_522 (by show _ < 8; decide) rfl ?_
    refine x_aload_n (pc := 524) dL_law_524 rfl rfl ?_
    refine x_aload_n (pc := 525) dL_law_525 rfl rfl ?_
    refine x_iload (pc := 526) dL_law_526 rfl ?_
    refine x_iconst (pc := 528) dL_law_528 (by decide) ?_
    refine x_iadd (pc := 529) dL_law_529 (by omega) ?_
    refine x_sld (pc := 530) dL_law_530 ⟨by omega, by omega⟩ ?_
    refine x_aload_n (pc := 531) dL_law_531 rfl rfl ?_
    refine x_iload (pc := 532) dL_law_532 rfl ?_
    refine x_iconst (pc := 534) dL_law_534 (by decide) ?_
    refine x_iadd (pc := 535) dL_law_535 (by omega) ?_
    refine x_sld (pc := 536) dL_law_536 ⟨by omega, by omega⟩ ?_
    refine x_aload_n (pc := 537) dL_law_537 rfl rfl ?_
    refine x_iload (pc := 538) dL_law_538 rfl ?_
    refine x_iconst (pc := 540) dL_law_540 (by decide) ?_
    refine x_iadd (pc := 541) dL_law_541 (by omega) ?_
    refine x_sld (pc := 542) dL_law_542 ⟨by omega, by omega⟩ ?_
    refine x_if_eq (tgt := 550) (pc := 543) dL_law_543 (by decide) (fun _ => ?_) (fun c => absurd c_510 c)
    refine x_iconst (pc := 550) dL_law_550 (by decide) ?_
    refine x_callV3N (pc := 551) dL_law_551 kL_160 (s_Mtrust hfl (a_scr E (6 * (n : Int) + 1)) (a_scr E (6 * (n : Int) + 2)) 0 109 A hM9 RM9 hI.1) hM9.1 rfl (a_rmL rfl rfl (by show 220 + 40 * n + 0 ≤ 601024; omega) (by show 20200 + 400 * n + 0 ≤ 7293034; omega)) (Nat.le_of_ble_eq_true rfl) (k_G (fun v8 M8 hM8 => ?_)) n_GN
    obtain ⟨kd, t8, e8, R8, F8⟩ := hM8
    obtain ⟨k8, w8⟩ := v8
    have kd : k8 = 0 := kd
    subst kd
    have RC8 : RC M8 N S (spTrust A (a_scr E (6 * (n : Int) + 1)) (a_scr E (6 * (n : Int) + 2)) 0).2.2 := R9.cgo fun a q i => F8 a i (by omega)
    refine x_istore (pc := 554) dL_law_554 (by show _ < 8; decide) rfl ?_
    refine x_aload_n (pc := 556) dL_law_556 rfl rfl ?_
    refine x_callV0N (pc := 557) dL_law_557 kL_142 (s_thrown hfl 109 hM9) hM9.1 rfl (a_rmL rfl rfl (by show 220 + 40 * n + 0 + 0 ≤ 601024; omega) (by show 20200 + 400 * n + 0 + 0 ≤ 7293034; omega)) (Nat.le_of_ble_eq_true rfl) (k_R ?_) n_RN
    rw [t8]
    refine x_iload (pc := 560) dL_law_560 rfl ?_
    refine x_icmp_eq (tgt := 567) (pc := 562) dL_law_562 (by decide) (fun c_562 => ?_) (fun c_562 => ?_)
    · refine x_iload (pc := 567) dL_law_567 rfl ?_
      refine x_if_ne (tgt := 591) (pc := 569) dL_law_569 (by decide) (fun c_569 => ?_) (fun c_569 => ?_)
      · refine x_goto (tgt := 2617) (pc := 591) dL_law_591 (by decide) ?_
        exact x_lo (lo' := [(0, (2, -43)), (1, (2, 0)), (2, (2, 109)), (3, (2, 139)), (4, (0, 6 * (n : Int)))]) ⟨rfl, rfl, rfl, rfl, rfl, trivial⟩ (x_room (by show 220 + 40 * n + 0 + 0 ≤ 200 + 40 * (n + 1); omega) (by show 20200 + 400 * n + 0 + 0 ≤ 20000 + 400 * (n + 1); omega) (tail N S M8 (spTrust A (a_scr E (6 * (n : Int) + 1)) (a_scr E (6 * (n : Int) + 2)) 0).2.2 ⟨by omega, hC9, hM9, hO9, RC8, R8, INV.trust hI (a_scr E (6 * (n : Int) + 1)) (a_scr E (6 * (n : Int) + 2)) 0⟩ (by omega)))
      · have e139 : M8 139 0 = (spTrust A (a_scr E (6 * (n : Int) + 1)) (a_scr E (6 * (n : Int) + 2)) 0).2.1 := (F8 139 0 (by omega)).trans (v9 c_569)
        have ew : w8 = (spTrust A (a_scr E (6 * (n : Int) + 1)) (a_scr E (6 * (n : Int) + 2)) 0).2.1 := congrArg Prod.snd (e8 c_569)
        have hb9 := bb_trust A (a_scr E (6 * (n : Int) + 1)) (a_scr E (6 * (n : Int) + 2)) 0 c_569
        refine x_aload_n (pc := 572) dL_law_572 rfl rfl ?_
        refine x_iconst (pc := 573) dL_law_573 (by decide) ?_
        refine x_laloadV (pc := 574) dL_law_574 hO9 (by omega) (by (repeat (first | rewrite [up_s] | rewrite [up_i (by omega)] | rewrite [up_a (by omega)])); first | exact e139 | rfl) (fun g_574 => ?_)
        refine x_iload (pc := 575) dL_law_575 rfl ?_
        refine x_if_eq (tgt := 584) (pc := 577) dL_law_577 (by decide) (fun c_577 => ?_) (fun c_577 => ?_)
        · refine x_lconst0 (pc := 584) dL_law_584 ?_
          refine x_leq (tgt := 591) (pc := 585) dL_law_585 dL_law_586 (by decide) (fun c_585 => ?_) (fun c_585 => ?_)
          · refine x_goto (tgt := 2617) (pc := 591) dL_law_591 (by decide) ?_
            exact x_lo (lo' := [(0, (2, -43)), (1, (2, 0)), (2, (2, 109)), (3, (2, 139)), (4, (0, 6 * (n : Int)))]) ⟨rfl, rfl, rfl, rfl, rfl, trivial⟩ (x_room (by show 220 + 40 * n + 0 + 0 ≤ 200 + 40 * (n + 1); omega) (by show 20200 + 400 * n + 0 + 0 ≤ 20000 + 400 * (n + 1); omega) (tail N S M8 (spTrust A (a_scr E (6 * (n : Int) + 1)) (a_scr E (6 * (n : Int) + 2)) 0).2.2 ⟨by omega, hC9, hM9, hO9, RC8, R8, INV.trust hI (a_scr E (6 * (n : Int) + 1)) (a_scr E (6 * (n : Int) + 2)) 0⟩ (by omega)))
          · exfalso; omega
        · refine x_lconst1 (pc := 580) dL_law_580 ?_
          refine x_goto (tgt := 585) (pc := 581) dL_law_581 (by decide) ?_
          refine x_leq (tgt := 591) (pc := 585) dL_law_585 dL_law_586 (by decide) (fun c_585 => ?_) (fun c_585 => ?_)
          · refine x_goto (tgt := 2617) (pc := 591) dL_law_591 (by decide) ?_
            exact x_lo (lo' := [(0, (2, -43)), (1, (2, 0)), (2, (2, 109)), (3, (2, 139)), (4, (0, 6 * (n : Int)))]) ⟨rfl, rfl, rfl, rfl, rfl, trivial⟩ (x_room (by show 220 + 40 * n + 0 + 0 ≤ 200 + 40 * (n + 1); omega) (by show 20200 + 400 * n + 0 + 0 ≤ 20000 + 400 * (n + 1); omega) (tail N S M8 (spTrust A (a_scr E (6 * (n : Int) + 1)) (a_scr E (6 * (n : Int) + 2)) 0).2.2 ⟨by omega, hC9, hM9, hO9, RC8, R8, INV.trust hI (a_scr E (6 * (n : Int) + 1)) (a_scr E (6 * (n : Int) + 2)) 0⟩ (by omega)))
          · exfalso; omega
    · exfalso; omega
  · refine x_iconst (pc := 513) dL_law_513 (by decide) ?_
    refine x_goto (tgt := 518) (pc := 514) dL_law_514 (by decide) ?_
    refine x_aload_n (pc := 518) dL_law_518 rfl rfl ?_
    refine x_callS5H (pc := 519) dL_law_519 kLH_157 (h_trust hfl (a_scr E (6 * (n : Int) + 1)) (a_scr E (6 * (n : Int) + 2)) 1 (Or.inr rfl) A hW) (a_rmL rfl rfl (by show 200 + 40 * n + 3 ≤ 601024; omega) (by show 20000 + 400 * n + 18 ≤ 7293034; omega)) (Nat.le_of_ble_eq_true rfl) (k_hQ (fun M9 f9 R9 v9 => ?_)) n_hQ
    refine x_room (kc' := 220 + 40 * n) (ks' := 20200 + 400 * n) (by show 200 + 40 * n + 3 ≤ 220 + 40 * n; omega) (by show 20000 + 400 * n + 18 ≤ 20200 + 400 * n; omega) ?_
    have hC9 := hC
    have hM9 := hM
    have hO9 := hO
    have RM9 : RM M9 109 A := hRM.cgo fun a p q i => f9 a i (by omega) (by omega)
    refine x_istore (pc := 522) dL_law_522 (by show _ < 8; decide) rfl ?_
    refine x_aload_n (pc := 524) dL_law_524 rfl rfl ?_
    refine x_aload_n (pc := 525) dL_law_525 rfl rfl ?_
    refine x_iload (pc := 526) dL_law_526 rfl ?_
    refine x_iconst (pc := 528) dL_law_528 (by decide) ?_
    refine x_iadd (pc := 529) dL_law_529 (by omega) ?_
    refine x_sld (pc := 530) dL_law_530 ⟨by omega, by omega⟩ ?_
    refine x_aload_n (pc := 531) dL_law_531 rfl rfl ?_
    refine x_iload (pc := 532) dL_law_532 rfl ?_
    refine x_iconst (pc := 534) dL_law_534 (by decide) ?_
    refine x_iadd (pc := 535) dL_law_535 (by omega) ?_
    refine x_sld (pc := 536) dL_law_536 ⟨by omega, by omega⟩ ?_
    refine x_aload_n (pc := 537) dL_law_537 rfl rfl ?_
    refine x_iload (pc := 538) dL_law_538 rfl ?_
    refine x_iconst (pc := 540) dL_law_540 (by decide) ?_
    refine x_iadd (pc := 541) dL_law_541 (by omega) ?_
    refine x_sld (pc := 542) dL_law_542 ⟨by omega, by omega⟩ ?_
    refine x_if_eq (tgt := 550) (pc := 543) dL_law_543 (by decide) (fun c => absurd c c_510) (fun _ => ?_)
    refine x_iconst (pc := 546) dL_law_546 (by decide) ?_
    refine x_goto (tgt := 551) (pc := 547) dL_law_547 (by decide) ?_
    refine x_callV3N (pc := 551) dL_law_551 kL_160 (s_Mtrust hfl (a_scr E (6 * (n : Int) + 1)) (a_scr E (6 * (n : Int) + 2)) 1 109 A hM9 RM9 hI.1) hM9.1 rfl (a_rmL rfl rfl (by show 220 + 40 * n + 0 ≤ 601024; omega) (by show 20200 + 400 * n + 0 ≤ 7293034; omega)) (Nat.le_of_ble_eq_true rfl) (k_G (fun v8 M8 hM8 => ?_)) n_GN
    obtain ⟨kd, t8, e8, R8, F8⟩ := hM8
    obtain ⟨k8, w8⟩ := v8
    have kd : k8 = 0 := kd
    subst kd
    have RC8 : RC M8 N S (spTrust A (a_scr E (6 * (n : Int) + 1)) (a_scr E (6 * (n : Int) + 2)) 1).2.2 := R9.cgo fun a q i => F8 a i (by omega)
    refine x_istore (pc := 554) dL_law_554 (by show _ < 8; decide) rfl ?_
    refine x_aload_n (pc := 556) dL_law_556 rfl rfl ?_
    refine x_callV0N (pc := 557) dL_law_557 kL_142 (s_thrown hfl 109 hM9) hM9.1 rfl (a_rmL rfl rfl (by show 220 + 40 * n + 0 + 0 ≤ 601024; omega) (by show 20200 + 400 * n + 0 + 0 ≤ 7293034; omega)) (Nat.le_of_ble_eq_true rfl) (k_R ?_) n_RN
    rw [t8]
    refine x_iload (pc := 560) dL_law_560 rfl ?_
    refine x_icmp_eq (tgt := 567) (pc := 562) dL_law_562 (by decide) (fun c_562 => ?_) (fun c_562 => ?_)
    · refine x_iload (pc := 567) dL_law_567 rfl ?_
      refine x_if_ne (tgt := 591) (pc := 569) dL_law_569 (by decide) (fun c_569 => ?_) (fun c_569 => ?_)
      · refine x_goto (tgt := 2617) (pc := 591) dL_law_591 (by decide) ?_
        exact x_lo (lo' := [(0, (2, -43)), (1, (2, 0)), (2, (2, 109)), (3, (2, 139)), (4, (0, 6 * (n : Int)))]) ⟨rfl, rfl, rfl, rfl, rfl, trivial⟩ (x_room (by show 220 + 40 * n + 0 + 0 ≤ 200 + 40 * (n + 1); omega) (by show 20200 + 400 * n + 0 + 0 ≤ 20000 + 400 * (n + 1); omega) (tail N S M8 (spTrust A (a_scr E (6 * (n : Int) + 1)) (a_scr E (6 * (n : Int) + 2)) 1).2.2 ⟨by omega, hC9, hM9, hO9, RC8, R8, INV.trust hI (a_scr E (6 * (n : Int) + 1)) (a_scr E (6 * (n : Int) + 2)) 1⟩ (by omega)))
      · have e139 : M8 139 0 = (spTrust A (a_scr E (6 * (n : Int) + 1)) (a_scr E (6 * (n : Int) + 2)) 1).2.1 := (F8 139 0 (by omega)).trans (v9 c_569)
        have ew : w8 = (spTrust A (a_scr E (6 * (n : Int) + 1)) (a_scr E (6 * (n : Int) + 2)) 1).2.1 := congrArg Prod.snd (e8 c_569)
        have hb9 := bb_trust A (a_scr E (6 * (n : Int) + 1)) (a_scr E (6 * (n : Int) + 2)) 1 c_569
        refine x_aload_n (pc := 572) dL_law_572 rfl rfl ?_
        refine x_iconst (pc := 573) dL_law_573 (by decide) ?_
        refine x_laloadV (pc := 574) dL_law_574 hO9 (by omega) (by (repeat (first | rewrite [up_s] | rewrite [up_i (by omega)] | rewrite [up_a (by omega)])); first | exact e139 | rfl) (fun g_574 => ?_)
        refine x_iload (pc := 575) dL_law_575 rfl ?_
        refine x_if_eq (tgt := 584) (pc := 577) dL_law_577 (by decide) (fun c_577 => ?_) (fun c_577 => ?_)
        · refine x_lconst0 (pc := 584) dL_law_584 ?_
          refine x_leq (tgt := 591) (pc := 585) dL_law_585 dL_law_586 (by decide) (fun c_585 => ?_) (fun c_585 => ?_)
          · refine x_goto (tgt := 2617) (pc := 591) dL_law_591 (by decide) ?_
            exact x_lo (lo' := [(0, (2, -43)), (1, (2, 0)), (2, (2, 109)), (3, (2, 139)), (4, (0, 6 * (n : Int)))]) ⟨rfl, rfl, rfl, rfl, rfl, trivial⟩ (x_room (by show 220 + 40 * n + 0 + 0 ≤ 200 + 40 * (n + 1); omega) (by show 20200 + 400 * n + 0 + 0 ≤ 20000 + 400 * (n + 1); omega) (tail N S M8 (spTrust A (a_scr E (6 * (n : Int) + 1)) (a_scr E (6 * (n : Int) + 2)) 1).2.2 ⟨by omega, hC9, hM9, hO9, RC8, R8, INV.trust hI (a_scr E (6 * (n : Int) + 1)) (a_scr E (6 * (n : Int) + 2)) 1⟩ (by omega)))
          · exfalso; omega
        · refine x_lconst1 (pc := 580) dL_law_580 ?_
          refine x_goto (tgt := 585) (pc := 581) dL_law_581 (by decide) ?_
          refine x_leq (tgt := 591) (pc := 585) dL_law_585 dL_law_586 (by decide) (fun c_585 => ?_) (fun c_585 => ?_)
          · refine x_goto (tgt := 2617) (pc := 591) dL_law_591 (by decide) ?_
            exact x_lo (lo' := [(0, (2, -43)), (1, (2, 0)), (2, (2, 109)), (3, (2, 139)), (4, (0, 6 * (n : Int)))]) ⟨rfl, rfl, rfl, rfl, rfl, trivial⟩ (x_room (by show 220 + 40 * n + 0 + 0 ≤ 200 + 40 * (n + 1); omega) (by show 20200 + 400 * n + 0 + 0 ≤ 20000 + 400 * (n + 1); omega) (tail N S M8 (spTrust A (a_scr E (6 * (n : Int) + 1)) (a_scr E (6 * (n : Int) + 2)) 1).2.2 ⟨by omega, hC9, hM9, hO9, RC8, R8, INV.trust hI (a_scr E (6 * (n : Int) + 1)) (a_scr E (6 * (n : Int) + 2)) 1⟩ (by omega)))
          · exfalso; omega
    · exfalso; omega
theorem dL_law_594 : decode code 594 = .ok (.aload_n 1, 1) := by decide +kernel
theorem dL_law_595 : decode code 595 = .ok (.aload_n 0, 1) := by decide +kernel
theorem dL_law_596 : decode code 596 = .ok (.iload 4, 2) := by decide +kernel
theorem dL_law_598 : decode code 598 = .ok (.iconst 1, 1) := by decide +kernel
theorem dL_law_599 : decode code 599 = .ok (.iadd, 1) := by decide +kernel
theorem dL_law_600 : decode code 600 = .ok (.iaload, 1) := by decide +kernel
theorem dL_law_601 : decode code 601 = .ok (.aload_n 3, 1) := by decide +kernel
theorem dL_law_602 : decode code 602 = .ok (.invokestatic 161, 3) := by decide +kernel
theorem dL_law_605 : decode code 605 = .ok (.istore 5, 2) := by decide +kernel
theorem dL_law_607 : decode code 607 = .ok (.aload_n 2, 1) := by decide +kernel
theorem dL_law_608 : decode code 608 = .ok (.aload_n 0, 1) := by decide +kernel
theorem dL_law_609 : decode code 609 = .ok (.iload 4, 2) := by decide +kernel
theorem dL_law_611 : decode code 611 = .ok (.iconst 1, 1) := by decide +kernel
theorem dL_law_612 : decode code 612 = .ok (.iadd, 1) := by decide +kernel
theorem dL_law_613 : decode code 613 = .ok (.iaload, 1) := by decide +kernel
theorem dL_law_614 : decode code 614 = .ok (.invokevirtual 163, 3) := by decide +kernel
theorem dL_law_617 : decode code 617 = .ok (.istore 6, 2) := by decide +kernel
theorem dL_law_619 : decode code 619 = .ok (.aload_n 2, 1) := by decide +kernel
theorem dL_law_620 : decode code 620 = .ok (.invokevirtual 142, 3) := by decide +kernel
theorem dL_law_623 : decode code 623 = .ok (.iload 5, 2) := by decide +kernel
theorem dL_law_625 : decode code 625 = .ok (.if_icmp .eq 5, 3) := by decide +kernel
theorem dL_law_628 : decode code 628 = .ok (.iconst 0, 1) := by decide +kernel
theorem dL_law_629 : decode code 629 = .ok (.ireturn, 1) := by decide +kernel
theorem dL_law_630 : decode code 630 = .ok (.iload 5, 2) := by decide +kernel
theorem dL_law_632 : decode code 632 = .ok (.ifCond .ne 15, 3) := by decide +kernel
theorem dL_law_635 : decode code 635 = .ok (.aload_n 3, 1) := by decide +kernel
theorem dL_law_636 : decode code 636 = .ok (.iconst 0, 1) := by decide +kernel
theorem dL_law_637 : decode code 637 = .ok (.laload, 1) := by decide +kernel
theorem dL_law_638 : decode code 638 = .ok (.iload 6, 2) := by decide +kernel
theorem dL_law_640 : decode code 640 = .ok (.i2l, 1) := by decide +kernel
theorem dL_law_641 : decode code 641 = .ok (.lcmp, 1) := by decide +kernel
theorem dL_law_642 : decode code 642 = .ok (.ifCond .eq 5, 3) := by decide +kernel
theorem dL_law_645 : decode code 645 = .ok (.iconst 0, 1) := by decide +kernel
theorem dL_law_646 : decode code 646 = .ok (.ireturn, 1) := by decide +kernel
theorem dL_law_647 : decode code 647 = .ok (.goto 1970, 3) := by decide +kernel
theorem kLH_161 : a_kSH RL 161 pL_holder 3 := ⟨(lw_ok_in (List.mem_of_getElem? (i := 794) (by decide +kernel)) rfl), (lw_ok_in (List.mem_of_getElem? (i := 109) (by decide +kernel)) rfl), by decide +kernel, (lw_ok_in (List.mem_of_getElem? (i := 792) (by decide +kernel)) rfl), (lw_ok_in (List.mem_of_getElem? (i := 793) (by decide +kernel)) rfl)⟩
theorem kL_163 : a_kV RL 163 pX12_holder 1 := ⟨cbX12_holder, (lw_ok_in (List.mem_of_getElem? (i := 1746) (by decide +kernel)) rfl), (lw_ok_in (List.mem_of_getElem? (i := 1747) (by decide +kernel)) rfl), (lw_ok_in (List.mem_of_getElem? (i := 1748) (by decide +kernel)) rfl)⟩
theorem case_holder {l : Launch} {E : aE} {hh : List (Nat × Nat × Nat × Nat)} {n N : Nat} {S : aS} {M A : aM} (hfl : l.stackTraces = false) (h42 : E.2.2.2 42 ≤ 3072) (hi : 6 * (n : Int) + 6 ≤ (E.2.2.2 42 : Int)) (hW : LWI N S M A) (hN9 : N ≤ 140 + 15 * n) (tail : lawTail l E hh n) : aX l E (pL_law hh) QL (200 + 40 * n) (20000 + 400 * n) N S M 594 [(0, (2, -43)), (1, (2, 0)), (2, (2, 109)), (3, (2, 139)), (4, (0, 6 * (n : Int)))] [] := by
  obtain ⟨hN0, hC, hS9, hO, hR, hRM, hI⟩ := id hW
  have hM := hS9
  have hn : n ≤ 511 := by omega
  refine x_aload_n (pc := 594) dL_law_594 rfl rfl ?_
  refine x_aload_n (pc := 595) dL_law_595 rfl rfl ?_
  refine x_iload (pc := 596) dL_law_596 rfl ?_
  refine x_iconst (pc := 598) dL_law_598 (by decide) ?_
  refine x_iadd (pc := 599) dL_law_599 (by omega) ?_
  refine x_sld (pc := 600) dL_law_600 ⟨by omega, by omega⟩ ?_
  refine x_aload_n (pc := 601) dL_law_601 rfl rfl ?_
  refine x_callS3H (pc := 602) dL_law_602 kLH_161 (h_holder hfl (a_scr E (6 * (n : Int) + 1)) A hW) (a_rmL rfl rfl (by show 200 + 40 * n + 1 ≤ 601024; omega) (by show 20000 + 400 * n + 6 ≤ 7293034; omega)) (Nat.le_of_ble_eq_true rfl) (k_hQ (fun M9 f9 R9 v9 => ?_)) n_hQ
  refine x_room (kc' := 220 + 40 * n) (ks' := 20200 + 400 * n) (by show 200 + 40 * n + 1 ≤ 220 + 40 * n; omega) (by show 20000 + 400 * n + 6 ≤ 20200 + 400 * n; omega) ?_
  have hC9 := hC
  have hM9 := hM
  have hO9 := hO
  have RM9 : RM M9 109 A := hRM.cgo fun a p q i => f9 a i (by omega) (by omega)
  refine x_istore (pc := 605) dL_law_605 (by show _ < 8; decide) rfl ?_
  refine x_aload_n (pc := 607) dL_law_607 rfl rfl ?_
  refine x_aload_n (pc := 608) dL_law_608 rfl rfl ?_
  refine x_iload (pc := 609) dL_law_609 rfl ?_
  refine x_iconst (pc := 611) dL_law_611 (by decide) ?_
  refine x_iadd (pc := 612) dL_law_612 (by omega) ?_
  refine x_sld (pc := 613) dL_law_613 ⟨by omega, by omega⟩ ?_
  refine x_callV1N (pc := 614) dL_law_614 kL_163 (s_Mholder hfl (a_scr E (6 * (n : Int) + 1)) 109 A hM9 RM9 hI.1) hM9.1 rfl (a_rmL rfl rfl (by show 220 + 40 * n + 0 ≤ 601024; omega) (by show 20200 + 400 * n + 0 ≤ 7293034; omega)) (Nat.le_of_ble_eq_true rfl) (k_G (fun v8 M8 hM8 => ?_)) n_GN
  obtain ⟨kd, t8, e8, R8, F8⟩ := hM8
  obtain ⟨k8, w8⟩ := v8
  have kd : k8 = 0 := kd
  subst kd
  have RC8 : RC M8 N S (spHolder A (a_scr E (6 * (n : Int) + 1))).2.2 := R9.cgo fun a q i => F8 a i (by omega)
  refine x_istore (pc := 617) dL_law_617 (by show _ < 8; decide) rfl ?_
  refine x_aload_n (pc := 619) dL_law_619 rfl rfl ?_
  refine x_callV0N (pc := 620) dL_law_620 kL_142 (s_thrown hfl 109 hM9) hM9.1 rfl (a_rmL rfl rfl (by show 220 + 40 * n + 0 + 0 ≤ 601024; omega) (by show 20200 + 400 * n + 0 + 0 ≤ 7293034; omega)) (Nat.le_of_ble_eq_true rfl) (k_R ?_) n_RN
  rw [t8]
  refine x_iload (pc := 623) dL_law_623 rfl ?_
  refine x_icmp_eq (tgt := 630) (pc := 625) dL_law_625 (by decide) (fun c_625 => ?_) (fun c_625 => ?_)
  · refine x_iload (pc := 630) dL_law_630 rfl ?_
    refine x_if_ne (tgt := 647) (pc := 632) dL_law_632 (by decide) (fun c_632 => ?_) (fun c_632 => ?_)
    · refine x_goto (tgt := 2617) (pc := 647) dL_law_647 (by decide) ?_
      exact x_lo (lo' := [(0, (2, -43)), (1, (2, 0)), (2, (2, 109)), (3, (2, 139)), (4, (0, 6 * (n : Int)))]) ⟨rfl, rfl, rfl, rfl, rfl, trivial⟩ (x_room (by show 220 + 40 * n + 0 + 0 ≤ 200 + 40 * (n + 1); omega) (by show 20200 + 400 * n + 0 + 0 ≤ 20000 + 400 * (n + 1); omega) (tail N S M8 (spHolder A (a_scr E (6 * (n : Int) + 1))).2.2 ⟨by omega, hC9, hM9, hO9, RC8, R8, INV.holder_ hI (a_scr E (6 * (n : Int) + 1))⟩ (by omega)))
    · have e139 : M8 139 0 = (spHolder A (a_scr E (6 * (n : Int) + 1))).2.1 := (F8 139 0 (by omega)).trans (v9 c_632)
      have ew : w8 = (spHolder A (a_scr E (6 * (n : Int) + 1))).2.1 := congrArg Prod.snd (e8 c_632)
      refine x_aload_n (pc := 635) dL_law_635 rfl rfl ?_
      refine x_iconst (pc := 636) dL_law_636 (by decide) ?_
      refine x_laloadV (pc := 637) dL_law_637 hO9 (by omega) (by (repeat (first | rewrite [up_s] | rewrite [up_i (by omega)] | rewrite [up_a (by omega)])); first | exact e139 | rfl) (fun g_637 => ?_)
      refine x_iload (pc := 638) dL_law_638 rfl ?_
      refine x_i2l (pc := 640) dL_law_640 ?_
      refine x_leq (tgt := 647) (pc := 641) dL_law_641 dL_law_642 (by decide) (fun c_641 => ?_) (fun c_641 => ?_)
      · refine x_goto (tgt := 2617) (pc := 647) dL_law_647 (by decide) ?_
        exact x_lo (lo' := [(0, (2, -43)), (1, (2, 0)), (2, (2, 109)), (3, (2, 139)), (4, (0, 6 * (n : Int)))]) ⟨rfl, rfl, rfl, rfl, rfl, trivial⟩ (x_room (by show 220 + 40 * n + 0 + 0 ≤ 200 + 40 * (n + 1); omega) (by show 20200 + 400 * n + 0 + 0 ≤ 20000 + 400 * (n + 1); omega) (tail N S M8 (spHolder A (a_scr E (6 * (n : Int) + 1))).2.2 ⟨by omega, hC9, hM9, hO9, RC8, R8, INV.holder_ hI (a_scr E (6 * (n : Int) + 1))⟩ (by omega)))
      · exfalso; omega
  · exfalso; omega
theorem dL_law_650 : decode code 650 = .ok (.aload_n 1, 1) := by decide +kernel
theorem dL_law_651 : decode code 651 = .ok (.aload_n 0, 1) := by decide +kernel
theorem dL_law_652 : decode code 652 = .ok (.iload 4, 2) := by decide +kernel
theorem dL_law_654 : decode code 654 = .ok (.iconst 1, 1) := by decide +kernel
theorem dL_law_655 : decode code 655 = .ok (.iadd, 1) := by decide +kernel
theorem dL_law_656 : decode code 656 = .ok (.iaload, 1) := by decide +kernel
theorem dL_law_657 : decode code 657 = .ok (.aload_n 0, 1) := by decide +kernel
theorem dL_law_658 : decode code 658 = .ok (.iload 4, 2) := by decide +kernel
theorem dL_law_660 : decode code 660 = .ok (.iconst 2, 1) := by decide +kernel
theorem dL_law_661 : decode code 661 = .ok (.iadd, 1) := by decide +kernel
theorem dL_law_662 : decode code 662 = .ok (.iaload, 1) := by decide +kernel
theorem dL_law_663 : decode code 663 = .ok (.aload_n 3, 1) := by decide +kernel
theorem dL_law_664 : decode code 664 = .ok (.invokestatic 164, 3) := by decide +kernel
theorem dL_law_667 : decode code 667 = .ok (.istore 5, 2) := by decide +kernel
theorem dL_law_669 : decode code 669 = .ok (.aload_n 2, 1) := by decide +kernel
theorem dL_law_670 : decode code 670 = .ok (.aload_n 0, 1) := by decide +kernel
theorem dL_law_671 : decode code 671 = .ok (.iload 4, 2) := by decide +kernel
theorem dL_law_673 : decode code 673 = .ok (.iconst 1, 1) := by decide +kernel
theorem dL_law_674 : decode code 674 = .ok (.iadd, 1) := by decide +kernel
theorem dL_law_675 : decode code 675 = .ok (.iaload, 1) := by decide +kernel
theorem dL_law_676 : decode code 676 = .ok (.aload_n 0, 1) := by decide +kernel
theorem dL_law_677 : decode code 677 = .ok (.iload 4, 2) := by decide +kernel
theorem dL_law_679 : decode code 679 = .ok (.iconst 2, 1) := by decide +kernel
theorem dL_law_680 : decode code 680 = .ok (.iadd, 1) := by decide +kernel
theorem dL_law_681 : decode code 681 = .ok (.iaload, 1) := by decide +kernel
theorem dL_law_682 : decode code 682 = .ok (.invokevirtual 166, 3) := by decide +kernel
theorem dL_law_685 : decode code 685 = .ok (.istore 6, 2) := by decide +kernel
theorem dL_law_687 : decode code 687 = .ok (.aload_n 2, 1) := by decide +kernel
theorem dL_law_688 : decode code 688 = .ok (.invokevirtual 142, 3) := by decide +kernel
theorem dL_law_691 : decode code 691 = .ok (.iload 5, 2) := by decide +kernel
theorem dL_law_693 : decode code 693 = .ok (.if_icmp .eq 5, 3) := by decide +kernel
theorem dL_law_696 : decode code 696 = .ok (.iconst 0, 1) := by decide +kernel
theorem dL_law_697 : decode code 697 = .ok (.ireturn, 1) := by decide +kernel
theorem dL_law_698 : decode code 698 = .ok (.iload 5, 2) := by decide +kernel
theorem dL_law_700 : decode code 700 = .ok (.ifCond .ne 15, 3) := by decide +kernel
theorem dL_law_703 : decode code 703 = .ok (.aload_n 3, 1) := by decide +kernel
theorem dL_law_704 : decode code 704 = .ok (.iconst 0, 1) := by decide +kernel
theorem dL_law_705 : decode code 705 = .ok (.laload, 1) := by decide +kernel
theorem dL_law_706 : decode code 706 = .ok (.iload 6, 2) := by decide +kernel
theorem dL_law_708 : decode code 708 = .ok (.i2l, 1) := by decide +kernel
theorem dL_law_709 : decode code 709 = .ok (.lcmp, 1) := by decide +kernel
theorem dL_law_710 : decode code 710 = .ok (.ifCond .eq 5, 3) := by decide +kernel
theorem dL_law_713 : decode code 713 = .ok (.iconst 0, 1) := by decide +kernel
theorem dL_law_714 : decode code 714 = .ok (.ireturn, 1) := by decide +kernel
theorem dL_law_715 : decode code 715 = .ok (.goto 1902, 3) := by decide +kernel
theorem kLH_164 : a_kSH RL 164 pL_chain 4 := ⟨(lw_ok_in (List.mem_of_getElem? (i := 810) (by decide +kernel)) rfl), (lw_ok_in (List.mem_of_getElem? (i := 109) (by decide +kernel)) rfl), by decide +kernel, (lw_ok_in (List.mem_of_getElem? (i := 808) (by decide +kernel)) rfl), (lw_ok_in (List.mem_of_getElem? (i := 809) (by decide +kernel)) rfl)⟩
theorem kL_166 : a_kV RL 166 pX12_chain 2 := ⟨cbX12_chain, (lw_ok_in (List.mem_of_getElem? (i := 1765) (by decide +kernel)) rfl), (lw_ok_in (List.mem_of_getElem? (i := 1766) (by decide +kernel)) rfl), (lw_ok_in (List.mem_of_getElem? (i := 1767) (by decide +kernel)) rfl)⟩
theorem case_chain {l : Launch} {E : aE} {hh : List (Nat × Nat × Nat × Nat)} {n N : Nat} {S : aS} {M A : aM} (hfl : l.stackTraces = false) (h42 : E.2.2.2 42 ≤ 3072) (hi : 6 * (n : Int) + 6 ≤ (E.2.2.2 42 : Int)) (hW : LWI N S M A) (hN9 : N ≤ 140 + 15 * n) (tail : lawTail l E hh n) : aX l E (pL_law hh) QL (200 + 40 * n) (20000 + 400 * n) N S M 650 [(0, (2, -43)), (1, (2, 0)), (2, (2, 109)), (3, (2, 139)), (4, (0, 6 * (n : Int)))] [] := by
  obtain ⟨hN0, hC, hS9, hO, hR, hRM, hI⟩ := id hW
  have hM := hS9
  have hn : n ≤ 511 := by omega
  refine x_aload_n (pc := 650) dL_law_650 rfl rfl ?_
  refine x_aload_n (pc := 651) dL_law_651 rfl rfl ?_
  refine x_iload (pc := 652) dL_law_652 rfl ?_
  refine x_iconst (pc := 654) dL_law_654 (by decide) ?_
  refine x_iadd (pc := 655) dL_law_655 (by omega) ?_
  refine x_sld (pc := 656) dL_law_656 ⟨by omega, by omega⟩ ?_
  refine x_aload_n (pc := 657) dL_law_657 rfl rfl ?_
  refine x_iload (pc := 658) dL_law_658 rfl ?_
  refine x_iconst (pc := 660) dL_law_660 (by decide) ?_
  refine x_iadd (pc := 661) dL_law_661 (by omega) ?_
  refine x_sld (pc := 662) dL_law_662 ⟨by omega, by omega⟩ ?_
  refine x_aload_n (pc := 663) dL_law_663 rfl rfl ?_
  refine x_callS4H (pc := 664) dL_law_664 kLH_164 (h_chain hfl (a_scr E (6 * (n : Int) + 1)) (a_scr E (6 * (n : Int) + 2)) A hW) (a_rmL rfl rfl (by show 200 + 40 * n + 2 ≤ 601024; omega) (by show 20000 + 400 * n + 12 ≤ 7293034; omega)) (Nat.le_of_ble_eq_true rfl) (k_hQ (fun M9 f9 R9 v9 => ?_)) n_hQ
  refine x_room (kc' := 220 + 40 * n) (ks' := 20200 + 400 * n) (by show 200 + 40 * n + 2 ≤ 220 + 40 * n; omega) (by show 20000 + 400 * n + 12 ≤ 20200 + 400 * n; omega) ?_
  have hC9 := hC
  have hM9 := hM
  have hO9 := hO
  have RM9 : RM M9 109 A := hRM.cgo fun a p q i => f9 a i (by omega) (by omega)
  refine x_istore (pc := 667) dL_law_667 (by show _ < 8; decide) rfl ?_
  refine x_aload_n (pc := 669) dL_law_669 rfl rfl ?_
  refine x_aload_n (pc := 670) dL_law_670 rfl rfl ?_
  refine x_iload (pc := 671) dL_law_671 rfl ?_
  refine x_iconst (pc := 673) dL_law_673 (by decide) ?_
  refine x_iadd (pc := 674) dL_law_674 (by omega) ?_
  refine x_sld (pc := 675) dL_law_675 ⟨by omega, by omega⟩ ?_
  refine x_aload_n (pc := 676) dL_law_676 rfl rfl ?_
  refine x_iload (pc := 677) dL_law_677 rfl ?_
  refine x_iconst (pc := 679) dL_law_679 (by decide) ?_
  refine x_iadd (pc := 680) dL_law_680 (by omega) ?_
  refine x_sld (pc := 681) dL_law_681 ⟨by omega, by omega⟩ ?_
  refine x_callV2N (pc := 682) dL_law_682 kL_166 (s_Mchain hfl (a_scr E (6 * (n : Int) + 1)) (a_scr E (6 * (n : Int) + 2)) 109 A hM9 RM9 hI.1) hM9.1 rfl (a_rmL rfl rfl (by show 220 + 40 * n + 0 ≤ 601024; omega) (by show 20200 + 400 * n + 0 ≤ 7293034; omega)) (Nat.le_of_ble_eq_true rfl) (k_G (fun v8 M8 hM8 => ?_)) n_GN
  obtain ⟨kd, t8, e8, R8, F8⟩ := hM8
  obtain ⟨k8, w8⟩ := v8
  have kd : k8 = 0 := kd
  subst kd
  have RC8 : RC M8 N S (spChain A (a_scr E (6 * (n : Int) + 1)) (a_scr E (6 * (n : Int) + 2))).2.2 := R9.cgo fun a q i => F8 a i (by omega)
  refine x_istore (pc := 685) dL_law_685 (by show _ < 8; decide) rfl ?_
  refine x_aload_n (pc := 687) dL_law_687 rfl rfl ?_
  refine x_callV0N (pc := 688) dL_law_688 kL_142 (s_thrown hfl 109 hM9) hM9.1 rfl (a_rmL rfl rfl (by show 220 + 40 * n + 0 + 0 ≤ 601024; omega) (by show 20200 + 400 * n + 0 + 0 ≤ 7293034; omega)) (Nat.le_of_ble_eq_true rfl) (k_R ?_) n_RN
  rw [t8]
  refine x_iload (pc := 691) dL_law_691 rfl ?_
  refine x_icmp_eq (tgt := 698) (pc := 693) dL_law_693 (by decide) (fun c_693 => ?_) (fun c_693 => ?_)
  · refine x_iload (pc := 698) dL_law_698 rfl ?_
    refine x_if_ne (tgt := 715) (pc := 700) dL_law_700 (by decide) (fun c_700 => ?_) (fun c_700 => ?_)
    · refine x_goto (tgt := 2617) (pc := 715) dL_law_715 (by decide) ?_
      exact x_lo (lo' := [(0, (2, -43)), (1, (2, 0)), (2, (2, 109)), (3, (2, 139)), (4, (0, 6 * (n : Int)))]) ⟨rfl, rfl, rfl, rfl, rfl, trivial⟩ (x_room (by show 220 + 40 * n + 0 + 0 ≤ 200 + 40 * (n + 1); omega) (by show 20200 + 400 * n + 0 + 0 ≤ 20000 + 400 * (n + 1); omega) (tail N S M8 (spChain A (a_scr E (6 * (n : Int) + 1)) (a_scr E (6 * (n : Int) + 2))).2.2 ⟨by omega, hC9, hM9, hO9, RC8, R8, INV.chain_ hI (a_scr E (6 * (n : Int) + 1)) (a_scr E (6 * (n : Int) + 2))⟩ (by omega)))
    · have e139 : M8 139 0 = (spChain A (a_scr E (6 * (n : Int) + 1)) (a_scr E (6 * (n : Int) + 2))).2.1 := (F8 139 0 (by omega)).trans (v9 c_700)
      have ew : w8 = (spChain A (a_scr E (6 * (n : Int) + 1)) (a_scr E (6 * (n : Int) + 2))).2.1 := congrArg Prod.snd (e8 c_700)
      refine x_aload_n (pc := 703) dL_law_703 rfl rfl ?_
      refine x_iconst (pc := 704) dL_law_704 (by decide) ?_
      refine x_laloadV (pc := 705) dL_law_705 hO9 (by omega) (by (repeat (first | rewrite [up_s] | rewrite [up_i (by omega)] | rewrite [up_a (by omega)])); first | exact e139 | rfl) (fun g_705 => ?_)
      refine x_iload (pc := 706) dL_law_706 rfl ?_
      refine x_i2l (pc := 708) dL_law_708 ?_
      refine x_leq (tgt := 715) (pc := 709) dL_law_709 dL_law_710 (by decide) (fun c_709 => ?_) (fun c_709 => ?_)
      · refine x_goto (tgt := 2617) (pc := 715) dL_law_715 (by decide) ?_
        exact x_lo (lo' := [(0, (2, -43)), (1, (2, 0)), (2, (2, 109)), (3, (2, 139)), (4, (0, 6 * (n : Int)))]) ⟨rfl, rfl, rfl, rfl, rfl, trivial⟩ (x_room (by show 220 + 40 * n + 0 + 0 ≤ 200 + 40 * (n + 1); omega) (by show 20200 + 400 * n + 0 + 0 ≤ 20000 + 400 * (n + 1); omega) (tail N S M8 (spChain A (a_scr E (6 * (n : Int) + 1)) (a_scr E (6 * (n : Int) + 2))).2.2 ⟨by omega, hC9, hM9, hO9, RC8, R8, INV.chain_ hI (a_scr E (6 * (n : Int) + 1)) (a_scr E (6 * (n : Int) + 2))⟩ (by omega)))
      · exfalso; omega
  · exfalso; omega
