/-! THE LAW: its cases -/
theorem dL_law_1392 : decode code 1392 = .ok (.aload_n 1, 1) := by decide +kernel
theorem dL_law_1393 : decode code 1393 = .ok (.invokevirtual 203, 3) := by decide +kernel
theorem dL_law_1396 : decode code 1396 = .ok (.aload_n 2, 1) := by decide +kernel
theorem dL_law_1397 : decode code 1397 = .ok (.invokevirtual 207, 3) := by decide +kernel
theorem dL_law_1400 : decode code 1400 = .ok (.lcmp, 1) := by decide +kernel
theorem dL_law_1401 : decode code 1401 = .ok (.ifCond .eq 1216, 3) := by decide +kernel
theorem dL_law_1404 : decode code 1404 = .ok (.iconst 0, 1) := by decide +kernel
theorem dL_law_1405 : decode code 1405 = .ok (.ireturn, 1) := by decide +kernel
theorem kL_203 : a_kV RL 203 pX11_upper 0 := ⟨cbX11_upper, (lw_ok_in (List.mem_of_getElem? (i := 616) (by decide +kernel)) rfl), (lw_ok_in (List.mem_of_getElem? (i := 617) (by decide +kernel)) rfl), (lw_ok_in (List.mem_of_getElem? (i := 618) (by decide +kernel)) rfl)⟩
theorem kL_207 : a_kV RL 207 pX12_upper 0 := ⟨cbX12_upper, (lw_ok_in (List.mem_of_getElem? (i := 1957) (by decide +kernel)) rfl), (lw_ok_in (List.mem_of_getElem? (i := 1958) (by decide +kernel)) rfl), (lw_ok_in (List.mem_of_getElem? (i := 1959) (by decide +kernel)) rfl)⟩
theorem case_upper {l : Launch} {E : aE} {hh : List (Nat × Nat × Nat × Nat)} {n N : Nat} {S : aS} {M A : aM} (hfl : l.stackTraces = false) (h42 : E.2.2.2 42 ≤ 3072) (hi : 6 * (n : Int) + 6 ≤ (E.2.2.2 42 : Int)) (hW : LWI N S M A) (hN9 : N ≤ 140 + 15 * n) (tail : lawTail l E hh n) : aX l E (pL_law hh) QL (200 + 40 * n) (20000 + 400 * n) N S M 1392 [(0, (2, -43)), (1, (2, 0)), (2, (2, 109)), (3, (2, 139)), (4, (0, 6 * (n : Int)))] [] := by
  obtain ⟨hN, hC, hS9, hO, hR, hRM, hI⟩ := id hW
  have hM := hS9
  have hn : n ≤ 511 := by omega
  refine x_aload_n (pc := 1392) dL_law_1392 rfl rfl ?_
  have h0 : (spUpper A).1 = 0 := by
    unfold spUpper
    (repeat' split) <;> rfl
  refine x_callV0N (pc := 1393) dL_law_1393 kL_203 (s_Cupper hfl hC A hR hI.1) (sC_0 hC) rfl (a_rmL rfl rfl (by show 200 + 40 * n + 0 ≤ 601024; omega) (by show 20000 + 400 * n + 0 ≤ 7293034; omega)) (Nat.le_of_ble_eq_true rfl) (k_op (fun M9 hz hf R9 => ?_)) (n_opN h0)
  refine x_room (kc' := 220 + 40 * n) (ks' := 20200 + 400 * n) (by show 200 + 40 * n + 0 ≤ 220 + 40 * n; omega) (by show 20000 + 400 * n + 0 ≤ 20200 + 400 * n; omega) ?_
  have hC9 := hC
  have hM9 := hM
  have hO9 := hO
  have RM9 : RM M9 109 A := hRM.cgo fun a p q i => hf a i (by omega) (by omega)
  refine x_aload_n (pc := 1396) dL_law_1396 rfl rfl ?_
  refine x_callV0N (pc := 1397) dL_law_1397 kL_207 (s_Mupper hfl 109 A hM9 RM9 hI.1) hM9.1 rfl (a_rmL rfl rfl (by show 220 + 40 * n + 0 ≤ 601024; omega) (by show 20200 + 400 * n + 0 ≤ 7293034; omega)) (Nat.le_of_ble_eq_true rfl) (k_G (fun v8 M8 hM8 => ?_)) n_GN
  obtain ⟨kd, t8, e8, R8, F8⟩ := hM8
  rw [e8 h0]
  have RC8 : RC M8 N S (spUpper A).2.2 := R9.cgo fun a q i => F8 a i (by omega)
  refine x_leq (tgt := 2617) (pc := 1400) dL_law_1400 dL_law_1401 (by decide) (fun c_1400 => ?_) (fun c_1400 => ?_)
  · exact x_lo (lo' := [(0, (2, -43)), (1, (2, 0)), (2, (2, 109)), (3, (2, 139)), (4, (0, 6 * (n : Int)))]) ⟨rfl, rfl, rfl, rfl, rfl, trivial⟩ (x_room (by show 220 + 40 * n + 0 ≤ 200 + 40 * (n + 1); omega) (by show 20200 + 400 * n + 0 ≤ 20000 + 400 * (n + 1); omega) (tail N S M8 (spUpper A).2.2 ⟨by omega, hC9, hM9, hO9, RC8, R8, INV.upper_ hI⟩ (by omega)))
  · exfalso; omega
theorem dL_law_1406 : decode code 1406 = .ok (.aload_n 1, 1) := by decide +kernel
theorem dL_law_1407 : decode code 1407 = .ok (.invokevirtual 208, 3) := by decide +kernel
theorem dL_law_1410 : decode code 1410 = .ok (.aload_n 2, 1) := by decide +kernel
theorem dL_law_1411 : decode code 1411 = .ok (.invokevirtual 211, 3) := by decide +kernel
theorem dL_law_1414 : decode code 1414 = .ok (.lcmp, 1) := by decide +kernel
theorem dL_law_1415 : decode code 1415 = .ok (.ifCond .eq 1202, 3) := by decide +kernel
theorem dL_law_1418 : decode code 1418 = .ok (.iconst 0, 1) := by decide +kernel
theorem dL_law_1419 : decode code 1419 = .ok (.ireturn, 1) := by decide +kernel
theorem kL_208 : a_kV RL 208 pX11_lower 0 := ⟨cbX11_lower, (lw_ok_in (List.mem_of_getElem? (i := 620) (by decide +kernel)) rfl), (lw_ok_in (List.mem_of_getElem? (i := 621) (by decide +kernel)) rfl), (lw_ok_in (List.mem_of_getElem? (i := 622) (by decide +kernel)) rfl)⟩
theorem kL_211 : a_kV RL 211 pX12_lower 0 := ⟨cbX12_lower, (lw_ok_in (List.mem_of_getElem? (i := 1961) (by decide +kernel)) rfl), (lw_ok_in (List.mem_of_getElem? (i := 1962) (by decide +kernel)) rfl), (lw_ok_in (List.mem_of_getElem? (i := 1963) (by decide +kernel)) rfl)⟩
theorem case_lower {l : Launch} {E : aE} {hh : List (Nat × Nat × Nat × Nat)} {n N : Nat} {S : aS} {M A : aM} (hfl : l.stackTraces = false) (h42 : E.2.2.2 42 ≤ 3072) (hi : 6 * (n : Int) + 6 ≤ (E.2.2.2 42 : Int)) (hW : LWI N S M A) (hN9 : N ≤ 140 + 15 * n) (tail : lawTail l E hh n) : aX l E (pL_law hh) QL (200 + 40 * n) (20000 + 400 * n) N S M 1406 [(0, (2, -43)), (1, (2, 0)), (2, (2, 109)), (3, (2, 139)), (4, (0, 6 * (n : Int)))] [] := by
  obtain ⟨hN, hC, hS9, hO, hR, hRM, hI⟩ := id hW
  have hM := hS9
  have hn : n ≤ 511 := by omega
  refine x_aload_n (pc := 1406) dL_law_1406 rfl rfl ?_
  have h0 : (spLower A).1 = 0 := by
    unfold spLower
    (repeat' split) <;> rfl
  refine x_callV0N (pc := 1407) dL_law_1407 kL_208 (s_Clower hfl hC A hR hI.1) (sC_0 hC) rfl (a_rmL rfl rfl (by show 200 + 40 * n + 0 ≤ 601024; omega) (by show 20000 + 400 * n + 0 ≤ 7293034; omega)) (Nat.le_of_ble_eq_true rfl) (k_op (fun M9 hz hf R9 => ?_)) (n_opN h0)
  refine x_room (kc' := 220 + 40 * n) (ks' := 20200 + 400 * n) (by show 200 + 40 * n + 0 ≤ 220 + 40 * n; omega) (by show 20000 + 400 * n + 0 ≤ 20200 + 400 * n; omega) ?_
  have hC9 := hC
  have hM9 := hM
  have hO9 := hO
  have RM9 : RM M9 109 A := hRM.cgo fun a p q i => hf a i (by omega) (by omega)
  refine x_aload_n (pc := 1410) dL_law_1410 rfl rfl ?_
  refine x_callV0N (pc := 1411) dL_law_1411 kL_211 (s_Mlower hfl 109 A hM9 RM9 hI.1) hM9.1 rfl (a_rmL rfl rfl (by show 220 + 40 * n + 0 ≤ 601024; omega) (by show 20200 + 400 * n + 0 ≤ 7293034; omega)) (Nat.le_of_ble_eq_true rfl) (k_G (fun v8 M8 hM8 => ?_)) n_GN
  obtain ⟨kd, t8, e8, R8, F8⟩ := hM8
  rw [e8 h0]
  have RC8 : RC M8 N S (spLower A).2.2 := R9.cgo fun a q i => F8 a i (by omega)
  refine x_leq (tgt := 2617) (pc := 1414) dL_law_1414 dL_law_1415 (by decide) (fun c_1414 => ?_) (fun c_1414 => ?_)
  · exact x_lo (lo' := [(0, (2, -43)), (1, (2, 0)), (2, (2, 109)), (3, (2, 139)), (4, (0, 6 * (n : Int)))]) ⟨rfl, rfl, rfl, rfl, rfl, trivial⟩ (x_room (by show 220 + 40 * n + 0 ≤ 200 + 40 * (n + 1); omega) (by show 20200 + 400 * n + 0 ≤ 20000 + 400 * (n + 1); omega) (tail N S M8 (spLower A).2.2 ⟨by omega, hC9, hM9, hO9, RC8, R8, INV.lower_ hI⟩ (by omega)))
  · exfalso; omega
theorem dL_law_1420 : decode code 1420 = .ok (.aload_n 1, 1) := by decide +kernel
theorem dL_law_1421 : decode code 1421 = .ok (.aload_n 0, 1) := by decide +kernel
theorem dL_law_1422 : decode code 1422 = .ok (.iload 4, 2) := by decide +kernel
theorem dL_law_1424 : decode code 1424 = .ok (.iconst 1, 1) := by decide +kernel
theorem dL_law_1425 : decode code 1425 = .ok (.iadd, 1) := by decide +kernel
theorem dL_law_1426 : decode code 1426 = .ok (.iaload, 1) := by decide +kernel
theorem dL_law_1427 : decode code 1427 = .ok (.aload_n 0, 1) := by decide +kernel
theorem dL_law_1428 : decode code 1428 = .ok (.iload 4, 2) := by decide +kernel
theorem dL_law_1430 : decode code 1430 = .ok (.iconst 2, 1) := by decide +kernel
theorem dL_law_1431 : decode code 1431 = .ok (.iadd, 1) := by decide +kernel
theorem dL_law_1432 : decode code 1432 = .ok (.iaload, 1) := by decide +kernel
theorem dL_law_1433 : decode code 1433 = .ok (.aload_n 3, 1) := by decide +kernel
theorem dL_law_1434 : decode code 1434 = .ok (.invokestatic 212, 3) := by decide +kernel
theorem dL_law_1437 : decode code 1437 = .ok (.istore 5, 2) := by decide +kernel
theorem dL_law_1439 : decode code 1439 = .ok (.aload_n 2, 1) := by decide +kernel
theorem dL_law_1440 : decode code 1440 = .ok (.aload_n 0, 1) := by decide +kernel
theorem dL_law_1441 : decode code 1441 = .ok (.iload 4, 2) := by decide +kernel
theorem dL_law_1443 : decode code 1443 = .ok (.iconst 1, 1) := by decide +kernel
theorem dL_law_1444 : decode code 1444 = .ok (.iadd, 1) := by decide +kernel
theorem dL_law_1445 : decode code 1445 = .ok (.iaload, 1) := by decide +kernel
theorem dL_law_1446 : decode code 1446 = .ok (.aload_n 0, 1) := by decide +kernel
theorem dL_law_1447 : decode code 1447 = .ok (.iload 4, 2) := by decide +kernel
theorem dL_law_1449 : decode code 1449 = .ok (.iconst 2, 1) := by decide +kernel
theorem dL_law_1450 : decode code 1450 = .ok (.iadd, 1) := by decide +kernel
theorem dL_law_1451 : decode code 1451 = .ok (.iaload, 1) := by decide +kernel
theorem dL_law_1452 : decode code 1452 = .ok (.invokevirtual 214, 3) := by decide +kernel
theorem dL_law_1455 : decode code 1455 = .ok (.istore 6, 2) := by decide +kernel
theorem dL_law_1457 : decode code 1457 = .ok (.aload_n 2, 1) := by decide +kernel
theorem dL_law_1458 : decode code 1458 = .ok (.invokevirtual 142, 3) := by decide +kernel
theorem dL_law_1461 : decode code 1461 = .ok (.iload 5, 2) := by decide +kernel
theorem dL_law_1463 : decode code 1463 = .ok (.if_icmp .eq 5, 3) := by decide +kernel
theorem dL_law_1466 : decode code 1466 = .ok (.iconst 0, 1) := by decide +kernel
theorem dL_law_1467 : decode code 1467 = .ok (.ireturn, 1) := by decide +kernel
theorem dL_law_1468 : decode code 1468 = .ok (.iload 5, 2) := by decide +kernel
theorem dL_law_1470 : decode code 1470 = .ok (.ifCond .ne 15, 3) := by decide +kernel
theorem dL_law_1473 : decode code 1473 = .ok (.aload_n 3, 1) := by decide +kernel
theorem dL_law_1474 : decode code 1474 = .ok (.iconst 0, 1) := by decide +kernel
theorem dL_law_1475 : decode code 1475 = .ok (.laload, 1) := by decide +kernel
theorem dL_law_1476 : decode code 1476 = .ok (.iload 6, 2) := by decide +kernel
theorem dL_law_1478 : decode code 1478 = .ok (.i2l, 1) := by decide +kernel
theorem dL_law_1479 : decode code 1479 = .ok (.lcmp, 1) := by decide +kernel
theorem dL_law_1480 : decode code 1480 = .ok (.ifCond .eq 5, 3) := by decide +kernel
theorem dL_law_1483 : decode code 1483 = .ok (.iconst 0, 1) := by decide +kernel
theorem dL_law_1484 : decode code 1484 = .ok (.ireturn, 1) := by decide +kernel
theorem dL_law_1485 : decode code 1485 = .ok (.goto 1132, 3) := by decide +kernel
theorem kLH_212 : a_kSH RL 212 pL_pay 4 := ⟨(lw_ok_in (List.mem_of_getElem? (i := 1168) (by decide +kernel)) rfl), (lw_ok_in (List.mem_of_getElem? (i := 109) (by decide +kernel)) rfl), by decide +kernel, (lw_ok_in (List.mem_of_getElem? (i := 1166) (by decide +kernel)) rfl), (lw_ok_in (List.mem_of_getElem? (i := 1167) (by decide +kernel)) rfl)⟩
theorem kL_214 : a_kV RL 214 pX12_pay 2 := ⟨cbX12_pay, (lw_ok_in (List.mem_of_getElem? (i := 1965) (by decide +kernel)) rfl), (lw_ok_in (List.mem_of_getElem? (i := 1966) (by decide +kernel)) rfl), (lw_ok_in (List.mem_of_getElem? (i := 1967) (by decide +kernel)) rfl)⟩
theorem case_pay {l : Launch} {E : aE} {hh : List (Nat × Nat × Nat × Nat)} {n N : Nat} {S : aS} {M A : aM} (hfl : l.stackTraces = false) (h42 : E.2.2.2 42 ≤ 3072) (hi : 6 * (n : Int) + 6 ≤ (E.2.2.2 42 : Int)) (hW : LWI N S M A) (hN9 : N ≤ 140 + 15 * n) (tail : lawTail l E hh n) : aX l E (pL_law hh) QL (200 + 40 * n) (20000 + 400 * n) N S M 1420 [(0, (2, -43)), (1, (2, 0)), (2, (2, 109)), (3, (2, 139)), (4, (0, 6 * (n : Int)))] [] := by
  obtain ⟨hN0, hC, hS9, hO, hR, hRM, hI⟩ := id hW
  have hM := hS9
  have hn : n ≤ 511 := by omega
  refine x_aload_n (pc := 1420) dL_law_1420 rfl rfl ?_
  refine x_aload_n (pc := 1421) dL_law_1421 rfl rfl ?_
  refine x_iload (pc := 1422) dL_law_1422 rfl ?_
  refine x_iconst (pc := 1424) dL_law_1424 (by decide) ?_
  refine x_iadd (pc := 1425) dL_law_1425 (by omega) ?_
  refine x_sld (pc := 1426) dL_law_1426 ⟨by omega, by omega⟩ ?_
  refine x_aload_n (pc := 1427) dL_law_1427 rfl rfl ?_
  refine x_iload (pc := 1428) dL_law_1428 rfl ?_
  refine x_iconst (pc := 1430) dL_law_1430 (by decide) ?_
  refine x_iadd (pc := 1431) dL_law_1431 (by omega) ?_
  refine x_sld (pc := 1432) dL_law_1432 ⟨by omega, by omega⟩ ?_
  refine x_aload_n (pc := 1433) dL_law_1433 rfl rfl ?_
  refine x_callS4H (pc := 1434) dL_law_1434 kLH_212 (h_pay hfl (a_scr E (6 * (n : Int) + 1)) (a_scr E (6 * (n : Int) + 2)) A hW) (a_rmL rfl rfl (by show 200 + 40 * n + 2 ≤ 601024; omega) (by show 20000 + 400 * n + 12 ≤ 7293034; omega)) (Nat.le_of_ble_eq_true rfl) (k_hQ (fun M9 f9 R9 v9 => ?_)) n_hQ
  refine x_room (kc' := 220 + 40 * n) (ks' := 20200 + 400 * n) (by show 200 + 40 * n + 2 ≤ 220 + 40 * n; omega) (by show 20000 + 400 * n + 12 ≤ 20200 + 400 * n; omega) ?_
  have hC9 := hC
  have hM9 := hM
  have hO9 := hO
  have RM9 : RM M9 109 A := hRM.cgo fun a p q i => f9 a i (by omega) (by omega)
  refine x_istore (pc := 1437) dL_law_1437 (by show _ < 8; decide) rfl ?_
  refine x_aload_n (pc := 1439) dL_law_1439 rfl rfl ?_
  refine x_aload_n (pc := 1440) dL_law_1440 rfl rfl ?_
  refine x_iload (pc := 1441) dL_law_1441 rfl ?_
  refine x_iconst (pc := 1443) dL_law_1443 (by decide) ?_
  refine x_iadd (pc := 1444) dL_law_1444 (by omega) ?_
  refine x_sld (pc := 1445) dL_law_1445 ⟨by omega, by omega⟩ ?_
  refine x_aload_n (pc := 1446) dL_law_1446 rfl rfl ?_
  refine x_iload (pc := 1447) dL_law_1447 rfl ?_
  refine x_iconst (pc := 1449) dL_law_1449 (by decide) ?_
  refine x_iadd (pc := 1450) dL_law_1450 (by omega) ?_
  refine x_sld (pc := 1451) dL_law_1451 ⟨by omega, by omega⟩ ?_
  refine x_callV2N (pc := 1452) dL_law_1452 kL_214 (s_Mpay hfl (a_scr E (6 * (n : Int) + 1)) (a_scr E (6 * (n : Int) + 2)) 109 A hM9 RM9 hI.1) hM9.1 rfl (a_rmL rfl rfl (by show 220 + 40 * n + 0 ≤ 601024; omega) (by show 20200 + 400 * n + 0 ≤ 7293034; omega)) (Nat.le_of_ble_eq_true rfl) (k_G (fun v8 M8 hM8 => ?_)) n_GN
  obtain ⟨kd, t8, e8, R8, F8⟩ := hM8
  obtain ⟨k8, w8⟩ := v8
  have kd : k8 = 0 := kd
  subst kd
  have RC8 : RC M8 N S (spPay A (a_scr E (6 * (n : Int) + 1)) (a_scr E (6 * (n : Int) + 2))).2.2 := R9.cgo fun a q i => F8 a i (by omega)
  refine x_istore (pc := 1455) dL_law_1455 (by show _ < 8; decide) rfl ?_
  refine x_aload_n (pc := 1457) dL_law_1457 rfl rfl ?_
  refine x_callV0N (pc := 1458) dL_law_1458 kL_142 (s_thrown hfl 109 hM9) hM9.1 rfl (a_rmL rfl rfl (by show 220 + 40 * n + 0 + 0 ≤ 601024; omega) (by show 20200 + 400 * n + 0 + 0 ≤ 7293034; omega)) (Nat.le_of_ble_eq_true rfl) (k_R ?_) n_RN
  rw [t8]
  refine x_iload (pc := 1461) dL_law_1461 rfl ?_
  refine x_icmp_eq (tgt := 1468) (pc := 1463) dL_law_1463 (by decide) (fun c_1463 => ?_) (fun c_1463 => ?_)
  · refine x_iload (pc := 1468) dL_law_1468 rfl ?_
    refine x_if_ne (tgt := 1485) (pc := 1470) dL_law_1470 (by decide) (fun c_1470 => ?_) (fun c_1470 => ?_)
    · refine x_goto (tgt := 2617) (pc := 1485) dL_law_1485 (by decide) ?_
      exact x_lo (lo' := [(0, (2, -43)), (1, (2, 0)), (2, (2, 109)), (3, (2, 139)), (4, (0, 6 * (n : Int)))]) ⟨rfl, rfl, rfl, rfl, rfl, trivial⟩ (x_room (by show 220 + 40 * n + 0 + 0 ≤ 200 + 40 * (n + 1); omega) (by show 20200 + 400 * n + 0 + 0 ≤ 20000 + 400 * (n + 1); omega) (tail N S M8 (spPay A (a_scr E (6 * (n : Int) + 1)) (a_scr E (6 * (n : Int) + 2))).2.2 ⟨by omega, hC9, hM9, hO9, RC8, R8, INV.pay hI (a_scr E (6 * (n : Int) + 1)) (a_scr E (6 * (n : Int) + 2))⟩ (by omega)))
    · have e139 : M8 139 0 = (spPay A (a_scr E (6 * (n : Int) + 1)) (a_scr E (6 * (n : Int) + 2))).2.1 := (F8 139 0 (by omega)).trans (v9 c_1470)
      have ew : w8 = (spPay A (a_scr E (6 * (n : Int) + 1)) (a_scr E (6 * (n : Int) + 2))).2.1 := congrArg Prod.snd (e8 c_1470)
      refine x_aload_n (pc := 1473) dL_law_1473 rfl rfl ?_
      refine x_iconst (pc := 1474) dL_law_1474 (by decide) ?_
      refine x_laloadV (pc := 1475) dL_law_1475 hO9 (by omega) (by (repeat (first | rewrite [up_s] | rewrite [up_i (by omega)] | rewrite [up_a (by omega)])); first | exact e139 | rfl) (fun g_1475 => ?_)
      refine x_iload (pc := 1476) dL_law_1476 rfl ?_
      refine x_i2l (pc := 1478) dL_law_1478 ?_
      refine x_leq (tgt := 1485) (pc := 1479) dL_law_1479 dL_law_1480 (by decide) (fun c_1479 => ?_) (fun c_1479 => ?_)
      · refine x_goto (tgt := 2617) (pc := 1485) dL_law_1485 (by decide) ?_
        exact x_lo (lo' := [(0, (2, -43)), (1, (2, 0)), (2, (2, 109)), (3, (2, 139)), (4, (0, 6 * (n : Int)))]) ⟨rfl, rfl, rfl, rfl, rfl, trivial⟩ (x_room (by show 220 + 40 * n + 0 + 0 ≤ 200 + 40 * (n + 1); omega) (by show 20200 + 400 * n + 0 + 0 ≤ 20000 + 400 * (n + 1); omega) (tail N S M8 (spPay A (a_scr E (6 * (n : Int) + 1)) (a_scr E (6 * (n : Int) + 2))).2.2 ⟨by omega, hC9, hM9, hO9, RC8, R8, INV.pay hI (a_scr E (6 * (n : Int) + 1)) (a_scr E (6 * (n : Int) + 2))⟩ (by omega)))
      · exfalso; omega
  · exfalso; omega
theorem dL_law_1488 : decode code 1488 = .ok (.aload_n 1, 1) := by decide +kernel
theorem dL_law_1489 : decode code 1489 = .ok (.aload_n 0, 1) := by decide +kernel
theorem dL_law_1490 : decode code 1490 = .ok (.iload 4, 2) := by decide +kernel
theorem dL_law_1492 : decode code 1492 = .ok (.iconst 1, 1) := by decide +kernel
theorem dL_law_1493 : decode code 1493 = .ok (.iadd, 1) := by decide +kernel
theorem dL_law_1494 : decode code 1494 = .ok (.iaload, 1) := by decide +kernel
theorem dL_law_1495 : decode code 1495 = .ok (.aload_n 3, 1) := by decide +kernel
theorem dL_law_1496 : decode code 1496 = .ok (.invokestatic 215, 3) := by decide +kernel
theorem dL_law_1499 : decode code 1499 = .ok (.istore 5, 2) := by decide +kernel
theorem dL_law_1501 : decode code 1501 = .ok (.aload_n 2, 1) := by decide +kernel
theorem dL_law_1502 : decode code 1502 = .ok (.aload_n 0, 1) := by decide +kernel
theorem dL_law_1503 : decode code 1503 = .ok (.iload 4, 2) := by decide +kernel
theorem dL_law_1505 : decode code 1505 = .ok (.iconst 1, 1) := by decide +kernel
theorem dL_law_1506 : decode code 1506 = .ok (.iadd, 1) := by decide +kernel
theorem dL_law_1507 : decode code 1507 = .ok (.iaload, 1) := by decide +kernel
theorem dL_law_1508 : decode code 1508 = .ok (.invokevirtual 217, 3) := by decide +kernel
theorem dL_law_1511 : decode code 1511 = .ok (.istore 6, 2) := by decide +kernel
theorem dL_law_1513 : decode code 1513 = .ok (.aload_n 2, 1) := by decide +kernel
theorem dL_law_1514 : decode code 1514 = .ok (.invokevirtual 142, 3) := by decide +kernel
theorem dL_law_1517 : decode code 1517 = .ok (.iload 5, 2) := by decide +kernel
theorem dL_law_1519 : decode code 1519 = .ok (.if_icmp .eq 5, 3) := by decide +kernel
theorem dL_law_1522 : decode code 1522 = .ok (.iconst 0, 1) := by decide +kernel
theorem dL_law_1523 : decode code 1523 = .ok (.ireturn, 1) := by decide +kernel
theorem dL_law_1524 : decode code 1524 = .ok (.iload 5, 2) := by decide +kernel
theorem dL_law_1526 : decode code 1526 = .ok (.ifCond .ne 15, 3) := by decide +kernel
theorem dL_law_1529 : decode code 1529 = .ok (.aload_n 3, 1) := by decide +kernel
theorem dL_law_1530 : decode code 1530 = .ok (.iconst 0, 1) := by decide +kernel
theorem dL_law_1531 : decode code 1531 = .ok (.laload, 1) := by decide +kernel
theorem dL_law_1532 : decode code 1532 = .ok (.iload 6, 2) := by decide +kernel
theorem dL_law_1534 : decode code 1534 = .ok (.i2l, 1) := by decide +kernel
theorem dL_law_1535 : decode code 1535 = .ok (.lcmp, 1) := by decide +kernel
theorem dL_law_1536 : decode code 1536 = .ok (.ifCond .eq 5, 3) := by decide +kernel
theorem dL_law_1539 : decode code 1539 = .ok (.iconst 0, 1) := by decide +kernel
theorem dL_law_1540 : decode code 1540 = .ok (.ireturn, 1) := by decide +kernel
theorem dL_law_1541 : decode code 1541 = .ok (.goto 1076, 3) := by decide +kernel
theorem kLH_215 : a_kSH RL 215 pL_by 3 := ⟨(lw_ok_in (List.mem_of_getElem? (i := 1175) (by decide +kernel)) rfl), (lw_ok_in (List.mem_of_getElem? (i := 109) (by decide +kernel)) rfl), by decide +kernel, (lw_ok_in (List.mem_of_getElem? (i := 1173) (by decide +kernel)) rfl), (lw_ok_in (List.mem_of_getElem? (i := 1174) (by decide +kernel)) rfl)⟩
theorem kL_217 : a_kV RL 217 pX12_by 1 := ⟨cbX12_by, (lw_ok_in (List.mem_of_getElem? (i := 1969) (by decide +kernel)) rfl), (lw_ok_in (List.mem_of_getElem? (i := 1970) (by decide +kernel)) rfl), (lw_ok_in (List.mem_of_getElem? (i := 1971) (by decide +kernel)) rfl)⟩
theorem case_by {l : Launch} {E : aE} {hh : List (Nat × Nat × Nat × Nat)} {n N : Nat} {S : aS} {M A : aM} (hfl : l.stackTraces = false) (h42 : E.2.2.2 42 ≤ 3072) (hi : 6 * (n : Int) + 6 ≤ (E.2.2.2 42 : Int)) (hW : LWI N S M A) (hN9 : N ≤ 140 + 15 * n) (tail : lawTail l E hh n) : aX l E (pL_law hh) QL (200 + 40 * n) (20000 + 400 * n) N S M 1488 [(0, (2, -43)), (1, (2, 0)), (2, (2, 109)), (3, (2, 139)), (4, (0, 6 * (n : Int)))] [] := by
  obtain ⟨hN0, hC, hS9, hO, hR, hRM, hI⟩ := id hW
  have hM := hS9
  have hn : n ≤ 511 := by omega
  refine x_aload_n (pc := 1488) dL_law_1488 rfl rfl ?_
  refine x_aload_n (pc := 1489) dL_law_1489 rfl rfl ?_
  refine x_iload (pc := 1490) dL_law_1490 rfl ?_
  refine x_iconst (pc := 1492) dL_law_1492 (by decide) ?_
  refine x_iadd (pc := 1493) dL_law_1493 (by omega) ?_
  refine x_sld (pc := 1494) dL_law_1494 ⟨by omega, by omega⟩ ?_
  refine x_aload_n (pc := 1495) dL_law_1495 rfl rfl ?_
  refine x_callS3H (pc := 1496) dL_law_1496 kLH_215 (h_by hfl (a_scr E (6 * (n : Int) + 1)) A hW) (a_rmL rfl rfl (by show 200 + 40 * n + 1 ≤ 601024; omega) (by show 20000 + 400 * n + 6 ≤ 7293034; omega)) (Nat.le_of_ble_eq_true rfl) (k_hQ (fun M9 f9 R9 v9 => ?_)) n_hQ
  refine x_room (kc' := 220 + 40 * n) (ks' := 20200 + 400 * n) (by show 200 + 40 * n + 1 ≤ 220 + 40 * n; omega) (by show 20000 + 400 * n + 6 ≤ 20200 + 400 * n; omega) ?_
  have hC9 := hC
  have hM9 := hM
  have hO9 := hO
  have RM9 : RM M9 109 A := hRM.cgo fun a p q i => f9 a i (by omega) (by omega)
  refine x_istore (pc := 1499) dL_law_1499 (by show _ < 8; decide) rfl ?_
  refine x_aload_n (pc := 1501) dL_law_1501 rfl rfl ?_
  refine x_aload_n (pc := 1502) dL_law_1502 rfl rfl ?_
  refine x_iload (pc := 1503) dL_law_1503 rfl ?_
  refine x_iconst (pc := 1505) dL_law_1505 (by decide) ?_
  refine x_iadd (pc := 1506) dL_law_1506 (by omega) ?_
  refine x_sld (pc := 1507) dL_law_1507 ⟨by omega, by omega⟩ ?_
  refine x_callV1N (pc := 1508) dL_law_1508 kL_217 (s_Mby hfl (a_scr E (6 * (n : Int) + 1)) 109 A hM9 RM9 hI.1) hM9.1 rfl (a_rmL rfl rfl (by show 220 + 40 * n + 0 ≤ 601024; omega) (by show 20200 + 400 * n + 0 ≤ 7293034; omega)) (Nat.le_of_ble_eq_true rfl) (k_G (fun v8 M8 hM8 => ?_)) n_GN
  obtain ⟨kd, t8, e8, R8, F8⟩ := hM8
  obtain ⟨k8, w8⟩ := v8
  have kd : k8 = 0 := kd
  subst kd
  have RC8 : RC M8 N S (spBy A (a_scr E (6 * (n : Int) + 1))).2.2 := R9.cgo fun a q i => F8 a i (by omega)
  refine x_istore (pc := 1511) dL_law_1511 (by show _ < 8; decide) rfl ?_
  refine x_aload_n (pc := 1513) dL_law_1513 rfl rfl ?_
  refine x_callV0N (pc := 1514) dL_law_1514 kL_142 (s_thrown hfl 109 hM9) hM9.1 rfl (a_rmL rfl rfl (by show 220 + 40 * n + 0 + 0 ≤ 601024; omega) (by show 20200 + 400 * n + 0 + 0 ≤ 7293034; omega)) (Nat.le_of_ble_eq_true rfl) (k_R ?_) n_RN
  rw [t8]
  refine x_iload (pc := 1517) dL_law_1517 rfl ?_
  refine x_icmp_eq (tgt := 1524) (pc := 1519) dL_law_1519 (by decide) (fun c_1519 => ?_) (fun c_1519 => ?_)
  · refine x_iload (pc := 1524) dL_law_1524 rfl ?_
    refine x_if_ne (tgt := 1541) (pc := 1526) dL_law_1526 (by decide) (fun c_1526 => ?_) (fun c_1526 => ?_)
    · refine x_goto (tgt := 2617) (pc := 1541) dL_law_1541 (by decide) ?_
      exact x_lo (lo' := [(0, (2, -43)), (1, (2, 0)), (2, (2, 109)), (3, (2, 139)), (4, (0, 6 * (n : Int)))]) ⟨rfl, rfl, rfl, rfl, rfl, trivial⟩ (x_room (by show 220 + 40 * n + 0 + 0 ≤ 200 + 40 * (n + 1); omega) (by show 20200 + 400 * n + 0 + 0 ≤ 20000 + 400 * (n + 1); omega) (tail N S M8 (spBy A (a_scr E (6 * (n : Int) + 1))).2.2 ⟨by omega, hC9, hM9, hO9, RC8, R8, INV.by_ hI (a_scr E (6 * (n : Int) + 1))⟩ (by omega)))
    · have e139 : M8 139 0 = (spBy A (a_scr E (6 * (n : Int) + 1))).2.1 := (F8 139 0 (by omega)).trans (v9 c_1526)
      have ew : w8 = (spBy A (a_scr E (6 * (n : Int) + 1))).2.1 := congrArg Prod.snd (e8 c_1526)
      refine x_aload_n (pc := 1529) dL_law_1529 rfl rfl ?_
      refine x_iconst (pc := 1530) dL_law_1530 (by decide) ?_
      refine x_laloadV (pc := 1531) dL_law_1531 hO9 (by omega) (by (repeat (first | rewrite [up_s] | rewrite [up_i (by omega)] | rewrite [up_a (by omega)])); first | exact e139 | rfl) (fun g_1531 => ?_)
      refine x_iload (pc := 1532) dL_law_1532 rfl ?_
      refine x_i2l (pc := 1534) dL_law_1534 ?_
      refine x_leq (tgt := 1541) (pc := 1535) dL_law_1535 dL_law_1536 (by decide) (fun c_1535 => ?_) (fun c_1535 => ?_)
      · refine x_goto (tgt := 2617) (pc := 1541) dL_law_1541 (by decide) ?_
        exact x_lo (lo' := [(0, (2, -43)), (1, (2, 0)), (2, (2, 109)), (3, (2, 139)), (4, (0, 6 * (n : Int)))]) ⟨rfl, rfl, rfl, rfl, rfl, trivial⟩ (x_room (by show 220 + 40 * n + 0 + 0 ≤ 200 + 40 * (n + 1); omega) (by show 20200 + 400 * n + 0 + 0 ≤ 20000 + 400 * (n + 1); omega) (tail N S M8 (spBy A (a_scr E (6 * (n : Int) + 1))).2.2 ⟨by omega, hC9, hM9, hO9, RC8, R8, INV.by_ hI (a_scr E (6 * (n : Int) + 1))⟩ (by omega)))
      · exfalso; omega
  · exfalso; omega
theorem dL_law_1544 : decode code 1544 = .ok (.aload_n 1, 1) := by decide +kernel
theorem dL_law_1545 : decode code 1545 = .ok (.aload_n 0, 1) := by decide +kernel
theorem dL_law_1546 : decode code 1546 = .ok (.iload 4, 2) := by decide +kernel
theorem dL_law_1548 : decode code 1548 = .ok (.iconst 1, 1) := by decide +kernel
theorem dL_law_1549 : decode code 1549 = .ok (.iadd, 1) := by decide +kernel
theorem dL_law_1550 : decode code 1550 = .ok (.iaload, 1) := by decide +kernel
theorem dL_law_1551 : decode code 1551 = .ok (.aload_n 3, 1) := by decide +kernel
theorem dL_law_1552 : decode code 1552 = .ok (.invokestatic 218, 3) := by decide +kernel
theorem dL_law_1555 : decode code 1555 = .ok (.istore 5, 2) := by decide +kernel
theorem dL_law_1557 : decode code 1557 = .ok (.aload_n 2, 1) := by decide +kernel
theorem dL_law_1558 : decode code 1558 = .ok (.aload_n 0, 1) := by decide +kernel
theorem dL_law_1559 : decode code 1559 = .ok (.iload 4, 2) := by decide +kernel
theorem dL_law_1561 : decode code 1561 = .ok (.iconst 1, 1) := by decide +kernel
theorem dL_law_1562 : decode code 1562 = .ok (.iadd, 1) := by decide +kernel
theorem dL_law_1563 : decode code 1563 = .ok (.iaload, 1) := by decide +kernel
theorem dL_law_1564 : decode code 1564 = .ok (.invokevirtual 220, 3) := by decide +kernel
theorem dL_law_1567 : decode code 1567 = .ok (.istore 6, 2) := by decide +kernel
theorem dL_law_1569 : decode code 1569 = .ok (.aload_n 2, 1) := by decide +kernel
theorem dL_law_1570 : decode code 1570 = .ok (.invokevirtual 142, 3) := by decide +kernel
theorem dL_law_1573 : decode code 1573 = .ok (.iload 5, 2) := by decide +kernel
theorem dL_law_1575 : decode code 1575 = .ok (.if_icmp .eq 5, 3) := by decide +kernel
theorem dL_law_1578 : decode code 1578 = .ok (.iconst 0, 1) := by decide +kernel
theorem dL_law_1579 : decode code 1579 = .ok (.ireturn, 1) := by decide +kernel
theorem dL_law_1580 : decode code 1580 = .ok (.iload 5, 2) := by decide +kernel
theorem dL_law_1582 : decode code 1582 = .ok (.ifCond .ne 15, 3) := by decide +kernel
theorem dL_law_1585 : decode code 1585 = .ok (.aload_n 3, 1) := by decide +kernel
theorem dL_law_1586 : decode code 1586 = .ok (.iconst 0, 1) := by decide +kernel
theorem dL_law_1587 : decode code 1587 = .ok (.laload, 1) := by decide +kernel
theorem dL_law_1588 : decode code 1588 = .ok (.iload 6, 2) := by decide +kernel
theorem dL_law_1590 : decode code 1590 = .ok (.i2l, 1) := by decide +kernel
theorem dL_law_1591 : decode code 1591 = .ok (.lcmp, 1) := by decide +kernel
theorem dL_law_1592 : decode code 1592 = .ok (.ifCond .eq 5, 3) := by decide +kernel
theorem dL_law_1595 : decode code 1595 = .ok (.iconst 0, 1) := by decide +kernel
theorem dL_law_1596 : decode code 1596 = .ok (.ireturn, 1) := by decide +kernel
theorem dL_law_1597 : decode code 1597 = .ok (.goto 1020, 3) := by decide +kernel
theorem kLH_218 : a_kSH RL 218 pL_judge 3 := ⟨(lw_ok_in (List.mem_of_getElem? (i := 1182) (by decide +kernel)) rfl), (lw_ok_in (List.mem_of_getElem? (i := 109) (by decide +kernel)) rfl), by decide +kernel, (lw_ok_in (List.mem_of_getElem? (i := 1180) (by decide +kernel)) rfl), (lw_ok_in (List.mem_of_getElem? (i := 1181) (by decide +kernel)) rfl)⟩
theorem kL_220 : a_kV RL 220 pX12_judge 1 := ⟨cbX12_judge, (lw_ok_in (List.mem_of_getElem? (i := 1974) (by decide +kernel)) rfl), (lw_ok_in (List.mem_of_getElem? (i := 1975) (by decide +kernel)) rfl), (lw_ok_in (List.mem_of_getElem? (i := 1976) (by decide +kernel)) rfl)⟩
theorem case_judge {l : Launch} {E : aE} {hh : List (Nat × Nat × Nat × Nat)} {n N : Nat} {S : aS} {M A : aM} (hfl : l.stackTraces = false) (h42 : E.2.2.2 42 ≤ 3072) (hi : 6 * (n : Int) + 6 ≤ (E.2.2.2 42 : Int)) (hW : LWI N S M A) (hN9 : N ≤ 140 + 15 * n) (tail : lawTail l E hh n) : aX l E (pL_law hh) QL (200 + 40 * n) (20000 + 400 * n) N S M 1544 [(0, (2, -43)), (1, (2, 0)), (2, (2, 109)), (3, (2, 139)), (4, (0, 6 * (n : Int)))] [] := by
  obtain ⟨hN0, hC, hS9, hO, hR, hRM, hI⟩ := id hW
  have hM := hS9
  have hn : n ≤ 511 := by omega
  refine x_aload_n (pc := 1544) dL_law_1544 rfl rfl ?_
  refine x_aload_n (pc := 1545) dL_law_1545 rfl rfl ?_
  refine x_iload (pc := 1546) dL_law_1546 rfl ?_
  refine x_iconst (pc := 1548) dL_law_1548 (by decide) ?_
  refine x_iadd (pc := 1549) dL_law_1549 (by omega) ?_
  refine x_sld (pc := 1550) dL_law_1550 ⟨by omega, by omega⟩ ?_
  refine x_aload_n (pc := 1551) dL_law_1551 rfl rfl ?_
  refine x_callS3H (pc := 1552) dL_law_1552 kLH_218 (h_judge hfl (a_scr E (6 * (n : Int) + 1)) A hW) (a_rmL rfl rfl (by show 200 + 40 * n + 2 ≤ 601024; omega) (by show 20000 + 400 * n + 12 ≤ 7293034; omega)) (Nat.le_of_ble_eq_true rfl) (k_hQ (fun M9 f9 R9 v9 => ?_)) n_hQ
  refine x_room (kc' := 220 + 40 * n) (ks' := 20200 + 400 * n) (by show 200 + 40 * n + 2 ≤ 220 + 40 * n; omega) (by show 20000 + 400 * n + 12 ≤ 20200 + 400 * n; omega) ?_
  have hC9 := hC
  have hM9 := hM
  have hO9 := hO
  have RM9 : RM M9 109 A := hRM.cgo fun a p q i => f9 a i (by omega) (by omega)
  refine x_istore (pc := 1555) dL_law_1555 (by show _ < 8; decide) rfl ?_
  refine x_aload_n (pc := 1557) dL_law_1557 rfl rfl ?_
  refine x_aload_n (pc := 1558) dL_law_1558 rfl rfl ?_
  refine x_iload (pc := 1559) dL_law_1559 rfl ?_
  refine x_iconst (pc := 1561) dL_law_1561 (by decide) ?_
  refine x_iadd (pc := 1562) dL_law_1562 (by omega) ?_
  refine x_sld (pc := 1563) dL_law_1563 ⟨by omega, by omega⟩ ?_
  refine x_callV1N (pc := 1564) dL_law_1564 kL_220 (s_Mjudge hfl (a_scr E (6 * (n : Int) + 1)) 109 A hM9 RM9 hI.1) hM9.1 rfl (a_rmL rfl rfl (by show 220 + 40 * n + 0 ≤ 601024; omega) (by show 20200 + 400 * n + 0 ≤ 7293034; omega)) (Nat.le_of_ble_eq_true rfl) (k_G (fun v8 M8 hM8 => ?_)) n_GN
  obtain ⟨kd, t8, e8, R8, F8⟩ := hM8
  obtain ⟨k8, w8⟩ := v8
  have kd : k8 = 0 := kd
  subst kd
  have RC8 : RC M8 N S (spJudge A (a_scr E (6 * (n : Int) + 1))).2.2 := R9.cgo fun a q i => F8 a i (by omega)
  refine x_istore (pc := 1567) dL_law_1567 (by show _ < 8; decide) rfl ?_
  refine x_aload_n (pc := 1569) dL_law_1569 rfl rfl ?_
  refine x_callV0N (pc := 1570) dL_law_1570 kL_142 (s_thrown hfl 109 hM9) hM9.1 rfl (a_rmL rfl rfl (by show 220 + 40 * n + 0 + 0 ≤ 601024; omega) (by show 20200 + 400 * n + 0 + 0 ≤ 7293034; omega)) (Nat.le_of_ble_eq_true rfl) (k_R ?_) n_RN
  rw [t8]
  refine x_iload (pc := 1573) dL_law_1573 rfl ?_
  refine x_icmp_eq (tgt := 1580) (pc := 1575) dL_law_1575 (by decide) (fun c_1575 => ?_) (fun c_1575 => ?_)
  · refine x_iload (pc := 1580) dL_law_1580 rfl ?_
    refine x_if_ne (tgt := 1597) (pc := 1582) dL_law_1582 (by decide) (fun c_1582 => ?_) (fun c_1582 => ?_)
    · refine x_goto (tgt := 2617) (pc := 1597) dL_law_1597 (by decide) ?_
      exact x_lo (lo' := [(0, (2, -43)), (1, (2, 0)), (2, (2, 109)), (3, (2, 139)), (4, (0, 6 * (n : Int)))]) ⟨rfl, rfl, rfl, rfl, rfl, trivial⟩ (x_room (by show 220 + 40 * n + 0 + 0 ≤ 200 + 40 * (n + 1); omega) (by show 20200 + 400 * n + 0 + 0 ≤ 20000 + 400 * (n + 1); omega) (tail N S M8 (spJudge A (a_scr E (6 * (n : Int) + 1))).2.2 ⟨by omega, hC9, hM9, hO9, RC8, R8, INV.judge_ hI (a_scr E (6 * (n : Int) + 1))⟩ (by omega)))
    · have e139 : M8 139 0 = (spJudge A (a_scr E (6 * (n : Int) + 1))).2.1 := (F8 139 0 (by omega)).trans (v9 c_1582)
      have ew : w8 = (spJudge A (a_scr E (6 * (n : Int) + 1))).2.1 := congrArg Prod.snd (e8 c_1582)
      refine x_aload_n (pc := 1585) dL_law_1585 rfl rfl ?_
      refine x_iconst (pc := 1586) dL_law_1586 (by decide) ?_
      refine x_laloadV (pc := 1587) dL_law_1587 hO9 (by omega) (by (repeat (first | rewrite [up_s] | rewrite [up_i (by omega)] | rewrite [up_a (by omega)])); first | exact e139 | rfl) (fun g_1587 => ?_)
      refine x_iload (pc := 1588) dL_law_1588 rfl ?_
      refine x_i2l (pc := 1590) dL_law_1590 ?_
      refine x_leq (tgt := 1597) (pc := 1591) dL_law_1591 dL_law_1592 (by decide) (fun c_1591 => ?_) (fun c_1591 => ?_)
      · refine x_goto (tgt := 2617) (pc := 1597) dL_law_1597 (by decide) ?_
        exact x_lo (lo' := [(0, (2, -43)), (1, (2, 0)), (2, (2, 109)), (3, (2, 139)), (4, (0, 6 * (n : Int)))]) ⟨rfl, rfl, rfl, rfl, rfl, trivial⟩ (x_room (by show 220 + 40 * n + 0 + 0 ≤ 200 + 40 * (n + 1); omega) (by show 20200 + 400 * n + 0 + 0 ≤ 20000 + 400 * (n + 1); omega) (tail N S M8 (spJudge A (a_scr E (6 * (n : Int) + 1))).2.2 ⟨by omega, hC9, hM9, hO9, RC8, R8, INV.judge_ hI (a_scr E (6 * (n : Int) + 1))⟩ (by omega)))
      · exfalso; omega
  · exfalso; omega
