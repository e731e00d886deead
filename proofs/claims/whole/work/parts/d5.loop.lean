/-! THE LAW: its first cells, its loop -/
theorem lyM_of {S : aS} (h0 : S 109 = (11, 52, rM 109)) (h : ∀ i, 109 < i → i < 139 → S i = wM 109 i) : lyM S 109 := ⟨h0, (h _ (by decide) (by decide)).trans rfl, (h _ (by decide) (by decide)).trans rfl, (h _ (by decide) (by decide)).trans rfl, (h _ (by decide) (by decide)).trans rfl, (h _ (by decide) (by decide)).trans rfl, (h _ (by decide) (by decide)).trans rfl, (h _ (by decide) (by decide)).trans rfl, (h _ (by decide) (by decide)).trans rfl, (h _ (by decide) (by decide)).trans rfl, (h _ (by decide) (by decide)).trans rfl, (h _ (by decide) (by decide)).trans rfl, (h _ (by decide) (by decide)).trans rfl, (h _ (by decide) (by decide)).trans rfl, (h _ (by decide) (by decide)).trans rfl, (h _ (by decide) (by decide)).trans rfl, (h _ (by decide) (by decide)).trans rfl, (h _ (by decide) (by decide)).trans rfl, (h _ (by decide) (by decide)).trans rfl, (h _ (by decide) (by decide)).trans rfl, (h _ (by decide) (by decide)).trans rfl, (h _ (by decide) (by decide)).trans rfl, (h _ (by decide) (by decide)).trans rfl, (h _ (by decide) (by decide)).trans rfl, (h _ (by decide) (by decide)).trans rfl, (h _ (by decide) (by decide)).trans rfl, (h _ (by decide) (by decide)).trans rfl, (h _ (by decide) (by decide)).trans rfl, (h _ (by decide) (by decide)).trans rfl, (h _ (by decide) (by decide)).trans rfl⟩
theorem nwL_8 : a_nw RL 8 10 12 := ⟨RX11, TX11, tyX11, klX11, (lw_ok_in (List.mem_of_getElem? (i := 139) (by decide +kernel)) rfl), (lw_ok_in (List.mem_of_getElem? (i := 140) (by decide +kernel)) rfl), (lw_ok_in (List.mem_of_getElem? (i := 110) (by decide +kernel)) rfl), ftX11⟩
theorem nwL_133 : a_nw RL 133 11 52 := ⟨RX12, TX12, tyX12, klX12, (lw_ok_in (List.mem_of_getElem? (i := 1534) (by decide +kernel)) rfl), (lw_ok_in (List.mem_of_getElem? (i := 1535) (by decide +kernel)) rfl), (lw_ok_in (List.mem_of_getElem? (i := 123) (by decide +kernel)) rfl), ftX12⟩
theorem kL_132 : a_kI RL 132 pX11_init 0 := ⟨cbX11_init, rfl, rfl, (lw_ok_in (List.mem_of_getElem? (i := 141) (by decide +kernel)) rfl), (lw_ok_in (List.mem_of_getElem? (i := 142) (by decide +kernel)) rfl)⟩
theorem kL_135 : a_kI RL 135 pX12_init 0 := ⟨cbX12_init, rfl, rfl, (lw_ok_in (List.mem_of_getElem? (i := 1536) (by decide +kernel)) rfl), (lw_ok_in (List.mem_of_getElem? (i := 1537) (by decide +kernel)) rfl)⟩
theorem dL_law_0 : decode code 0 = .ok (.new 8, 3) := by decide +kernel
theorem dL_law_3 : decode code 3 = .ok (.dup, 1) := by decide +kernel
theorem dL_law_4 : decode code 4 = .ok (.invokespecial 132, 3) := by decide +kernel
theorem dL_law_7 : decode code 7 = .ok (.astore_n 1, 1) := by decide +kernel
theorem dL_law_8 : decode code 8 = .ok (.new 133, 3) := by decide +kernel
theorem dL_law_11 : decode code 11 = .ok (.dup, 1) := by decide +kernel
theorem dL_law_12 : decode code 12 = .ok (.invokespecial 135, 3) := by decide +kernel
theorem dL_law_15 : decode code 15 = .ok (.astore_n 2, 1) := by decide +kernel
theorem dL_law_16 : decode code 16 = .ok (.iconst 1, 1) := by decide +kernel
theorem dL_law_17 : decode code 17 = .ok (.newarray .long, 2) := by decide +kernel
theorem dL_law_19 : decode code 19 = .ok (.astore_n 3, 1) := by decide +kernel
theorem dL_law_20 : decode code 20 = .ok (.iconst 0, 1) := by decide +kernel
theorem dL_law_21 : decode code 21 = .ok (.istore 4, 2) := by decide +kernel
theorem dL_law_23 : decode code 23 = .ok (.iload 4, 2) := by decide +kernel
theorem dL_law_25 : decode code 25 = .ok (.aload_n 0, 1) := by decide +kernel
theorem dL_law_26 : decode code 26 = .ok (.arraylength, 1) := by decide +kernel
theorem dL_law_27 : decode code 27 = .ok (.bipush 6, 2) := by decide +kernel
theorem dL_law_29 : decode code 29 = .ok (.isub, 1) := by decide +kernel
theorem dL_law_30 : decode code 30 = .ok (.if_icmp .gt 2593, 3) := by decide +kernel
theorem dL_law_33 : decode code 33 = .ok (.aload_n 0, 1) := by decide +kernel
theorem dL_law_34 : decode code 34 = .ok (.iload 4, 2) := by decide +kernel
theorem dL_law_36 : decode code 36 = .ok (.iaload, 1) := by decide +kernel
theorem dL_law_37 : decode code 37 = .ok (.bipush 63, 2) := by decide +kernel
theorem dL_law_39 : decode code 39 = .ok (.iand, 1) := by decide +kernel
theorem dL_law_40 : decode code 40 = .ok (.tableswitch 2577 0 38 #[172, 228, 308, 376, 451, 554, 610, 678, 751, 807, 832, 888, 956, 1012, 1080, 1136, 1204, 1272, 1352, 1366, 1380, 1448, 1504, 1560, 1623, 1699, 1747, 1834, 1882, 1938, 2018, 2093, 2149, 2241, 2301, 2412, 2480, 2516, 2552], 172) := by decide +kernel
theorem dL_law_2617 : decode code 2617 = .ok (.iinc 4 6, 3) := by decide +kernel
theorem dL_law_2620 : decode code 2620 = .ok (.goto (-2597), 3) := by decide +kernel
theorem dL_law_2623 : decode code 2623 = .ok (.iconst 1, 1) := by decide +kernel
theorem dL_law_2624 : decode code 2624 = .ok (.ireturn, 1) := by decide +kernel
theorem law_switch {l : Launch} {E : aE} {hh : List (Nat × Nat × Nat × Nat)} (hfl : l.stackTraces = false) {n N : Nat} {S : aS} {M A : aM} (h42 : E.2.2.2 42 ≤ 3072) (hi : 6 * (n : Int) + 6 ≤ (E.2.2.2 42 : Int)) (hW : LWI N S M A) (hN9 : N ≤ 140 + 15 * n) (tail : lawTail l E hh n) (v : Int) : aX l E (pL_law hh) QL (200 + 40 * n) (20000 + 400 * n) N S M 40 [(0, (2, -43)), (1, (2, 0)), (2, (2, 109)), (3, (2, 139)), (4, (0, 6 * (n : Int)))] [(0, v)] := by
  by_cases e : v = 0
  · subst e
    exact x_tableIn (tgt := 212) dL_law_40 (by decide) (by decide) rfl (by decide) (case_house hfl h42 hi hW hN9 tail)
  by_cases e : v = 1
  · subst e
    exact x_tableIn (tgt := 268) dL_law_40 (by decide) (by decide) rfl (by decide) (case_want hfl h42 hi hW hN9 tail)
  by_cases e : v = 2
  · subst e
    exact x_tableIn (tgt := 348) dL_law_40 (by decide) (by decide) rfl (by decide) (case_cellar hfl h42 hi hW hN9 tail)
  by_cases e : v = 3
  · subst e
    exact x_tableIn (tgt := 416) dL_law_40 (by decide) (by decide) rfl (by decide) (case_bar hfl h42 hi hW hN9 tail)
  by_cases e : v = 4
  · subst e
    exact x_tableIn (tgt := 491) dL_law_40 (by decide) (by decide) rfl (by decide) (case_trust hfl h42 hi hW hN9 tail)
  by_cases e : v = 5
  · subst e
    exact x_tableIn (tgt := 594) dL_law_40 (by decide) (by decide) rfl (by decide) (case_holder hfl h42 hi hW hN9 tail)
  by_cases e : v = 6
  · subst e
    exact x_tableIn (tgt := 650) dL_law_40 (by decide) (by decide) rfl (by decide) (case_chain hfl h42 hi hW hN9 tail)
  by_cases e : v = 7
  · subst e
    exact x_tableIn (tgt := 718) dL_law_40 (by decide) (by decide) rfl (by decide) (case_feed hfl h42 hi hW hN9 tail)
  by_cases e : v = 8
  · subst e
    exact x_tableIn (tgt := 791) dL_law_40 (by decide) (by decide) rfl (by decide) (case_text hfl h42 hi hW hN9 tail)
  by_cases e : v = 9
  · subst e
    exact x_tableIn (tgt := 847) dL_law_40 (by decide) (by decide) rfl (by decide) (case_fault hfl h42 hi hW hN9 tail)
  by_cases e : v = 10
  · subst e
    exact x_tableIn (tgt := 872) dL_law_40 (by decide) (by decide) rfl (by decide) (case_price hfl h42 hi hW hN9 tail)
  by_cases e : v = 11
  · subst e
    exact x_tableIn (tgt := 928) dL_law_40 (by decide) (by decide) rfl (by decide) (case_buys hfl h42 hi hW hN9 tail)
  by_cases e : v = 12
  · subst e
    exact x_tableIn (tgt := 996) dL_law_40 (by decide) (by decide) rfl (by decide) (case_cost hfl h42 hi hW hN9 tail)
  by_cases e : v = 13
  · subst e
    exact x_tableIn (tgt := 1052) dL_law_40 (by decide) (by decide) rfl (by decide) (case_bought hfl h42 hi hW hN9 tail)
  by_cases e : v = 14
  · subst e
    exact x_tableIn (tgt := 1120) dL_law_40 (by decide) (by decide) rfl (by decide) (case_least hfl h42 hi hW hN9 tail)
  by_cases e : v = 15
  · subst e
    exact x_tableIn (tgt := 1176) dL_law_40 (by decide) (by decide) rfl (by decide) (case_group hfl h42 hi hW hN9 tail)
  by_cases e : v = 16
  · subst e
    exact x_tableIn (tgt := 1244) dL_law_40 (by decide) (by decide) rfl (by decide) (case_come hfl h42 hi hW hN9 tail)
  by_cases e : v = 17
  · subst e
    exact x_tableIn (tgt := 1312) dL_law_40 (by decide) (by decide) rfl (by decide) (case_join hfl h42 hi hW hN9 tail)
  by_cases e : v = 18
  · subst e
    exact x_tableIn (tgt := 1392) dL_law_40 (by decide) (by decide) rfl (by decide) (case_upper hfl h42 hi hW hN9 tail)
  by_cases e : v = 19
  · subst e
    exact x_tableIn (tgt := 1406) dL_law_40 (by decide) (by decide) rfl (by decide) (case_lower hfl h42 hi hW hN9 tail)
  by_cases e : v = 20
  · subst e
    exact x_tableIn (tgt := 1420) dL_law_40 (by decide) (by decide) rfl (by decide) (case_pay hfl h42 hi hW hN9 tail)
  by_cases e : v = 21
  · subst e
    exact x_tableIn (tgt := 1488) dL_law_40 (by decide) (by decide) rfl (by decide) (case_by hfl h42 hi hW hN9 tail)
  by_cases e : v = 22
  · subst e
    exact x_tableIn (tgt := 1544) dL_law_40 (by decide) (by decide) rfl (by decide) (case_judge hfl h42 hi hW hN9 tail)
  by_cases e : v = 23
  · subst e
    exact x_tableIn (tgt := 1600) dL_law_40 (by decide) (by decide) rfl (by decide) (case_can hfl h42 hi hW hN9 tail)
  by_cases e : v = 24
  · subst e
    exact x_tableIn (tgt := 1663) dL_law_40 (by decide) (by decide) rfl (by decide) (case_share hfl h42 hi hW hN9 tail)
  by_cases e : v = 25
  · subst e
    exact x_tableIn (tgt := 1739) dL_law_40 (by decide) (by decide) rfl (by decide) (case_row hfl h42 hi hW hN9 tail)
  by_cases e : v = 26
  · subst e
    exact x_tableIn (tgt := 1787) dL_law_40 (by decide) (by decide) rfl (by decide) (case_proof hfl h42 hi hW hN9 tail)
  by_cases e : v = 27
  · subst e
    exact x_tableIn (tgt := 1874) dL_law_40 (by decide) (by decide) rfl (by decide) (case_ruled hfl h42 hi hW hN9 tail)
  by_cases e : v = 28
  · subst e
    exact x_tableIn (tgt := 1922) dL_law_40 (by decide) (by decide) rfl (by decide) (case_keeps hfl h42 hi hW hN9 tail)
  by_cases e : v = 29
  · subst e
    exact x_tableIn (tgt := 1978) dL_law_40 (by decide) (by decide) rfl (by decide) (case_doubt hfl h42 hi hW hN9 tail)
  by_cases e : v = 30
  · subst e
    exact x_tableIn (tgt := 2058) dL_law_40 (by decide) (by decide) rfl (by decide) (case_risk hfl h42 hi hW hN9 tail)
  by_cases e : v = 31
  · subst e
    exact x_tableIn (tgt := 2133) dL_law_40 (by decide) (by decide) rfl (by decide) (case_before hfl h42 hi hW hN9 tail)
  by_cases e : v = 32
  · subst e
    exact x_tableIn (tgt := 2189) dL_law_40 (by decide) (by decide) rfl (by decide) (case_seller hfl h42 hi hW hN9 tail)
  by_cases e : v = 33
  · subst e
    exact x_tableIn (tgt := 2281) dL_law_40 (by decide) (by decide) rfl (by decide) (case_tray hfl h42 hi hW hN9 tail)
  by_cases e : v = 34
  · subst e
    exact x_tableIn (tgt := 2341) dL_law_40 (by decide) (by decide) rfl (by decide) (case_write hfl h42 hi hW hN9 tail)
  by_cases e : v = 35
  · subst e
    exact x_tableIn (tgt := 2452) dL_law_40 (by decide) (by decide) rfl (by decide) (case_take hfl h42 hi hW hN9 tail)
  by_cases e : v = 36
  · subst e
    exact x_tableIn (tgt := 2520) dL_law_40 (by decide) (by decide) rfl (by decide) (case_image hfl h42 hi hW hN9 tail)
  by_cases e : v = 37
  · subst e
    exact x_tableIn (tgt := 2556) dL_law_40 (by decide) (by decide) rfl (by decide) (case_restore hfl h42 hi hW hN9 tail)
  by_cases e : v = 38
  · subst e
    exact x_tableIn (tgt := 2592) dL_law_40 (by decide) (by decide) rfl (by decide) (case_count hfl h42 hi hW hN9 tail)
  exact x_tableOut (tgt := 2617) dL_law_40 (by omega) (by decide) (x_room (by omega) (by omega) (tail N S M A hW (by omega)))
theorem law_loop {l : Launch} {E : aE} {hh : List (Nat × Nat × Nat × Nat)} (hfl : l.stackTraces = false) : ∀ (f n N : Nat) (S : aS) (M A : aM), n + f = 513 → LWI N S M A → N ≤ 140 + 15 * n → aX l E (pL_law hh) QL (200 + 40 * n) (20000 + 400 * n) N S M 23 [(0, (2, -43)), (1, (2, 0)), (2, (2, 109)), (3, (2, 139)), (4, (0, 6 * (n : Int)))] []
  | 0, n, N, S, M, A, hn, hW, hN9 => by
    refine x_iload (pc := 23) dL_law_23 rfl ?_
    refine x_aload_n (pc := 25) dL_law_25 rfl rfl ?_
    refine x_slen (pc := 26) dL_law_26 (fun h42 => ?_)
    refine x_bipush (pc := 27) dL_law_27 (by decide) ?_
    refine x_isub (pc := 29) dL_law_29 (by omega) ?_
    refine x_icmp_gt (tgt := 2623) (pc := 30) dL_law_30 (by decide) (fun c_30 => ?_) (fun c_30 => ?_)
    · refine x_iconst (pc := 2623) dL_law_2623 (by decide) ?_
      exact x_zreturn (pc := 2624) dL_law_2624 rfl (Or.inr rfl) ⟨by show 200 + 40 * n ≤ 601024; omega, by show 20000 + 400 * n ≤ 7293034; omega⟩ rfl
    · refine x_aload_n (pc := 33) dL_law_33 rfl rfl ?_
      refine x_iload (pc := 34) dL_law_34 rfl ?_
      refine x_sld (pc := 36) dL_law_36 ⟨by omega, by omega⟩ ?_
      refine x_bipush (pc := 37) dL_law_37 (by decide) ?_
      refine x_iand (pc := 39) dL_law_39 ?_
      exfalso; omega
  | f + 1, n, N, S, M, A, hn, hW, hN9 => by
    have ih := law_loop (E := E) (hh := hh) hfl f
    refine x_iload (pc := 23) dL_law_23 rfl ?_
    refine x_aload_n (pc := 25) dL_law_25 rfl rfl ?_
    refine x_slen (pc := 26) dL_law_26 (fun h42 => ?_)
    refine x_bipush (pc := 27) dL_law_27 (by decide) ?_
    refine x_isub (pc := 29) dL_law_29 (by omega) ?_
    refine x_icmp_gt (tgt := 2623) (pc := 30) dL_law_30 (by decide) (fun c_30 => ?_) (fun c_30 => ?_)
    · refine x_iconst (pc := 2623) dL_law_2623 (by decide) ?_
      exact x_zreturn (pc := 2624) dL_law_2624 rfl (Or.inr rfl) ⟨by show 200 + 40 * n ≤ 601024; omega, by show 20000 + 400 * n ≤ 7293034; omega⟩ rfl
    · refine x_aload_n (pc := 33) dL_law_33 rfl rfl ?_
      refine x_iload (pc := 34) dL_law_34 rfl ?_
      refine x_sld (pc := 36) dL_law_36 ⟨by omega, by omega⟩ ?_
      refine x_bipush (pc := 37) dL_law_37 (by decide) ?_
      refine x_iand (pc := 39) dL_law_39 ?_
      exact law_switch hfl h42 (by omega) hW hN9 (fun N2 S2 M2 A2 hW2 hN2 => by
        refine x_iinc (pc := 2617) dL_law_2617 rfl (by omega) (by show _ < 8; decide) rfl ?_
        refine x_goto (tgt := 23) (pc := 2620) dL_law_2620 (by decide) ?_
        exact x_lo (lo' := [(0, (2, -43)), (1, (2, 0)), (2, (2, 109)), (3, (2, 139)), (4, (0, 6 * ((n + 1 : Nat) : Int)))]) ⟨rfl, rfl, rfl, rfl, congrArg some (Prod.ext rfl (show 6 * (n : Int) + 6 = 6 * ((n + 1 : Nat) : Int) by omega)), trivial⟩ (ih (n + 1) N2 S2 M2 A2 (by omega) hW2 hN2)) _
theorem n_CN {post : Nat → aS → aM → Prop} : ∀ (x9 N' : Nat) (S' : aS) (M' : aM), ¬ aC post (.inr x9) N' S' M' := by
  intro x9 N' S' M' h
  cases h.1
theorem law_start {l : Launch} {E : aE} {hh : List (Nat × Nat × Nat × Nat)} (hfl : l.stackTraces = false) : aX l E (pL_law hh) QL 0 0 0 (fun _ => (99, 0, fun _ => -1)) (fun _ _ => 0) 0 [(0, (2, -43))] [] := by
  refine x_newO (pc := 0) dL_law_0 nwL_8 ⟨Nat.le_of_ble_eq_true rfl, Nat.le_of_ble_eq_true rfl⟩ ?_
  refine x_dup (pc := 3) dL_law_3 rfl ?_
  refine x_callI0N (pc := 4) dL_law_4 kL_132 (s_X11init hfl (by rfl) sAdd_s) (by omega) rfl (Nat.le_of_ble_eq_true rfl) (k_C (fun N1 S1 M1 h1 => ?_)) n_CN
  obtain ⟨e1, b1⟩ := h1
  have hN1 : N1 = 109 := e1
  subst hN1
  refine x_astore_n (pc := 7) dL_law_7 rfl (by show _ < 8; decide) rfl ?_
  refine x_newO (pc := 8) dL_law_8 nwL_133 ⟨Nat.le_of_ble_eq_true rfl, Nat.le_of_ble_eq_true rfl⟩ ?_
  refine x_dup (pc := 11) dL_law_11 rfl ?_
  refine x_callI0N (pc := 12) dL_law_12 kL_135 (s_X12init hfl 109 (by omega) (by rfl) (sAdd_e rfl)) (by omega) rfl (Nat.le_of_ble_eq_true rfl) (k_C (fun N2 S2 M2 h2 => ?_)) n_CN
  obtain ⟨e2, b2⟩ := h2
  have hN2 : N2 = 139 := e2
  subst hN2
  refine x_astore_n (pc := 15) dL_law_15 rfl (by show _ < 8; decide) rfl ?_
  refine x_iconst (pc := 16) dL_law_16 (by decide) ?_
  refine x_newJ (pc := 17) dL_law_17 ac_long (by decide) ⟨Nat.le_of_ble_eq_true rfl, Nat.le_of_ble_eq_true rfl⟩ ?_
  refine x_astore_n (pc := 19) dL_law_19 rfl (by show _ < 8; decide) rfl ?_
  refine x_iconst (pc := 20) dL_law_20 (by decide) ?_
  refine x_istore (pc := 21) dL_law_21 (by show _ < 8; decide) rfl ?_
  refine x_room (kc' := 200 + 40 * 0) (ks' := 20000 + 400 * 0) (Nat.le_of_ble_eq_true rfl) (Nat.le_of_ble_eq_true rfl) ?_
  obtain ⟨p1, p2, p3, p4, p5, p6⟩ := b1
  obtain ⟨q1, q2, q3, q4, q5, q6⟩ := b2
  have sa : ∀ i : Int, i < 139 → sAdd S2 139 (14, 1, fun _ => -1) i = S2 i := fun i a => sAdd_o (by omega)
  have ma : ∀ i j : Int, i < 139 → mAdd M2 139 0 i j = M2 i j := fun i j a => mAdd_o (by omega)
  have sb : ∀ i : Int, i < 109 → S2 i = S1 i := fun i a => (q3 i (by omega)).trans (sAdd_o (by omega))
  have mb : ∀ i j : Int, i < 109 → M2 i j = M1 i j := fun i j a => (q4 i j (by omega)).trans (mAdd_o (by omega))
  have hW : LWI 140 (sAdd S2 139 (14, 1, fun _ => -1)) (mAdd M2 139 0) A0 := by
    refine ⟨Nat.le_refl _, lyC_of ?_ (fun i a b => ?_), lyM_of ?_ (fun i a b => ?_), sAdd_e rfl, RC_init (fun j => ?_) (fun i j a b => ?_), RM_init (fun j => ?_) (fun i j a b => ?_), A0_inv⟩
    · rw [sa 0 (by omega), sb 0 (by omega)]; exact p1
    · rw [sa i (by omega), sb i b]; exact p2 i a b
    · rw [sa 109 (by omega)]; exact q1
    · rw [sa i (by omega)]; exact q2 i a b
    · rw [ma 0 j (by omega), mb 0 j (by omega), p6 j]; exact mAdd_e rfl
    · rw [ma i j (by omega), mb i j b]; exact p5 i j a b
    · rw [ma 109 j (by omega), q6 j]
      show (if j = 15 then -1 else mAdd M1 109 0 109 j) = _
      have hz : mAdd M1 109 0 109 j = 0 := mAdd_e rfl
      rw [hz]
    · rw [ma i j (by omega)]; exact q5 i j a b
  exact x_lo (lo' := [(0, (2, -43)), (1, (2, 0)), (2, (2, 109)), (3, (2, 139)), (4, (0, 6 * ((0 : Nat) : Int)))]) ⟨rfl, rfl, rfl, rfl, rfl, trivial⟩ (law_loop hfl 513 0 140 _ _ A0 rfl hW (by omega))
