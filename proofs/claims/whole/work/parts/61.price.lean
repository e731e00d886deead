/-! price -/
theorem dX11_price_0 : decode cX11_price 0 = .ok (.aload_n 0, 1) := by decide +kernel
theorem dX11_price_1 : decode cX11_price 1 = .ok (.iload_n 1, 1) := by decide +kernel
theorem dX11_price_2 : decode cX11_price 2 = .ok (.iconst 1, 1) := by decide +kernel
theorem dX11_price_3 : decode cX11_price 3 = .ok (.sipush 200, 3) := by decide +kernel
theorem dX11_price_6 : decode cX11_price 6 = .ok (.invokevirtual 175, 3) := by decide +kernel
theorem dX11_price_9 : decode cX11_price 9 = .ok (.aload_n 0, 1) := by decide +kernel
theorem dX11_price_10 : decode cX11_price 10 = .ok (.getfield 36, 3) := by decide +kernel
theorem dX11_price_13 : decode cX11_price 13 = .ok (.iload_n 1, 1) := by decide +kernel
theorem dX11_price_14 : decode cX11_price 14 = .ok (.invokevirtual 179, 3) := by decide +kernel
theorem dX11_price_17 : decode cX11_price 17 = .ok (.aload_n 0, 1) := by decide +kernel
theorem dX11_price_18 : decode cX11_price 18 = .ok (.getfield 36, 3) := by decide +kernel
theorem dX11_price_21 : decode cX11_price 21 = .ok (.getfield 182, 3) := by decide +kernel
theorem dX11_price_24 : decode cX11_price 24 = .ok (.iload_n 1, 1) := by decide +kernel
theorem dX11_price_25 : decode cX11_price 25 = .ok (.iaload, 1) := by decide +kernel
theorem dX11_price_26 : decode cX11_price 26 = .ok (.invokestatic 185, 3) := by decide +kernel
theorem dX11_price_29 : decode cX11_price 29 = .ok (.ireturn, 1) := by decide +kernel
theorem dX11_orNone_0 : decode cX11_orNone 0 = .ok (.iload_n 0, 1) := by decide +kernel
theorem dX11_orNone_1 : decode cX11_orNone 1 = .ok (.ldc 219, 2) := by decide +kernel
theorem dX11_orNone_3 : decode cX11_orNone 3 = .ok (.if_icmp .lt 7, 3) := by decide +kernel
theorem dX11_orNone_6 : decode cX11_orNone 6 = .ok (.iconst (-1), 1) := by decide +kernel
theorem dX11_orNone_7 : decode cX11_orNone 7 = .ok (.goto 4, 3) := by decide +kernel
theorem dX11_orNone_10 : decode cX11_orNone 10 = .ok (.iload_n 0, 1) := by decide +kernel
theorem dX11_orNone_11 : decode cX11_orNone 11 = .ok (.ireturn, 1) := by decide +kernel
theorem RC.pr {M M' A : aM} {N : Nat} {S : aS} (h : RC M N S A) (g : ∀ a, ¬ (25 ≤ a ∧ a < 30) → eqR M M' a) (hP : RPr M' 25 (A 0)) : RC M' N S A := by
  obtain ⟨h1, h2, h3, h4, h5, h6, h7, h8, h9⟩ := h
  exact ⟨h1.cg fun a x y => g a (by omega), h2.cg (g 0 (by omega)), h3.cg (g 17 (by omega)) (g 18 (by omega)), h4.cg (g 105 (by omega)) (g 106 (by omega)) (g 107 (by omega)), h5.cg (g 16 (by omega)) (fun a x => g a (by omega)), hP, h7.cg (g _ (by omega)), h8.cg (fun a x y => g a (by omega)) (fun a x y => g a (by omega)), h9.cg (g 82 (by omega))⟩
theorem lyC.pr {S : aS} (hC : lyC S) : lyP S 25 (1 + 1) rC_25 := ⟨sC_25 hC, ⟨rC_25_0, rC_25_1, rC_25_2, rC_25_3, rC_25_4⟩, sC_26 hC, sC_27 hC, sC_28 hC, sC_29 hC, hC.2.1.1⟩
def spPrice (A : aM) (q : Int) : Int × Int × aM := if ¬ (1 ≤ q ∧ q ≤ 200) then (1, 0, A) else (0, singleV (A 0) q, A)
theorem s_orNone {l : Launch} {E : aE} {N : Nat} {S : aS} {M : aM} (hfl : l.stackTraces = false) (v : Int) : aMt l E pX11_orNone [(0, v)] N S M (aR (0, if v < 536870912 then v else -1) N S M) := by
  refine a_met hfl rfl (by decide +kernel) (Nat.le_of_ble_eq_true rfl) ?_
  refine x_iload_n (pc := 0) dX11_orNone_0 rfl rfl ?_
  refine x_ldc (n := 536870912) (pc := 1) cX11_219 (by decide) dX11_orNone_1 ?_
  refine x_icmp_lt (tgt := 10) (pc := 3) dX11_orNone_3 (by decide) (fun c_3 => ?_) (fun c_3 => ?_)
  · refine x_iload_n (pc := 10) dX11_orNone_10 rfl rfl ?_
    refine x_ireturn (pc := 11) dX11_orNone_11 rfl (by decide) ?_
    refine ⟨?_, rfl, rfl, rfl⟩
    rw [if_pos (by omega)]
  · refine x_iconst (pc := 6) dX11_orNone_6 (by decide) ?_
    refine x_goto (tgt := 11) (pc := 7) dX11_orNone_7 (by decide) ?_
    refine x_ireturn (pc := 11) dX11_orNone_11 rfl (by decide) ?_
    refine ⟨?_, rfl, rfl, rfl⟩
    rw [if_neg (by omega)]
theorem s_Cprice {l : Launch} {E : aE} {N : Nat} {S : aS} {M : aM} (hfl : l.stackTraces = false) (q : Int) (hC : lyC S) (A : aM) (hR : RC M N S A) (hA : TOK (A 0)) : aMt l E pX11_price [(2, 0), (0, q)] N S M (opC M N S 0 (spPrice A q) (fun _ => 0)) := by
  refine a_met hfl rfl (by decide +kernel) (Nat.le_of_ble_eq_true rfl) ?_
  have c0 : M 1 1 = A 0 0 := hR.1.1.1
  have t0 := hA.1
  have t9 := hA.2.2.2.2.2.2.2.2.2.2.2.2.2.2.2.2.2.1
  refine x_aload_n (pc := 0) dX11_price_0 rfl rfl ?_
  refine x_iload_n (pc := 1) dX11_price_1 rfl rfl ?_
  refine x_iconst (pc := 2) dX11_price_2 (by decide) ?_
  refine x_sipush (pc := 3) dX11_price_3 (by decide) ?_
  refine x_callV3 (pc := 6) dX11_price_6 rfl kX11_175 (s_needWithin hfl _ _ _) (sC_0 hC) rfl rfl (Nat.le_of_ble_eq_true rfl) (k_N (fun h_6 => ?_)) (n_N (fun h_6 => (by have e9 : spPrice A q = (1, 0, A) := (by unfold spPrice; (repeat' split) <;> first | rfl | (exfalso; omega)); rw [e9]; exact ⟨rfl, rfl, fun _ _ _ _ => rfl, hR, Or.inr ⟨show ¬ (1 : Int) = 0 by decide, rfl⟩⟩)))
  refine x_aload_n (pc := 9) dX11_price_9 rfl rfl ?_
  refine x_getR (jj := 3) (pc := 10) dX11_price_10 fX11_36 (sC_0 hC) rfl (by decide) rfl rC_0_3 ?_
  refine x_iload_n (pc := 13) dX11_price_13 rfl rfl ?_
  have hK := hA.tt
  refine x_callV1 (pc := 14) dX11_price_14 rfl kX11_179 (s_reach hfl 25 (1 + 1) rC_25 (A 0) hC.pr hR.1.2 hK q (by omega) hR.2.2.2.2.2.1) (sC_25 hC) rfl rfl (Nat.le_of_ble_eq_true rfl) (k_U (fun M9 hM9 => ?_)) n_U
  obtain ⟨hP9, hk9, hn9, hf9, ho9⟩ := hM9
  have hb9 := hP9.1
  have hs9 := (hP9.2.1 q (by omega) (by omega)).2.2.1
  have hr9 := singleV_r (t := A 0) (q := q) hK (by omega)
  have he9 := encF_or (singleV (A 0) q)
  have hRC := hR.pr (M' := M9) (fun a x => hf9 a (by omega)) hP9
  refine x_aload_n (pc := 17) dX11_price_17 rfl rfl ?_
  refine x_getR (jj := 3) (pc := 18) dX11_price_18 fX11_36 (sC_0 hC) rfl (by decide) rfl rC_0_3 ?_
  refine x_getR (jj := 3) (pc := 21) dX11_price_21 fX11_182 (sC_25 hC) rfl (by decide) rfl rC_25_3 ?_
  refine x_iload_n (pc := 24) dX11_price_24 rfl rfl ?_
  refine x_ialoadV (pc := 25) dX11_price_25 (sC_28 hC) (by omega) (by (repeat (first | rewrite [up_s] | rewrite [up_i (by omega)] | rewrite [up_a (by omega)])); first | exact hs9 | rfl) (fun g_25 => ?_)
  refine x_callS1 (pc := 26) dX11_price_26 rfl kX11_185 (s_orNone hfl _) rfl (Nat.le_of_ble_eq_true rfl) (k_R ?_) n_R
  refine x_ireturn (pc := 29) dX11_price_29 rfl (by decide) ?_
  have e9 : spPrice A q = (0, singleV (A 0) q, A) := by
    unfold spPrice
    (repeat' split) <;> first | rfl | (exfalso; omega)
  rw [e9]
  rw [show (if encF FAR1 (singleV (A 0) q) < 536870912 then encF FAR1 (singleV (A 0) q) else -1) = singleV (A 0) q by split <;> omega]
  exact ⟨rfl, rfl, fun a j x y => hf9 a (by omega) j, hRC, Or.inl ⟨rfl, rfl⟩⟩
