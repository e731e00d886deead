/-! buys -/
theorem dX11_buys_0 : decode cX11_buys 0 = .ok (.aload_n 0, 1) := by decide +kernel
theorem dX11_buys_1 : decode cX11_buys 1 = .ok (.iload_n 2, 1) := by decide +kernel
theorem dX11_buys_2 : decode cX11_buys 2 = .ok (.bipush 6, 2) := by decide +kernel
theorem dX11_buys_4 : decode cX11_buys 4 = .ok (.invokevirtual 104, 3) := by decide +kernel
theorem dX11_buys_7 : decode cX11_buys 7 = .ok (.aload_n 0, 1) := by decide +kernel
theorem dX11_buys_8 : decode cX11_buys 8 = .ok (.iload_n 1, 1) := by decide +kernel
theorem dX11_buys_9 : decode cX11_buys 9 = .ok (.iconst 0, 1) := by decide +kernel
theorem dX11_buys_10 : decode cX11_buys 10 = .ok (.sipush 200, 3) := by decide +kernel
theorem dX11_buys_13 : decode cX11_buys 13 = .ok (.invokevirtual 175, 3) := by decide +kernel
theorem dX11_buys_16 : decode cX11_buys 16 = .ok (.aload_n 0, 1) := by decide +kernel
theorem dX11_buys_17 : decode cX11_buys 17 = .ok (.iload_n 1, 1) := by decide +kernel
theorem dX11_buys_18 : decode cX11_buys 18 = .ok (.iload_n 2, 1) := by decide +kernel
theorem dX11_buys_19 : decode cX11_buys 19 = .ok (.invokevirtual 188, 3) := by decide +kernel
theorem dX11_buys_22 : decode cX11_buys 22 = .ok (.ireturn, 1) := by decide +kernel
theorem dX11_costOfBuys_0 : decode cX11_costOfBuys 0 = .ok (.aload_n 0, 1) := by decide +kernel
theorem dX11_costOfBuys_1 : decode cX11_costOfBuys 1 = .ok (.getfield 36, 3) := by decide +kernel
theorem dX11_costOfBuys_4 : decode cX11_costOfBuys 4 = .ok (.iload_n 1, 1) := by decide +kernel
theorem dX11_costOfBuys_5 : decode cX11_costOfBuys 5 = .ok (.invokevirtual 179, 3) := by decide +kernel
theorem dX11_costOfBuys_8 : decode cX11_costOfBuys 8 = .ok (.aload_n 0, 1) := by decide +kernel
theorem dX11_costOfBuys_9 : decode cX11_costOfBuys 9 = .ok (.getfield 36, 3) := by decide +kernel
theorem dX11_costOfBuys_12 : decode cX11_costOfBuys 12 = .ok (.getfield 389, 3) := by decide +kernel
theorem dX11_costOfBuys_15 : decode cX11_costOfBuys 15 = .ok (.iload_n 1, 1) := by decide +kernel
theorem dX11_costOfBuys_16 : decode cX11_costOfBuys 16 = .ok (.iaload, 1) := by decide +kernel
theorem dX11_costOfBuys_17 : decode cX11_costOfBuys 17 = .ok (.istore_n 3, 1) := by decide +kernel
theorem dX11_costOfBuys_18 : decode cX11_costOfBuys 18 = .ok (.iload_n 3, 1) := by decide +kernel
theorem dX11_costOfBuys_19 : decode cX11_costOfBuys 19 = .ok (.ldc 219, 2) := by decide +kernel
theorem dX11_costOfBuys_21 : decode cX11_costOfBuys 21 = .ok (.if_icmp .lt 7, 3) := by decide +kernel
theorem dX11_costOfBuys_24 : decode cX11_costOfBuys 24 = .ok (.iconst (-1), 1) := by decide +kernel
theorem dX11_costOfBuys_25 : decode cX11_costOfBuys 25 = .ok (.goto 19, 3) := by decide +kernel
theorem dX11_costOfBuys_28 : decode cX11_costOfBuys 28 = .ok (.iload_n 3, 1) := by decide +kernel
theorem dX11_costOfBuys_29 : decode cX11_costOfBuys 29 = .ok (.iload_n 1, 1) := by decide +kernel
theorem dX11_costOfBuys_30 : decode cX11_costOfBuys 30 = .ok (.aload_n 0, 1) := by decide +kernel
theorem dX11_costOfBuys_31 : decode cX11_costOfBuys 31 = .ok (.getfield 10, 3) := by decide +kernel
theorem dX11_costOfBuys_34 : decode cX11_costOfBuys 34 = .ok (.getfield 29, 3) := by decide +kernel
theorem dX11_costOfBuys_37 : decode cX11_costOfBuys 37 = .ok (.getfield 392, 3) := by decide +kernel
theorem dX11_costOfBuys_40 : decode cX11_costOfBuys 40 = .ok (.iload_n 2, 1) := by decide +kernel
theorem dX11_costOfBuys_41 : decode cX11_costOfBuys 41 = .ok (.iaload, 1) := by decide +kernel
theorem dX11_costOfBuys_42 : decode cX11_costOfBuys 42 = .ok (.imul, 1) := by decide +kernel
theorem dX11_costOfBuys_43 : decode cX11_costOfBuys 43 = .ok (.iadd, 1) := by decide +kernel
theorem dX11_costOfBuys_44 : decode cX11_costOfBuys 44 = .ok (.ireturn, 1) := by decide +kernel
def spBuys (A : aM) (q m : Int) : Int × Int × aM := if ¬ (0 ≤ m ∧ m ≤ 5) then (1, 0, A) else if ¬ (0 ≤ q ∧ q ≤ 200) then (2, 0, A) else (0, buysV (A 0) q m, A)
theorem s_costOfBuys {l : Launch} {E : aE} {N : Nat} {S : aS} {M : aM} (hfl : l.stackTraces = false) (q m : Int) (hC : lyC S) (A : aM) (hR : RC M N S A) (hA : TOK (A 0)) (hq : 0 ≤ q ∧ q ≤ 200) (hm : 0 ≤ m ∧ m < 6) : aMt l E pX11_costOfBuys [(2, 0), (0, q), (0, m)] N S M (aG N S (fun v M' => v = (0, buysV (A 0) q m) ∧ RC M' N S A ∧ ∀ a, ¬ (25 ≤ a ∧ a < 30) → eqR M M' a)) := by
  refine a_met hfl rfl (by decide +kernel) (Nat.le_of_ble_eq_true rfl) ?_
  refine x_aload_n (pc := 0) dX11_costOfBuys_0 rfl rfl ?_
  refine x_getR (jj := 3) (pc := 1) dX11_costOfBuys_1 fX11_36 (sC_0 hC) rfl (by decide) rfl rC_0_3 ?_
  refine x_iload_n (pc := 4) dX11_costOfBuys_4 rfl rfl ?_
  have hK := hA.tt
  refine x_callV1 (pc := 5) dX11_costOfBuys_5 rfl kX11_179 (s_reach hfl 25 (1 + 1) rC_25 (A 0) hC.pr hR.1.2 hK q (by omega) hR.2.2.2.2.2.1) (sC_25 hC) rfl rfl (Nat.le_of_ble_eq_true rfl) (k_U (fun M9 hM9 => ?_)) n_U
  obtain ⟨hP9, hk9, hn9, hf9, ho9⟩ := hM9
  have hb9 := hP9.1
  have hs9 : M9 (25 + 4) q = encF FAR1 (sevV (A 0) q) := by
    by_cases e : q = 0
    · subst e; exact hP9.2.2.2.2
    · exact (hP9.2.1 q (by omega) (by omega)).2.2.2
  have hr9 := sevV_r (t := A 0) hK q.toNat q (by omega) (by omega)
  have he9 := encF_or (sevV (A 0) q)
  have hg9 : M9 (1 + 1 + 5) m = A 0 (245 + m) := (hf9 _ (by omega) m).trans (hR.1.2.2.2.2.2.2.2.2.2.1 m (by omega) (by omega))
  have ht9 := hA.2.2.2.2.2.2.2.2.2.2.2.2.2.2.2.2.2.2.1 m (by omega) (by omega)
  have a1 : q * A 0 (245 + m) ≤ q * 99 := Int.mul_le_mul_of_nonneg_left ht9.2 (by omega)
  have a2 : 0 ≤ q * A 0 (245 + m) := Int.mul_nonneg (by omega) ht9.1
  have hRC := hR.pr (M' := M9) (fun a x => hf9 a (by omega)) hP9
  refine x_aload_n (pc := 8) dX11_costOfBuys_8 rfl rfl ?_
  refine x_getR (jj := 3) (pc := 9) dX11_costOfBuys_9 fX11_36 (sC_0 hC) rfl (by decide) rfl rC_0_3 ?_
  refine x_getR (jj := 4) (pc := 12) dX11_costOfBuys_12 fX11_389 (sC_25 hC) rfl (by decide) rfl rC_25_4 ?_
  refine x_iload_n (pc := 15) dX11_costOfBuys_15 rfl rfl ?_
  refine x_ialoadV (pc := 16) dX11_costOfBuys_16 (sC_29 hC) (by omega) (by (repeat (first | rewrite [up_s] | rewrite [up_i (by omega)] | rewrite [up_a (by omega)])); first | exact hs9 | exact hg9 | rfl) (fun g_16 => ?_)
  refine x_istore_n (pc := 17) dX11_costOfBuys_17 rfl (by decide) rfl ?_
  refine x_iload_n (pc := 18) dX11_costOfBuys_18 rfl rfl ?_
  refine x_ldc (n := 536870912) (pc := 19) cX11_219 (by decide) dX11_costOfBuys_19 ?_
  refine x_icmp_lt (tgt := 28) (pc := 21) dX11_costOfBuys_21 (by decide) (fun c_21 => ?_) (fun c_21 => ?_)
  · refine x_iload_n (pc := 28) dX11_costOfBuys_28 rfl rfl ?_
    refine x_iload_n (pc := 29) dX11_costOfBuys_29 rfl rfl ?_
    refine x_aload_n (pc := 30) dX11_costOfBuys_30 rfl rfl ?_
    refine x_getR (jj := 0) (pc := 31) dX11_costOfBuys_31 fX11_10 (sC_0 hC) rfl (by decide) rfl rC_0_0 ?_
    refine x_getR (jj := 0) (pc := 34) dX11_costOfBuys_34 fX11_29 (hC.2.1).2.1 rfl (by decide) rfl rS_0 ?_
    refine x_getR (jj := 10) (pc := 37) dX11_costOfBuys_37 fX11_392 ((hC.2.1).1).1 rfl (by decide) rfl rT_10 ?_
    refine x_iload_n (pc := 40) dX11_costOfBuys_40 rfl rfl ?_
    refine x_ialoadV (pc := 41) dX11_costOfBuys_41 ((hC.2.1).1).2.2.2.2.2 (by omega) (by (repeat (first | rewrite [up_s] | rewrite [up_i (by omega)] | rewrite [up_a (by omega)])); first | exact hs9 | exact hg9 | rfl) (fun g_41 => ?_)
    refine x_imul (pc := 42) dX11_costOfBuys_42 (by omega) ?_
    refine x_iadd (pc := 43) dX11_costOfBuys_43 (by omega) ?_
    refine x_ireturn (pc := 44) dX11_costOfBuys_44 rfl (by decide) ?_
    refine ⟨_, rfl, rfl, rfl, ?_, hRC, fun a x => hf9 a (by omega)⟩
    have hz : buysV (A 0) q m = sevV (A 0) q + q * A 0 (245 + m) := by
      unfold buysV
      rw [if_neg (by omega)]
    rw [hz, show encF FAR1 (sevV (A 0) q) = sevV (A 0) q by omega]
  · refine x_iconst (pc := 24) dX11_costOfBuys_24 (by decide) ?_
    refine x_goto (tgt := 44) (pc := 25) dX11_costOfBuys_25 (by decide) ?_
    refine x_ireturn (pc := 44) dX11_costOfBuys_44 rfl (by decide) ?_
    refine ⟨_, rfl, rfl, rfl, ?_, hRC, fun a x => hf9 a (by omega)⟩
    have hz : buysV (A 0) q m = -1 := by
      unfold buysV
      rw [if_pos (by omega)]
    rw [hz]
theorem s_Cbuys {l : Launch} {E : aE} {N : Nat} {S : aS} {M : aM} (hfl : l.stackTraces = false) (q m : Int) (hC : lyC S) (A : aM) (hR : RC M N S A) (hA : TOK (A 0)) : aMt l E pX11_buys [(2, 0), (0, q), (0, m)] N S M (opC M N S 0 (spBuys A q m) (fun k => if k = 1 then 2 else 0)) := by
  refine a_met hfl rfl (by decide +kernel) (Nat.le_of_ble_eq_true rfl) ?_
  have c0 : M 1 1 = A 0 0 := hR.1.1.1
  have t0 := hA.1
  have t9 := hA.2.2.2.2.2.2.2.2.2.2.2.2.2.2.2.2.2.1
  refine x_aload_n (pc := 0) dX11_buys_0 rfl rfl ?_
  refine x_iload_n (pc := 1) dX11_buys_1 rfl rfl ?_
  refine x_bipush (pc := 2) dX11_buys_2 (by decide) ?_
  refine x_callV2 (pc := 4) dX11_buys_4 rfl kX11_104 (s_needMonth hfl _ _) (sC_0 hC) rfl rfl (Nat.le_of_ble_eq_true rfl) (k_N (fun h_4 => ?_)) (n_N (fun h_4 => (by have e9 : spBuys A q m = (1, 0, A) := (by unfold spBuys; (repeat' split) <;> first | rfl | (exfalso; omega)); rw [e9]; exact ⟨rfl, rfl, fun _ _ _ _ => rfl, hR, Or.inr ⟨show ¬ (1 : Int) = 0 by decide, rfl⟩⟩)))
  refine x_aload_n (pc := 7) dX11_buys_7 rfl rfl ?_
  refine x_iload_n (pc := 8) dX11_buys_8 rfl rfl ?_
  refine x_iconst (pc := 9) dX11_buys_9 (by decide) ?_
  refine x_sipush (pc := 10) dX11_buys_10 (by decide) ?_
  refine x_callV3 (pc := 13) dX11_buys_13 rfl kX11_175 (s_needWithin hfl _ _ _) (sC_0 hC) rfl rfl (Nat.le_of_ble_eq_true rfl) (k_N (fun h_13 => ?_)) (n_N (fun h_13 => (by have e9 : spBuys A q m = (2, 0, A) := (by unfold spBuys; (repeat' split) <;> first | rfl | (exfalso; omega)); rw [e9]; exact ⟨rfl, rfl, fun _ _ _ _ => rfl, hR, Or.inr ⟨show ¬ (2 : Int) = 0 by decide, rfl⟩⟩)))
  refine x_aload_n (pc := 16) dX11_buys_16 rfl rfl ?_
  refine x_iload_n (pc := 17) dX11_buys_17 rfl rfl ?_
  refine x_iload_n (pc := 18) dX11_buys_18 rfl rfl ?_
  refine x_callV2 (pc := 19) dX11_buys_19 rfl kX11_188 (s_costOfBuys hfl q m hC A hR hA (by omega) (by omega)) (sC_0 hC) rfl rfl (Nat.le_of_ble_eq_true rfl) (k_G (fun v9 M9 hM9 => ?_)) n_G
  obtain ⟨rfl, hR9, hf9⟩ := hM9
  refine x_ireturn (pc := 22) dX11_buys_22 rfl (by decide) ?_
  have e9 : spBuys A q m = (0, buysV (A 0) q m, A) := by
    unfold spBuys
    (repeat' split) <;> first | rfl | (exfalso; omega)
  rw [e9]
  exact ⟨rfl, rfl, fun a j x y => hf9 a (by omega) j, hR9, Or.inl ⟨rfl, rfl⟩⟩
