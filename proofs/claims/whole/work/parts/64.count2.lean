/-! Integer.bitCount of a set -/
theorem dJ6_bitCount_0f7a4_0 : decode cJ6_bitCount_0f7a4 0 = .ok (.iload_n 0, 1) := by decide +kernel
theorem dJ6_bitCount_0f7a4_1 : decode cJ6_bitCount_0f7a4 1 = .ok (.iload_n 0, 1) := by decide +kernel
theorem dJ6_bitCount_0f7a4_2 : decode cJ6_bitCount_0f7a4 2 = .ok (.iconst 1, 1) := by decide +kernel
theorem dJ6_bitCount_0f7a4_3 : decode cJ6_bitCount_0f7a4 3 = .ok (.iushr, 1) := by decide +kernel
theorem dJ6_bitCount_0f7a4_4 : decode cJ6_bitCount_0f7a4 4 = .ok (.ldc_w 265, 3) := by decide +kernel
theorem dJ6_bitCount_0f7a4_7 : decode cJ6_bitCount_0f7a4 7 = .ok (.iand, 1) := by decide +kernel
theorem dJ6_bitCount_0f7a4_8 : decode cJ6_bitCount_0f7a4 8 = .ok (.isub, 1) := by decide +kernel
theorem dJ6_bitCount_0f7a4_9 : decode cJ6_bitCount_0f7a4 9 = .ok (.istore_n 0, 1) := by decide +kernel
theorem dJ6_bitCount_0f7a4_10 : decode cJ6_bitCount_0f7a4 10 = .ok (.iload_n 0, 1) := by decide +kernel
theorem dJ6_bitCount_0f7a4_11 : decode cJ6_bitCount_0f7a4 11 = .ok (.ldc_w 266, 3) := by decide +kernel
theorem dJ6_bitCount_0f7a4_14 : decode cJ6_bitCount_0f7a4 14 = .ok (.iand, 1) := by decide +kernel
theorem dJ6_bitCount_0f7a4_15 : decode cJ6_bitCount_0f7a4 15 = .ok (.iload_n 0, 1) := by decide +kernel
theorem dJ6_bitCount_0f7a4_16 : decode cJ6_bitCount_0f7a4 16 = .ok (.iconst 2, 1) := by decide +kernel
theorem dJ6_bitCount_0f7a4_17 : decode cJ6_bitCount_0f7a4 17 = .ok (.iushr, 1) := by decide +kernel
theorem dJ6_bitCount_0f7a4_18 : decode cJ6_bitCount_0f7a4 18 = .ok (.ldc_w 266, 3) := by decide +kernel
theorem dJ6_bitCount_0f7a4_21 : decode cJ6_bitCount_0f7a4 21 = .ok (.iand, 1) := by decide +kernel
theorem dJ6_bitCount_0f7a4_22 : decode cJ6_bitCount_0f7a4 22 = .ok (.iadd, 1) := by decide +kernel
theorem dJ6_bitCount_0f7a4_23 : decode cJ6_bitCount_0f7a4 23 = .ok (.istore_n 0, 1) := by decide +kernel
theorem dJ6_bitCount_0f7a4_24 : decode cJ6_bitCount_0f7a4 24 = .ok (.iload_n 0, 1) := by decide +kernel
theorem dJ6_bitCount_0f7a4_25 : decode cJ6_bitCount_0f7a4 25 = .ok (.iload_n 0, 1) := by decide +kernel
theorem dJ6_bitCount_0f7a4_26 : decode cJ6_bitCount_0f7a4 26 = .ok (.iconst 4, 1) := by decide +kernel
theorem dJ6_bitCount_0f7a4_27 : decode cJ6_bitCount_0f7a4 27 = .ok (.iushr, 1) := by decide +kernel
theorem dJ6_bitCount_0f7a4_28 : decode cJ6_bitCount_0f7a4 28 = .ok (.iadd, 1) := by decide +kernel
theorem dJ6_bitCount_0f7a4_29 : decode cJ6_bitCount_0f7a4 29 = .ok (.ldc_w 267, 3) := by decide +kernel
theorem dJ6_bitCount_0f7a4_32 : decode cJ6_bitCount_0f7a4 32 = .ok (.iand, 1) := by decide +kernel
theorem dJ6_bitCount_0f7a4_33 : decode cJ6_bitCount_0f7a4 33 = .ok (.istore_n 0, 1) := by decide +kernel
theorem dJ6_bitCount_0f7a4_34 : decode cJ6_bitCount_0f7a4 34 = .ok (.iload_n 0, 1) := by decide +kernel
theorem dJ6_bitCount_0f7a4_35 : decode cJ6_bitCount_0f7a4 35 = .ok (.iload_n 0, 1) := by decide +kernel
theorem dJ6_bitCount_0f7a4_36 : decode cJ6_bitCount_0f7a4 36 = .ok (.bipush 8, 2) := by decide +kernel
theorem dJ6_bitCount_0f7a4_38 : decode cJ6_bitCount_0f7a4 38 = .ok (.iushr, 1) := by decide +kernel
theorem dJ6_bitCount_0f7a4_39 : decode cJ6_bitCount_0f7a4 39 = .ok (.iadd, 1) := by decide +kernel
theorem dJ6_bitCount_0f7a4_40 : decode cJ6_bitCount_0f7a4 40 = .ok (.istore_n 0, 1) := by decide +kernel
theorem dJ6_bitCount_0f7a4_41 : decode cJ6_bitCount_0f7a4 41 = .ok (.iload_n 0, 1) := by decide +kernel
theorem dJ6_bitCount_0f7a4_42 : decode cJ6_bitCount_0f7a4 42 = .ok (.iload_n 0, 1) := by decide +kernel
theorem dJ6_bitCount_0f7a4_43 : decode cJ6_bitCount_0f7a4 43 = .ok (.bipush 16, 2) := by decide +kernel
theorem dJ6_bitCount_0f7a4_45 : decode cJ6_bitCount_0f7a4 45 = .ok (.iushr, 1) := by decide +kernel
theorem dJ6_bitCount_0f7a4_46 : decode cJ6_bitCount_0f7a4 46 = .ok (.iadd, 1) := by decide +kernel
theorem dJ6_bitCount_0f7a4_47 : decode cJ6_bitCount_0f7a4 47 = .ok (.istore_n 0, 1) := by decide +kernel
theorem dJ6_bitCount_0f7a4_48 : decode cJ6_bitCount_0f7a4 48 = .ok (.iload_n 0, 1) := by decide +kernel
theorem dJ6_bitCount_0f7a4_49 : decode cJ6_bitCount_0f7a4 49 = .ok (.bipush 63, 2) := by decide +kernel
theorem dJ6_bitCount_0f7a4_51 : decode cJ6_bitCount_0f7a4 51 = .ok (.iand, 1) := by decide +kernel
theorem dJ6_bitCount_0f7a4_52 : decode cJ6_bitCount_0f7a4 52 = .ok (.ireturn, 1) := by decide +kernel
def bC1 (x : Int) : Int := x - b_and (b_ushr x 1) 1431655765
def bC2 (x : Int) : Int := b_and x 858993459 + b_and (b_ushr x 2) 858993459
def bC3 (x : Int) : Int := x + b_ushr x 4
def bC4 (x : Int) : Int := b_and x 252645135
def bC5 (x : Int) : Int := x + b_ushr x 8
def bC6 (x : Int) : Int := x + b_ushr x 16
def bC7 (x : Int) : Int := b_and x 63
def bR (x : Int) : Prop := -2147483648 ≤ x ∧ x ≤ 2147483647
theorem bC_all {x : Int} (hx : 0 ≤ x ∧ x < 128) : ((-2147483648 ≤ bC1 x ∧ bC1 x ≤ 2147483647) ∧ (-2147483648 ≤ bC2 (bC1 x) ∧ bC2 (bC1 x) ≤ 2147483647) ∧ (-2147483648 ≤ bC3 (bC2 (bC1 x)) ∧ bC3 (bC2 (bC1 x)) ≤ 2147483647) ∧ (-2147483648 ≤ bC5 (bC4 (bC3 (bC2 (bC1 x)))) ∧ bC5 (bC4 (bC3 (bC2 (bC1 x)))) ≤ 2147483647) ∧ (-2147483648 ≤ bC6 (bC5 (bC4 (bC3 (bC2 (bC1 x))))) ∧ bC6 (bC5 (bC4 (bC3 (bC2 (bC1 x))))) ≤ 2147483647)) ∧ bC7 (bC6 (bC5 (bC4 (bC3 (bC2 (bC1 x)))))) = sumN (hb x) 7 :=
  bt_fin (n := 128) (m := 1) (P := fun x _ => ((-2147483648 ≤ bC1 x ∧ bC1 x ≤ 2147483647) ∧ (-2147483648 ≤ bC2 (bC1 x) ∧ bC2 (bC1 x) ≤ 2147483647) ∧ (-2147483648 ≤ bC3 (bC2 (bC1 x)) ∧ bC3 (bC2 (bC1 x)) ≤ 2147483647) ∧ (-2147483648 ≤ bC5 (bC4 (bC3 (bC2 (bC1 x)))) ∧ bC5 (bC4 (bC3 (bC2 (bC1 x)))) ≤ 2147483647) ∧ (-2147483648 ≤ bC6 (bC5 (bC4 (bC3 (bC2 (bC1 x))))) ∧ bC6 (bC5 (bC4 (bC3 (bC2 (bC1 x))))) ≤ 2147483647)) ∧ bC7 (bC6 (bC5 (bC4 (bC3 (bC2 (bC1 x)))))) = sumN (hb x) 7) (by decide +kernel) hx (b := 0) (by omega)
theorem s_bitCount {l : Launch} {E : aE} {N : Nat} {S : aS} {M : aM} (hfl : l.stackTraces = false) (x : Int) (hx : 0 ≤ x ∧ x < 128) : aMt l E pJ6_bitCount_0f7a4 [(0, x)] N S M (aR (0, sumN (hb x) 7) N S M) := by
  refine a_met hfl rfl (by decide +kernel) (Nat.le_of_ble_eq_true rfl) ?_
  refine x_iload_n (pc := 0) dJ6_bitCount_0f7a4_0 rfl rfl ?_
  refine x_iload_n (pc := 1) dJ6_bitCount_0f7a4_1 rfl rfl ?_
  refine x_iconst (pc := 2) dJ6_bitCount_0f7a4_2 (by decide) ?_
  refine x_iushr (pc := 3) dJ6_bitCount_0f7a4_3 ?_
  refine x_ldcw (n := 1431655765) (pc := 4) cJ6_265 (by decide) dJ6_bitCount_0f7a4_4 ?_
  refine x_iand (pc := 7) dJ6_bitCount_0f7a4_7 ?_
  refine x_isub (pc := 8) dJ6_bitCount_0f7a4_8 (by exact (bC_all hx).1.1) ?_
  refine x_istore_n (pc := 9) dJ6_bitCount_0f7a4_9 rfl (by decide) rfl ?_
  refine x_iload_n (pc := 10) dJ6_bitCount_0f7a4_10 rfl rfl ?_
  refine x_ldcw (n := 858993459) (pc := 11) cJ6_266 (by decide) dJ6_bitCount_0f7a4_11 ?_
  refine x_iand (pc := 14) dJ6_bitCount_0f7a4_14 ?_
  refine x_iload_n (pc := 15) dJ6_bitCount_0f7a4_15 rfl rfl ?_
  refine x_iconst (pc := 16) dJ6_bitCount_0f7a4_16 (by decide) ?_
  refine x_iushr (pc := 17) dJ6_bitCount_0f7a4_17 ?_
  refine x_ldcw (n := 858993459) (pc := 18) cJ6_266 (by decide) dJ6_bitCount_0f7a4_18 ?_
  refine x_iand (pc := 21) dJ6_bitCount_0f7a4_21 ?_
  refine x_iadd (pc := 22) dJ6_bitCount_0f7a4_22 (by exact (bC_all hx).1.2.1) ?_
  refine x_istore_n (pc := 23) dJ6_bitCount_0f7a4_23 rfl (by decide) rfl ?_
  refine x_iload_n (pc := 24) dJ6_bitCount_0f7a4_24 rfl rfl ?_
  refine x_iload_n (pc := 25) dJ6_bitCount_0f7a4_25 rfl rfl ?_
  refine x_iconst (pc := 26) dJ6_bitCount_0f7a4_26 (by decide) ?_
  refine x_iushr (pc := 27) dJ6_bitCount_0f7a4_27 ?_
  refine x_iadd (pc := 28) dJ6_bitCount_0f7a4_28 (by exact (bC_all hx).1.2.2.1) ?_
  refine x_ldcw (n := 252645135) (pc := 29) cJ6_267 (by decide) dJ6_bitCount_0f7a4_29 ?_
  refine x_iand (pc := 32) dJ6_bitCount_0f7a4_32 ?_
  refine x_istore_n (pc := 33) dJ6_bitCount_0f7a4_33 rfl (by decide) rfl ?_
  refine x_iload_n (pc := 34) dJ6_bitCount_0f7a4_34 rfl rfl ?_
  refine x_iload_n (pc := 35) dJ6_bitCount_0f7a4_35 rfl rfl ?_
  refine x_bipush (pc := 36) dJ6_bitCount_0f7a4_36 (by decide) ?_
  refine x_iushr (pc := 38) dJ6_bitCount_0f7a4_38 ?_
  refine x_iadd (pc := 39) dJ6_bitCount_0f7a4_39 (by exact (bC_all hx).1.2.2.2.1) ?_
  refine x_istore_n (pc := 40) dJ6_bitCount_0f7a4_40 rfl (by decide) rfl ?_
  refine x_iload_n (pc := 41) dJ6_bitCount_0f7a4_41 rfl rfl ?_
  refine x_iload_n (pc := 42) dJ6_bitCount_0f7a4_42 rfl rfl ?_
  refine x_bipush (pc := 43) dJ6_bitCount_0f7a4_43 (by decide) ?_
  refine x_iushr (pc := 45) dJ6_bitCount_0f7a4_45 ?_
  refine x_iadd (pc := 46) dJ6_bitCount_0f7a4_46 (by exact (bC_all hx).1.2.2.2.2) ?_
  refine x_istore_n (pc := 47) dJ6_bitCount_0f7a4_47 rfl (by decide) rfl ?_
  refine x_iload_n (pc := 48) dJ6_bitCount_0f7a4_48 rfl rfl ?_
  refine x_bipush (pc := 49) dJ6_bitCount_0f7a4_49 (by decide) ?_
  refine x_iand (pc := 51) dJ6_bitCount_0f7a4_51 ?_
  refine x_ireturn (pc := 52) dJ6_bitCount_0f7a4_52 rfl (by decide) ?_
  exact ⟨congrArg (fun v => Sum.inl (some (0, v))) (bC_all hx).2, rfl, rfl, rfl⟩
