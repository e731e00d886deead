/-! TEXT: the reference's parts of a line -/
theorem hasS_iff {f : Int → Int} {v : Int} : ∀ N : Nat, hasS f v N = true ↔ ∃ k : Int, 0 ≤ k ∧ k < N ∧ f (2 + k) = v
  | 0 => ⟨fun q => absurd q (show ¬ (false = true) by decide), fun ⟨k, a, b, _⟩ => by omega⟩
  | N + 1 => by
    have e : hasS f v (N + 1) = (hasS f v N || decide (f (2 + (N : Int)) = v)) := rfl
    rw [e, Bool.or_eq_true, hasS_iff N, decide_eq_true_iff]
    constructor
    · rintro (⟨k, a, b, c⟩ | q)
      · exact ⟨k, a, by omega, c⟩
      · exact ⟨N, by omega, by omega, q⟩
    · rintro ⟨k, a, b, c⟩
      by_cases z : k = N
      · rw [z] at c; exact Or.inr c
      · exact Or.inl ⟨k, a, by omega, c⟩
theorem RES.no {M : aM} {m n e p : Int} {T : Int → Int} {r : tR} (hr : r = badR e p) (h : e ≠ 0) (h1 : M m 12 = e) (h2 : M m 13 = p) : RES M m T n r := by
  rw [hr]; exact ⟨h1, fun _ => h2, fun q => absurd q h⟩
theorem RES.ok {M : aM} {m n a : Int} {T g : Int → Int} {r : tR} (hr : r = okM a g) (h1 : M m 12 = 0) (h2 : RTk M m T n a) (h3 : RF M m g) : RES M m T n r := by
  rw [hr]; exact ⟨h1, fun q => absurd rfl q, fun _ => ⟨h2, h3⟩⟩
theorem s_isStepM {l : Launch} {E : aE} {N : Nat} {S : aS} {M : aM} (hfl : l.stackTraces = false) (m : Int) (hS : lyM S m) (f : Int → Int) (hF : RF M m f) (h1 : 0 ≤ f 1 ∧ f 1 ≤ 6) (v : Int) : aMt l E pX12_isStep [(2, m), (0, v)] N S M (aB (hasS f v (f 1).toNat = true) N S M) := by
  refine a_met hfl rfl (by decide +kernel) (Nat.le_of_ble_eq_true rfl) ?_
  have loop := a_loop1 (fun i => (0 ≤ i ∧ i ≤ f 1) ∧ ∀ j, 0 ≤ j → j < i → f (2 + j) ≠ v) (fun i => (f 1 - i).toNat) (fun i => aX l E pX12_isStep (aB (hasS f v (f 1).toNat = true) N S M) 0 0 N S M 2 [(0, (2, m)), (1, (0, v)), (2, (0, i))] []) (by
    intro i hI ih
    obtain ⟨k1, k2⟩ := hI
    refine x_iload_n (pc := 2) dX12_isStep_2 rfl rfl ?_
    refine x_aload_n (pc := 3) dX12_isStep_3 rfl rfl ?_
    refine x_getR (jj := 5) (pc := 4) dX12_isStep_4 fX12_23 hS.1 rfl (by decide) rfl rM_5 ?_
    refine x_iconst (pc := 7) dX12_isStep_7 (by decide) ?_
    refine x_ialoadV (pc := 8) dX12_isStep_8 (sM_5 hS) (by omega) (by (repeat (first | rewrite [up_s] | rewrite [up_i (by omega)] | rewrite [up_a (by omega)] | rewrite [stM_a (by omega) (by omega)])); first | exact hF 1 (by omega) (by omega) | exact hF _ (by omega) (by omega) | rfl) (fun g_8 => ?_)
    refine x_icmp_ge (tgt := 32) (pc := 9) dX12_isStep_9 (by decide) (fun c_9 => ?_) (fun c_9 => ?_)
    · refine x_iconst (pc := 32) dX12_isStep_32 (by decide) ?_
      refine x_zreturn (pc := 33) dX12_isStep_33 rfl (by omega) (by decide) ?_
      refine b_0 fun q => ?_
      obtain ⟨k, a, b, c⟩ := (hasS_iff _).mp q
      exact k2 k a (by omega) c
    · refine x_aload_n (pc := 12) dX12_isStep_12 rfl rfl ?_
      refine x_getR (jj := 5) (pc := 13) dX12_isStep_13 fX12_23 hS.1 rfl (by decide) rfl rM_5 ?_
      refine x_iconst (pc := 16) dX12_isStep_16 (by decide) ?_
      refine x_iload_n (pc := 17) dX12_isStep_17 rfl rfl ?_
      refine x_iadd (pc := 18) dX12_isStep_18 (by omega) ?_
      refine x_ialoadV (pc := 19) dX12_isStep_19 (sM_5 hS) (by omega) (by (repeat (first | rewrite [up_s] | rewrite [up_i (by omega)] | rewrite [up_a (by omega)] | rewrite [stM_a (by omega) (by omega)])); first | exact hF 1 (by omega) (by omega) | exact hF _ (by omega) (by omega) | rfl) (fun g_19 => ?_)
      refine x_iload_n (pc := 20) dX12_isStep_20 rfl rfl ?_
      refine x_icmp_ne (tgt := 26) (pc := 21) dX12_isStep_21 (by decide) (fun c_21 => ?_) (fun c_21 => ?_)
      · refine x_iinc (pc := 26) dX12_isStep_26 rfl (by omega) (by decide) rfl ?_
        refine x_goto (tgt := 2) (pc := 29) dX12_isStep_29 (by decide) ?_
        exact x_lo (lo' := [(0, (2, m)), (1, (0, v)), (2, (0, i + 1))]) ⟨rfl, rfl, rfl, trivial⟩ (ih (i + 1) ⟨⟨by omega, by omega⟩, fun j a b => by
          by_cases e : j = i
          · rw [e]; assumption
          · exact k2 j a (by omega)⟩ (by omega))
      · refine x_iconst (pc := 24) dX12_isStep_24 (by decide) ?_
        refine x_zreturn (pc := 25) dX12_isStep_25 rfl (by omega) (by decide) ?_
        exact b_1 ((hasS_iff _).mpr ⟨i, by omega, by omega, by assumption⟩))
  refine x_iconst (pc := 0) dX12_isStep_0 (by decide) ?_
  refine x_istore_n (pc := 1) dX12_isStep_1 rfl (by decide) rfl ?_
  exact x_lo (lo' := [(0, (2, m)), (1, (0, v)), (2, (0, 0))]) ⟨rfl, rfl, rfl, trivial⟩ (loop 0 ⟨by omega, fun j a b => by omega⟩)
theorem s_readOne {l : Launch} {E : aE} {N : Nat} {S : aS} {M : aM} (hfl : l.stackTraces = false) (m : Int) (T : Int → Int) (n : Int) (hS : lyM S m) (hB : RTp M m T n) (hn : 0 ≤ n ∧ n ≤ 300) (f : Int → Int) (hF : RF M m f) (hK : FOK f) (a : Int) (ha : 0 ≤ a ∧ a ≤ n) (h8 : M m 8 = a) (h0 : M m 12 = 0) (i9 lo9 hi : Int) (hi9 : 219 ≤ i9 ∧ i9 < 253) : aMt l E pX12_readOne [(2, m), (0, i9), (0, lo9), (0, hi)] N S M (aU N S (fun M' => RES M' m T n (oneM T n a lo9 hi (i9 - 219) f) ∧ frTy M M' m)) := by
  refine a_met hfl rfl (by decide +kernel) (Nat.le_of_ble_eq_true rfl) ?_
  refine x_aload_n (pc := 0) dX12_readOne_0 rfl rfl ?_
  refine x_callV0 (pc := 1) dX12_readOne_1 rfl kX12_196 (s_next hfl m T n hS hB.1 hn hB.2 a ha h8) hS.1 rfl rfl (Nat.le_of_ble_eq_true rfl) (k_U (fun M9 hM9 => ?_)) n_U
  obtain ⟨t9, g9⟩ := hM9
  have F9 : frTx M M9 m := fun x y q => g9 x y (by omega)
  have B9 := hB.y F9.y
  have z9 : M9 m 12 = 0 := (g9 _ _ (by omega)).trans h0
  refine x_aload_n (pc := 4) dX12_readOne_4 rfl rfl ?_
  refine x_iload_n (pc := 5) dX12_readOne_5 rfl rfl ?_
  refine x_iload_n (pc := 6) dX12_readOne_6 rfl rfl ?_
  refine x_callV2 (pc := 7) dX12_readOne_7 rfl kX12_204 (s_number0 hfl m T n hS B9 hn lo9 hi a ha z9 t9) hS.1 rfl rfl (Nat.le_of_ble_eq_true rfl) (k_G (fun v8 M8 hM8 => ?_)) n_G
  obtain ⟨rfl, e8, p8, t8, f8⟩ := hM8
  have B8 := B9.y f8.y
  have hEr := tE_r (T := T) (n := n) (a := a) ha.2
  have hBr := tB_r (T := T) (n := n) (a := a) ha.2
  refine x_istore (pc := 10) dX12_readOne_10 (by decide) rfl ?_
  refine x_aload_n (pc := 12) dX12_readOne_12 rfl rfl ?_
  refine x_getIV (jj := 12) (pc := 13) dX12_readOne_13 fX12_176 hS.1 rfl (by decide) rfl (by (repeat (first | rewrite [up_s] | rewrite [up_i (by omega)] | rewrite [up_a (by omega)] | rewrite [stM_a (by omega) (by omega)])); first | exact e8 | rfl) ?_
  refine x_if_ne (tgt := 31) (pc := 16) dX12_readOne_16 (by decide) (fun c_16 => ?_) (fun c_16 => ?_)
  · refine x_return (pc := 31) dX12_readOne_31 rfl (by decide) ?_
    exact ⟨rfl, rfl, rfl, RES.no (by unfold oneM; exact numR_no c_16) c_16 e8 (p8 c_16), (F9.tr f8).y⟩
  · refine x_aload_n (pc := 19) dX12_readOne_19 rfl rfl ?_
    refine x_getR (jj := 5) (pc := 20) dX12_readOne_20 fX12_23 hS.1 rfl (by decide) rfl rM_5 ?_
    refine x_iload_n (pc := 23) dX12_readOne_23 rfl rfl ?_
    refine x_sipush (pc := 24) dX12_readOne_24 (by decide) ?_
    refine x_isub (pc := 27) dX12_readOne_27 (by omega) ?_
    refine x_iload (pc := 28) dX12_readOne_28 rfl ?_
    refine x_iastore (pc := 30) dX12_readOne_30 (sM_5 hS) (by omega) ?_
    refine x_return (pc := 31) dX12_readOne_31 rfl (by decide) ?_
    have h1 : numE T n a lo9 hi = 0 := by omega
    have hy := numR_yes (k := fun v e => okM e (fU f (i9 - 219) v)) h1
    have hv := t9.2.2.2 hy.2.1
    refine ⟨rfl, rfl, rfl, RES.ok (a := tE T n a) (by unfold oneM; exact hy.1) ?_ ((t8 h1).y fun y q w => up_a (by omega)) ?_, (F9.tr f8).y.up⟩
    · rw [up_a (by omega), e8]; exact h1
    · rw [← hv]; exact ((hF.x F9).x f8).w
theorem s_readRise {l : Launch} {E : aE} {N : Nat} {S : aS} {M : aM} (hfl : l.stackTraces = false) (m : Int) (T : Int → Int) (n : Int) (hS : lyM S m) (hB : RTp M m T n) (hn : 0 ≤ n ∧ n ≤ 300) (f : Int → Int) (hF : RF M m f) (hK : FOK f) (a : Int) (ha : 0 ≤ a ∧ a ≤ n) (h8 : M m 8 = a) (h0 : M m 12 = 0) : aMt l E pX12_readRise [(2, m)] N S M (aU N S (fun M' => RES M' m T n (riseM T n a f) ∧ frTy M M' m)) := by
  refine a_met hfl rfl (by decide +kernel) (Nat.le_of_ble_eq_true rfl) ?_
  refine x_aload_n (pc := 0) dX12_readRise_0 rfl rfl ?_
  refine x_callV0 (pc := 1) dX12_readRise_1 rfl kX12_196 (s_next hfl m T n hS hB.1 hn hB.2 a ha h8) hS.1 rfl rfl (Nat.le_of_ble_eq_true rfl) (k_U (fun M9 hM9 => ?_)) n_U
  obtain ⟨t9, g9⟩ := hM9
  have F9 : frTx M M9 m := fun x y q => g9 x y (by omega)
  have B9 := hB.y F9.y
  have z9 : M9 m 12 = 0 := (g9 _ _ (by omega)).trans h0
  refine x_aload_n (pc := 4) dX12_readRise_4 rfl rfl ?_
  refine x_iconst (pc := 5) dX12_readRise_5 (by decide) ?_
  refine x_iconst (pc := 6) dX12_readRise_6 (by decide) ?_
  refine x_callV2 (pc := 7) dX12_readRise_7 rfl kX12_204 (s_number0 hfl m T n hS B9 hn 0 5 a ha z9 t9) hS.1 rfl rfl (Nat.le_of_ble_eq_true rfl) (k_G (fun v8 M8 hM8 => ?_)) n_G
  obtain ⟨rfl, e8, p8, t8, f8⟩ := hM8
  have B8 := B9.y f8.y
  have hEr := tE_r (T := T) (n := n) (a := a) ha.2
  have hBr := tB_r (T := T) (n := n) (a := a) ha.2
  by_cases h1 : numE T n a 0 5 = 0
  · have hy1 := numR_yes (k := fun v e => numR T n e 0 99 fun u e2 => okM e2 (fU f (26 + v) u)) h1
    have hv1 := t9.2.2.2 hy1.2.1
    refine x_istore_n (pc := 10) dX12_readRise_10 rfl (by decide) rfl ?_
    refine x_aload_n (pc := 11) dX12_readRise_11 rfl rfl ?_
    refine x_iconst (pc := 12) dX12_readRise_12 (by decide) ?_
    refine x_bipush (pc := 13) dX12_readRise_13 (by decide) ?_
    refine x_callV2 (pc := 15) dX12_readRise_15 rfl kX12_204 (s_number0 hfl m T n hS B8 hn 0 99 (tE T n a) ⟨by omega, hEr.2⟩ (e8.trans h1) (t8 h1)) hS.1 rfl rfl (Nat.le_of_ble_eq_true rfl) (k_G (fun v7 M7 hM7 => ?_)) n_G
    obtain ⟨rfl, e7, p7, t7, f7⟩ := hM7
    refine x_istore_n (pc := 18) dX12_readRise_18 rfl (by decide) rfl ?_
    refine x_aload_n (pc := 19) dX12_readRise_19 rfl rfl ?_
    refine x_getIV (jj := 12) (pc := 20) dX12_readRise_20 fX12_176 hS.1 rfl (by decide) rfl (by (repeat (first | rewrite [up_s] | rewrite [up_i (by omega)] | rewrite [up_a (by omega)] | rewrite [stM_a (by omega) (by omega)])); first | exact e7 | rfl) ?_
    refine x_if_ne (tgt := 36) (pc := 23) dX12_readRise_23 (by decide) (fun c_23 => ?_) (fun c_23 => ?_)
    · refine x_return (pc := 36) dX12_readRise_36 rfl (by decide) ?_
      exact ⟨rfl, rfl, rfl, RES.no (by unfold riseM; rw [hy1.1]; exact numR_no c_23) c_23 e7 (p7 c_23), ((F9.tr f8).tr f7).y⟩
    · refine x_aload_n (pc := 26) dX12_readRise_26 rfl rfl ?_
      refine x_getR (jj := 5) (pc := 27) dX12_readRise_27 fX12_23 hS.1 rfl (by decide) rfl rM_5 ?_
      refine x_bipush (pc := 30) dX12_readRise_30 (by decide) ?_
      refine x_iload_n (pc := 32) dX12_readRise_32 rfl rfl ?_
      refine x_iadd (pc := 33) dX12_readRise_33 (by omega) ?_
      refine x_iload_n (pc := 34) dX12_readRise_34 rfl rfl ?_
      refine x_iastore (pc := 35) dX12_readRise_35 (sM_5 hS) (by omega) ?_
      refine x_return (pc := 36) dX12_readRise_36 rfl (by decide) ?_
      have h2 : numE T n (tE T n a) 0 99 = 0 := by omega
      have hy2 := numR_yes (k := fun u e2 => okM e2 (fU f (26 + tV T n a) u)) h2
      have hv2 := (t8 h1).2.2.2 hy2.2.1
      refine ⟨rfl, rfl, rfl, RES.ok (a := tE T n (tE T n a)) (by unfold riseM; rw [hy1.1]; exact hy2.1) ?_ ((t7 h2).y fun y q w => up_a (by omega)) ?_, ((F9.tr f8).tr f7).y.up⟩
      · rw [up_a (by omega), e7]; exact h2
      · rw [← hv2, ← hv1]; exact (((hF.x F9).x f8).x f7).w
  
  · refine x_istore_n (pc := 10) dX12_readRise_10 rfl (by decide) rfl ?_
    refine x_aload_n (pc := 11) dX12_readRise_11 rfl rfl ?_
    refine x_iconst (pc := 12) dX12_readRise_12 (by decide) ?_
    refine x_bipush (pc := 13) dX12_readRise_13 (by decide) ?_
    refine x_callV2 (pc := 15) dX12_readRise_15 rfl kX12_204 (s_numberB hfl m hS _ _ (fun q => h1 (e8.symm.trans q))) hS.1 rfl rfl (Nat.le_of_ble_eq_true rfl) (k_G (fun v7 M7 hM7 => ?_)) n_G
    obtain ⟨rfl, hM7⟩ := hM7
    subst hM7
    refine x_istore_n (pc := 18) dX12_readRise_18 rfl (by decide) rfl ?_
    refine x_aload_n (pc := 19) dX12_readRise_19 rfl rfl ?_
    refine x_getIV (jj := 12) (pc := 20) dX12_readRise_20 fX12_176 hS.1 rfl (by decide) rfl (by (repeat (first | rewrite [up_s] | rewrite [up_i (by omega)] | rewrite [up_a (by omega)] | rewrite [stM_a (by omega) (by omega)])); first | exact e8 | rfl) ?_
    refine x_if_ne (tgt := 36) (pc := 23) dX12_readRise_23 (by decide) (fun c_23 => ?_) (fun c_23 => ?_)
    · refine x_return (pc := 36) dX12_readRise_36 rfl (by decide) ?_
      exact ⟨rfl, rfl, rfl, RES.no (by unfold riseM; exact numR_no h1) h1 e8 (p8 h1), (F9.tr f8).y⟩
    · refine x_aload_n (pc := 26) dX12_readRise_26 rfl rfl ?_
      refine x_getR (jj := 5) (pc := 27) dX12_readRise_27 fX12_23 hS.1 rfl (by decide) rfl rM_5 ?_
      refine x_bipush (pc := 30) dX12_readRise_30 (by decide) ?_
      refine x_iload_n (pc := 32) dX12_readRise_32 rfl rfl ?_
      refine x_iadd (pc := 33) dX12_readRise_33 (by omega) ?_
      refine x_iload_n (pc := 34) dX12_readRise_34 rfl rfl ?_
      refine x_iastore (pc := 35) dX12_readRise_35 (sM_5 hS) (by omega) ?_
      refine x_return (pc := 36) dX12_readRise_36 rfl (by decide) ?_
      exact absurd (by assumption) h1
  
theorem s_readCart {l : Launch} {E : aE} {N : Nat} {S : aS} {M : aM} (hfl : l.stackTraces = false) (m : Int) (T : Int → Int) (n : Int) (hS : lyM S m) (hB : RTp M m T n) (hn : 0 ≤ n ∧ n ≤ 300) (f : Int → Int) (hF : RF M m f) (hK : FOK f) (a : Int) (ha : 0 ≤ a ∧ a ≤ n) (h8 : M m 8 = a) (h0 : M m 12 = 0) (b9 : Int) (hw : M m 9 = b9) (hk1 : M m 10 = 1) : aMt l E pX12_readCart [(2, m)] N S M (aU N S (fun M' => RES M' m T n ((if f 14 = 4 then badR 4 b9 else cartM T n a f)) ∧ frTy M M' m)) := by
  refine a_met hfl rfl (by decide +kernel) (Nat.le_of_ble_eq_true rfl) ?_
  have hKf := hK.2.2.2.1
  refine x_aload_n (pc := 0) dX12_readCart_0 rfl rfl ?_
  refine x_getR (jj := 5) (pc := 1) dX12_readCart_1 fX12_23 hS.1 rfl (by decide) rfl rM_5 ?_
  refine x_bipush (pc := 4) dX12_readCart_4 (by decide) ?_
  refine x_ialoadV (pc := 6) dX12_readCart_6 (sM_5 hS) (by omega) (by (repeat (first | rewrite [up_s] | rewrite [up_i (by omega)] | rewrite [up_a (by omega)] | rewrite [stM_a (by omega) (by omega)])); first | exact hF _ (by omega) (by omega) | rfl) (fun g_6 => ?_)
  refine x_istore_n (pc := 7) dX12_readCart_7 rfl (by decide) rfl ?_
  refine x_iload_n (pc := 8) dX12_readCart_8 rfl rfl ?_
  refine x_iconst (pc := 9) dX12_readCart_9 (by decide) ?_
  refine x_icmp_ne (tgt := 19) (pc := 10) dX12_readCart_10 (by decide) (fun c_10 => ?_) (fun c_10 => ?_)
  · refine x_aload_n (pc := 19) dX12_readCart_19 rfl rfl ?_
    refine x_callV0 (pc := 20) dX12_readCart_20 rfl kX12_196 (s_next hfl m T n hS hB.1 hn hB.2 a ha h8) hS.1 rfl rfl (Nat.le_of_ble_eq_true rfl) (k_U (fun M9 hM9 => ?_)) n_U
    obtain ⟨t9, g9⟩ := hM9
    have F9 : frTx M M9 m := fun x y q => g9 x y (by omega)
    have B9 := hB.y F9.y
    have z9 : M9 m 12 = 0 := (g9 _ _ (by omega)).trans h0
    refine x_aload_n (pc := 23) dX12_readCart_23 rfl rfl ?_
    refine x_iconst (pc := 24) dX12_readCart_24 (by decide) ?_
    refine x_bipush (pc := 25) dX12_readCart_25 (by decide) ?_
    refine x_callV2 (pc := 27) dX12_readCart_27 rfl kX12_204 (s_number0 hfl m T n hS B9 hn 1 60 a ha z9 t9) hS.1 rfl rfl (Nat.le_of_ble_eq_true rfl) (k_G (fun v8 M8 hM8 => ?_)) n_G
    obtain ⟨rfl, e8, p8, t8, f8⟩ := hM8
    have B8 := B9.y f8.y
    have hEr := tE_r (T := T) (n := n) (a := a) ha.2
    have hBr := tB_r (T := T) (n := n) (a := a) ha.2
    by_cases h1 : numE T n a 1 60 = 0
    · have hy1 := numR_yes (k := fun v e => numR T n e 0 99 fun u e2 => okM e2 (fU (fU (fU f (15 + f 14) v) (19 + f 14) u) 14 (f 14 + 1))) h1
      have hv1 := t9.2.2.2 hy1.2.1
      refine x_istore_n (pc := 30) dX12_readCart_30 rfl (by decide) rfl ?_
      refine x_aload_n (pc := 31) dX12_readCart_31 rfl rfl ?_
      refine x_iconst (pc := 32) dX12_readCart_32 (by decide) ?_
      refine x_bipush (pc := 33) dX12_readCart_33 (by decide) ?_
      refine x_callV2 (pc := 35) dX12_readCart_35 rfl kX12_204 (s_number0 hfl m T n hS B8 hn 0 99 (tE T n a) ⟨by omega, hEr.2⟩ (e8.trans h1) (t8 h1)) hS.1 rfl rfl (Nat.le_of_ble_eq_true rfl) (k_G (fun v7 M7 hM7 => ?_)) n_G
      obtain ⟨rfl, e7, p7, t7, f7⟩ := hM7
      have R7 : RF M7 m f := ((hF.x F9).x f8).x f7
      refine x_istore_n (pc := 38) dX12_readCart_38 rfl (by decide) rfl ?_
      refine x_aload_n (pc := 39) dX12_readCart_39 rfl rfl ?_
      refine x_getIV (jj := 12) (pc := 40) dX12_readCart_40 fX12_176 hS.1 rfl (by decide) rfl (by (repeat (first | rewrite [up_s] | rewrite [up_i (by omega)] | rewrite [up_a (by omega)] | rewrite [stM_a (by omega) (by omega)])); first | exact e7 | exact (R7.w.w _ (by omega) (by omega)).trans ((fU_n (by omega)).trans (fU_n (by omega))) | exact R7 _ (by omega) (by omega) | rfl) ?_
      refine x_if_eq (tgt := 47) (pc := 43) dX12_readCart_43 (by decide) (fun c_43 => ?_) (fun c_43 => ?_)
      · refine x_aload_n (pc := 47) dX12_readCart_47 rfl rfl ?_
        refine x_getR (jj := 5) (pc := 48) dX12_readCart_48 fX12_23 hS.1 rfl (by decide) rfl rM_5 ?_
        refine x_bipush (pc := 51) dX12_readCart_51 (by decide) ?_
        refine x_iload_n (pc := 53) dX12_readCart_53 rfl rfl ?_
        refine x_iadd (pc := 54) dX12_readCart_54 (by omega) ?_
        refine x_iload_n (pc := 55) dX12_readCart_55 rfl rfl ?_
        refine x_iastore (pc := 56) dX12_readCart_56 (sM_5 hS) (by omega) ?_
        refine x_aload_n (pc := 57) dX12_readCart_57 rfl rfl ?_
        refine x_getR (jj := 5) (pc := 58) dX12_readCart_58 fX12_23 hS.1 rfl (by decide) rfl rM_5 ?_
        refine x_bipush (pc := 61) dX12_readCart_61 (by decide) ?_
        refine x_iload_n (pc := 63) dX12_readCart_63 rfl rfl ?_
        refine x_iadd (pc := 64) dX12_readCart_64 (by omega) ?_
        refine x_iload_n (pc := 65) dX12_readCart_65 rfl rfl ?_
        refine x_iastore (pc := 66) dX12_readCart_66 (sM_5 hS) (by omega) ?_
        refine x_aload_n (pc := 67) dX12_readCart_67 rfl rfl ?_
        refine x_getR (jj := 5) (pc := 68) dX12_readCart_68 fX12_23 hS.1 rfl (by decide) rfl rM_5 ?_
        refine x_bipush (pc := 71) dX12_readCart_71 (by decide) ?_
        refine x_dup2 (pc := 73) dX12_readCart_73 rfl rfl ?_
        refine x_ialoadV (pc := 74) dX12_readCart_74 (sM_5 hS) (by omega) (by (repeat (first | rewrite [up_s] | rewrite [up_i (by omega)] | rewrite [up_a (by omega)] | rewrite [stM_a (by omega) (by omega)])); first | exact e7 | exact (R7.w.w _ (by omega) (by omega)).trans ((fU_n (by omega)).trans (fU_n (by omega))) | exact R7 _ (by omega) (by omega) | rfl) (fun g_74 => ?_)
        refine x_iconst (pc := 75) dX12_readCart_75 (by decide) ?_
        refine x_iadd (pc := 76) dX12_readCart_76 (by omega) ?_
        refine x_iastore (pc := 77) dX12_readCart_77 (sM_5 hS) (by omega) ?_
        refine x_return (pc := 78) dX12_readCart_78 rfl (by decide) ?_
        have h2 : numE T n (tE T n a) 0 99 = 0 := by omega
        have hy2 := numR_yes (k := fun u e2 => okM e2 (fU (fU (fU f (15 + f 14) (tV T n a)) (19 + f 14) u) 14 (f 14 + 1))) h2
        have hv2 := (t8 h1).2.2.2 hy2.2.1
        refine ⟨rfl, rfl, rfl, RES.ok (a := tE T n (tE T n a)) ((if_neg (by omega)).trans (by unfold cartM; rw [hy1.1]; exact hy2.1)) ?_ ((t7 h2).y fun y q w => by rw [up_a (by omega), up_a (by omega), up_a (by omega)]) ?_, ((F9.tr f8).tr f7).y.up.up.up⟩
        · rw [up_a (by omega), up_a (by omega), up_a (by omega), e7]; exact h2
        · rw [← hv2, ← hv1]; exact R7.w.w.w
      · refine x_return (pc := 46) dX12_readCart_46 rfl (by decide) ?_
        exact ⟨rfl, rfl, rfl, RES.no ((if_neg (by omega)).trans (by unfold cartM; rw [hy1.1]; exact numR_no c_43)) c_43 e7 (p7 c_43), ((F9.tr f8).tr f7).y⟩
    
    · refine x_istore_n (pc := 30) dX12_readCart_30 rfl (by decide) rfl ?_
      refine x_aload_n (pc := 31) dX12_readCart_31 rfl rfl ?_
      refine x_iconst (pc := 32) dX12_readCart_32 (by decide) ?_
      refine x_bipush (pc := 33) dX12_readCart_33 (by decide) ?_
      refine x_callV2 (pc := 35) dX12_readCart_35 rfl kX12_204 (s_numberB hfl m hS _ _ (fun q => h1 (e8.symm.trans q))) hS.1 rfl rfl (Nat.le_of_ble_eq_true rfl) (k_G (fun v7 M7 hM7 => ?_)) n_G
      obtain ⟨rfl, hM7⟩ := hM7
      subst hM7
      refine x_istore_n (pc := 38) dX12_readCart_38 rfl (by decide) rfl ?_
      refine x_aload_n (pc := 39) dX12_readCart_39 rfl rfl ?_
      refine x_getIV (jj := 12) (pc := 40) dX12_readCart_40 fX12_176 hS.1 rfl (by decide) rfl (by (repeat (first | rewrite [up_s] | rewrite [up_i (by omega)] | rewrite [up_a (by omega)] | rewrite [stM_a (by omega) (by omega)])); first | exact e8 | rfl) ?_
      refine x_if_eq (tgt := 47) (pc := 43) dX12_readCart_43 (by decide) (fun c_43 => ?_) (fun c_43 => ?_)
      · exact absurd (by assumption) h1
      · refine x_return (pc := 46) dX12_readCart_46 rfl (by decide) ?_
        exact ⟨rfl, rfl, rfl, RES.no ((if_neg (by omega)).trans (by unfold cartM; exact numR_no h1)) h1 e8 (p8 h1), (F9.tr f8).y⟩
    
  · refine x_aload_n (pc := 13) dX12_readCart_13 rfl rfl ?_
    refine x_iconst (pc := 14) dX12_readCart_14 (by decide) ?_
    refine x_callV1 (pc := 15) dX12_readCart_15 rfl kX12_192 (s_wrong0 hfl m hS _ h0) hS.1 rfl rfl (Nat.le_of_ble_eq_true rfl) (k_U (fun M9 hM9 => ?_)) n_U
    subst hM9
    refine x_return (pc := 18) dX12_readCart_18 rfl (by decide) ?_
    refine ⟨rfl, rfl, rfl, ?_, fun x y q _ => by rw [up_w (by omega), up_w (by omega)]⟩
    refine RES.no (if_pos (by omega)) (by decide) ?_ ?_
    · rw [up_i (by omega), up_s, if_neg (by omega)]
    · rw [up_s]; exact hw
theorem s_readStep {l : Launch} {E : aE} {N : Nat} {S : aS} {M : aM} (hfl : l.stackTraces = false) (m : Int) (T : Int → Int) (n : Int) (hS : lyM S m) (hB : RTp M m T n) (hn : 0 ≤ n ∧ n ≤ 300) (f : Int → Int) (hF : RF M m f) (hK : FOK f) (a : Int) (ha : 0 ≤ a ∧ a ≤ n) (h8 : M m 8 = a) (h0 : M m 12 = 0) (b9 : Int) (hw : M m 9 = b9) (hk1 : M m 10 = 1) : aMt l E pX12_readStep [(2, m)] N S M (aU N S (fun M' => RES M' m T n ((if f 1 = 6 then badR 4 b9 else stepM T n a f)) ∧ frTy M M' m)) := by
  refine a_met hfl rfl (by decide +kernel) (Nat.le_of_ble_eq_true rfl) ?_
  have hKf := hK.2.1
  refine x_aload_n (pc := 0) dX12_readStep_0 rfl rfl ?_
  refine x_getR (jj := 5) (pc := 1) dX12_readStep_1 fX12_23 hS.1 rfl (by decide) rfl rM_5 ?_
  refine x_iconst (pc := 4) dX12_readStep_4 (by decide) ?_
  refine x_ialoadV (pc := 5) dX12_readStep_5 (sM_5 hS) (by omega) (by (repeat (first | rewrite [up_s] | rewrite [up_i (by omega)] | rewrite [up_a (by omega)] | rewrite [stM_a (by omega) (by omega)])); first | exact hF _ (by omega) (by omega) | rfl) (fun g_5 => ?_)
  refine x_istore_n (pc := 6) dX12_readStep_6 rfl (by decide) rfl ?_
  refine x_iload_n (pc := 7) dX12_readStep_7 rfl rfl ?_
  refine x_bipush (pc := 8) dX12_readStep_8 (by decide) ?_
  refine x_icmp_ne (tgt := 19) (pc := 10) dX12_readStep_10 (by decide) (fun c_10 => ?_) (fun c_10 => ?_)
  · refine x_aload_n (pc := 19) dX12_readStep_19 rfl rfl ?_
    refine x_callV0 (pc := 20) dX12_readStep_20 rfl kX12_196 (s_next hfl m T n hS hB.1 hn hB.2 a ha h8) hS.1 rfl rfl (Nat.le_of_ble_eq_true rfl) (k_U (fun M9 hM9 => ?_)) n_U
    obtain ⟨t9, g9⟩ := hM9
    have F9 : frTx M M9 m := fun x y q => g9 x y (by omega)
    have B9 := hB.y F9.y
    have z9 : M9 m 12 = 0 := (g9 _ _ (by omega)).trans h0
    have R62 : (numE T n a 1 60 = 0 → ¬ hasS f (tV T n a) (f 1).toNat = true) → aX l E pX12_readStep (aU N S (fun M' => RES M' m T n ((if f 1 = 6 then badR 4 b9 else stepM T n a f)) ∧ frTy M M' m)) 0 0 N S M9 62 [(0, (2, m)), (1, (0, f 1))] [] := by
      intro hns
      refine x_aload_n (pc := 62) dX12_readStep_62 rfl rfl ?_
      refine x_iconst (pc := 63) dX12_readStep_63 (by decide) ?_
      refine x_bipush (pc := 64) dX12_readStep_64 (by decide) ?_
      refine x_callV2 (pc := 66) dX12_readStep_66 rfl kX12_204 (s_number0 hfl m T n hS B9 hn 1 60 a ha z9 t9) hS.1 rfl rfl (Nat.le_of_ble_eq_true rfl) (k_G (fun v8 M8 hM8 => ?_)) n_G
      obtain ⟨rfl, e8, p8, t8, f8⟩ := hM8
      have B8 := B9.y f8.y
      have hEr := tE_r (T := T) (n := n) (a := a) ha.2
      have hBr := tB_r (T := T) (n := n) (a := a) ha.2
      by_cases h1 : numE T n a 1 60 = 0
      · have hy1 := numR_yes (k := fun v e => if hasS f v (f 1).toNat = true then badR 4 (tB T n a) else numR T n e 1 99 fun u e2 => okM e2 (fU (fU (fU f (2 + f 1) v) (8 + f 1) u) 1 (f 1 + 1))) h1
        have hv1 := t9.2.2.2 hy1.2.1
        have hns := hns h1
        refine x_istore_n (pc := 69) dX12_readStep_69 rfl (by decide) rfl ?_
        refine x_aload_n (pc := 70) dX12_readStep_70 rfl rfl ?_
        refine x_iconst (pc := 71) dX12_readStep_71 (by decide) ?_
        refine x_bipush (pc := 72) dX12_readStep_72 (by decide) ?_
        refine x_callV2 (pc := 74) dX12_readStep_74 rfl kX12_204 (s_number0 hfl m T n hS B8 hn 1 99 (tE T n a) ⟨by omega, hEr.2⟩ (e8.trans h1) (t8 h1)) hS.1 rfl rfl (Nat.le_of_ble_eq_true rfl) (k_G (fun v7 M7 hM7 => ?_)) n_G
        obtain ⟨rfl, e7, p7, t7, f7⟩ := hM7
        have R7 : RF M7 m f := ((hF.x F9).x f8).x f7
        refine x_istore_n (pc := 77) dX12_readStep_77 rfl (by decide) rfl ?_
        refine x_aload_n (pc := 78) dX12_readStep_78 rfl rfl ?_
        refine x_getIV (jj := 12) (pc := 79) dX12_readStep_79 fX12_176 hS.1 rfl (by decide) rfl (by (repeat (first | rewrite [up_s] | rewrite [up_i (by omega)] | rewrite [up_a (by omega)] | rewrite [stM_a (by omega) (by omega)])); first | exact e7 | exact (R7.w.w _ (by omega) (by omega)).trans ((fU_n (by omega)).trans (fU_n (by omega))) | exact R7 _ (by omega) (by omega) | rfl) ?_
        refine x_if_eq (tgt := 86) (pc := 82) dX12_readStep_82 (by decide) (fun c_82 => ?_) (fun c_82 => ?_)
        · refine x_aload_n (pc := 86) dX12_readStep_86 rfl rfl ?_
          refine x_getR (jj := 5) (pc := 87) dX12_readStep_87 fX12_23 hS.1 rfl (by decide) rfl rM_5 ?_
          refine x_iconst (pc := 90) dX12_readStep_90 (by decide) ?_
          refine x_iload_n (pc := 91) dX12_readStep_91 rfl rfl ?_
          refine x_iadd (pc := 92) dX12_readStep_92 (by omega) ?_
          refine x_iload_n (pc := 93) dX12_readStep_93 rfl rfl ?_
          refine x_iastore (pc := 94) dX12_readStep_94 (sM_5 hS) (by omega) ?_
          refine x_aload_n (pc := 95) dX12_readStep_95 rfl rfl ?_
          refine x_getR (jj := 5) (pc := 96) dX12_readStep_96 fX12_23 hS.1 rfl (by decide) rfl rM_5 ?_
          refine x_bipush (pc := 99) dX12_readStep_99 (by decide) ?_
          refine x_iload_n (pc := 101) dX12_readStep_101 rfl rfl ?_
          refine x_iadd (pc := 102) dX12_readStep_102 (by omega) ?_
          refine x_iload_n (pc := 103) dX12_readStep_103 rfl rfl ?_
          refine x_iastore (pc := 104) dX12_readStep_104 (sM_5 hS) (by omega) ?_
          refine x_aload_n (pc := 105) dX12_readStep_105 rfl rfl ?_
          refine x_getR (jj := 5) (pc := 106) dX12_readStep_106 fX12_23 hS.1 rfl (by decide) rfl rM_5 ?_
          refine x_iconst (pc := 109) dX12_readStep_109 (by decide) ?_
          refine x_dup2 (pc := 110) dX12_readStep_110 rfl rfl ?_
          refine x_ialoadV (pc := 111) dX12_readStep_111 (sM_5 hS) (by omega) (by (repeat (first | rewrite [up_s] | rewrite [up_i (by omega)] | rewrite [up_a (by omega)] | rewrite [stM_a (by omega) (by omega)])); first | exact e7 | exact (R7.w.w _ (by omega) (by omega)).trans ((fU_n (by omega)).trans (fU_n (by omega))) | exact R7 _ (by omega) (by omega) | rfl) (fun g_111 => ?_)
          refine x_iconst (pc := 112) dX12_readStep_112 (by decide) ?_
          refine x_iadd (pc := 113) dX12_readStep_113 (by omega) ?_
          refine x_iastore (pc := 114) dX12_readStep_114 (sM_5 hS) (by omega) ?_
          refine x_return (pc := 115) dX12_readStep_115 rfl (by decide) ?_
          have h2 : numE T n (tE T n a) 1 99 = 0 := by omega
          have hy2 := numR_yes (k := fun u e2 => okM e2 (fU (fU (fU f (2 + f 1) (tV T n a)) (8 + f 1) u) 1 (f 1 + 1))) h2
          have hv2 := (t8 h1).2.2.2 hy2.2.1
          refine ⟨rfl, rfl, rfl, RES.ok (a := tE T n (tE T n a)) ((if_neg (by omega)).trans (hy1.1.trans ((if_neg hns).trans hy2.1))) ?_ ((t7 h2).y fun y q w => by rw [up_a (by omega), up_a (by omega), up_a (by omega)]) ?_, ((F9.tr f8).tr f7).y.up.up.up⟩
          · rw [up_a (by omega), up_a (by omega), up_a (by omega), e7]; exact h2
          · rw [← hv2, ← hv1]; exact R7.w.w.w
        · refine x_return (pc := 85) dX12_readStep_85 rfl (by decide) ?_
          exact ⟨rfl, rfl, rfl, RES.no ((if_neg (by omega)).trans (hy1.1.trans ((if_neg hns).trans (numR_no c_82)))) c_82 e7 (p7 c_82), ((F9.tr f8).tr f7).y⟩
      
      · refine x_istore_n (pc := 69) dX12_readStep_69 rfl (by decide) rfl ?_
        refine x_aload_n (pc := 70) dX12_readStep_70 rfl rfl ?_
        refine x_iconst (pc := 71) dX12_readStep_71 (by decide) ?_
        refine x_bipush (pc := 72) dX12_readStep_72 (by decide) ?_
        refine x_callV2 (pc := 74) dX12_readStep_74 rfl kX12_204 (s_numberB hfl m hS _ _ (fun q => h1 (e8.symm.trans q))) hS.1 rfl rfl (Nat.le_of_ble_eq_true rfl) (k_G (fun v7 M7 hM7 => ?_)) n_G
        obtain ⟨rfl, hM7⟩ := hM7
        subst hM7
        refine x_istore_n (pc := 77) dX12_readStep_77 rfl (by decide) rfl ?_
        refine x_aload_n (pc := 78) dX12_readStep_78 rfl rfl ?_
        refine x_getIV (jj := 12) (pc := 79) dX12_readStep_79 fX12_176 hS.1 rfl (by decide) rfl (by (repeat (first | rewrite [up_s] | rewrite [up_i (by omega)] | rewrite [up_a (by omega)] | rewrite [stM_a (by omega) (by omega)])); first | exact e8 | rfl) ?_
        refine x_if_eq (tgt := 86) (pc := 82) dX12_readStep_82 (by decide) (fun c_82 => ?_) (fun c_82 => ?_)
        · exact absurd (by assumption) h1
        · refine x_return (pc := 85) dX12_readStep_85 rfl (by decide) ?_
          exact ⟨rfl, rfl, rfl, RES.no ((if_neg (by omega)).trans (by unfold stepM; exact numR_no h1)) h1 e8 (p8 h1), (F9.tr f8).y⟩
    refine x_aload_n (pc := 23) dX12_readStep_23 rfl rfl ?_
    refine x_getIV (jj := 10) (pc := 24) dX12_readStep_24 fX12_161 hS.1 rfl (by decide) rfl (by (repeat (first | rewrite [up_s] | rewrite [up_i (by omega)] | rewrite [up_a (by omega)] | rewrite [stM_a (by omega) (by omega)])); first | exact hF _ (by omega) (by omega) | rfl) ?_
    refine x_iconst (pc := 27) dX12_readStep_27 (by decide) ?_
    refine x_icmp_ne (tgt := 62) (pc := 28) dX12_readStep_28 (by decide) (fun c_28 => ?_) (fun c_28 => ?_)
    · exact x_lo (lo' := [(0, (2, m)), (1, (0, f 1))]) ⟨rfl, rfl, trivial⟩ (R62 fun q => absurd q (by have hk9 := t9.1; unfold numE; rw [if_pos (by omega)]; split <;> omega))
    · refine x_aload_n (pc := 31) dX12_readStep_31 rfl rfl ?_
      refine x_getIV (jj := 11) (pc := 32) dX12_readStep_32 fX12_173 hS.1 rfl (by decide) rfl (by (repeat (first | rewrite [up_s] | rewrite [up_i (by omega)] | rewrite [up_a (by omega)] | rewrite [stM_a (by omega) (by omega)])); first | exact hF _ (by omega) (by omega) | rfl) ?_
      refine x_i2l (pc := 35) dX12_readStep_35 ?_
      refine x_lconst1 (pc := 36) dX12_readStep_36 ?_
      refine x_ldc2 (n := 60) (pc := 37) cX12_199 (by decide) dX12_readStep_37 ?_
      refine x_callS3 (pc := 40) dX12_readStep_40 rfl kX12_106 (s_within hfl _ _ _) rfl (Nat.le_of_ble_eq_true rfl) (k_B (fun q_40 => ?_) (fun q_40 => ?_)) n_B
      · refine x_if_eq (tgt := 62) (pc := 43) dX12_readStep_43 (by decide) (fun c => absurd c (by decide)) (fun _ => ?_)
        refine x_aload_n (pc := 46) dX12_readStep_46 rfl rfl ?_
        refine x_aload_n (pc := 47) dX12_readStep_47 rfl rfl ?_
        refine x_getIV (jj := 11) (pc := 48) dX12_readStep_48 fX12_173 hS.1 rfl (by decide) rfl (by (repeat (first | rewrite [up_s] | rewrite [up_i (by omega)] | rewrite [up_a (by omega)] | rewrite [stM_a (by omega) (by omega)])); first | exact hF _ (by omega) (by omega) | rfl) ?_
        refine x_callV1 (pc := 51) dX12_readStep_51 rfl kX12_201 (s_isStepM hfl m hS f (hF.x F9) hKf _) hS.1 rfl rfl (Nat.le_of_ble_eq_true rfl) (k_B (fun q_51 => ?_) (fun q_51 => ?_)) n_B
        · refine x_if_eq (tgt := 62) (pc := 54) dX12_readStep_54 (by decide) (fun c => absurd c (by decide)) (fun _ => ?_)
          refine x_aload_n (pc := 57) dX12_readStep_57 rfl rfl ?_
          refine x_iconst (pc := 58) dX12_readStep_58 (by decide) ?_
          refine x_callV1 (pc := 59) dX12_readStep_59 rfl kX12_192 (s_wrong0 hfl m hS _ z9) hS.1 rfl rfl (Nat.le_of_ble_eq_true rfl) (k_U (fun M5 hM5 => ?_)) n_U
          subst hM5
          refine x_aload_n (pc := 62) dX12_readStep_62 rfl rfl ?_
          refine x_iconst (pc := 63) dX12_readStep_63 (by decide) ?_
          refine x_bipush (pc := 64) dX12_readStep_64 (by decide) ?_
          refine x_callV2 (pc := 66) dX12_readStep_66 rfl kX12_204 (s_numberB hfl m hS _ _ (by rw [up_i (by omega), up_s, if_neg (by omega)]; decide)) hS.1 rfl rfl (Nat.le_of_ble_eq_true rfl) (k_G (fun v8 M8 hM8 => ?_)) n_G
          obtain ⟨rfl, hM8⟩ := hM8
          subst hM8
          refine x_istore_n (pc := 69) dX12_readStep_69 rfl (by decide) rfl ?_
          refine x_aload_n (pc := 70) dX12_readStep_70 rfl rfl ?_
          refine x_iconst (pc := 71) dX12_readStep_71 (by decide) ?_
          refine x_bipush (pc := 72) dX12_readStep_72 (by decide) ?_
          refine x_callV2 (pc := 74) dX12_readStep_74 rfl kX12_204 (s_numberB hfl m hS _ _ (by rw [up_i (by omega), up_s, if_neg (by omega)]; decide)) hS.1 rfl rfl (Nat.le_of_ble_eq_true rfl) (k_G (fun v7 M7 hM7 => ?_)) n_G
          obtain ⟨rfl, hM7⟩ := hM7
          subst hM7
          refine x_istore_n (pc := 77) dX12_readStep_77 rfl (by decide) rfl ?_
          refine x_aload_n (pc := 78) dX12_readStep_78 rfl rfl ?_
          refine x_getIV (jj := 12) (pc := 79) dX12_readStep_79 fX12_176 hS.1 rfl (by decide) rfl (by (repeat (first | rewrite [up_s] | rewrite [up_i (by omega)] | rewrite [up_a (by omega)] | rewrite [stM_a (by omega) (by omega)])); rfl) ?_
          refine x_if_eq (tgt := 86) (pc := 82) dX12_readStep_82 (by decide) (fun c_82 => ?_) (fun c_82 => ?_)
          · exfalso
            rw [if_neg (by omega)] at c_82
            omega
          · refine x_return (pc := 85) dX12_readStep_85 rfl (by decide) ?_
            have hk9 := t9.1
            have hv9 := t9.2.2.2 (by omega)
            have h1 : numE T n a 1 60 = 0 := by
              unfold numE; rw [if_neg (by omega), if_neg (by omega)]
            have hy1 := numR_yes (k := fun v e => if hasS f v (f 1).toNat = true then badR 4 (tB T n a) else numR T n e 1 99 fun u e2 => okM e2 (fU (fU (fU f (2 + f 1) v) (8 + f 1) u) 1 (f 1 + 1))) h1
            refine ⟨rfl, rfl, rfl, RES.no ((if_neg (by omega)).trans (hy1.1.trans (if_pos (by rw [← hv9]; assumption)))) (by decide) ?_ ?_, fun x y q w => by rw [up_w (by omega), up_w (by omega)]; exact F9.y x y q w⟩
            · rw [up_i (by omega), up_s, if_neg (by omega)]
            · rw [up_s]; exact t9.2.1
        · refine x_if_eq (tgt := 62) (pc := 54) dX12_readStep_54 (by decide) (fun _ => ?_) (fun c => absurd c (by decide))
          exact x_lo (lo' := [(0, (2, m)), (1, (0, f 1))]) ⟨rfl, rfl, trivial⟩ (R62 fun q => by have hk9 := t9.1; rw [← t9.2.2.2 (by omega)]; assumption)
      · refine x_if_eq (tgt := 62) (pc := 43) dX12_readStep_43 (by decide) (fun _ => ?_) (fun c => absurd c (by decide))
        exact x_lo (lo' := [(0, (2, m)), (1, (0, f 1))]) ⟨rfl, rfl, trivial⟩ (R62 fun q => absurd q (by have hk9 := t9.1; have hv9 := t9.2.2.2 (by omega); unfold numE; rw [if_neg (by omega), if_pos (by omega)]; omega))
  · refine x_aload_n (pc := 13) dX12_readStep_13 rfl rfl ?_
    refine x_iconst (pc := 14) dX12_readStep_14 (by decide) ?_
    refine x_callV1 (pc := 15) dX12_readStep_15 rfl kX12_192 (s_wrong0 hfl m hS _ h0) hS.1 rfl rfl (Nat.le_of_ble_eq_true rfl) (k_U (fun M9 hM9 => ?_)) n_U
    subst hM9
    refine x_return (pc := 18) dX12_readStep_18 rfl (by decide) ?_
    refine ⟨rfl, rfl, rfl, ?_, fun x y q _ => by rw [up_w (by omega), up_w (by omega)]⟩
    refine RES.no (if_pos (by omega)) (by decide) ?_ ?_
    · rw [up_i (by omega), up_s, if_neg (by omega)]
    · rw [up_s]; exact hw
