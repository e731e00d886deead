/-! prices: the class's Prices at b, of the tariff at u -/
def lyP (S : aS) (b u : Int) (r : Int → Int) : Prop := S b = (4, 6, r) ∧ (r 0 = u ∧ r 1 = b + 1 ∧ r 2 = b + 2 ∧ r 3 = b + 3 ∧ r 4 = b + 4) ∧ S (b + 1) = (13, 201, rN) ∧ S (b + 2) = (13, 201, rN) ∧ S (b + 3) = (13, 201, rN) ∧ S (b + 4) = (13, 201, rN) ∧ lyT S u
theorem encF_or (v : Int) : (v = -1 ∧ encF FAR1 v = 536870912) ∨ (v ≠ -1 ∧ encF FAR1 v = v) := by
  unfold encF
  by_cases e : v = -1
  · rw [if_pos e]; exact Or.inl ⟨e, rfl⟩
  · rw [if_neg e]; exact Or.inr ⟨e, rfl⟩
theorem enc_min {a s v : Int} (ha : a = -1 ∨ 0 ≤ a ∧ a ≤ 100000) (hs : s = -1 ∨ 0 ≤ s ∧ s ≤ 100000) (hv : v = -1 ∨ 0 ≤ v ∧ v ≤ 100000) : encF FAR1 (omin a (oadd s v)) = if encF FAR1 s + encF FAR1 v < encF FAR1 a then encF FAR1 s + encF FAR1 v else encF FAR1 a := by
  have g1 := encF_or a
  have g2 := encF_or s
  have g3 := encF_or v
  have g4 := encF_or (omin a (oadd s v))
  have g5 : omin a (oadd s v) = if s = -1 ∨ v = -1 then a else if a = -1 then s + v else min a (s + v) := by
    unfold oadd
    by_cases e : s = -1 ∨ v = -1
    · rw [if_pos e, if_pos e]
      unfold omin
      by_cases e2 : a = -1
      · rw [if_pos e2, e2]
      · rw [if_neg e2, if_pos rfl]
    · rw [if_neg e, if_neg e]
      unfold omin
      by_cases e2 : a = -1
      · rw [if_pos e2, if_pos e2]
      · rw [if_neg e2, if_neg e2, if_neg (by omega)]
  rw [g5] at g4 ⊢
  (repeat' split at g4) <;> (repeat' split) <;> first | omega | (exfalso; omega)
theorem s_goodsOf {l : Launch} {E : aE} {N : Nat} {S : aS} {M : aM} (hfl : l.stackTraces = false) (b u : Int) (r t : Int → Int) (hP : lyP S b u r) (hT : RTar M u t) (hK : TT t) (q x : Int) (hq : 1 ≤ q ∧ q ≤ 200) (hx : x = encF FAR1 (priceV t q)) (hg : t 219 = 1 → M (b + 1) (q - 1) = encF FAR1 (plainV t (q - 1))) : aMt l E pX4_goodsOf [(2, b), (0, q), (0, x)] N S M (aR (0, encF FAR1 (plainV t q)) N S M) := by
  refine a_met hfl rfl (by decide +kernel) (Nat.le_of_ble_eq_true rfl) ?_
  have h01 := hK.1
  have hp := priceV_r (q := q) hK
  have hx' := encF_or (priceV t q)
  rw [← hx] at hx'
  refine x_iload_n (pc := 0) dX4_goodsOf_0 rfl rfl ?_
  refine x_ldc (n := 536870912) (pc := 1) cX4_46 (by decide) dX4_goodsOf_1 ?_
  refine x_icmp_lt (tgt := 9) (pc := 3) dX4_goodsOf_3 (by decide) (fun c_3 => ?_) (fun c_3 => ?_)
  · refine x_aload_n (pc := 9) dX4_goodsOf_9 rfl rfl ?_
    refine x_getR (jj := 0) (pc := 10) dX4_goodsOf_10 fX4_24 hP.1 rfl (by decide) rfl hP.2.1.1 ?_
    refine x_getIV (jj := 0) (pc := 13) dX4_goodsOf_13 fX4_50 (hP.2.2.2.2.2.2).1 rfl (by decide) rfl (by (repeat (first | rewrite [up_s] | rewrite [up_i (by omega)] | rewrite [up_a (by omega)])); first | exact hT.1 | exact hg (by omega) | rfl) ?_
    refine x_if_eq (tgt := 48) (pc := 16) dX4_goodsOf_16 (by decide) (fun c_16 => ?_) (fun c_16 => ?_)
    · refine x_iload_n (pc := 48) dX4_goodsOf_48 rfl rfl ?_
      refine x_iload_n (pc := 49) dX4_goodsOf_49 rfl rfl ?_
      refine x_imul (pc := 50) dX4_goodsOf_50 (by have a1 : q * x ≤ q * 99 := Int.mul_le_mul_of_nonneg_left (by omega) (by omega); have a2 : q * 1 ≤ q * x := Int.mul_le_mul_of_nonneg_left (by omega) (by omega); omega) ?_
      refine x_ireturn (pc := 51) dX4_goodsOf_51 rfl (by decide) ?_
      refine ⟨?_, rfl, rfl, rfl⟩
      have hz : plainV t q = q * x := by
        unfold plainV
        rw [if_neg (by omega), if_neg (by omega), show x = priceV t q by omega]
      have a1 : q * 1 ≤ q * x := Int.mul_le_mul_of_nonneg_left (by omega) (by omega)
      rw [hz]
      unfold encF
      rw [if_neg (by omega)]
    · refine x_aload_n (pc := 19) dX4_goodsOf_19 rfl rfl ?_
      refine x_getR (jj := 1) (pc := 20) dX4_goodsOf_20 fX4_9 hP.1 rfl (by decide) rfl hP.2.1.2.1 ?_
      refine x_iload_n (pc := 23) dX4_goodsOf_23 rfl rfl ?_
      refine x_iconst (pc := 24) dX4_goodsOf_24 (by decide) ?_
      refine x_isub (pc := 25) dX4_goodsOf_25 (by omega) ?_
      refine x_ialoadV (pc := 26) dX4_goodsOf_26 hP.2.2.1 (by omega) (by (repeat (first | rewrite [up_s] | rewrite [up_i (by omega)] | rewrite [up_a (by omega)])); first | exact hT.1 | exact hg (by omega) | rfl) (fun g_26 => ?_)
      refine x_ldc (n := 536870912) (pc := 27) cX4_46 (by decide) dX4_goodsOf_27 ?_
      refine x_icmp_lt (tgt := 37) (pc := 29) dX4_goodsOf_29 (by decide) (fun c_29 => ?_) (fun c_29 => ?_)
      · refine x_aload_n (pc := 37) dX4_goodsOf_37 rfl rfl ?_
        refine x_getR (jj := 1) (pc := 38) dX4_goodsOf_38 fX4_9 hP.1 rfl (by decide) rfl hP.2.1.2.1 ?_
        refine x_iload_n (pc := 41) dX4_goodsOf_41 rfl rfl ?_
        refine x_iconst (pc := 42) dX4_goodsOf_42 (by decide) ?_
        refine x_isub (pc := 43) dX4_goodsOf_43 (by omega) ?_
        refine x_ialoadV (pc := 44) dX4_goodsOf_44 hP.2.2.1 (by omega) (by (repeat (first | rewrite [up_s] | rewrite [up_i (by omega)] | rewrite [up_a (by omega)])); first | exact hT.1 | exact hg (by omega) | rfl) (fun g_44 => ?_)
        refine x_iload_n (pc := 45) dX4_goodsOf_45 rfl rfl ?_
        refine x_iadd (pc := 46) dX4_goodsOf_46 (by have hr := plainV_r (q := q - 1) hK (by omega); have ho := encF_or (plainV t (q - 1)); omega) ?_
        refine x_ireturn (pc := 47) dX4_goodsOf_47 rfl (by decide) ?_
        refine ⟨?_, rfl, rfl, rfl⟩
        have h219 : t 219 = 1 := by have := hK.1; omega
        have hpq : plainV t q = sumV t q.toNat := by unfold plainV; rw [if_pos h219]
        have hpq1 : plainV t (q - 1) = sumV t (q - 1).toNat := by unfold plainV; rw [if_pos h219]
        have hs := sumV_1 (t := t) (q := q) (by omega)
        have ho := encF_or (plainV t (q - 1))
        have hr := plainV_r (q := q - 1) hK (by omega)
        rw [hpq, hs, if_neg (by omega), ← hpq1]
        unfold encF
        rw [if_neg (by omega), if_neg (by omega)]
        have hgg := hg h219
        rw [show x = priceV t q by omega]
      · refine x_ldc (n := 536870912) (pc := 32) cX4_46 (by decide) dX4_goodsOf_32 ?_
        refine x_goto (tgt := 47) (pc := 34) dX4_goodsOf_34 (by decide) ?_
        refine x_ireturn (pc := 47) dX4_goodsOf_47 rfl (by decide) ?_
        refine ⟨?_, rfl, rfl, rfl⟩
        have h219 : t 219 = 1 := by have := hK.1; omega
        have hpq : plainV t q = sumV t q.toNat := by unfold plainV; rw [if_pos h219]
        have hpq1 : plainV t (q - 1) = sumV t (q - 1).toNat := by unfold plainV; rw [if_pos h219]
        have hs := sumV_1 (t := t) (q := q) (by omega)
        have ho := encF_or (plainV t (q - 1))
        have hr := plainV_r (q := q - 1) hK (by omega)
        rw [hpq, hs, if_pos (by omega)]
        rfl
  · refine x_ldc (n := 536870912) (pc := 6) cX4_46 (by decide) dX4_goodsOf_6 ?_
    refine x_ireturn (pc := 8) dX4_goodsOf_8 rfl (by decide) ?_
    refine ⟨?_, rfl, rfl, rfl⟩
    have hz : plainV t q = -1 := by
      unfold plainV
      by_cases e : t 219 = 1
      · rw [if_pos e, sumV_1 (by omega), if_pos (by omega)]
      · rw [if_neg e, if_pos (by omega)]
    rw [hz]
    rfl
theorem s_leastOf {l : Launch} {E : aE} {N : Nat} {S : aS} {M : aM} (hfl : l.stackTraces = false) (b u : Int) (r t : Int → Int) (hP : lyP S b u r) (hT : RTar M u t) (hK : TT t) (q : Int) (hq : 1 ≤ q ∧ q ≤ 200) (h1 : ∀ j, 1 ≤ j → j ≤ q → M (b + 3) j = encF FAR1 (singleV t j)) (h2 : ∀ j, 0 ≤ j → j < q → M (b + 4) j = encF FAR1 (sevV t j)) : aMt l E pX4_leastOf [(2, b), (0, q)] N S M (aR (0, encF FAR1 (sevV t q)) N S M) := by
  refine a_met hfl rfl (by decide +kernel) (Nat.le_of_ble_eq_true rfl) ?_
  refine x_ldc (n := 536870912) (pc := 0) cX4_46 (by decide) dX4_leastOf_0 ?_
  refine x_istore_n (pc := 2) dX4_leastOf_2 rfl (by decide) rfl ?_
  refine x_iconst (pc := 3) dX4_leastOf_3 (by decide) ?_
  refine x_istore_n (pc := 4) dX4_leastOf_4 rfl (by decide) rfl ?_
  have loop := a_loop2 (fun i x => 1 ≤ i ∧ i ≤ q + 1 ∧ x = encF FAR1 (splitL t (sevV t) q (i - 1).toNat)) (fun i _ => (q + 1 - i).toNat) (fun i x => aX l E pX4_leastOf (aR (0, encF FAR1 (sevV t q)) N S M) 0 0 N S M 5 [(0, (2, b)), (1, (0, q)), (2, (0, x)), (3, (0, i))] []) (by
    intro i x hI ih
    have i0 := hI.1
    have i1 := hI.2.1
    have s1 := splitL_r (t := t) (f := sevV t) (q := q) hK (fun j a b => sevV_r hK j.toNat j a (by omega)) (i - 1).toNat (by omega)
    have s2 := singleV_r (t := t) (q := i) hK (by omega)
    have s3 := fun z : i ≤ q => sevV_r (t := t) hK (q - i).toNat (q - i) (by omega) (by omega)
    have e1 := encF_or (splitL t (sevV t) q (i - 1).toNat)
    rw [← hI.2.2] at e1
    have e2 := encF_or (singleV t i)
    have e3 := encF_or (sevV t (q - i))
    refine x_iload_n (pc := 5) dX4_leastOf_5 rfl rfl ?_
    refine x_iload_n (pc := 6) dX4_leastOf_6 rfl rfl ?_
    refine x_icmp_gt (tgt := 42) (pc := 7) dX4_leastOf_7 (by decide) (fun c_7 => ?_) (fun c_7 => ?_)
    · refine x_iload_n (pc := 42) dX4_leastOf_42 rfl rfl ?_
      refine x_ireturn (pc := 43) dX4_leastOf_43 rfl (by decide) ?_
      refine ⟨?_, rfl, rfl, rfl⟩
      rw [hI.2.2, show (i - 1).toNat = q.toNat by omega, ← sevV_eq (by omega)]
    · refine x_aload_n (pc := 10) dX4_leastOf_10 rfl rfl ?_
      refine x_getR (jj := 3) (pc := 11) dX4_leastOf_11 fX4_18 hP.1 rfl (by decide) rfl hP.2.1.2.2.2.1 ?_
      refine x_iload_n (pc := 14) dX4_leastOf_14 rfl rfl ?_
      refine x_ialoadV (pc := 15) dX4_leastOf_15 hP.2.2.2.2.1 (by omega) (by (repeat (first | rewrite [up_s] | rewrite [up_i (by omega)] | rewrite [up_a (by omega)])); first | exact h1 i (by omega) (by omega) | exact h2 (q - i) (by omega) (by omega) | rfl) (fun g_15 => ?_)
      refine x_aload_n (pc := 16) dX4_leastOf_16 rfl rfl ?_
      refine x_getR (jj := 4) (pc := 17) dX4_leastOf_17 fX4_21 hP.1 rfl (by decide) rfl hP.2.1.2.2.2.2 ?_
      refine x_iload_n (pc := 20) dX4_leastOf_20 rfl rfl ?_
      refine x_iload_n (pc := 21) dX4_leastOf_21 rfl rfl ?_
      refine x_isub (pc := 22) dX4_leastOf_22 (by omega) ?_
      refine x_ialoadV (pc := 23) dX4_leastOf_23 hP.2.2.2.2.2.1 (by omega) (by (repeat (first | rewrite [up_s] | rewrite [up_i (by omega)] | rewrite [up_a (by omega)])); first | exact h1 i (by omega) (by omega) | exact h2 (q - i) (by omega) (by omega) | rfl) (fun g_23 => ?_)
      refine x_iadd (pc := 24) dX4_leastOf_24 (by omega) ?_
      refine x_istore (pc := 25) dX4_leastOf_25 (by decide) rfl ?_
      refine x_iload (pc := 27) dX4_leastOf_27 rfl ?_
      refine x_iload_n (pc := 29) dX4_leastOf_29 rfl rfl ?_
      refine x_icmp_ge (tgt := 36) (pc := 30) dX4_leastOf_30 (by decide) (fun c_30 => ?_) (fun c_30 => ?_)
      · refine x_iinc (pc := 36) dX4_leastOf_36 rfl (by omega) (by decide) rfl ?_
        refine x_goto (tgt := 5) (pc := 39) dX4_leastOf_39 (by decide) ?_
        refine x_lo (lo' := [(0, (2, b)), (1, (0, q)), (2, (0, x)), (3, (0, i + 1))]) ⟨rfl, rfl, rfl, rfl, trivial⟩ (ih (i + 1) _ ⟨by omega, by omega, ?_⟩ (by omega))
        have z := splitL_1 (t := t) (f := sevV t) (q := q) (i := i - 1) (by omega)
        rw [show i - 1 + 1 = i by omega] at z
        rw [show i + 1 - 1 = i by omega, z, enc_min (by omega) (by omega) (by omega), if_neg (by omega)]
        exact hI.2.2
      · refine x_iload (pc := 33) dX4_leastOf_33 rfl ?_
        refine x_istore_n (pc := 35) dX4_leastOf_35 rfl (by decide) rfl ?_
        refine x_iinc (pc := 36) dX4_leastOf_36 rfl (by omega) (by decide) rfl ?_
        refine x_goto (tgt := 5) (pc := 39) dX4_leastOf_39 (by decide) ?_
        refine x_lo (lo' := [(0, (2, b)), (1, (0, q)), (2, (0, encF FAR1 (singleV t i) + encF FAR1 (sevV t (q - i)))), (3, (0, i + 1))]) ⟨rfl, rfl, rfl, rfl, trivial⟩ (ih (i + 1) _ ⟨by omega, by omega, ?_⟩ (by omega))
        have z := splitL_1 (t := t) (f := sevV t) (q := q) (i := i - 1) (by omega)
        rw [show i - 1 + 1 = i by omega] at z
        rw [show i + 1 - 1 = i by omega, z, enc_min (by omega) (by omega) (by omega), if_pos (by omega)])
  exact x_lo (lo' := [(0, (2, b)), (1, (0, q)), (2, (0, 536870912)), (3, (0, 1))]) ⟨rfl, rfl, rfl, rfl, trivial⟩ (loop 1 536870912 ⟨by omega, by omega, rfl⟩)
theorem s_reach {l : Launch} {E : aE} {N : Nat} {S : aS} {M : aM} (hfl : l.stackTraces = false) (b u : Int) (r t : Int → Int) (hP : lyP S b u r) (hT : RTar M u t) (hK : TT t) (n : Int) (hd : u + 6 ≤ b ∨ b + 5 ≤ u) (hR0 : RPr M b t) : aMt l E pX4_reach [(2, b), (0, n)] N S M (aU N S (fun M' => RPr M' b t ∧ (M' b 5 = M b 5 ∨ M b 5 < M' b 5) ∧ (n ≤ M' b 5 ∨ M' b 5 = 200) ∧ (∀ a, ¬ (b ≤ a ∧ a < b + 5) → eqR M M' a) ∧ ∀ j, j ≠ 5 → M' b j = M b j)) := by
  refine a_met hfl rfl (by decide +kernel) (Nat.le_of_ble_eq_true rfl) ?_
  refine x_aload_n (pc := 0) dX4_reach_0 rfl rfl ?_
  refine x_getIV (jj := 5) (pc := 1) dX4_reach_1 fX4_28 hP.1 rfl (by decide) rfl (by (repeat (first | rewrite [up_s] | rewrite [up_i (by omega)] | rewrite [up_a (by omega)])); rfl) ?_
  refine x_iconst (pc := 4) dX4_reach_4 (by decide) ?_
  have k9 := hR0.1
  refine x_iadd (pc := 5) dX4_reach_5 (by omega) ?_
  refine x_istore_n (pc := 6) dX4_reach_6 rfl (by decide) rfl ?_
  have k9 := hR0.1
  have loop := a_loop2 (fun q M1 => 1 ≤ q ∧ q ≤ 201 ∧ q = M1 b 5 + 1 ∧ RPr M1 b t ∧ (M1 b 5 = M b 5 ∨ M b 5 < M1 b 5) ∧ (∀ a, ¬ (b ≤ a ∧ a < b + 5) → eqR M M1 a) ∧ ∀ j, j ≠ 5 → M1 b j = M b j) (fun q _ => (201 - q).toNat) (fun q M1 => aX l E pX4_reach (aU N S (fun M' => RPr M' b t ∧ (M' b 5 = M b 5 ∨ M b 5 < M' b 5) ∧ (n ≤ M' b 5 ∨ M' b 5 = 200) ∧ (∀ a, ¬ (b ≤ a ∧ a < b + 5) → eqR M M' a) ∧ ∀ j, j ≠ 5 → M' b j = M b j)) 0 0 N S M1 7 [(0, (2, b)), (1, (0, n)), (2, (0, q))] []) (by
    intro q M1 hI ih
    have q0 := hI.1
    have q1 := hI.2.1
    have q2 := hI.2.2.1
    have q3 := hI.2.2.2.2.1
    have hR := hI.2.2.2.1
    have hT1 : RTar M1 u t := hT.cg fun a x y => hI.2.2.2.2.2.1 a (by omega)
    have hgd : t 219 = 1 → ∀ j, 0 ≤ j → j < q → M1 (b + 1) j = encF FAR1 (plainV t j) := fun h9 j x y => by
      by_cases e : j = 0
      · subst e
        rw [hR.2.2.1]
        unfold plainV
        rw [if_pos h9]
        rfl
      · exact (hR.2.1 j (by omega) (by omega)).1
    have hct : ∀ j, 0 ≤ j → j < q → M1 (b + 2) j = cartV t j := fun j x y => by
      by_cases e : j = 0
      · subst e; exact hR.2.2.2.1
      · exact (hR.2.1 j (by omega) (by omega)).2.1
    have hon : ∀ j, 1 ≤ j → j < q → M1 (b + 3) j = encF FAR1 (singleV t j) := fun j x y => (hR.2.1 j x (by omega)).2.2.1
    have hmn : ∀ j, 0 ≤ j → j < q → M1 (b + 4) j = encF FAR1 (sevV t j) := fun j x y => by
      by_cases e : j = 0
      · subst e; exact hR.2.2.2.2
      · exact (hR.2.1 j (by omega) (by omega)).2.2.2
    refine x_iload_n (pc := 7) dX4_reach_7 rfl rfl ?_
    refine x_iload_n (pc := 8) dX4_reach_8 rfl rfl ?_
    refine x_icmp_gt (tgt := 113) (pc := 9) dX4_reach_9 (by decide) (fun c_9 => ?_) (fun c_9 => ?_)
    · refine x_return (pc := 113) dX4_reach_113 rfl (by decide) ?_
      refine ⟨rfl, rfl, rfl, hR, hI.2.2.2.2.1, by omega, hI.2.2.2.2.2.1, hI.2.2.2.2.2.2⟩
    · refine x_iload_n (pc := 12) dX4_reach_12 rfl rfl ?_
      refine x_sipush (pc := 13) dX4_reach_13 (by decide) ?_
      refine x_icmp_gt (tgt := 113) (pc := 16) dX4_reach_16 (by decide) (fun c_16 => ?_) (fun c_16 => ?_)
      · refine x_return (pc := 113) dX4_reach_113 rfl (by decide) ?_
        refine ⟨rfl, rfl, rfl, hR, hI.2.2.2.2.1, by omega, hI.2.2.2.2.2.1, hI.2.2.2.2.2.2⟩
      · refine x_aload_n (pc := 19) dX4_reach_19 rfl rfl ?_
        refine x_getR (jj := 1) (pc := 20) dX4_reach_20 fX4_9 hP.1 rfl (by decide) rfl hP.2.1.2.1 ?_
        refine x_iload_n (pc := 23) dX4_reach_23 rfl rfl ?_
        refine x_aload_n (pc := 24) dX4_reach_24 rfl rfl ?_
        refine x_iload_n (pc := 25) dX4_reach_25 rfl rfl ?_
        refine x_aload_n (pc := 26) dX4_reach_26 rfl rfl ?_
        refine x_getR (jj := 0) (pc := 27) dX4_reach_27 fX4_24 hP.1 rfl (by decide) rfl hP.2.1.1 ?_
        refine x_iload_n (pc := 30) dX4_reach_30 rfl rfl ?_
        refine x_callV1 (pc := 31) dX4_reach_31 rfl kX4_32 (s_eachOf hfl u q t hP.2.2.2.2.2.2 hT1 hK) (hP.2.2.2.2.2.2).1 rfl rfl (Nat.le_of_ble_eq_true rfl) (k_R ?_) n_R
        refine x_callV2 (pc := 34) dX4_reach_34 rfl kX4_38 (s_goodsOf hfl b u r t hP hT1 hK q _ ⟨by omega, by omega⟩ rfl (fun h9 => hgd h9 (q - 1) (by omega) (by omega))) hP.1 rfl rfl (Nat.le_of_ble_eq_true rfl) (k_R ?_) n_R
        refine x_iastore (pc := 37) dX4_reach_37 hP.2.2.1 (by omega) ?_
        refine x_aload_n (pc := 38) dX4_reach_38 rfl rfl ?_
        refine x_getR (jj := 2) (pc := 39) dX4_reach_39 fX4_15 hP.1 rfl (by decide) rfl hP.2.1.2.2.1 ?_
        refine x_iload_n (pc := 42) dX4_reach_42 rfl rfl ?_
        refine x_aload_n (pc := 43) dX4_reach_43 rfl rfl ?_
        refine x_getR (jj := 0) (pc := 44) dX4_reach_44 fX4_24 hP.1 rfl (by decide) rfl hP.2.1.1 ?_
        refine x_iload_n (pc := 47) dX4_reach_47 rfl rfl ?_
        refine x_aload_n (pc := 48) dX4_reach_48 rfl rfl ?_
        refine x_getR (jj := 2) (pc := 49) dX4_reach_49 fX4_15 hP.1 rfl (by decide) rfl hP.2.1.2.2.1 ?_
        refine x_callV2 (pc := 52) dX4_reach_52 rfl kX4_42 (s_cartsOf hfl u q (b + 2) t (cartV t) hP.2.2.2.2.2.2 (hT1.cg fun a x y j => by (repeat rw [up_a (by omega)])) hK hP.2.2.2.1 ⟨by omega, by omega⟩ (fun j x y => by rw [up_a (by omega)]; exact hct j x (by omega)) (fun j x y => by have := cartV_r hK j.toNat j x (by omega); omega)) (hP.2.2.2.2.2.2).1 rfl rfl (Nat.le_of_ble_eq_true rfl) (k_R ?_) n_R
        rewrite [← cartV_eq hK (by omega)]
        refine x_iastore (pc := 55) dX4_reach_55 hP.2.2.2.1 (by omega) ?_
        refine x_aload_n (pc := 56) dX4_reach_56 rfl rfl ?_
        refine x_getR (jj := 3) (pc := 57) dX4_reach_57 fX4_18 hP.1 rfl (by decide) rfl hP.2.1.2.2.2.1 ?_
        refine x_iload_n (pc := 60) dX4_reach_60 rfl rfl ?_
        refine x_aload_n (pc := 61) dX4_reach_61 rfl rfl ?_
        refine x_getR (jj := 1) (pc := 62) dX4_reach_62 fX4_9 hP.1 rfl (by decide) rfl hP.2.1.2.1 ?_
        refine x_iload_n (pc := 65) dX4_reach_65 rfl rfl ?_
        refine x_ialoadV (pc := 66) dX4_reach_66 hP.2.2.1 (by omega) (by (repeat (first | rewrite [up_s] | rewrite [up_i (by omega)] | rewrite [up_a (by omega)])); rfl) (fun g_66 => ?_)
        refine x_ldc (n := 536870912) (pc := 67) cX4_46 (by decide) dX4_reach_67 ?_
        refine x_icmp_lt (tgt := 77) (pc := 69) dX4_reach_69 (by decide) (fun c_69 => ?_) (fun c_69 => ?_)
        · have hp := plainV_r (t := t) (q := q) hK (by omega)
          have hc := cartV_r (t := t) hK q.toNat q (by omega) (by omega)
          have hpe := encF_or (plainV t q)
          have hse := encF_or (singleV t q)
          have hsg : encF FAR1 (plainV t q) + cartV t q = encF FAR1 (singleV t q) := by
            have hz : singleV t q = plainV t q + cartV t q := by
              unfold singleV
              rw [if_neg (by omega)]
            omega
          refine x_aload_n (pc := 77) dX4_reach_77 rfl rfl ?_
          refine x_getR (jj := 1) (pc := 78) dX4_reach_78 fX4_9 hP.1 rfl (by decide) rfl hP.2.1.2.1 ?_
          refine x_iload_n (pc := 81) dX4_reach_81 rfl rfl ?_
          refine x_ialoadV (pc := 82) dX4_reach_82 hP.2.2.1 (by omega) (by (repeat (first | rewrite [up_s] | rewrite [up_i (by omega)] | rewrite [up_a (by omega)])); rfl) (fun g_82 => ?_)
          refine x_aload_n (pc := 83) dX4_reach_83 rfl rfl ?_
          refine x_getR (jj := 2) (pc := 84) dX4_reach_84 fX4_15 hP.1 rfl (by decide) rfl hP.2.1.2.2.1 ?_
          refine x_iload_n (pc := 87) dX4_reach_87 rfl rfl ?_
          refine x_ialoadV (pc := 88) dX4_reach_88 hP.2.2.2.1 (by omega) (by (repeat (first | rewrite [up_s] | rewrite [up_i (by omega)] | rewrite [up_a (by omega)])); rfl) (fun g_88 => ?_)
          refine x_iadd (pc := 89) dX4_reach_89 (by have hp := plainV_r (t := t) (q := q) hK (by omega); have hc := cartV_r (t := t) hK q.toNat q (by omega) (by omega); have hpe := encF_or (plainV t q); omega) ?_
          refine x_iastore (pc := 90) dX4_reach_90 hP.2.2.2.2.1 (by omega) ?_
          refine x_aload_n (pc := 91) dX4_reach_91 rfl rfl ?_
          refine x_getR (jj := 4) (pc := 92) dX4_reach_92 fX4_21 hP.1 rfl (by decide) rfl hP.2.1.2.2.2.2 ?_
          refine x_iload_n (pc := 95) dX4_reach_95 rfl rfl ?_
          refine x_aload_n (pc := 96) dX4_reach_96 rfl rfl ?_
          refine x_iload_n (pc := 97) dX4_reach_97 rfl rfl ?_
          refine x_callV1 (pc := 98) dX4_reach_98 rfl kX4_47 (s_leastOf hfl b u r t hP (hT1.cg fun a x y j => by (repeat rw [up_a (by omega)])) hK q ⟨by omega, by omega⟩ (fun j x y => by
              by_cases e : j = q
              · subst e
                rw [up_s]
                exact hsg
              · rw [up_i e, up_a (by omega), up_a (by omega)]
                exact hon j x (by omega)) (fun j x y => by rw [up_a (by omega), up_a (by omega), up_a (by omega)]; exact hmn j x (by omega))) hP.1 rfl rfl (Nat.le_of_ble_eq_true rfl) (k_R ?_) n_R
          refine x_iastore (pc := 101) dX4_reach_101 hP.2.2.2.2.2.1 (by omega) ?_
          refine x_aload_n (pc := 102) dX4_reach_102 rfl rfl ?_
          refine x_iload_n (pc := 103) dX4_reach_103 rfl rfl ?_
          refine x_putI (jj := 5) (pc := 104) dX4_reach_104 fX4_28 hP.1 rfl (by decide) rfl ?_
          refine x_iinc (pc := 107) dX4_reach_107 rfl (by omega) (by decide) rfl ?_
          refine x_goto (tgt := 7) (pc := 110) dX4_reach_110 (by decide) ?_
          refine x_lo (lo' := [(0, (2, b)), (1, (0, n)), (2, (0, q + 1))]) ⟨rfl, rfl, rfl, trivial⟩ (ih (q + 1) _ ⟨by omega, by omega, by rw [up_s], ?_, ?_, fun a x j => ?_, fun j x => ?_⟩ (by omega))
          · obtain ⟨r1, r2, r3, r4, r5⟩ := hR
            refine ⟨by rw [up_s]; omega, fun j x y => ?_, ?_, ?_, ?_⟩
            · rw [up_s] at y
              rw [up_a (by omega : b + 1 ≠ b), up_a (by omega : b + 1 ≠ b + 4), up_a (by omega : b + 1 ≠ b + 3), up_a (by omega : b + 1 ≠ b + 2), up_a (by omega : b + 2 ≠ b), up_a (by omega : b + 2 ≠ b + 4), up_a (by omega : b + 2 ≠ b + 3), up_a (by omega : b + 3 ≠ b), up_a (by omega : b + 3 ≠ b + 4), up_a (by omega : b + 4 ≠ b)]
              by_cases e : j = q
              · subst e
                rw [up_s, up_s, up_s, up_s]
                exact ⟨rfl, rfl, hsg, rfl⟩
              · rw [up_i e, up_i e, up_a (by omega : b + 2 ≠ b + 1), up_i e, up_a (by omega : b + 3 ≠ b + 2), up_a (by omega : b + 3 ≠ b + 1), up_i e, up_a (by omega : b + 4 ≠ b + 3), up_a (by omega : b + 4 ≠ b + 2), up_a (by omega : b + 4 ≠ b + 1)]
                exact r2 j x (by omega)
            · (repeat (first | rw [up_a (by omega)] | rw [up_i (by omega)])); exact r3
            · (repeat (first | rw [up_a (by omega)] | rw [up_i (by omega)])); exact r4
            · (repeat (first | rw [up_a (by omega)] | rw [up_i (by omega)])); exact r5
          · rw [up_s]
            omega
          · rw [up_a (by omega), up_a (by omega), up_a (by omega), up_a (by omega), up_a (by omega)]
            exact hI.2.2.2.2.2.1 a x j
          · rw [up_i x, up_a (by omega), up_a (by omega), up_a (by omega), up_a (by omega)]
            exact hI.2.2.2.2.2.2 j x
        · have hp := plainV_r (t := t) (q := q) hK (by omega)
          have hc := cartV_r (t := t) hK q.toNat q (by omega) (by omega)
          have hpe := encF_or (plainV t q)
          have hse := encF_or (singleV t q)
          have hsg : (536870912 : Int) = encF FAR1 (singleV t q) := by
            have hz : singleV t q = -1 := by
              unfold singleV
              rw [if_pos (by omega)]
            omega
          refine x_ldc (n := 536870912) (pc := 72) cX4_46 (by decide) dX4_reach_72 ?_
          refine x_goto (tgt := 90) (pc := 74) dX4_reach_74 (by decide) ?_
          refine x_iastore (pc := 90) dX4_reach_90 hP.2.2.2.2.1 (by omega) ?_
          refine x_aload_n (pc := 91) dX4_reach_91 rfl rfl ?_
          refine x_getR (jj := 4) (pc := 92) dX4_reach_92 fX4_21 hP.1 rfl (by decide) rfl hP.2.1.2.2.2.2 ?_
          refine x_iload_n (pc := 95) dX4_reach_95 rfl rfl ?_
          refine x_aload_n (pc := 96) dX4_reach_96 rfl rfl ?_
          refine x_iload_n (pc := 97) dX4_reach_97 rfl rfl ?_
          refine x_callV1 (pc := 98) dX4_reach_98 rfl kX4_47 (s_leastOf hfl b u r t hP (hT1.cg fun a x y j => by (repeat rw [up_a (by omega)])) hK q ⟨by omega, by omega⟩ (fun j x y => by
              by_cases e : j = q
              · subst e
                rw [up_s]
                exact hsg
              · rw [up_i e, up_a (by omega), up_a (by omega)]
                exact hon j x (by omega)) (fun j x y => by rw [up_a (by omega), up_a (by omega), up_a (by omega)]; exact hmn j x (by omega))) hP.1 rfl rfl (Nat.le_of_ble_eq_true rfl) (k_R ?_) n_R
          refine x_iastore (pc := 101) dX4_reach_101 hP.2.2.2.2.2.1 (by omega) ?_
          refine x_aload_n (pc := 102) dX4_reach_102 rfl rfl ?_
          refine x_iload_n (pc := 103) dX4_reach_103 rfl rfl ?_
          refine x_putI (jj := 5) (pc := 104) dX4_reach_104 fX4_28 hP.1 rfl (by decide) rfl ?_
          refine x_iinc (pc := 107) dX4_reach_107 rfl (by omega) (by decide) rfl ?_
          refine x_goto (tgt := 7) (pc := 110) dX4_reach_110 (by decide) ?_
          refine x_lo (lo' := [(0, (2, b)), (1, (0, n)), (2, (0, q + 1))]) ⟨rfl, rfl, rfl, trivial⟩ (ih (q + 1) _ ⟨by omega, by omega, by rw [up_s], ?_, ?_, fun a x j => ?_, fun j x => ?_⟩ (by omega))
          · obtain ⟨r1, r2, r3, r4, r5⟩ := hR
            refine ⟨by rw [up_s]; omega, fun j x y => ?_, ?_, ?_, ?_⟩
            · rw [up_s] at y
              rw [up_a (by omega : b + 1 ≠ b), up_a (by omega : b + 1 ≠ b + 4), up_a (by omega : b + 1 ≠ b + 3), up_a (by omega : b + 1 ≠ b + 2), up_a (by omega : b + 2 ≠ b), up_a (by omega : b + 2 ≠ b + 4), up_a (by omega : b + 2 ≠ b + 3), up_a (by omega : b + 3 ≠ b), up_a (by omega : b + 3 ≠ b + 4), up_a (by omega : b + 4 ≠ b)]
              by_cases e : j = q
              · subst e
                rw [up_s, up_s, up_s, up_s]
                exact ⟨rfl, rfl, hsg, rfl⟩
              · rw [up_i e, up_i e, up_a (by omega : b + 2 ≠ b + 1), up_i e, up_a (by omega : b + 3 ≠ b + 2), up_a (by omega : b + 3 ≠ b + 1), up_i e, up_a (by omega : b + 4 ≠ b + 3), up_a (by omega : b + 4 ≠ b + 2), up_a (by omega : b + 4 ≠ b + 1)]
                exact r2 j x (by omega)
            · (repeat (first | rw [up_a (by omega)] | rw [up_i (by omega)])); exact r3
            · (repeat (first | rw [up_a (by omega)] | rw [up_i (by omega)])); exact r4
            · (repeat (first | rw [up_a (by omega)] | rw [up_i (by omega)])); exact r5
          · rw [up_s]
            omega
          · rw [up_a (by omega), up_a (by omega), up_a (by omega), up_a (by omega), up_a (by omega)]
            exact hI.2.2.2.2.2.1 a x j
          · rw [up_i x, up_a (by omega), up_a (by omega), up_a (by omega), up_a (by omega)]
            exact hI.2.2.2.2.2.2 j x)
  exact x_lo (lo' := [(0, (2, b)), (1, (0, n)), (2, (0, M b 5 + 1))]) ⟨rfl, rfl, rfl, trivial⟩ (loop _ M ⟨by omega, by omega, rfl, hR0, Or.inl rfl, fun _ _ _ => rfl, fun _ _ => rfl⟩)
