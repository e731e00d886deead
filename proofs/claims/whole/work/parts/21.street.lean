/-! more of the Street -/
def barC (br : Int → Int) (set i : Int) : Bool := decide (hb set i = 1) && decide (b_and (br i) set ≠ 0)
def mayC (br tr : Int → Int) (set : Int) : Int := if firstB (barC br set) 7 = -1 ∧ firstB (holdC tr set) 7 ≠ -1 then 1 else 0
def orN (p : Int → Bool) : Nat → Int
  | 0 => 0
  | n + 1 => if p n = true then b_or (orN p n) (b_shl 1 n) else orN p n
theorem orN_1 (p : Int → Bool) {i : Int} (h : 0 ≤ i) : orN p (i + 1).toNat = if p i = true then b_or (orN p i.toNat) (b_shl 1 i) else orN p i.toNat := by
  rw [show (i + 1).toNat = i.toNat + 1 by omega]
  show (if p ((i.toNat : Nat) : Int) = true then b_or (orN p i.toNat) (b_shl 1 ((i.toNat : Nat) : Int)) else orN p i.toNat) = _
  rw [show ((i.toNat : Nat) : Int) = i by omega]
def toC (tr : Int → Int) (set i : Int) : Bool := decide (b_and (tr i) set ≠ 0)
def reachC (tr : Int → Int) (one : Int) : Nat → Int
  | 0 => b_shl 1 one
  | n + 1 => b_or (reachC tr one n) (orN (toC tr (reachC tr one n)) 7)
theorem s_mayBuy {l : Launch} {E : aE} {N : Nat} {S : aS} {M : aM} (hfl : l.stackTraces = false) (s set : Int) (hS : lyS S s) : aMt l E pX7_mayBuy [(2, s), (0, set)] N S M (aR (0, mayC (M (s + 9)) (M (s + 10)) set) N S M) := by
  refine a_met hfl rfl (by decide +kernel) (Nat.le_of_ble_eq_true rfl) ?_
  obtain ⟨⟨rt, y0, y1, y2, y3, y4, y5, y6, y7, y8, y9, y10⟩, r, z0, z1, z2, z3, z4, z5, z6, z7, z8, z9, z10, z11, z12, z13, z14, z15, z16, z17⟩ := hS.old
  have loop := a_loop1 (fun i => 0 ≤ i ∧ i ≤ 7 ∧ ∀ j, 0 ≤ j → j < i → barC (M (s + 9)) set j = false) (fun i => (7 - i).toNat) (fun i => aX l E pX7_mayBuy (aR (0, mayC (M (s + 9)) (M (s + 10)) set) N S M) 0 0 N S M 2 [(0, (2, s)), (1, (0, set)), (2, (0, i))] []) (by
    intro i hI ih
    obtain ⟨h0, h1, hI⟩ := hI
    refine x_iload_n (pc := 2) dX7_mayBuy_2 rfl rfl ?_
    refine x_bipush (pc := 3) dX7_mayBuy_3 (by decide) ?_
    refine x_icmp_ge (tgt := 35) (pc := 5) dX7_mayBuy_5 (by decide) (fun c_5 => ?_) (fun c_5 => ?_)
    · refine x_aload_n (pc := 35) dX7_mayBuy_35 rfl rfl ?_
      refine x_iload_n (pc := 36) dX7_mayBuy_36 rfl rfl ?_
      refine x_callV1 (pc := 37) dX7_mayBuy_37 rfl kX7_64 (s_holderOf hfl s set hS) (by assumption) rfl rfl (Nat.le_of_ble_eq_true rfl) (k_R ?_) n_R
      refine x_iconst (pc := 40) dX7_mayBuy_40 (by decide) ?_
      refine x_icmp_eq (tgt := 48) (pc := 41) dX7_mayBuy_41 (by decide) (fun c_41 => ?_) (fun c_41 => ?_)
      · refine x_iconst (pc := 48) dX7_mayBuy_48 (by decide) ?_
        refine x_zreturn (pc := 49) dX7_mayBuy_49 rfl (by omega) (by decide) ?_
        refine ⟨?_, rfl, rfl, rfl⟩
        unfold mayC
        rw [firstB_none.mpr fun j j0 j1 => hI j j0 (by omega)]
        simp_all
      · refine x_iconst (pc := 44) dX7_mayBuy_44 (by decide) ?_
        refine x_goto (tgt := 49) (pc := 45) dX7_mayBuy_45 (by decide) ?_
        refine x_zreturn (pc := 49) dX7_mayBuy_49 rfl (by omega) (by decide) ?_
        refine ⟨?_, rfl, rfl, rfl⟩
        unfold mayC
        rw [firstB_none.mpr fun j j0 j1 => hI j j0 (by omega)]
        simp_all
    · refine x_iload_n (pc := 8) dX7_mayBuy_8 rfl rfl ?_
      refine x_iload_n (pc := 9) dX7_mayBuy_9 rfl rfl ?_
      refine x_callSN2 (pc := 10) dX7_mayBuy_10 rfl kX7_60 (s_isOf hfl set i) rfl (Nat.le_of_ble_eq_true rfl) (k_R ?_) n_R
      refine x_if_eq (tgt := 29) (pc := 13) dX7_mayBuy_13 (by decide) (fun c_13 => ?_) (fun c_13 => ?_)
      · refine x_iinc (pc := 29) dX7_mayBuy_29 rfl (by omega) (by decide) rfl ?_
        refine x_goto (tgt := 2) (pc := 32) dX7_mayBuy_32 (by decide) ?_
        refine x_lo (lo' := [(0, (2, s)), (1, (0, set)), (2, (0, i + 1))]) ⟨rfl, rfl, rfl, trivial⟩ (ih (i + 1) ⟨by omega, by omega, fun j j0 j1 => ?_⟩ (by omega))
        by_cases e : j = i
        · subst e
          unfold isOfV at *
          unfold barC
          simp_all
          try omega
        · exact hI j j0 (by omega)
      · refine x_aload_n (pc := 16) dX7_mayBuy_16 rfl rfl ?_
        refine x_getR (jj := 4) (pc := 17) dX7_mayBuy_17 fX7_25 (by assumption) rfl (by decide) rfl (by first | assumption | rfl) ?_
        refine x_iload_n (pc := 20) dX7_mayBuy_20 rfl rfl ?_
        refine x_iaload (pc := 21) dX7_mayBuy_21 (by assumption) (by omega) (fun g_21 => ?_)
        refine x_iload_n (pc := 22) dX7_mayBuy_22 rfl rfl ?_
        refine x_iand (pc := 23) dX7_mayBuy_23 ?_
        refine x_if_eq (tgt := 29) (pc := 24) dX7_mayBuy_24 (by decide) (fun c_24 => ?_) (fun c_24 => ?_)
        · refine x_iinc (pc := 29) dX7_mayBuy_29 rfl (by omega) (by decide) rfl ?_
          refine x_goto (tgt := 2) (pc := 32) dX7_mayBuy_32 (by decide) ?_
          refine x_lo (lo' := [(0, (2, s)), (1, (0, set)), (2, (0, i + 1))]) ⟨rfl, rfl, rfl, trivial⟩ (ih (i + 1) ⟨by omega, by omega, fun j j0 j1 => ?_⟩ (by omega))
          by_cases e : j = i
          · subst e
            unfold isOfV at *
            unfold barC
            simp_all
            try omega
          · exact hI j j0 (by omega)
        · refine x_iconst (pc := 27) dX7_mayBuy_27 (by decide) ?_
          refine x_zreturn (pc := 28) dX7_mayBuy_28 rfl (by omega) (by decide) ?_
          refine ⟨?_, rfl, rfl, rfl⟩
          unfold mayC
          rw [firstB_some (p := barC (M (s + 9)) set) h0 (show i < (7 : Nat) by omega) (by unfold isOfV at *; unfold barC; simp_all; try omega) hI, if_neg (by omega)])
  refine x_iconst (pc := 0) dX7_mayBuy_0 (by decide) ?_
  refine x_istore_n (pc := 1) dX7_mayBuy_1 rfl (by decide) rfl ?_
  exact x_lo (lo' := [(0, (2, s)), (1, (0, set)), (2, (0, 0))]) ⟨rfl, rfl, rfl, trivial⟩ (loop 0 ⟨by omega, by omega, fun j j0 j1 => by omega⟩)
theorem s_trustedBy {l : Launch} {E : aE} {N : Nat} {S : aS} {M : aM} (hfl : l.stackTraces = false) (s set : Int) (hS : lyS S s) : aMt l E pX7_trustedBy [(2, s), (0, set)] N S M (aR (0, orN (toC (M (s + 10)) set) 7) N S M) := by
  refine a_met hfl rfl (by decide +kernel) (Nat.le_of_ble_eq_true rfl) ?_
  obtain ⟨⟨rt, y0, y1, y2, y3, y4, y5, y6, y7, y8, y9, y10⟩, r, z0, z1, z2, z3, z4, z5, z6, z7, z8, z9, z10, z11, z12, z13, z14, z15, z16, z17⟩ := hS.old
  have loop := a_loop1 (fun i => 0 ≤ i ∧ i ≤ 7) (fun i => (7 - i).toNat) (fun i => aX l E pX7_trustedBy (aR (0, orN (toC (M (s + 10)) set) 7) N S M) 0 0 N S M 4 [(0, (2, s)), (1, (0, set)), (2, (0, orN (toC (M (s + 10)) set) i.toNat)), (3, (0, i))] []) (by
    intro i hI ih
    refine x_iload_n (pc := 4) dX7_trustedBy_4 rfl rfl ?_
    refine x_bipush (pc := 5) dX7_trustedBy_5 (by decide) ?_
    refine x_icmp_ge (tgt := 33) (pc := 7) dX7_trustedBy_7 (by decide) (fun c_7 => ?_) (fun c_7 => ?_)
    · refine x_iload_n (pc := 33) dX7_trustedBy_33 rfl rfl ?_
      refine x_ireturn (pc := 34) dX7_trustedBy_34 rfl (by decide) ?_
      refine ⟨?_, rfl, rfl, rfl⟩
      rw [show (7 : Nat) = i.toNat by omega]
    · refine x_aload_n (pc := 10) dX7_trustedBy_10 rfl rfl ?_
      refine x_getR (jj := 5) (pc := 11) dX7_trustedBy_11 fX7_28 (by assumption) rfl (by decide) rfl (by first | assumption | rfl) ?_
      refine x_iload_n (pc := 14) dX7_trustedBy_14 rfl rfl ?_
      refine x_iaload (pc := 15) dX7_trustedBy_15 (by assumption) (by omega) (fun g_15 => ?_)
      refine x_iload_n (pc := 16) dX7_trustedBy_16 rfl rfl ?_
      refine x_iand (pc := 17) dX7_trustedBy_17 ?_
      refine x_if_eq (tgt := 27) (pc := 18) dX7_trustedBy_18 (by decide) (fun c_18 => ?_) (fun c_18 => ?_)
      · refine x_iinc (pc := 27) dX7_trustedBy_27 rfl (by omega) (by decide) rfl ?_
        refine x_goto (tgt := 4) (pc := 30) dX7_trustedBy_30 (by decide) ?_
        have e := orN_1 (toC (M (s + 10)) set) hI.1
        unfold toC at e
        simp only [decide_eq_true_eq] at e
        first
          | (rw [if_pos (by assumption)] at e; refine x_lo (lo' := [(0, (2, s)), (1, (0, set)), (2, (0, b_or (orN (toC (M (s + 10)) set) i.toNat) (b_shl 1 i))), (3, (0, i + 1))]) ⟨rfl, rfl, rfl, rfl, trivial⟩ ?_; have z := ih (i + 1) ⟨by omega, by omega⟩ (by omega); unfold toC at z ⊢; rw [e] at z; exact z)
          | (rw [if_neg (by simpa using (by assumption : b_and (M (s + 10) i) set = 0))] at e; refine x_lo (lo' := [(0, (2, s)), (1, (0, set)), (2, (0, orN (toC (M (s + 10)) set) i.toNat)), (3, (0, i + 1))]) ⟨rfl, rfl, rfl, rfl, trivial⟩ ?_; have z := ih (i + 1) ⟨by omega, by omega⟩ (by omega); unfold toC at z ⊢; rw [e] at z; exact z)
      · refine x_iload_n (pc := 21) dX7_trustedBy_21 rfl rfl ?_
        refine x_iconst (pc := 22) dX7_trustedBy_22 (by decide) ?_
        refine x_iload_n (pc := 23) dX7_trustedBy_23 rfl rfl ?_
        refine x_ishl (pc := 24) dX7_trustedBy_24 ?_
        refine x_ior (pc := 25) dX7_trustedBy_25 ?_
        refine x_istore_n (pc := 26) dX7_trustedBy_26 rfl (by decide) rfl ?_
        refine x_iinc (pc := 27) dX7_trustedBy_27 rfl (by omega) (by decide) rfl ?_
        refine x_goto (tgt := 4) (pc := 30) dX7_trustedBy_30 (by decide) ?_
        have e := orN_1 (toC (M (s + 10)) set) hI.1
        unfold toC at e
        simp only [decide_eq_true_eq] at e
        first
          | (rw [if_pos (by assumption)] at e; refine x_lo (lo' := [(0, (2, s)), (1, (0, set)), (2, (0, b_or (orN (toC (M (s + 10)) set) i.toNat) (b_shl 1 i))), (3, (0, i + 1))]) ⟨rfl, rfl, rfl, rfl, trivial⟩ ?_; have z := ih (i + 1) ⟨by omega, by omega⟩ (by omega); unfold toC at z ⊢; rw [e] at z; exact z)
          | (rw [if_neg (by simpa using (by assumption : b_and (M (s + 10) i) set = 0))] at e; refine x_lo (lo' := [(0, (2, s)), (1, (0, set)), (2, (0, orN (toC (M (s + 10)) set) i.toNat)), (3, (0, i + 1))]) ⟨rfl, rfl, rfl, rfl, trivial⟩ ?_; have z := ih (i + 1) ⟨by omega, by omega⟩ (by omega); unfold toC at z ⊢; rw [e] at z; exact z))
  refine x_iconst (pc := 0) dX7_trustedBy_0 (by decide) ?_
  refine x_istore_n (pc := 1) dX7_trustedBy_1 rfl (by decide) rfl ?_
  refine x_iconst (pc := 2) dX7_trustedBy_2 (by decide) ?_
  refine x_istore_n (pc := 3) dX7_trustedBy_3 rfl (by decide) rfl ?_
  exact x_lo (lo' := [(0, (2, s)), (1, (0, set)), (2, (0, 0)), (3, (0, 0))]) ⟨rfl, rfl, rfl, rfl, trivial⟩ (loop 0 ⟨by omega, by omega⟩)
theorem s_stepsBetween {l : Launch} {E : aE} {N : Nat} {S : aS} {M : aM} (hfl : l.stackTraces = false) (s one other : Int) (hS : lyS S s) : aMt l E pX7_stepsBetween [(2, s), (0, one), (0, other)] N S M (aR (0, firstB (fun n => decide (isOfV (reachC (M (s + 10)) one n.toNat) other = 1)) 7) N S M) := by
  refine a_met hfl rfl (by decide +kernel) (Nat.le_of_ble_eq_true rfl) ?_
  obtain ⟨⟨rt, y0, y1, y2, y3, y4, y5, y6, y7, y8, y9, y10⟩, r, z0, z1, z2, z3, z4, z5, z6, z7, z8, z9, z10, z11, z12, z13, z14, z15, z16, z17⟩ := hS.old
  have loop := a_loop1 (fun i => 0 ≤ i ∧ i ≤ 7 ∧ ∀ j, 0 ≤ j → j < i → (fun n => decide (isOfV (reachC (M (s + 10)) one n.toNat) other = 1)) j = false) (fun i => (7 - i).toNat) (fun i => aX l E pX7_stepsBetween (aR (0, firstB (fun n => decide (isOfV (reachC (M (s + 10)) one n.toNat) other = 1)) 7) N S M) 0 0 N S M 7 [(0, (2, s)), (1, (0, one)), (2, (0, other)), (3, (0, reachC (M (s + 10)) one i.toNat)), (4, (0, i))] []) (by
    intro i hI ih
    obtain ⟨h0, h1, hI⟩ := hI
    refine x_iload (pc := 7) dX7_stepsBetween_7 rfl ?_
    refine x_bipush (pc := 9) dX7_stepsBetween_9 (by decide) ?_
    refine x_icmp_ge (tgt := 39) (pc := 11) dX7_stepsBetween_11 (by decide) (fun c_11 => ?_) (fun c_11 => ?_)
    · refine x_iconst (pc := 39) dX7_stepsBetween_39 (by decide) ?_
      refine x_ireturn (pc := 40) dX7_stepsBetween_40 rfl (by decide) ?_
      refine ⟨?_, rfl, rfl, rfl⟩
      rw [firstB_none.mpr fun j j0 j1 => hI j j0 (by omega)]
    · refine x_iload_n (pc := 14) dX7_stepsBetween_14 rfl rfl ?_
      refine x_iload_n (pc := 15) dX7_stepsBetween_15 rfl rfl ?_
      refine x_callSN2 (pc := 16) dX7_stepsBetween_16 rfl kX7_60 (s_isOf hfl _ other) rfl (Nat.le_of_ble_eq_true rfl) (k_R ?_) n_R
      refine x_if_eq (tgt := 25) (pc := 19) dX7_stepsBetween_19 (by decide) (fun c_19 => ?_) (fun c_19 => ?_)
      · refine x_iload_n (pc := 25) dX7_stepsBetween_25 rfl rfl ?_
        refine x_aload_n (pc := 26) dX7_stepsBetween_26 rfl rfl ?_
        refine x_iload_n (pc := 27) dX7_stepsBetween_27 rfl rfl ?_
        refine x_callV1 (pc := 28) dX7_stepsBetween_28 rfl kX7_68 (s_trustedBy hfl s _ hS) (by assumption) rfl rfl (Nat.le_of_ble_eq_true rfl) (k_R ?_) n_R
        refine x_ior (pc := 31) dX7_stepsBetween_31 ?_
        refine x_istore_n (pc := 32) dX7_stepsBetween_32 rfl (by decide) rfl ?_
        refine x_iinc (pc := 33) dX7_stepsBetween_33 rfl (by omega) (by decide) rfl ?_
        refine x_goto (tgt := 7) (pc := 36) dX7_stepsBetween_36 (by decide) ?_
        refine x_lo (lo' := [(0, (2, s)), (1, (0, one)), (2, (0, other)), (3, (0, b_or (reachC (M (s + 10)) one i.toNat) (orN (toC (M (s + 10)) (reachC (M (s + 10)) one i.toNat)) 7))), (4, (0, i + 1))]) ⟨rfl, rfl, rfl, rfl, rfl, trivial⟩ ?_
        have z := ih (i + 1) ⟨by omega, by omega, fun j j0 j1 => ?_⟩ (by omega)
        · rw [show (i + 1).toNat = i.toNat + 1 by omega] at z
          exact z
        · by_cases e : j = i
          · subst e
            rw [decide_eq_false_iff_not]
            unfold isOfV at *
            omega
          · exact hI j j0 (by omega)
      · refine x_iload (pc := 22) dX7_stepsBetween_22 rfl ?_
        refine x_ireturn (pc := 24) dX7_stepsBetween_24 rfl (by decide) ?_
        refine ⟨?_, rfl, rfl, rfl⟩
        rw [firstB_some h0 (show i < (7 : Nat) by omega) (by rw [decide_eq_true_eq]; unfold isOfV at *; split at c_19 <;> simp_all) hI])
  refine x_iconst (pc := 0) dX7_stepsBetween_0 (by decide) ?_
  refine x_iload_n (pc := 1) dX7_stepsBetween_1 rfl rfl ?_
  refine x_ishl (pc := 2) dX7_stepsBetween_2 ?_
  refine x_istore_n (pc := 3) dX7_stepsBetween_3 rfl (by decide) rfl ?_
  refine x_iconst (pc := 4) dX7_stepsBetween_4 (by decide) ?_
  refine x_istore (pc := 5) dX7_stepsBetween_5 (by decide) rfl ?_
  exact x_lo (lo' := [(0, (2, s)), (1, (0, one)), (2, (0, other)), (3, (0, b_shl 1 one)), (4, (0, 0))]) ⟨rfl, rfl, rfl, rfl, rfl, trivial⟩ (loop 0 ⟨by omega, by omega, fun j j0 j1 => by omega⟩)
theorem s_cellarsOf {l : Launch} {E : aE} {N : Nat} {S : aS} {M : aM} (hfl : l.stackTraces = false) (s set : Int) (hS : lyS S s) (hc : ∀ i, 0 ≤ i → i < 7 → 0 ≤ M (s + 7) i ∧ M (s + 7) i ≤ 8) : aMt l E pX7_cellarsOf [(2, s), (0, set)] N S M (aR (0, sumN (fun i => if hb set i = 1 then M (s + 7) i else 0) 7) N S M) := by
  refine a_met hfl rfl (by decide +kernel) (Nat.le_of_ble_eq_true rfl) ?_
  obtain ⟨⟨rt, y0, y1, y2, y3, y4, y5, y6, y7, y8, y9, y10⟩, r, z0, z1, z2, z3, z4, z5, z6, z7, z8, z9, z10, z11, z12, z13, z14, z15, z16, z17⟩ := hS.old
  have loop := a_loop1 (fun i => 0 ≤ i ∧ i ≤ 7) (fun i => (7 - i).toNat) (fun i => aX l E pX7_cellarsOf (aR (0, sumN (fun i => if hb set i = 1 then M (s + 7) i else 0) 7) N S M) 0 0 N S M 4 [(0, (2, s)), (1, (0, set)), (2, (0, sumN (fun i => if hb set i = 1 then M (s + 7) i else 0) i.toNat)), (3, (0, i))] []) (by
    intro i hI ih
    have hb9 := sumN_le (f := (fun i => if hb set i = 1 then M (s + 7) i else 0)) (c := 8) (n := i.toNat) (fun j j0 j1 => by
      have := hc j j0 (by omega)
      (try dsimp only)
      split <;> omega)
    have hc9 := hc i hI.1
    refine x_iload_n (pc := 4) dX7_cellarsOf_4 rfl rfl ?_
    refine x_bipush (pc := 5) dX7_cellarsOf_5 (by decide) ?_
    refine x_icmp_ge (tgt := 33) (pc := 7) dX7_cellarsOf_7 (by decide) (fun c_7 => ?_) (fun c_7 => ?_)
    · refine x_iload_n (pc := 33) dX7_cellarsOf_33 rfl rfl ?_
      refine x_ireturn (pc := 34) dX7_cellarsOf_34 rfl (by decide) ?_
      refine ⟨?_, rfl, rfl, rfl⟩
      rw [show (7 : Nat) = i.toNat by omega]
    · refine x_iload_n (pc := 10) dX7_cellarsOf_10 rfl rfl ?_
      refine x_iload_n (pc := 11) dX7_cellarsOf_11 rfl rfl ?_
      refine x_callSN2 (pc := 12) dX7_cellarsOf_12 rfl kX7_60 (s_isOf hfl set i) rfl (Nat.le_of_ble_eq_true rfl) (k_R ?_) n_R
      refine x_if_eq (tgt := 27) (pc := 15) dX7_cellarsOf_15 (by decide) (fun c_15 => ?_) (fun c_15 => ?_)
      · refine x_iinc (pc := 27) dX7_cellarsOf_27 rfl (by omega) (by decide) rfl ?_
        refine x_goto (tgt := 4) (pc := 30) dX7_cellarsOf_30 (by decide) ?_
        have e := sumN_1 (fun i => if hb set i = 1 then M (s + 7) i else 0) hI.1
        (try dsimp only at e)
        rw [if_neg (show ¬ hb set i = 1 by unfold isOfV at *; split at c_15 <;> simp_all <;> omega), Int.add_zero] at e
        refine x_lo (lo' := [(0, (2, s)), (1, (0, set)), (2, (0, sumN (fun i => if hb set i = 1 then M (s + 7) i else 0) i.toNat)), (3, (0, i + 1))]) ⟨rfl, rfl, rfl, rfl, trivial⟩ ?_
        have z := ih (i + 1) ⟨by omega, by omega⟩ (by omega)
        rw [e] at z
        exact z
      · refine x_iload_n (pc := 18) dX7_cellarsOf_18 rfl rfl ?_
        refine x_aload_n (pc := 19) dX7_cellarsOf_19 rfl rfl ?_
        refine x_getR (jj := 2) (pc := 20) dX7_cellarsOf_20 fX7_18 (by assumption) rfl (by decide) rfl (by first | assumption | rfl) ?_
        refine x_iload_n (pc := 23) dX7_cellarsOf_23 rfl rfl ?_
        refine x_iaload (pc := 24) dX7_cellarsOf_24 (by assumption) (by omega) (fun g_24 => ?_)
        refine x_iadd (pc := 25) dX7_cellarsOf_25 (by omega) ?_
        refine x_istore_n (pc := 26) dX7_cellarsOf_26 rfl (by decide) rfl ?_
        refine x_iinc (pc := 27) dX7_cellarsOf_27 rfl (by omega) (by decide) rfl ?_
        refine x_goto (tgt := 4) (pc := 30) dX7_cellarsOf_30 (by decide) ?_
        have e := sumN_1 (fun i => if hb set i = 1 then M (s + 7) i else 0) hI.1
        (try dsimp only at e)
        rw [if_pos (show hb set i = 1 by unfold isOfV at *; split at c_15 <;> simp_all)] at e
        refine x_lo (lo' := [(0, (2, s)), (1, (0, set)), (2, (0, sumN (fun i => if hb set i = 1 then M (s + 7) i else 0) i.toNat + M (s + 7) i)), (3, (0, i + 1))]) ⟨rfl, rfl, rfl, rfl, trivial⟩ ?_
        have z := ih (i + 1) ⟨by omega, by omega⟩ (by omega)
        rw [e] at z
        exact z)
  refine x_iconst (pc := 0) dX7_cellarsOf_0 (by decide) ?_
  refine x_istore_n (pc := 1) dX7_cellarsOf_1 rfl (by decide) rfl ?_
  refine x_iconst (pc := 2) dX7_cellarsOf_2 (by decide) ?_
  refine x_istore_n (pc := 3) dX7_cellarsOf_3 rfl (by decide) rfl ?_
  exact x_lo (lo' := [(0, (2, s)), (1, (0, set)), (2, (0, 0)), (3, (0, 0))]) ⟨rfl, rfl, rfl, rfl, trivial⟩ (loop 0 ⟨by omega, by omega⟩)
theorem s_wantsOf {l : Launch} {E : aE} {N : Nat} {S : aS} {M : aM} (hfl : l.stackTraces = false) (s set m : Int) (hS : lyS S s) (hm : 0 ≤ m ∧ m < 6) (hc : ∀ i, 0 ≤ i → i < 42 → 0 ≤ M (s + 8) i ∧ M (s + 8) i ≤ 8) : aMt l E pX7_wantsOf [(2, s), (0, set), (0, m)] N S M (aR (0, sumN (fun i => if hb set i = 1 then M (s + 8) (i * 6 + m) else 0) 7) N S M) := by
  refine a_met hfl rfl (by decide +kernel) (Nat.le_of_ble_eq_true rfl) ?_
  obtain ⟨⟨rt, y0, y1, y2, y3, y4, y5, y6, y7, y8, y9, y10⟩, r, z0, z1, z2, z3, z4, z5, z6, z7, z8, z9, z10, z11, z12, z13, z14, z15, z16, z17⟩ := hS.old
  have loop := a_loop1 (fun i => 0 ≤ i ∧ i ≤ 7) (fun i => (7 - i).toNat) (fun i => aX l E pX7_wantsOf (aR (0, sumN (fun i => if hb set i = 1 then M (s + 8) (i * 6 + m) else 0) 7) N S M) 0 0 N S M 5 [(0, (2, s)), (1, (0, set)), (2, (0, m)), (3, (0, sumN (fun i => if hb set i = 1 then M (s + 8) (i * 6 + m) else 0) i.toNat)), (4, (0, i))] []) (by
    intro i hI ih
    have hb9 := sumN_le (f := (fun i => if hb set i = 1 then M (s + 8) (i * 6 + m) else 0)) (c := 8) (n := i.toNat) (fun j j0 j1 => by
      have := hc (j * 6 + m) (by omega) (by omega)
      (try dsimp only)
      split <;> omega)
    have hc9 := hc (i * 6 + m)
    refine x_iload (pc := 5) dX7_wantsOf_5 rfl ?_
    refine x_bipush (pc := 7) dX7_wantsOf_7 (by decide) ?_
    refine x_icmp_ge (tgt := 42) (pc := 9) dX7_wantsOf_9 (by decide) (fun c_9 => ?_) (fun c_9 => ?_)
    · refine x_iload_n (pc := 42) dX7_wantsOf_42 rfl rfl ?_
      refine x_ireturn (pc := 43) dX7_wantsOf_43 rfl (by decide) ?_
      refine ⟨?_, rfl, rfl, rfl⟩
      rw [show (7 : Nat) = i.toNat by omega]
    · refine x_iload_n (pc := 12) dX7_wantsOf_12 rfl rfl ?_
      refine x_iload (pc := 13) dX7_wantsOf_13 rfl ?_
      refine x_callSN2 (pc := 15) dX7_wantsOf_15 rfl kX7_60 (s_isOf hfl set i) rfl (Nat.le_of_ble_eq_true rfl) (k_R ?_) n_R
      refine x_if_eq (tgt := 36) (pc := 18) dX7_wantsOf_18 (by decide) (fun c_18 => ?_) (fun c_18 => ?_)
      · refine x_iinc (pc := 36) dX7_wantsOf_36 rfl (by omega) (by decide) rfl ?_
        refine x_goto (tgt := 5) (pc := 39) dX7_wantsOf_39 (by decide) ?_
        have e := sumN_1 (fun i => if hb set i = 1 then M (s + 8) (i * 6 + m) else 0) hI.1
        (try dsimp only at e)
        rw [if_neg (show ¬ hb set i = 1 by unfold isOfV at *; split at c_18 <;> simp_all <;> omega), Int.add_zero] at e
        refine x_lo (lo' := [(0, (2, s)), (1, (0, set)), (2, (0, m)), (3, (0, sumN (fun i => if hb set i = 1 then M (s + 8) (i * 6 + m) else 0) i.toNat)), (4, (0, i + 1))]) ⟨rfl, rfl, rfl, rfl, rfl, trivial⟩ ?_
        have z := ih (i + 1) ⟨by omega, by omega⟩ (by omega)
        rw [e] at z
        exact z
      · refine x_iload_n (pc := 21) dX7_wantsOf_21 rfl rfl ?_
        refine x_aload_n (pc := 22) dX7_wantsOf_22 rfl rfl ?_
        refine x_getR (jj := 3) (pc := 23) dX7_wantsOf_23 fX7_22 (by assumption) rfl (by decide) rfl (by first | assumption | rfl) ?_
        refine x_iload (pc := 26) dX7_wantsOf_26 rfl ?_
        refine x_bipush (pc := 28) dX7_wantsOf_28 (by decide) ?_
        refine x_imul (pc := 30) dX7_wantsOf_30 (by omega) ?_
        refine x_iload_n (pc := 31) dX7_wantsOf_31 rfl rfl ?_
        refine x_iadd (pc := 32) dX7_wantsOf_32 (by omega) ?_
        refine x_iaload (pc := 33) dX7_wantsOf_33 (by assumption) (by omega) (fun g_33 => ?_)
        refine x_iadd (pc := 34) dX7_wantsOf_34 (by omega) ?_
        refine x_istore_n (pc := 35) dX7_wantsOf_35 rfl (by decide) rfl ?_
        refine x_iinc (pc := 36) dX7_wantsOf_36 rfl (by omega) (by decide) rfl ?_
        refine x_goto (tgt := 5) (pc := 39) dX7_wantsOf_39 (by decide) ?_
        have e := sumN_1 (fun i => if hb set i = 1 then M (s + 8) (i * 6 + m) else 0) hI.1
        (try dsimp only at e)
        rw [if_pos (show hb set i = 1 by unfold isOfV at *; split at c_18 <;> simp_all)] at e
        refine x_lo (lo' := [(0, (2, s)), (1, (0, set)), (2, (0, m)), (3, (0, sumN (fun i => if hb set i = 1 then M (s + 8) (i * 6 + m) else 0) i.toNat + M (s + 8) (i * 6 + m))), (4, (0, i + 1))]) ⟨rfl, rfl, rfl, rfl, rfl, trivial⟩ ?_
        have z := ih (i + 1) ⟨by omega, by omega⟩ (by omega)
        rw [e] at z
        exact z)
  refine x_iconst (pc := 0) dX7_wantsOf_0 (by decide) ?_
  refine x_istore_n (pc := 1) dX7_wantsOf_1 rfl (by decide) rfl ?_
  refine x_iconst (pc := 2) dX7_wantsOf_2 (by decide) ?_
  refine x_istore (pc := 3) dX7_wantsOf_3 (by decide) rfl ?_
  exact x_lo (lo' := [(0, (2, s)), (1, (0, set)), (2, (0, m)), (3, (0, 0)), (4, (0, 0))]) ⟨rfl, rfl, rfl, rfl, rfl, trivial⟩ (loop 0 ⟨by omega, by omega⟩)
theorem s_wantsThatCount {l : Launch} {E : aE} {N : Nat} {S : aS} {M : aM} (hfl : l.stackTraces = false) (s h : Int) (hS : lyS S s) (hh : 0 ≤ h ∧ h < 7) (hm : 0 ≤ M (s + 1) 9 ∧ M (s + 1) 9 ≤ 6) (hc : ∀ i, 0 ≤ i → i < 42 → 0 ≤ M (s + 8) i ∧ M (s + 8) i ≤ 8) : aMt l E pX7_wantsThatCount [(2, s), (0, h)] N S M (aR (0, sumN (fun m => M (s + 8) (h * 6 + m)) (M (s + 1) 9).toNat) N S M) := by
  refine a_met hfl rfl (by decide +kernel) (Nat.le_of_ble_eq_true rfl) ?_
  obtain ⟨⟨rt, y0, y1, y2, y3, y4, y5, y6, y7, y8, y9, y10⟩, r, z0, z1, z2, z3, z4, z5, z6, z7, z8, z9, z10, z11, z12, z13, z14, z15, z16, z17⟩ := hS.old
  have loop := a_loop1 (fun i => 0 ≤ i ∧ i ≤ M (s + 1) 9) (fun i => (7 - i).toNat) (fun i => aX l E pX7_wantsThatCount (aR (0, sumN (fun m => M (s + 8) (h * 6 + m)) (M (s + 1) 9).toNat) N S M) 0 0 N S M 4 [(0, (2, s)), (1, (0, h)), (2, (0, sumN (fun m => M (s + 8) (h * 6 + m)) i.toNat)), (3, (0, i))] []) (by
    intro i hI ih
    have hb9 := sumN_le (f := (fun m => M (s + 8) (h * 6 + m))) (c := 8) (n := i.toNat) (fun j j0 j1 => hc (h * 6 + j) (by omega) (by omega))
    have hc9 := hc (h * 6 + i)
    refine x_iload_n (pc := 4) dX7_wantsThatCount_4 rfl rfl ?_
    refine x_aload_n (pc := 5) dX7_wantsThatCount_5 rfl rfl ?_
    refine x_getR (jj := 0) (pc := 6) dX7_wantsThatCount_6 fX7_12 (by assumption) rfl (by decide) rfl (by first | assumption | rfl) ?_
    refine x_getI (jj := 9) (pc := 9) dX7_wantsThatCount_9 fX7_71 (by assumption) rfl (by decide) rfl ?_
    refine x_icmp_ge (tgt := 41) (pc := 12) dX7_wantsThatCount_12 (by decide) (fun c_12 => ?_) (fun c_12 => ?_)
    · refine x_iload_n (pc := 41) dX7_wantsThatCount_41 rfl rfl ?_
      refine x_ireturn (pc := 42) dX7_wantsThatCount_42 rfl (by decide) ?_
      refine ⟨?_, rfl, rfl, rfl⟩
      rw [show (M (s + 1) 9).toNat = i.toNat by omega]
    · refine x_iload_n (pc := 15) dX7_wantsThatCount_15 rfl rfl ?_
      refine x_bipush (pc := 16) dX7_wantsThatCount_16 (by decide) ?_
      refine x_icmp_ge (tgt := 41) (pc := 18) dX7_wantsThatCount_18 (by decide) (fun c_18 => ?_) (fun c_18 => ?_)
      · refine x_iload_n (pc := 41) dX7_wantsThatCount_41 rfl rfl ?_
        refine x_ireturn (pc := 42) dX7_wantsThatCount_42 rfl (by decide) ?_
        refine ⟨?_, rfl, rfl, rfl⟩
        rw [show (M (s + 1) 9).toNat = i.toNat by omega]
      · refine x_iload_n (pc := 21) dX7_wantsThatCount_21 rfl rfl ?_
        refine x_aload_n (pc := 22) dX7_wantsThatCount_22 rfl rfl ?_
        refine x_getR (jj := 3) (pc := 23) dX7_wantsThatCount_23 fX7_22 (by assumption) rfl (by decide) rfl (by first | assumption | rfl) ?_
        refine x_iload_n (pc := 26) dX7_wantsThatCount_26 rfl rfl ?_
        refine x_bipush (pc := 27) dX7_wantsThatCount_27 (by decide) ?_
        refine x_imul (pc := 29) dX7_wantsThatCount_29 (by omega) ?_
        refine x_iload_n (pc := 30) dX7_wantsThatCount_30 rfl rfl ?_
        refine x_iadd (pc := 31) dX7_wantsThatCount_31 (by omega) ?_
        refine x_iaload (pc := 32) dX7_wantsThatCount_32 (by assumption) (by omega) (fun g_32 => ?_)
        refine x_iadd (pc := 33) dX7_wantsThatCount_33 (by omega) ?_
        refine x_istore_n (pc := 34) dX7_wantsThatCount_34 rfl (by decide) rfl ?_
        refine x_iinc (pc := 35) dX7_wantsThatCount_35 rfl (by omega) (by decide) rfl ?_
        refine x_goto (tgt := 4) (pc := 38) dX7_wantsThatCount_38 (by decide) ?_
        have e := sumN_1 (fun m => M (s + 8) (h * 6 + m)) hI.1
        (try dsimp only at e)
        refine x_lo (lo' := [(0, (2, s)), (1, (0, h)), (2, (0, sumN (fun m => M (s + 8) (h * 6 + m)) i.toNat + M (s + 8) (h * 6 + i))), (3, (0, i + 1))]) ⟨rfl, rfl, rfl, rfl, trivial⟩ ?_
        have z := ih (i + 1) ⟨by omega, by omega⟩ (by omega)
        rw [e] at z
        exact z)
  refine x_iconst (pc := 0) dX7_wantsThatCount_0 (by decide) ?_
  refine x_istore_n (pc := 1) dX7_wantsThatCount_1 rfl (by decide) rfl ?_
  refine x_iconst (pc := 2) dX7_wantsThatCount_2 (by decide) ?_
  refine x_istore_n (pc := 3) dX7_wantsThatCount_3 rfl (by decide) rfl ?_
  exact x_lo (lo' := [(0, (2, s)), (1, (0, h)), (2, (0, 0)), (3, (0, 0))]) ⟨rfl, rfl, rfl, rfl, trivial⟩ (loop 0 ⟨by omega, by omega⟩)
theorem s_allDoubts {l : Launch} {E : aE} {N : Nat} {S : aS} {M : aM} (hfl : l.stackTraces = false) (s : Int) (hS : lyS S s) (hc : ∀ i, 0 ≤ i → i < 7 → 0 ≤ M (s + 12) i ∧ M (s + 12) i ≤ 8) : aMt l E pX7_allDoubts [(2, s)] N S M (aR (0, sumN (M (s + 12)) 7) N S M) := by
  refine a_met hfl rfl (by decide +kernel) (Nat.le_of_ble_eq_true rfl) ?_
  obtain ⟨⟨rt, y0, y1, y2, y3, y4, y5, y6, y7, y8, y9, y10⟩, r, z0, z1, z2, z3, z4, z5, z6, z7, z8, z9, z10, z11, z12, z13, z14, z15, z16, z17⟩ := hS.old
  have loop := a_loop1 (fun i => 0 ≤ i ∧ i ≤ 7) (fun i => (7 - i).toNat) (fun i => aX l E pX7_allDoubts (aR (0, sumN (M (s + 12)) 7) N S M) 0 0 N S M 4 [(0, (2, s)), (1, (0, sumN (M (s + 12)) i.toNat)), (2, (0, i))] []) (by
    intro i hI ih
    have hb9 := sumN_le (f := (M (s + 12))) (c := 8) (n := i.toNat) (fun j j0 j1 => hc j (by omega) (by omega))
    have hc9 := hc i
    refine x_iload_n (pc := 4) dX7_allDoubts_4 rfl rfl ?_
    refine x_bipush (pc := 5) dX7_allDoubts_5 (by decide) ?_
    refine x_icmp_ge (tgt := 25) (pc := 7) dX7_allDoubts_7 (by decide) (fun c_7 => ?_) (fun c_7 => ?_)
    · refine x_iload_n (pc := 25) dX7_allDoubts_25 rfl rfl ?_
      refine x_ireturn (pc := 26) dX7_allDoubts_26 rfl (by decide) ?_
      refine ⟨?_, rfl, rfl, rfl⟩
      rw [show (7 : Nat) = i.toNat by omega]
    · refine x_iload_n (pc := 10) dX7_allDoubts_10 rfl rfl ?_
      refine x_aload_n (pc := 11) dX7_allDoubts_11 rfl rfl ?_
      refine x_getR (jj := 8) (pc := 12) dX7_allDoubts_12 fX7_38 (by assumption) rfl (by decide) rfl (by first | assumption | rfl) ?_
      refine x_iload_n (pc := 15) dX7_allDoubts_15 rfl rfl ?_
      refine x_iaload (pc := 16) dX7_allDoubts_16 (by assumption) (by omega) (fun g_16 => ?_)
      refine x_iadd (pc := 17) dX7_allDoubts_17 (by omega) ?_
      refine x_istore_n (pc := 18) dX7_allDoubts_18 rfl (by decide) rfl ?_
      refine x_iinc (pc := 19) dX7_allDoubts_19 rfl (by omega) (by decide) rfl ?_
      refine x_goto (tgt := 4) (pc := 22) dX7_allDoubts_22 (by decide) ?_
      have e := sumN_1 (M (s + 12)) hI.1
      refine x_lo (lo' := [(0, (2, s)), (1, (0, sumN (M (s + 12)) i.toNat + M (s + 12) i)), (2, (0, i + 1))]) ⟨rfl, rfl, rfl, trivial⟩ ?_
      have z := ih (i + 1) ⟨by omega, by omega⟩ (by omega)
      rw [e] at z
      exact z)
  refine x_iconst (pc := 0) dX7_allDoubts_0 (by decide) ?_
  refine x_istore_n (pc := 1) dX7_allDoubts_1 rfl (by decide) rfl ?_
  refine x_iconst (pc := 2) dX7_allDoubts_2 (by decide) ?_
  refine x_istore_n (pc := 3) dX7_allDoubts_3 rfl (by decide) rfl ?_
  exact x_lo (lo' := [(0, (2, s)), (1, (0, 0)), (2, (0, 0))]) ⟨rfl, rfl, rfl, trivial⟩ (loop 0 ⟨by omega, by omega⟩)
theorem s_addDoubt {l : Launch} {E : aE} {N : Nat} {S : aS} {M : aM} (hfl : l.stackTraces = false) (s h k c : Int) (hS : lyS S s) (hh : 0 ≤ h ∧ h < 7) (hd : 0 ≤ M (s + 12) h ∧ M (s + 12) h ≤ 4) : aMt l E pX7_addDoubt [(2, s), (0, h), (0, k), (0, c)] N S M (aG N S (fun v M' => (4 ≤ M (s + 12) h ∧ v = (0, -1) ∧ M' = M) ∨ (M (s + 12) h < 4 ∧ v = (0, M (s + 12) h + 1) ∧ M' = up (up (up M (s + 13) (h * 4 + M (s + 12) h) k) (s + 14) (h * 4 + M (s + 12) h) c) (s + 12) h (M (s + 12) h + 1)))) := by
  refine a_met hfl rfl (by decide +kernel) (Nat.le_of_ble_eq_true rfl) ?_
  obtain ⟨⟨rt, y0, y1, y2, y3, y4, y5, y6, y7, y8, y9, y10⟩, r, z0, z1, z2, z3, z4, z5, z6, z7, z8, z9, z10, z11, z12, z13, z14, z15, z16, z17⟩ := hS.old
  have e9 : ∀ i v j u, up (up M (s + 13) i v) (s + 14) j u (s + 12) h = M (s + 12) h := fun i v j u => by rw [up_a (by omega), up_a (by omega)]
  refine x_aload_n (pc := 0) dX7_addDoubt_0 rfl rfl ?_
  refine x_getR (jj := 8) (pc := 1) dX7_addDoubt_1 fX7_38 (by assumption) rfl (by decide) rfl (by first | assumption | rfl) ?_
  refine x_iload_n (pc := 4) dX7_addDoubt_4 rfl rfl ?_
  refine x_iaload (pc := 5) dX7_addDoubt_5 (by assumption) (by omega) (fun g_5 => ?_)
  refine x_iconst (pc := 6) dX7_addDoubt_6 (by decide) ?_
  refine x_icmp_lt (tgt := 12) (pc := 7) dX7_addDoubt_7 (by decide) (fun c_7 => ?_) (fun c_7 => ?_)
  · refine x_iload_n (pc := 12) dX7_addDoubt_12 rfl rfl ?_
    refine x_iconst (pc := 13) dX7_addDoubt_13 (by decide) ?_
    refine x_imul (pc := 14) dX7_addDoubt_14 (by omega) ?_
    refine x_aload_n (pc := 15) dX7_addDoubt_15 rfl rfl ?_
    refine x_getR (jj := 8) (pc := 16) dX7_addDoubt_16 fX7_38 (by assumption) rfl (by decide) rfl (by first | assumption | rfl) ?_
    refine x_iload_n (pc := 19) dX7_addDoubt_19 rfl rfl ?_
    refine x_iaload (pc := 20) dX7_addDoubt_20 (by assumption) (by omega) (fun g_20 => ?_)
    refine x_iadd (pc := 21) dX7_addDoubt_21 (by omega) ?_
    refine x_istore (pc := 22) dX7_addDoubt_22 (by decide) rfl ?_
    refine x_aload_n (pc := 24) dX7_addDoubt_24 rfl rfl ?_
    refine x_getR (jj := 9) (pc := 25) dX7_addDoubt_25 fX7_41 (by assumption) rfl (by decide) rfl (by first | assumption | rfl) ?_
    refine x_iload (pc := 28) dX7_addDoubt_28 rfl ?_
    refine x_iload_n (pc := 30) dX7_addDoubt_30 rfl rfl ?_
    refine x_iastore (pc := 31) dX7_addDoubt_31 (by assumption) (by omega) ?_
    refine x_aload_n (pc := 32) dX7_addDoubt_32 rfl rfl ?_
    refine x_getR (jj := 10) (pc := 33) dX7_addDoubt_33 fX7_44 (by assumption) rfl (by decide) rfl (by first | assumption | rfl) ?_
    refine x_iload (pc := 36) dX7_addDoubt_36 rfl ?_
    refine x_iload_n (pc := 38) dX7_addDoubt_38 rfl rfl ?_
    refine x_iastore (pc := 39) dX7_addDoubt_39 (by assumption) (by omega) ?_
    refine x_aload_n (pc := 40) dX7_addDoubt_40 rfl rfl ?_
    refine x_getR (jj := 8) (pc := 41) dX7_addDoubt_41 fX7_38 (by assumption) rfl (by decide) rfl (by first | assumption | rfl) ?_
    refine x_iload_n (pc := 44) dX7_addDoubt_44 rfl rfl ?_
    refine x_dup2 (pc := 45) dX7_addDoubt_45 rfl rfl ?_
    refine x_iaload (pc := 46) dX7_addDoubt_46 (by assumption) (by omega) (fun g_46 => ?_)
    refine x_iconst (pc := 47) dX7_addDoubt_47 (by decide) ?_
    refine x_iadd (pc := 48) dX7_addDoubt_48 (by rw [e9]; omega) ?_
    refine x_dup_x2 (pc := 49) dX7_addDoubt_49 rfl rfl rfl ?_
    refine x_iastore (pc := 50) dX7_addDoubt_50 (by assumption) (by omega) ?_
    refine x_ireturn (pc := 51) dX7_addDoubt_51 rfl (by decide) ?_
    refine ⟨_, rfl, rfl, rfl, Or.inr ⟨by omega, by rw [e9], ?_⟩⟩
    rw [e9]
  · refine x_iconst (pc := 10) dX7_addDoubt_10 (by decide) ?_
    refine x_ireturn (pc := 11) dX7_addDoubt_11 rfl (by decide) ?_
    exact ⟨_, rfl, rfl, rfl, Or.inl ⟨by omega, rfl, rfl⟩⟩
