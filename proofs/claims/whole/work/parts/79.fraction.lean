/-! fractions by least numbers -/
def gcdV (a b : Int) : Int := ((Nat.gcd a.toNat b.toNat : Nat) : Int)
theorem gcdV_step {a b : Int} (ha : 0 ≤ a) (hb9 : 0 < b) : gcdV b (a % b) = gcdV a b := by
  unfold gcdV
  obtain ⟨x, rfl⟩ := Int.eq_ofNat_of_zero_le ha
  obtain ⟨y, rfl⟩ := Int.eq_ofNat_of_zero_le (Int.le_of_lt hb9)
  rw [← Int.natCast_emod, Int.toNat_natCast, Int.toNat_natCast, Int.toNat_natCast]
  congr 1
  rw [Nat.gcd_comm x y, Nat.gcd_rec y x, Nat.gcd_comm]
theorem gcdV_0 {a : Int} (ha : 0 ≤ a) : gcdV a 0 = a := by
  unfold gcdV
  rw [show (0 : Int).toNat = 0 from rfl, Nat.gcd_zero_right]
  omega
theorem gcdV_pos {a b : Int} (hb9 : 0 < b) : 0 < gcdV a b := by
  unfold gcdV
  have : 0 < Nat.gcd a.toNat b.toNat := Nat.gcd_pos_of_pos_right _ (by omega)
  omega
def frU (p q : Int) : Int := p / gcdV p q
def frD (p q : Int) : Int := q / gcdV p q
/-- how small Euclid's numbers are -/
def eB : Nat → Nat
  | 0 => 18446744073709551616
  | n + 1 => 3 * eB n / 4
theorem eB_0 : eB 199 = 0 := by decide +kernel
theorem tdiv_r {a b : Int} (ha : 0 ≤ a ∧ a ≤ 9223372036854775807) (hb9 : 0 < b) : -9223372036854775808 ≤ a.tdiv b ∧ a.tdiv b ≤ 9223372036854775807 := by
  rw [Int.tdiv_eq_ediv_of_nonneg ha.1]
  have h1 : 0 ≤ a / b := Int.ediv_nonneg ha.1 (by omega)
  have h2 : a / b ≤ a := Int.ediv_le_self _ ha.1
  omega
def frA (A : aM) (p q : Int) : aM := up (up A 2 3 (frU p q)) 2 4 (frD p q)
theorem frA_o {A : aM} {p q r i : Int} (h : r ≠ 2 ∨ (i ≠ 3 ∧ i ≠ 4)) : frA A p q r i = A r i := by
  unfold frA up
  rw [if_neg (by omega), if_neg (by omega)]
theorem frA_r {A : aM} {p q r : Int} (h : r ≠ 2) : frA A p q r = A r := funext fun i => frA_o (Or.inl h)
theorem RC.fr {M A : aM} {N : Nat} {S : aS} {p q : Int} (h : RC M N S A) : RC (up (up M 0 10 (frU p q)) 0 11 (frD p q)) N S (frA A p q) := by
  obtain ⟨h1, h2, h3, h4, h5, h6, h7, h8, h9⟩ := h
  have g : ∀ a, a ≠ 0 → eqR M (up (up M 0 10 (frU p q)) 0 11 (frD p q)) a := fun a x i => by rw [up_a x, up_a x]
  refine ⟨?_, ⟨?_, ?_⟩, ?_, ?_, ?_, ?_, ?_, h8.cg (fun a x y => g a (by omega)) (fun a x y => g a (by omega)), ?_⟩
  · rw [frA_r (by omega)]; exact h1.cg fun a x y => g a (by omega)
  · unfold frA; rw [up_i (by omega), up_s, up_i (by omega), up_s]
  · unfold frA; rw [up_s, up_s]
  · have z := h3.cg (g 17 (by omega)) (g 18 (by omega))
    unfold RRd at z ⊢
    rw [frA_o (by omega), frA_o (by omega), frA_o (by omega), frA_r (by omega)]; exact z
  · have z := h4.cg (g 105 (by omega)) (g 106 (by omega)) (g 107 (by omega))
    unfold RTy at z ⊢
    rw [frA_r (by omega), frA_r (by omega), frA_r (by omega)]; exact z
  · have z := h5.cg (g 16 (by omega)) (fun a x => g a (by omega))
    unfold RIm at z ⊢
    rw [frA_r (by omega), frA_r (by omega)]; exact z
  · rw [frA_r (by omega)]; exact h6.cg fun a x y => g a (by omega)
  · rw [frA_r (by omega)]; exact h7.cg (g 31 (by omega))
  · rw [frA_r (by omega)]; exact h9.cg (g 82 (by omega))
theorem RM.fr {M A : aM} {m p q : Int} (h : RM M m A) : RM (up (up M m 34 (frU p q)) m 35 (frD p q)) m (frA A p q) := by
  obtain ⟨⟨h1, h2, h3, ⟨h4, h5, h6, h7⟩, h8, h9, h10, h11, h12⟩, h13⟩ := h
  have g : ∀ a i, (a = m → i ≠ 34 ∧ i ≠ 35) → up (up M m 34 (frU p q)) m 35 (frD p q) a i = M a i := fun a i x => by
    unfold up
    rw [if_neg (fun w => (x w.1).2 w.2), if_neg (fun w => (x w.1).1 w.2)]
  refine ⟨⟨fun i a b => ?_, ?_, fun i a b => ?_, ⟨?_, ?_, ?_, ?_⟩, fun i a b => ?_, fun i a b => ?_, fun i a b => ?_, fun i a b => ?_, ?_⟩, ?_⟩
  · rw [g _ _ (by omega), frA_o (by omega)]; exact h1 i a b
  · rw [g _ _ (by omega), frA_o (by omega)]; exact h2
  · rw [frA_o (by omega)] at b
    rw [g _ _ (by omega), frA_o (by omega)]; exact h3 i a b
  · rw [g _ _ (by omega), frA_o (by omega)]; exact h4
  · rw [g _ _ (by omega), frA_o (by omega)]; exact h5
  · unfold frA; rw [up_i (by omega), up_s, up_i (by omega), up_s]
  · unfold frA; rw [up_s, up_s]
  · rw [g _ _ (by omega), g _ _ (by omega), frA_o (by omega), frA_o (by omega)]; exact h8 i a b
  · rw [g _ _ (by omega), frA_o (by omega)]; exact h9 i a b
  · rw [g _ _ (by omega), frA_o (by omega)]; exact h10 i a b
  · rw [g _ _ (by omega), frA_o (by omega)]; exact h11 i a b
  · rw [g _ _ (by omega)]; exact h12
  · rw [frA_r (by omega)]
    obtain ⟨k1, k2, k3, k4⟩ := h13
    refine ⟨?_, k2.cg fun i => g _ _ (by omega), by rw [g _ _ (by omega)]; exact k3, by rw [g _ _ (by omega)]; exact k4⟩
    rw [g _ _ (by omega)]
    rcases k1 with k1 | ⟨k1, k5⟩
    · exact Or.inl k1
    · exact Or.inr ⟨k1, fun q a b => by rw [g _ _ (by omega), g _ _ (by omega)]; exact k5 q a b⟩
theorem dX11_greatestDivisor_0 : decode cX11_greatestDivisor 0 = .ok (.lload_n 0, 1) := by decide +kernel
theorem dX11_greatestDivisor_1 : decode cX11_greatestDivisor 1 = .ok (.lstore 4, 2) := by decide +kernel
theorem dX11_greatestDivisor_3 : decode cX11_greatestDivisor 3 = .ok (.lload_n 2, 1) := by decide +kernel
theorem dX11_greatestDivisor_4 : decode cX11_greatestDivisor 4 = .ok (.lstore 6, 2) := by decide +kernel
theorem dX11_greatestDivisor_6 : decode cX11_greatestDivisor 6 = .ok (.iconst 0, 1) := by decide +kernel
theorem dX11_greatestDivisor_7 : decode cX11_greatestDivisor 7 = .ok (.istore 8, 2) := by decide +kernel
theorem dX11_greatestDivisor_9 : decode cX11_greatestDivisor 9 = .ok (.iload 8, 2) := by decide +kernel
theorem dX11_greatestDivisor_11 : decode cX11_greatestDivisor 11 = .ok (.sipush 200, 3) := by decide +kernel
theorem dX11_greatestDivisor_14 : decode cX11_greatestDivisor 14 = .ok (.if_icmp .ge 31, 3) := by decide +kernel
theorem dX11_greatestDivisor_17 : decode cX11_greatestDivisor 17 = .ok (.lload 6, 2) := by decide +kernel
theorem dX11_greatestDivisor_19 : decode cX11_greatestDivisor 19 = .ok (.lconst 0, 1) := by decide +kernel
theorem dX11_greatestDivisor_20 : decode cX11_greatestDivisor 20 = .ok (.lcmp, 1) := by decide +kernel
theorem dX11_greatestDivisor_21 : decode cX11_greatestDivisor 21 = .ok (.ifCond .eq 24, 3) := by decide +kernel
theorem dX11_greatestDivisor_24 : decode cX11_greatestDivisor 24 = .ok (.lload 4, 2) := by decide +kernel
theorem dX11_greatestDivisor_26 : decode cX11_greatestDivisor 26 = .ok (.lload 6, 2) := by decide +kernel
theorem dX11_greatestDivisor_28 : decode cX11_greatestDivisor 28 = .ok (.lrem, 1) := by decide +kernel
theorem dX11_greatestDivisor_29 : decode cX11_greatestDivisor 29 = .ok (.lstore 9, 2) := by decide +kernel
theorem dX11_greatestDivisor_31 : decode cX11_greatestDivisor 31 = .ok (.lload 6, 2) := by decide +kernel
theorem dX11_greatestDivisor_33 : decode cX11_greatestDivisor 33 = .ok (.lstore 4, 2) := by decide +kernel
theorem dX11_greatestDivisor_35 : decode cX11_greatestDivisor 35 = .ok (.lload 9, 2) := by decide +kernel
theorem dX11_greatestDivisor_37 : decode cX11_greatestDivisor 37 = .ok (.lstore 6, 2) := by decide +kernel
theorem dX11_greatestDivisor_39 : decode cX11_greatestDivisor 39 = .ok (.iinc 8 1, 3) := by decide +kernel
theorem dX11_greatestDivisor_42 : decode cX11_greatestDivisor 42 = .ok (.goto (-33), 3) := by decide +kernel
theorem dX11_greatestDivisor_45 : decode cX11_greatestDivisor 45 = .ok (.lload 4, 2) := by decide +kernel
theorem dX11_greatestDivisor_47 : decode cX11_greatestDivisor 47 = .ok (.lreturn, 1) := by decide +kernel
theorem dX11_tell_0 : decode cX11_tell 0 = .ok (.lload_n 1, 1) := by decide +kernel
theorem dX11_tell_1 : decode cX11_tell 1 = .ok (.lload_n 3, 1) := by decide +kernel
theorem dX11_tell_2 : decode cX11_tell 2 = .ok (.invokestatic 399, 3) := by decide +kernel
theorem dX11_tell_5 : decode cX11_tell 5 = .ok (.lstore 5, 2) := by decide +kernel
theorem dX11_tell_7 : decode cX11_tell 7 = .ok (.lload 5, 2) := by decide +kernel
theorem dX11_tell_9 : decode cX11_tell 9 = .ok (.lconst 0, 1) := by decide +kernel
theorem dX11_tell_10 : decode cX11_tell 10 = .ok (.lcmp, 1) := by decide +kernel
theorem dX11_tell_11 : decode cX11_tell 11 = .ok (.ifCond .le 19, 3) := by decide +kernel
theorem dX11_tell_14 : decode cX11_tell 14 = .ok (.aload_n 0, 1) := by decide +kernel
theorem dX11_tell_15 : decode cX11_tell 15 = .ok (.lload_n 1, 1) := by decide +kernel
theorem dX11_tell_16 : decode cX11_tell 16 = .ok (.lload 5, 2) := by decide +kernel
theorem dX11_tell_18 : decode cX11_tell 18 = .ok (.ldiv, 1) := by decide +kernel
theorem dX11_tell_19 : decode cX11_tell 19 = .ok (.putfield 221, 3) := by decide +kernel
theorem dX11_tell_22 : decode cX11_tell 22 = .ok (.aload_n 0, 1) := by decide +kernel
theorem dX11_tell_23 : decode cX11_tell 23 = .ok (.lload_n 3, 1) := by decide +kernel
theorem dX11_tell_24 : decode cX11_tell 24 = .ok (.lload 5, 2) := by decide +kernel
theorem dX11_tell_26 : decode cX11_tell 26 = .ok (.ldiv, 1) := by decide +kernel
theorem dX11_tell_27 : decode cX11_tell 27 = .ok (.putfield 225, 3) := by decide +kernel
theorem dX11_tell_30 : decode cX11_tell 30 = .ok (.return_, 1) := by decide +kernel
theorem dX12_fraction_0 : decode cX12_fraction 0 = .ok (.lload_n 1, 1) := by decide +kernel
theorem dX12_fraction_1 : decode cX12_fraction 1 = .ok (.lstore 5, 2) := by decide +kernel
theorem dX12_fraction_3 : decode cX12_fraction 3 = .ok (.lload_n 3, 1) := by decide +kernel
theorem dX12_fraction_4 : decode cX12_fraction 4 = .ok (.lstore 7, 2) := by decide +kernel
theorem dX12_fraction_6 : decode cX12_fraction 6 = .ok (.lload 7, 2) := by decide +kernel
theorem dX12_fraction_8 : decode cX12_fraction 8 = .ok (.lconst 0, 1) := by decide +kernel
theorem dX12_fraction_9 : decode cX12_fraction 9 = .ok (.lcmp, 1) := by decide +kernel
theorem dX12_fraction_10 : decode cX12_fraction 10 = .ok (.ifCond .eq 21, 3) := by decide +kernel
theorem dX12_fraction_13 : decode cX12_fraction 13 = .ok (.lload 5, 2) := by decide +kernel
theorem dX12_fraction_15 : decode cX12_fraction 15 = .ok (.lload 7, 2) := by decide +kernel
theorem dX12_fraction_17 : decode cX12_fraction 17 = .ok (.lrem, 1) := by decide +kernel
theorem dX12_fraction_18 : decode cX12_fraction 18 = .ok (.lstore 9, 2) := by decide +kernel
theorem dX12_fraction_20 : decode cX12_fraction 20 = .ok (.lload 7, 2) := by decide +kernel
theorem dX12_fraction_22 : decode cX12_fraction 22 = .ok (.lstore 5, 2) := by decide +kernel
theorem dX12_fraction_24 : decode cX12_fraction 24 = .ok (.lload 9, 2) := by decide +kernel
theorem dX12_fraction_26 : decode cX12_fraction 26 = .ok (.lstore 7, 2) := by decide +kernel
theorem dX12_fraction_28 : decode cX12_fraction 28 = .ok (.goto (-22), 3) := by decide +kernel
theorem dX12_fraction_31 : decode cX12_fraction 31 = .ok (.aload_n 0, 1) := by decide +kernel
theorem dX12_fraction_32 : decode cX12_fraction 32 = .ok (.lload_n 1, 1) := by decide +kernel
theorem dX12_fraction_33 : decode cX12_fraction 33 = .ok (.lload 5, 2) := by decide +kernel
theorem dX12_fraction_35 : decode cX12_fraction 35 = .ok (.ldiv, 1) := by decide +kernel
theorem dX12_fraction_36 : decode cX12_fraction 36 = .ok (.putfield 339, 3) := by decide +kernel
theorem dX12_fraction_39 : decode cX12_fraction 39 = .ok (.aload_n 0, 1) := by decide +kernel
theorem dX12_fraction_40 : decode cX12_fraction 40 = .ok (.lload_n 3, 1) := by decide +kernel
theorem dX12_fraction_41 : decode cX12_fraction 41 = .ok (.lload 5, 2) := by decide +kernel
theorem dX12_fraction_43 : decode cX12_fraction 43 = .ok (.ldiv, 1) := by decide +kernel
theorem dX12_fraction_44 : decode cX12_fraction 44 = .ok (.putfield 343, 3) := by decide +kernel
theorem dX12_fraction_47 : decode cX12_fraction 47 = .ok (.return_, 1) := by decide +kernel
theorem s_gcdC {l : Launch} {E : aE} {N : Nat} {S : aS} {M : aM} (hfl : l.stackTraces = false) (p q : Int) (hp : 0 ≤ p ∧ p ≤ 9223372036854775807) (hq : 0 ≤ q ∧ q ≤ 9223372036854775807) : aMt l E pX11_greatestDivisor [(1, p), (1, q)] N S M (aR (1, gcdV p q) N S M) := by
  refine a_met hfl rfl (by decide +kernel) (Nat.le_of_ble_eq_true rfl) ?_
  have loop := a_loop3 (fun x y i => (0 ≤ i ∧ i ≤ 200) ∧ (0 ≤ x ∧ x ≤ 9223372036854775807) ∧ (0 ≤ y ∧ y ≤ 9223372036854775807) ∧ gcdV x y = gcdV p q ∧ (1 ≤ i → y ≤ x ∧ x + y ≤ eB (i - 1).toNat)) (fun x y i => (200 - i).toNat) (fun x y i => aX l E pX11_greatestDivisor (aR (1, gcdV p q) N S M) 0 0 N S M 9 [(4, (1, x)), (6, (1, y)), (8, (0, i))] []) (by
    intro x y i hI ih
    obtain ⟨h1, h2, h3, h4, h5⟩ := hI
    refine x_iload (pc := 9) dX11_greatestDivisor_9 rfl ?_
    refine x_sipush (pc := 11) dX11_greatestDivisor_11 (by decide) ?_
    refine x_icmp_ge (tgt := 45) (pc := 14) dX11_greatestDivisor_14 (by decide) (fun c_14 => ?_) (fun c_14 => ?_)
    · refine x_lload (pc := 45) dX11_greatestDivisor_45 rfl ?_
      refine x_lreturn (pc := 47) dX11_greatestDivisor_47 rfl (by decide) ?_
      have h6 := h5 (by omega)
      rw [show (i - 1).toNat = 199 by omega, eB_0] at h6
      have ey : y = 0 := by omega
      rw [ey, gcdV_0 h2.1] at h4
      rw [← h4]
      exact ⟨rfl, rfl, rfl, rfl⟩
    · refine x_lload (pc := 17) dX11_greatestDivisor_17 rfl ?_
      refine x_lconst0 (pc := 19) dX11_greatestDivisor_19 ?_
      refine x_leq (tgt := 45) (pc := 20) dX11_greatestDivisor_20 dX11_greatestDivisor_21 (by decide) (fun c_20 => ?_) (fun c_20 => ?_)
      · refine x_lload (pc := 45) dX11_greatestDivisor_45 rfl ?_
        refine x_lreturn (pc := 47) dX11_greatestDivisor_47 rfl (by decide) ?_
        have ey : y = 0 := by omega
        rw [ey, gcdV_0 h2.1] at h4
        rw [← h4]
        exact ⟨rfl, rfl, rfl, rfl⟩
      · refine x_lload (pc := 24) dX11_greatestDivisor_24 rfl ?_
        refine x_lload (pc := 26) dX11_greatestDivisor_26 rfl ?_
        refine x_lrem (pc := 28) dX11_greatestDivisor_28 (by omega) ?_
        refine x_lstore (pc := 29) dX11_greatestDivisor_29 (by decide) rfl ?_
        refine x_lload (pc := 31) dX11_greatestDivisor_31 rfl ?_
        refine x_lstore (pc := 33) dX11_greatestDivisor_33 (by decide) rfl ?_
        refine x_lload (pc := 35) dX11_greatestDivisor_35 rfl ?_
        refine x_lstore (pc := 37) dX11_greatestDivisor_37 (by decide) rfl ?_
        refine x_iinc (pc := 39) dX11_greatestDivisor_39 rfl (by omega) (by decide) rfl ?_
        refine x_goto (tgt := 9) (pc := 42) dX11_greatestDivisor_42 (by decide) ?_
        have hm : x.tmod y = x % y := Int.tmod_eq_emod_of_nonneg h2.1
        rw [hm]
        have m1 := Int.emod_nonneg x (show y ≠ 0 by omega)
        have m2 := Int.emod_lt_of_pos x (show 0 < y by omega)
        have m3 := Int.mul_ediv_add_emod x y
        have m4 : y ≤ x → x % y ≤ x - y := fun w => by
          have d1 : 1 ≤ x / y := Int.le_ediv_of_mul_le (by omega) (by omega)
          have d2 : y * 1 ≤ y * (x / y) := Int.mul_le_mul_of_nonneg_left d1 (by omega)
          omega
        have m5 : x % y ≤ x := by
          by_cases e : y ≤ x
          · have := m4 e; omega
          · rw [Int.emod_eq_of_lt h2.1 (by omega)]; omega
        refine x_lo (lo' := [(4, (1, y)), (6, (1, x % y)), (8, (0, i + 1))]) ⟨rfl, rfl, rfl, trivial⟩ (ih y (x % y) (i + 1) ⟨by omega, by omega, by omega, (gcdV_step h2.1 (by omega)).trans h4, fun _ => ⟨by omega, ?_⟩⟩ (by omega))
        by_cases e : i = 0
        · subst e
          show y + x % y ≤ ((eB 0 : Nat) : Int)
          have : eB 0 = 18446744073709551616 := rfl
          omega
        · have h6 := h5 (by omega)
          have h7 := m4 h6.1
          rw [show (i + 1 - 1).toNat = (i - 1).toNat + 1 by omega]
          have : eB ((i - 1).toNat + 1) = 3 * eB (i - 1).toNat / 4 := rfl
          omega)
  refine x_lload_n (pc := 0) dX11_greatestDivisor_0 rfl rfl ?_
  refine x_lstore (pc := 1) dX11_greatestDivisor_1 (by decide) rfl ?_
  refine x_lload_n (pc := 3) dX11_greatestDivisor_3 rfl rfl ?_
  refine x_lstore (pc := 4) dX11_greatestDivisor_4 (by decide) rfl ?_
  refine x_iconst (pc := 6) dX11_greatestDivisor_6 (by decide) ?_
  refine x_istore (pc := 7) dX11_greatestDivisor_7 (by decide) rfl ?_
  refine x_lo (lo' := [(4, (1, p)), (6, (1, q)), (8, (0, 0))]) ⟨rfl, rfl, rfl, trivial⟩ (loop (p) (q) (0) ⟨by omega, hp, hq, rfl, fun w => by omega⟩)
theorem s_tell {l : Launch} {E : aE} {N : Nat} {S : aS} {M : aM} (hfl : l.stackTraces = false) (p q : Int) (hC : lyC S) (hp : 0 ≤ p ∧ p ≤ 9223372036854775807) (hq : 0 < q ∧ q ≤ 9223372036854775807) : aMt l E pX11_tell [(2, 0), (1, p), (1, q)] N S M (aU N S (fun M' => M' = up (up M 0 10 (frU p q)) 0 11 (frD p q))) := by
  refine a_met hfl rfl (by decide +kernel) (Nat.le_of_ble_eq_true rfl) ?_
  refine x_lload_n (pc := 0) dX11_tell_0 rfl rfl ?_
  refine x_lload_n (pc := 1) dX11_tell_1 rfl rfl ?_
  have hg := gcdV_pos (a := p) hq.1
  refine x_callS2 (pc := 2) dX11_tell_2 rfl kX11_399 (s_gcdC hfl p q ⟨hp.1, hp.2⟩ ⟨by omega, hq.2⟩) rfl (Nat.le_of_ble_eq_true rfl) (k_R ?_) n_R
  refine x_lstore (pc := 5) dX11_tell_5 (by decide) rfl ?_
  refine x_lload (pc := 7) dX11_tell_7 rfl ?_
  refine x_lconst0 (pc := 9) dX11_tell_9 ?_
  refine x_lle (tgt := 30) (pc := 10) dX11_tell_10 dX11_tell_11 (by decide) (fun c_10 => ?_) (fun c_10 => ?_)
  · refine x_return (pc := 30) dX11_tell_30 rfl (by decide) ?_
    exfalso; omega
  · refine x_aload_n (pc := 14) dX11_tell_14 rfl rfl ?_
    refine x_lload_n (pc := 15) dX11_tell_15 rfl rfl ?_
    refine x_lload (pc := 16) dX11_tell_16 rfl ?_
    refine x_ldiv (pc := 18) dX11_tell_18 (by omega) (by exact tdiv_r hp hg) ?_
    refine x_putJ (jj := 10) (pc := 19) dX11_tell_19 fX11_221 (sC_0 hC) rfl (by decide) rfl ?_
    refine x_aload_n (pc := 22) dX11_tell_22 rfl rfl ?_
    refine x_lload_n (pc := 23) dX11_tell_23 rfl rfl ?_
    refine x_lload (pc := 24) dX11_tell_24 rfl ?_
    refine x_ldiv (pc := 26) dX11_tell_26 (by omega) (by exact tdiv_r ⟨by omega, hq.2⟩ hg) ?_
    refine x_putJ (jj := 11) (pc := 27) dX11_tell_27 fX11_225 (sC_0 hC) rfl (by decide) rfl ?_
    refine x_return (pc := 30) dX11_tell_30 rfl (by decide) ?_
    rw [Int.tdiv_eq_ediv_of_nonneg hp.1, Int.tdiv_eq_ediv_of_nonneg (by omega)]
    exact ⟨rfl, rfl, rfl, rfl⟩
theorem s_fraction {l : Launch} {E : aE} {N : Nat} {S : aS} {M : aM} (hfl : l.stackTraces = false) (m p q : Int) (hS : lyM S m) (hp : 0 ≤ p ∧ p ≤ 9223372036854775807) (hq : 0 < q ∧ q ≤ 9223372036854775807) : aMt l E pX12_fraction [(2, m), (1, p), (1, q)] N S M (aU N S (fun M' => M' = up (up M m 34 (frU p q)) m 35 (frD p q))) := by
  refine a_met hfl rfl (by decide +kernel) (Nat.le_of_ble_eq_true rfl) ?_
  have loop := a_loop2 (fun x y => (0 ≤ x ∧ x ≤ 9223372036854775807) ∧ (0 ≤ y ∧ y ≤ 9223372036854775807) ∧ gcdV x y = gcdV p q) (fun x y => y.toNat) (fun x y => aX l E pX12_fraction (aU N S (fun M' => M' = up (up M m 34 (frU p q)) m 35 (frD p q))) 0 0 N S M 6 [(0, (2, m)), (1, (1, p)), (3, (1, q)), (5, (1, x)), (7, (1, y))] []) (by
    intro x y hI ih
    obtain ⟨h2, h3, h4⟩ := hI
    refine x_lload (pc := 6) dX12_fraction_6 rfl ?_
    refine x_lconst0 (pc := 8) dX12_fraction_8 ?_
    refine x_leq (tgt := 31) (pc := 9) dX12_fraction_9 dX12_fraction_10 (by decide) (fun c_9 => ?_) (fun c_9 => ?_)
    · have ey : y = 0 := by omega
      rw [ey, gcdV_0 h2.1] at h4
      have hg := gcdV_pos (a := p) hq.1
      refine x_aload_n (pc := 31) dX12_fraction_31 rfl rfl ?_
      refine x_lload_n (pc := 32) dX12_fraction_32 rfl rfl ?_
      refine x_lload (pc := 33) dX12_fraction_33 rfl ?_
      refine x_ldiv (pc := 35) dX12_fraction_35 (by omega) (by rw [h4]; exact tdiv_r hp hg) ?_
      refine x_putJ (jj := 34) (pc := 36) dX12_fraction_36 fX12_339 hS.1 rfl (by decide) rfl ?_
      refine x_aload_n (pc := 39) dX12_fraction_39 rfl rfl ?_
      refine x_lload_n (pc := 40) dX12_fraction_40 rfl rfl ?_
      refine x_lload (pc := 41) dX12_fraction_41 rfl ?_
      refine x_ldiv (pc := 43) dX12_fraction_43 (by omega) (by rw [h4]; exact tdiv_r ⟨by omega, hq.2⟩ hg) ?_
      refine x_putJ (jj := 35) (pc := 44) dX12_fraction_44 fX12_343 hS.1 rfl (by decide) rfl ?_
      refine x_return (pc := 47) dX12_fraction_47 rfl (by decide) ?_
      rw [h4, Int.tdiv_eq_ediv_of_nonneg hp.1, Int.tdiv_eq_ediv_of_nonneg (by omega)]
      exact ⟨rfl, rfl, rfl, rfl⟩
    · refine x_lload (pc := 13) dX12_fraction_13 rfl ?_
      refine x_lload (pc := 15) dX12_fraction_15 rfl ?_
      refine x_lrem (pc := 17) dX12_fraction_17 (by omega) ?_
      refine x_lstore (pc := 18) dX12_fraction_18 (by decide) rfl ?_
      refine x_lload (pc := 20) dX12_fraction_20 rfl ?_
      refine x_lstore (pc := 22) dX12_fraction_22 (by decide) rfl ?_
      refine x_lload (pc := 24) dX12_fraction_24 rfl ?_
      refine x_lstore (pc := 26) dX12_fraction_26 (by decide) rfl ?_
      refine x_goto (tgt := 6) (pc := 28) dX12_fraction_28 (by decide) ?_
      have hm : x.tmod y = x % y := Int.tmod_eq_emod_of_nonneg h2.1
      rw [hm]
      have m1 := Int.emod_nonneg x (show y ≠ 0 by omega)
      have m2 := Int.emod_lt_of_pos x (show 0 < y by omega)
      refine x_lo (lo' := [(0, (2, m)), (1, (1, p)), (3, (1, q)), (5, (1, y)), (7, (1, x % y))]) ⟨rfl, rfl, rfl, rfl, rfl, trivial⟩ (ih y (x % y) ⟨by omega, by omega, (gcdV_step h2.1 (by omega)).trans h4⟩ (by omega)))
  refine x_lload_n (pc := 0) dX12_fraction_0 rfl rfl ?_
  refine x_lstore (pc := 1) dX12_fraction_1 (by decide) rfl ?_
  refine x_lload_n (pc := 3) dX12_fraction_3 rfl rfl ?_
  refine x_lstore (pc := 4) dX12_fraction_4 (by decide) rfl ?_
  refine x_lo (lo' := [(0, (2, m)), (1, (1, p)), (3, (1, q)), (5, (1, p)), (7, (1, q))]) ⟨rfl, rfl, rfl, rfl, rfl, trivial⟩ (loop (p) (q) ⟨hp, ⟨by omega, hq.2⟩, rfl⟩)
