/-! calls of the class: sets and groups -/
theorem lyC.gr {S : aS} (hC : lyC S) : lyG S 25 (1 + 1) rC_30 rC_25 rC_34 := ⟨sC_34 hC, ⟨rC_34_0, rC_34_1, rC_34_2, rC_34_3, rC_34_4, rC_34_5⟩, sC_35 hC, sC_36 hC, sC_37 hC, sC_38 hC, sC_39 hC, hC.pl⟩
theorem RC.oz {M A : aM} {N : Nat} {S : aS} (h : RC M N S A) : OZ M 25 := ⟨fun s a b => (h.2.2.2.2.2.2.2.1.1 s a b).1, h.2.2.2.2.2.2.2.1.2.2.2.2.1, h.2.2.2.2.2.2.2.1.2.2.2.2.2.1⟩
theorem RC.gg {M M' A : aM} {N : Nat} {S : aS} (h : RC M N S A) (g : frB M M' 25 (25 + 14)) (hP : RPr M' 25 (A 0)) (hW : RPl M' (25 + 6) (A 0)) (hO : OZ M' 25) : RC M' N S A := by
  obtain ⟨h1, h2, h3, h4, h5, h6, h7, ⟨k1, k2, k3, k4, k5, k6, k7, k8⟩, h9⟩ := h
  exact ⟨h1.cg fun a x y i => g a i (by omega), h2.cg (fun i => g 0 i (by omega)), h3.cg (fun i => g 17 i (by omega)) (fun i => g 18 i (by omega)), h4.cg (fun i => g 105 i (by omega)) (fun i => g 106 i (by omega)) (fun i => g 107 i (by omega)), h5.cg (fun i => g 16 i (by omega)) (fun a x i => g a i (by omega)), hP, hW, ⟨fun s a b => ⟨hO.1 s a b, (g 103 s (by omega)).trans (k1 s a b).2⟩, (g 90 0 (by omega)).trans k2, (g 91 0 (by omega)).trans k3, (g 93 0 (by omega)).trans k4, hO.2.1, hO.2.2, (g 100 0 (by omega)).trans k7, (g 102 0 (by omega)).trans k8⟩, h9.cg (fun i => g 82 i (by omega))⟩
def spLeast (A : aM) (s : Int) : Int × Int × aM := if ¬ (0 < s ∧ s < b_shl 1 (A 0 0)) then (1, 0, A) else (0, totV (costV (A 0)) s, A)
def spGroup (A : aM) (s h : Int) : Int × Int × aM := if ¬ (0 < s ∧ s < b_shl 1 (A 0 0)) then (1, 0, A) else (0, if totE (costV (A 0)) s = -1 then -1 else if h = -1 then manyF (costV (A 0)) 7 s else if isOfV s h = 1 then digV (costV (A 0)) s h else -1, A)
def spCome (A : aM) (s h : Int) : Int × Int × aM := if ¬ (0 ≤ h ∧ h < A 0 0) then (1, 0, A) else if ¬ (0 < s ∧ s < b_shl 1 (A 0 0)) ∨ hb s h = 1 then (2, 0, A) else (0, if totE (costV (A 0)) s = -1 then -1 else comeV (costV (A 0)) s h, A)
def spJoin (A : aM) (x y n : Int) : Int × Int × aM := if ¬ (0 < x ∧ x < b_shl 1 (A 0 0)) ∨ ¬ (0 < y ∧ y < b_shl 1 (A 0 0)) ∨ ¬ (0 ≤ n ∧ n ≤ 100000) ∨ b_and x y ≠ 0 then (1, 0, A) else (0, if totE (costV (A 0)) x = -1 ∨ totE (costV (A 0)) y = -1 then -1000000 else totV (costV (A 0)) x + totV (costV (A 0)) y - totV (costV (A 0)) (b_or x y) - n, A)
theorem totV_or {c : Int → Int} (s : Int) : (totE c s = -1 ∧ totV c s = -1 ∧ encT (totE c s) = 536870912) ∨ (totE c s ≠ -1 ∧ totV c s = totE c s / 2097152 ∧ encT (totE c s) = totE c s / 2097152) := by
  unfold totV encT
  by_cases e : totE c s = -1
  · rw [if_pos e, if_pos e]; exact Or.inl ⟨e, rfl, rfl⟩
  · rw [if_neg e, if_neg e]; exact Or.inr ⟨e, rfl, rfl⟩
theorem b_or_0' {y : Int} (hy : 0 ≤ y ∧ y < 128) : b_or 0 y = y := hb_ext (b_or_lt (by omega) hy) hy fun j a b => by
  rw [hb_or (by omega) hy ⟨a, b⟩]
  exact ⟨fun q => q.elim (fun z => absurd z (hb_0 ⟨a, b⟩)) id, Or.inr⟩
/-- two sets apart that have TOTALS: both together have one -/
theorem tot_or {c : Int → Int} (hc : costs9 c) : ∀ (k : Nat) (x y : Int), (0 ≤ x ∧ x < 128) → (0 ≤ y ∧ y < 128) → b_and x y = 0 → sumN (hb x) 7 + sumN (hb y) 7 ≤ k → totE c x ≠ -1 → totE c y ≠ -1 → totE c (b_or x y) ≠ -1
  | 0, x, y, hx, hy, _, hk, tx, ty => by
    have sx := size_r hx
    have sy := size_r hy
    have ex : x = 0 := by
      by_cases e : x = 0
      · exact e
      · have := size_pos (s := x) (by omega)
        omega
    subst ex
    rw [b_or_0' hy]
    exact ty
  | k + 1, x, y, hx, hy, hxy, hk, tx, ty => by
    by_cases ex : x = 0
    · subst ex
      rw [b_or_0' hy]; exact ty
    by_cases ey : y = 0
    · subst ey
      rw [b_or_0 hx]; exact tx
    have hs := b_or_lt hx hy
    have hap : ∀ j, 0 ≤ j → j < 7 → hb x j = 1 → ¬ hb y j = 1 := fun j a b w w2 => by
      have hz := b_and_lt (x := x) (y := y) hx
      have := (b_zero_iff hz).mp hxy j a b
      exact this ((hb_and hx hy ⟨a, b⟩).mpr ⟨w, w2⟩)
    have hs0 : 0 < b_or x y := by
      obtain ⟨⟨l0, l1⟩, l2, l3⟩ := low_r (s := x) (by omega)
      by_cases e : b_or x y = 0
      · have := (hb_or hx hy ⟨l0, l1⟩).mpr (Or.inl l2)
        rw [e] at this
        exact absurd this (hb_0 ⟨l0, l1⟩)
      · omega
    obtain ⟨⟨l0, l1⟩, l2, l3⟩ := low_r (s := b_or x y) ⟨hs0, hs.2⟩
    -- one of the two has the least one; its first group is a group of both
    have main : ∀ p q, (0 < p ∧ p < 128) → (0 ≤ q ∧ q < 128) → b_or p q = b_or x y → (∀ j, 0 ≤ j → j < 7 → hb p j = 1 → ¬ hb q j = 1) → sumN (hb p) 7 + sumN (hb q) 7 ≤ k + 1 → totE c p ≠ -1 → totE c q ≠ -1 → hb p (lowV (b_or x y)) = 1 → totE c (b_or x y) ≠ -1 := fun p q hp hq e hap hk tp tq hl => by
      obtain ⟨p1, p2, p3, p4, p5, p6, p7, p8⟩ := first_ok hc hp tp
      have hpp := b_xor_lt (x := p) (y := firstG c p) (by omega) (by omega)
      have hsub := (sub_iff (g := firstG c p) (s := p) (by omega) (by omega)).mp p2
      have hgs : b_and (firstG c p) (b_xor (b_or x y) (-1)) = 0 := (sub_iff (by omega) (by omega)).mpr fun j a b w => by
        rw [← e]
        exact (hb_or (by omega) hq ⟨a, b⟩).mpr (Or.inl (hsub j a b w))
      have elow : lowV p = lowV (b_or x y) := by
        obtain ⟨⟨m0, m1⟩, m2, m3⟩ := low_r hp
        by_cases z : lowV p < lowV (b_or x y)
        · exact absurd (by rw [← e]; exact (hb_or (by omega) hq ⟨m0, m1⟩).mpr (Or.inl m2)) (l3 _ m0 z)
        · by_cases z2 : lowV (b_or x y) < lowV p
          · exact absurd hl (m3 _ l0 z2)
          · omega
      have erest : b_xor (b_or x y) (firstG c p) = b_or (b_xor p (firstG c p)) q := hb_ext (b_xor_lt (by omega) (by omega)) (b_or_lt hpp hq) fun j a b => by
        rw [hb_sub (g := firstG c p) (by omega) (by omega) hgs ⟨a, b⟩, hb_or hpp hq ⟨a, b⟩, hb_sub (g := firstG c p) (s := p) (by omega) (by omega) p2 ⟨a, b⟩, ← e, hb_or (by omega) hq ⟨a, b⟩]
        constructor
        · rintro ⟨u | u, v⟩
          · exact Or.inl ⟨u, v⟩
          · exact Or.inr u
        · rintro (⟨u, v⟩ | u)
          · exact ⟨Or.inl u, v⟩
          · exact ⟨Or.inr u, fun v => hap j a b (hsub j a b v) u⟩
      have hxy2 : b_and (b_xor p (firstG c p)) q = 0 := by
        have hz := b_and_lt (x := b_xor p (firstG c p)) (y := q) hpp
        refine (b_zero_iff hz).mpr fun j a b w => ?_
        rw [hb_and hpp hq ⟨a, b⟩, hb_sub (g := firstG c p) (s := p) (by omega) (by omega) p2 ⟨a, b⟩] at w
        exact hap j a b w.1.1 w.2
      have hsz := size_xor p1 hp p2
      have ih := tot_or hc k _ q hpp hq hxy2 (by omega) p5 tq
      rw [← erest] at ih
      have hcand : grpC c (totE c) (b_or x y) (firstG c p) = c (firstG c p) * 2097152 + (totE c (b_xor (b_or x y) (firstG c p)) + onesV (b_xor (b_or x y) (firstG c p))) := if_pos ⟨p1.1, hgs, by rw [← elow]; exact p3, p4, ih⟩
      have hge := totE_nn hc (s := b_xor (b_or x y) (firstG c p)) (b_xor_lt (by omega) (by omega))
      have hon := ones_0 (b_xor (b_or x y) (firstG c p))
      have hcp := hc _ p1.1 p1.2
      rw [totE_1 hc ⟨hs0, hs.2⟩]
      exact (bestL_le (c := grpC c (totE c) (b_or x y)) 128 (fun j a b => grpC_ge hc ⟨hs0, hs.2⟩ ⟨a, by omega⟩) (i := firstG c p) (by omega) (by omega) (by rw [hcand]; omega)).1
    rcases (hb_or hx hy ⟨l0, l1⟩).mp l2 with w | w
    · exact main x y ⟨by omega, hx.2⟩ hy rfl hap (by omega) tx ty w
    · have ec : b_or y x = b_or x y := hb_ext (b_or_lt hy hx) hs fun j a b => by
        rw [hb_or hy hx ⟨a, b⟩, hb_or hx hy ⟨a, b⟩]
        exact ⟨Or.symm, Or.symm⟩
      exact main y x ⟨by omega, hy.2⟩ hx ec (fun j a b u v => hap j a b v u) (by omega) ty tx w
theorem s_Cleast {l : Launch} {E : aE} {N : Nat} {S : aS} {M : aM} (hfl : l.stackTraces = false) (s : Int) (hC : lyC S) (A : aM) (hR : RC M N S A) (hA : TOK (A 0)) (hB : TB (A 0)) : aMt l E pX11_least [(2, 0), (0, s)] N S M (opC M N S 0 (spLeast A s) (fun _ => 0)) := by
  refine a_met hfl rfl (by decide +kernel) (Nat.le_of_ble_eq_true rfl) ?_
  have c0 : M 1 1 = A 0 0 := hR.1.1.1
  have t0 := hA.1
  have t9 := hA.2.2.2.2.2.2.2.2.2.2.2.2.2.2.2.2.2.1
  refine x_aload_n (pc := 0) dX11_least_0 rfl rfl ?_
  refine x_iload_n (pc := 1) dX11_least_1 rfl rfl ?_
  refine x_callV1 (pc := 2) dX11_least_2 rfl kX11_131 (s_needSet hfl _ hC (by omega)) (sC_0 hC) rfl rfl (Nat.le_of_ble_eq_true rfl) (k_N (fun h_2 => ?_)) (n_N (fun h_2 => (by rw [c0] at h_2; have e9 : spLeast A s = (1, 0, A) := (by unfold spLeast; (repeat' split) <;> first | rfl | (exfalso; omega)); rw [e9]; exact ⟨rfl, rfl, fun _ _ _ _ => rfl, hR, Or.inr ⟨show ¬ (1 : Int) = 0 by decide, rfl⟩⟩)))
  rw [c0] at h_2
  have hsl := isSet_lt hA h_2
  refine x_aload_n (pc := 5) dX11_least_5 rfl rfl ?_
  refine x_getR (jj := 5) (pc := 6) dX11_least_6 fX11_54 (sC_0 hC) rfl (by decide) rfl rC_0_5 ?_
  refine x_iload_n (pc := 9) dX11_least_9 rfl rfl ?_
  refine x_callV1 (pc := 10) dX11_least_10 rfl kX11_203 (s_reckon hfl 25 (1 + 1) rC_30 rC_25 rC_34 (A 0) hC.gr (by omega) hA.tq hB hR.1.1 hR.1.2 hR.2.2.2.2.2.1 hR.2.2.2.2.2.2.1 hR.oz s hsl) (sC_34 hC) rfl rfl (Nat.le_of_ble_eq_true rfl) (k_G (fun v9 M9 hM9 => ?_)) n_G
  obtain ⟨rfl, f9, p9, w9, z9, g9⟩ := hM9
  have hR9 := hR.gg f9 p9 w9 z9
  have FC9 : frC M M9 := fun a j x y => f9 a j (by omega)
  have hc := costs_t hA.tq
  refine x_if_eq (tgt := 28) (pc := 13) dX11_least_13 (by decide) (fun c_13 => ?_) (fun c_13 => ?_)
  · have hg1 := (g9 s hsl.1 (Int.le_refl s) (sub_rf (by omega))).1
    have htv := totV_or (c := costV (A 0)) s
    refine x_iconst (pc := 28) dX11_least_28 (by decide) ?_
    refine x_ireturn (pc := 29) dX11_least_29 rfl (by decide) ?_
    have ht9 : totE (costV (A 0)) s = -1 := by
      by_cases q9 : totE (costV (A 0)) s = -1
      · exact q9
      · rw [if_neg q9] at c_13; omega
    have e9 : spLeast A s = (0, totV (costV (A 0)) s, A) := by
      unfold spLeast
      (repeat' split) <;> first | rfl | (exfalso; omega)
    rw [e9]
    rw [show (-1 : Int) = totV (costV (A 0)) s by omega]
    exact ⟨rfl, rfl, FC9, hR9, Or.inl ⟨rfl, rfl⟩⟩
  · have hg1 := (g9 s hsl.1 (Int.le_refl s) (sub_rf (by omega))).1
    have htv := totV_or (c := costV (A 0)) s
    refine x_aload_n (pc := 16) dX11_least_16 rfl rfl ?_
    refine x_getR (jj := 5) (pc := 17) dX11_least_17 fX11_54 (sC_0 hC) rfl (by decide) rfl rC_0_5 ?_
    refine x_getR (jj := 2) (pc := 20) dX11_least_20 fX11_206 (sC_34 hC) rfl (by decide) rfl rC_34_2 ?_
    refine x_iload_n (pc := 23) dX11_least_23 rfl rfl ?_
    refine x_ialoadV (pc := 24) dX11_least_24 (sC_36 hC) (by omega) (by (repeat (first | rewrite [up_s] | rewrite [up_i (by omega)] | rewrite [up_a (by omega)])); first | exact hg1.2.1 | rfl) (fun g_24 => ?_)
    refine x_goto (tgt := 29) (pc := 25) dX11_least_25 (by decide) ?_
    refine x_ireturn (pc := 29) dX11_least_29 rfl (by decide) ?_
    have ht9 : totE (costV (A 0)) s ≠ -1 := fun q9 => by rw [if_pos q9] at c_13; omega
    have e9 : spLeast A s = (0, totV (costV (A 0)) s, A) := by
      unfold spLeast
      (repeat' split) <;> first | rfl | (exfalso; omega)
    rw [e9]
    rw [show encT (totE (costV (A 0)) s) = totV (costV (A 0)) s by omega]
    exact ⟨rfl, rfl, FC9, hR9, Or.inl ⟨rfl, rfl⟩⟩
theorem s_Cgroup {l : Launch} {E : aE} {N : Nat} {S : aS} {M : aM} (hfl : l.stackTraces = false) (s h : Int) (hC : lyC S) (A : aM) (hR : RC M N S A) (hA : TOK (A 0)) (hB : TB (A 0)) : aMt l E pX11_group [(2, 0), (0, s), (0, h)] N S M (opC M N S 0 (spGroup A s h) (fun _ => 0)) := by
  refine a_met hfl rfl (by decide +kernel) (Nat.le_of_ble_eq_true rfl) ?_
  have c0 : M 1 1 = A 0 0 := hR.1.1.1
  have t0 := hA.1
  have t9 := hA.2.2.2.2.2.2.2.2.2.2.2.2.2.2.2.2.2.1
  refine x_aload_n (pc := 0) dX11_group_0 rfl rfl ?_
  refine x_iload_n (pc := 1) dX11_group_1 rfl rfl ?_
  refine x_callV1 (pc := 2) dX11_group_2 rfl kX11_131 (s_needSet hfl _ hC (by omega)) (sC_0 hC) rfl rfl (Nat.le_of_ble_eq_true rfl) (k_N (fun h_2 => ?_)) (n_N (fun h_2 => (by rw [c0] at h_2; have e9 : spGroup A s h = (1, 0, A) := (by unfold spGroup; (repeat' split) <;> first | rfl | (exfalso; omega)); rw [e9]; exact ⟨rfl, rfl, fun _ _ _ _ => rfl, hR, Or.inr ⟨show ¬ (1 : Int) = 0 by decide, rfl⟩⟩)))
  rw [c0] at h_2
  have hsl := isSet_lt hA h_2
  refine x_aload_n (pc := 5) dX11_group_5 rfl rfl ?_
  refine x_getR (jj := 5) (pc := 6) dX11_group_6 fX11_54 (sC_0 hC) rfl (by decide) rfl rC_0_5 ?_
  refine x_iload_n (pc := 9) dX11_group_9 rfl rfl ?_
  refine x_callV1 (pc := 10) dX11_group_10 rfl kX11_203 (s_reckon hfl 25 (1 + 1) rC_30 rC_25 rC_34 (A 0) hC.gr (by omega) hA.tq hB hR.1.1 hR.1.2 hR.2.2.2.2.2.1 hR.2.2.2.2.2.2.1 hR.oz s hsl) (sC_34 hC) rfl rfl (Nat.le_of_ble_eq_true rfl) (k_G (fun v9 M9 hM9 => ?_)) n_G
  obtain ⟨rfl, f9, p9, w9, z9, g9⟩ := hM9
  have hR9 := hR.gg f9 p9 w9 z9
  have FC9 : frC M M9 := fun a j x y => f9 a j (by omega)
  have hc := costs_t hA.tq
  refine x_if_ne (tgt := 18) (pc := 13) dX11_group_13 (by decide) (fun c_13 => ?_) (fun c_13 => ?_)
  · have ht9 : totE (costV (A 0)) s ≠ -1 := fun q9 => by rw [if_pos q9] at c_13; omega
    refine x_iload_n (pc := 18) dX11_group_18 rfl rfl ?_
    refine x_iconst (pc := 19) dX11_group_19 (by decide) ?_
    refine x_icmp_ne (tgt := 34) (pc := 20) dX11_group_20 (by decide) (fun c_20 => ?_) (fun c_20 => ?_)
    · refine x_aload_n (pc := 34) dX11_group_34 rfl rfl ?_
      refine x_getR (jj := 5) (pc := 35) dX11_group_35 fX11_54 (sC_0 hC) rfl (by decide) rfl rC_0_5 ?_
      refine x_iload_n (pc := 38) dX11_group_38 rfl rfl ?_
      refine x_iload_n (pc := 39) dX11_group_39 rfl rfl ?_
      refine x_callV2 (pc := 40) dX11_group_40 rfl kX11_212 (s_numberOf hfl 25 (1 + 1) rC_30 rC_25 rC_34 (A 0) hC.gr hA.tq s hsl ht9 g9 h) (sC_34 hC) rfl rfl (Nat.le_of_ble_eq_true rfl) (k_R ?_) n_R
      refine x_ireturn (pc := 43) dX11_group_43 rfl (by decide) ?_
      have e9 : spGroup A s h = (0, if isOfV s h = 1 then digV (costV (A 0)) s h else -1, A) := by
        unfold spGroup
        rw [if_neg (by omega), if_neg ht9, if_neg (by omega)]
      rw [e9]
      exact ⟨rfl, rfl, FC9, hR9, Or.inl ⟨rfl, rfl⟩⟩
    · refine x_aload_n (pc := 23) dX11_group_23 rfl rfl ?_
      refine x_getR (jj := 5) (pc := 24) dX11_group_24 fX11_54 (sC_0 hC) rfl (by decide) rfl rC_0_5 ?_
      refine x_iload_n (pc := 27) dX11_group_27 rfl rfl ?_
      refine x_callV1 (pc := 28) dX11_group_28 rfl kX11_209 (s_howMany hfl 25 (1 + 1) rC_30 rC_25 rC_34 (A 0) hC.gr hA.tq s hsl ht9 g9) (sC_34 hC) rfl rfl (Nat.le_of_ble_eq_true rfl) (k_R ?_) n_R
      refine x_goto (tgt := 43) (pc := 31) dX11_group_31 (by decide) ?_
      refine x_ireturn (pc := 43) dX11_group_43 rfl (by decide) ?_
      have e9 : spGroup A s h = (0, manyF (costV (A 0)) 7 s, A) := by
        unfold spGroup
        rw [if_neg (by omega), if_neg ht9, if_pos (by omega)]
      rw [e9]
      exact ⟨rfl, rfl, FC9, hR9, Or.inl ⟨rfl, rfl⟩⟩
  · have ht9 : totE (costV (A 0)) s = -1 := by
      by_cases q9 : totE (costV (A 0)) s = -1
      · exact q9
      · rw [if_neg q9] at c_13; omega
    refine x_iconst (pc := 16) dX11_group_16 (by decide) ?_
    refine x_ireturn (pc := 17) dX11_group_17 rfl (by decide) ?_
    have e9 : spGroup A s h = (0, -1, A) := by
      unfold spGroup
      rw [if_neg (by omega), if_pos ht9]
    rw [e9]
    exact ⟨rfl, rfl, FC9, hR9, Or.inl ⟨rfl, rfl⟩⟩
theorem s_Ccome {l : Launch} {E : aE} {N : Nat} {S : aS} {M : aM} (hfl : l.stackTraces = false) (s h : Int) (hC : lyC S) (A : aM) (hR : RC M N S A) (hA : TOK (A 0)) (hB : TB (A 0)) : aMt l E pX11_come [(2, 0), (0, s), (0, h)] N S M (opC M N S 0 (spCome A s h) (fun k => if k = 1 then 2 else 0)) := by
  refine a_met hfl rfl (by decide +kernel) (Nat.le_of_ble_eq_true rfl) ?_
  have c0 : M 1 1 = A 0 0 := hR.1.1.1
  have t0 := hA.1
  have t9 := hA.2.2.2.2.2.2.2.2.2.2.2.2.2.2.2.2.2.1
  refine x_aload_n (pc := 0) dX11_come_0 rfl rfl ?_
  refine x_iload_n (pc := 1) dX11_come_1 rfl rfl ?_
  refine x_callV1 (pc := 2) dX11_come_2 rfl kX11_101 (s_needHouse hfl _ hC) (sC_0 hC) rfl rfl (Nat.le_of_ble_eq_true rfl) (k_N (fun h_2 => ?_)) (n_N (fun h_2 => (by have e9 : spCome A s h = (1, 0, A) := (by unfold spCome; (repeat' split) <;> first | rfl | (exfalso; omega)); rw [e9]; exact ⟨rfl, rfl, fun _ _ _ _ => rfl, hR, Or.inr ⟨show ¬ (1 : Int) = 0 by decide, rfl⟩⟩)))
  refine x_aload_n (pc := 5) dX11_come_5 rfl rfl ?_
  refine x_iload_n (pc := 6) dX11_come_6 rfl rfl ?_
  refine x_callV1 (pc := 7) dX11_come_7 rfl kX11_131 (s_needSet hfl _ hC (by omega)) (sC_0 hC) rfl rfl (Nat.le_of_ble_eq_true rfl) (k_N (fun h_7 => ?_)) (n_N (fun h_7 => (by rw [c0] at h_7; have e9 : spCome A s h = (2, 0, A) := (by unfold spCome; (repeat' split) <;> first | rfl | (exfalso; omega)); rw [e9]; exact ⟨rfl, rfl, fun _ _ _ _ => rfl, hR, Or.inr ⟨show ¬ (2 : Int) = 0 by decide, rfl⟩⟩)))
  rw [c0] at h_7
  have hsl := isSet_lt hA h_7
  refine x_iload_n (pc := 10) dX11_come_10 rfl rfl ?_
  refine x_iload_n (pc := 11) dX11_come_11 rfl rfl ?_
  refine x_callS2 (pc := 12) dX11_come_12 rfl kX11_121 (s_isOf hfl _ _) rfl (Nat.le_of_ble_eq_true rfl) (k_R ?_) n_R
  have his := isOf_iff (x := s) (h := h) (by omega)
  have his1 := isOfV01 s h
  refine x_if_eq (tgt := 26) (pc := 15) dX11_come_15 (by decide) (fun c_15 => ?_) (fun c_15 => ?_)
  · refine x_aload_n (pc := 26) dX11_come_26 rfl rfl ?_
    refine x_getR (jj := 5) (pc := 27) dX11_come_27 fX11_54 (sC_0 hC) rfl (by decide) rfl rC_0_5 ?_
    refine x_iload_n (pc := 30) dX11_come_30 rfl rfl ?_
    refine x_callV1 (pc := 31) dX11_come_31 rfl kX11_203 (s_reckon hfl 25 (1 + 1) rC_30 rC_25 rC_34 (A 0) hC.gr (by omega) hA.tq hB hR.1.1 hR.1.2 hR.2.2.2.2.2.1 hR.2.2.2.2.2.2.1 hR.oz s hsl) (sC_34 hC) rfl rfl (Nat.le_of_ble_eq_true rfl) (k_G (fun v9 M9 hM9 => ?_)) n_G
    obtain ⟨rfl, f9, p9, w9, z9, g9⟩ := hM9
    have hR9 := hR.gg f9 p9 w9 z9
    have FC9 : frC M M9 := fun a j x y => f9 a j (by omega)
    have hc := costs_t hA.tq
    refine x_if_eq (tgt := 49) (pc := 34) dX11_come_34 (by decide) (fun c_34 => ?_) (fun c_34 => ?_)
    · have ht9 : totE (costV (A 0)) s = -1 := by
        by_cases q9 : totE (costV (A 0)) s = -1
        · exact q9
        · rw [if_neg q9] at c_34; omega
      refine x_iconst (pc := 49) dX11_come_49 (by decide) ?_
      refine x_ireturn (pc := 50) dX11_come_50 rfl (by decide) ?_
      have e9 : spCome A s h = (0, -1, A) := by
        unfold spCome
        rw [if_neg (by omega), if_neg (by omega), if_pos ht9]
      rw [e9]
      exact ⟨rfl, rfl, FC9, hR9, Or.inl ⟨rfl, rfl⟩⟩
    · have ht9 : totE (costV (A 0)) s ≠ -1 := fun q9 => by rw [if_pos q9] at c_34; omega
      refine x_aload_n (pc := 37) dX11_come_37 rfl rfl ?_
      refine x_getR (jj := 5) (pc := 38) dX11_come_38 fX11_54 (sC_0 hC) rfl (by decide) rfl rC_0_5 ?_
      refine x_iload_n (pc := 41) dX11_come_41 rfl rfl ?_
      refine x_iload_n (pc := 42) dX11_come_42 rfl rfl ?_
      refine x_callV2 (pc := 43) dX11_come_43 rfl kX11_215 (s_placeFor hfl 25 (1 + 1) rC_30 rC_25 rC_34 (A 0) hC.gr (by omega) hA.tq hB hR9.1.1 hR9.1.2 p9 w9 s h hsl ⟨by omega, by omega⟩ ht9 g9) (sC_34 hC) rfl rfl (Nat.le_of_ble_eq_true rfl) (k_G (fun v8 M8 hM8 => ?_)) n_G
      obtain ⟨rfl, f8, p8, w8⟩ := hM8
      have hR8 := hR9.pp f8 p8 w8
      have FC8 : frC M M8 := fun a j x y => (f8 a j (by omega)).trans (FC9 a j x y)
      refine x_goto (tgt := 50) (pc := 46) dX11_come_46 (by decide) ?_
      refine x_ireturn (pc := 50) dX11_come_50 rfl (by decide) ?_
      have e9 : spCome A s h = (0, comeV (costV (A 0)) s h, A) := by
        unfold spCome
        rw [if_neg (by omega), if_neg (by omega), if_neg ht9]
      rw [e9]
      exact ⟨rfl, rfl, FC8, hR8, Or.inl ⟨rfl, rfl⟩⟩
  · refine x_throw (pc := 18) thX11_148_150 rfl trivial dX11_come_18 dX11_come_21 dX11_come_22 dX11_come_25 (by decide) ?_
    have e9 : spCome A s h = (2, 0, A) := by
      unfold spCome
      rw [if_neg (by omega), if_pos (by omega)]
    rw [e9]
    exact ⟨rfl, rfl, fun _ _ _ _ => rfl, hR, Or.inr ⟨show ¬ (2 : Int) = 0 by decide, rfl⟩⟩
theorem s_Cjoin {l : Launch} {E : aE} {N : Nat} {S : aS} {M : aM} (hfl : l.stackTraces = false) (x y n : Int) (hC : lyC S) (A : aM) (hR : RC M N S A) (hA : TOK (A 0)) (hB : TB (A 0)) : aMt l E pX11_join [(2, 0), (0, x), (0, y), (0, n)] N S M (opC M N S 0 (spJoin A x y n) (fun _ => 0)) := by
  refine a_met hfl rfl (by decide +kernel) (Nat.le_of_ble_eq_true rfl) ?_
  have c0 : M 1 1 = A 0 0 := hR.1.1.1
  have t0 := hA.1
  have t9 := hA.2.2.2.2.2.2.2.2.2.2.2.2.2.2.2.2.2.1
  refine x_aload_n (pc := 0) dX11_join_0 rfl rfl ?_
  refine x_iload_n (pc := 1) dX11_join_1 rfl rfl ?_
  refine x_callV1 (pc := 2) dX11_join_2 rfl kX11_131 (s_needSet hfl _ hC (by omega)) (sC_0 hC) rfl rfl (Nat.le_of_ble_eq_true rfl) (k_N (fun h_2 => ?_)) (n_N (fun h_2 => (by rw [c0] at h_2; have e9 : spJoin A x y n = (1, 0, A) := (by unfold spJoin; (repeat' split) <;> first | rfl | (exfalso; omega)); rw [e9]; exact ⟨rfl, rfl, fun _ _ _ _ => rfl, hR, Or.inr ⟨show ¬ (1 : Int) = 0 by decide, rfl⟩⟩)))
  rw [c0] at h_2
  have h1s := isSet_lt hA h_2
  refine x_aload_n (pc := 5) dX11_join_5 rfl rfl ?_
  refine x_iload_n (pc := 6) dX11_join_6 rfl rfl ?_
  refine x_callV1 (pc := 7) dX11_join_7 rfl kX11_131 (s_needSet hfl _ hC (by omega)) (sC_0 hC) rfl rfl (Nat.le_of_ble_eq_true rfl) (k_N (fun h_7 => ?_)) (n_N (fun h_7 => (by rw [c0] at h_7; have e9 : spJoin A x y n = (1, 0, A) := (by unfold spJoin; (repeat' split) <;> first | rfl | (exfalso; omega)); rw [e9]; exact ⟨rfl, rfl, fun _ _ _ _ => rfl, hR, Or.inr ⟨show ¬ (1 : Int) = 0 by decide, rfl⟩⟩)))
  rw [c0] at h_7
  have h2s := isSet_lt hA h_7
  refine x_aload_n (pc := 10) dX11_join_10 rfl rfl ?_
  refine x_iload_n (pc := 11) dX11_join_11 rfl rfl ?_
  refine x_iconst (pc := 12) dX11_join_12 (by decide) ?_
  refine x_ldc (n := 100000) (pc := 13) cX11_218 (by decide) dX11_join_13 ?_
  refine x_callV3 (pc := 15) dX11_join_15 rfl kX11_175 (s_needWithin hfl _ _ _) (sC_0 hC) rfl rfl (Nat.le_of_ble_eq_true rfl) (k_N (fun h_15 => ?_)) (n_N (fun h_15 => (by have e9 : spJoin A x y n = (1, 0, A) := (by unfold spJoin; (repeat' split) <;> first | rfl | (exfalso; omega)); rw [e9]; exact ⟨rfl, rfl, fun _ _ _ _ => rfl, hR, Or.inr ⟨show ¬ (1 : Int) = 0 by decide, rfl⟩⟩)))
  refine x_iload_n (pc := 18) dX11_join_18 rfl rfl ?_
  refine x_iload_n (pc := 19) dX11_join_19 rfl rfl ?_
  refine x_iand (pc := 20) dX11_join_20 ?_
  refine x_if_eq (tgt := 32) (pc := 21) dX11_join_21 (by decide) (fun c_21 => ?_) (fun c_21 => ?_)
  · refine x_aload_n (pc := 32) dX11_join_32 rfl rfl ?_
    refine x_getR (jj := 5) (pc := 33) dX11_join_33 fX11_54 (sC_0 hC) rfl (by decide) rfl rC_0_5 ?_
    refine x_iload_n (pc := 36) dX11_join_36 rfl rfl ?_
    refine x_iload_n (pc := 37) dX11_join_37 rfl rfl ?_
    refine x_ior (pc := 38) dX11_join_38 ?_
    have hz9 := b_or_lt (x := x) (y := y) (by omega) (by omega)
    have hxs : b_and x (b_xor (b_or x y) (-1)) = 0 := (sub_iff (by omega) hz9).mpr fun j a b w => (hb_or (by omega) (by omega) ⟨a, b⟩).mpr (Or.inl w)
    have hys : b_and y (b_xor (b_or x y) (-1)) = 0 := (sub_iff (by omega) hz9).mpr fun j a b w => (hb_or (by omega) (by omega) ⟨a, b⟩).mpr (Or.inr w)
    have hxl := sub_le (by omega) hz9 hxs
    have hyl := sub_le (by omega) hz9 hys
    refine x_callV1 (pc := 39) dX11_join_39 rfl kX11_203 (s_reckon hfl 25 (1 + 1) rC_30 rC_25 rC_34 (A 0) hC.gr (by omega) hA.tq hB hR.1.1 hR.1.2 hR.2.2.2.2.2.1 hR.2.2.2.2.2.2.1 hR.oz (b_or x y) ⟨by omega, hz9.2⟩) (sC_34 hC) rfl rfl (Nat.le_of_ble_eq_true rfl) (k_G (fun v9 M9 hM9 => ?_)) n_G
    obtain ⟨rfl, f9, p9, w9, z9, g9⟩ := hM9
    have hR9 := hR.gg f9 p9 w9 z9
    have FC9 : frC M M9 := fun a j x y => f9 a j (by omega)
    have hc := costs_t hA.tq
    have hgx := (g9 x h1s.1 hxl hxs).1
    have hgy := (g9 y h2s.1 hyl hys).1
    have hgz := (g9 (b_or x y) (by omega) (Int.le_refl _) (sub_rf hz9)).1
    have htx := totV_or (c := costV (A 0)) x
    have hty := totV_or (c := costV (A 0)) y
    have htz := totV_or (c := costV (A 0)) (b_or x y)
    have hlx := totE_lt hc (s := x) (by omega)
    have hly := totE_lt hc (s := y) (by omega)
    have hlz := totE_lt hc hz9
    have htt := tot_or hc 14 x y (by omega) (by omega)
    refine x_pop (pc := 42) dX11_join_42 rfl ?_
    refine x_aload_n (pc := 43) dX11_join_43 rfl rfl ?_
    refine x_getR (jj := 5) (pc := 44) dX11_join_44 fX11_54 (sC_0 hC) rfl (by decide) rfl rC_0_5 ?_
    refine x_getR (jj := 2) (pc := 47) dX11_join_47 fX11_206 (sC_34 hC) rfl (by decide) rfl rC_34_2 ?_
    refine x_iload_n (pc := 50) dX11_join_50 rfl rfl ?_
    refine x_ialoadV (pc := 51) dX11_join_51 (sC_36 hC) (by omega) (by (repeat (first | rewrite [up_s] | rewrite [up_i (by omega)] | rewrite [up_a (by omega)])); first | exact hgx.2.1 | exact hgy.2.1 | exact hgz.2.1 | rfl) (fun g_51 => ?_)
    refine x_aload_n (pc := 52) dX11_join_52 rfl rfl ?_
    refine x_getR (jj := 5) (pc := 53) dX11_join_53 fX11_54 (sC_0 hC) rfl (by decide) rfl rC_0_5 ?_
    refine x_getR (jj := 2) (pc := 56) dX11_join_56 fX11_206 (sC_34 hC) rfl (by decide) rfl rC_34_2 ?_
    refine x_iload_n (pc := 59) dX11_join_59 rfl rfl ?_
    refine x_ialoadV (pc := 60) dX11_join_60 (sC_36 hC) (by omega) (by (repeat (first | rewrite [up_s] | rewrite [up_i (by omega)] | rewrite [up_a (by omega)])); first | exact hgx.2.1 | exact hgy.2.1 | exact hgz.2.1 | rfl) (fun g_60 => ?_)
    refine x_iadd (pc := 61) dX11_join_61 (by omega) ?_
    refine x_istore (pc := 62) dX11_join_62 (by decide) rfl ?_
    refine x_iload (pc := 64) dX11_join_64 rfl ?_
    refine x_ldc (n := 536870912) (pc := 66) cX11_219 (by decide) dX11_join_66 ?_
    refine x_icmp_lt (tgt := 76) (pc := 68) dX11_join_68 (by decide) (fun c_68 => ?_) (fun c_68 => ?_)
    · have hsx := size_r (set := x) (by omega)
      have hsy := size_r (set := y) (by omega)
      have htt2 : totE (costV (A 0)) (b_or x y) ≠ -1 := htt (by assumption) (by omega) (by omega) (by omega)
      refine x_iload (pc := 76) dX11_join_76 rfl ?_
      refine x_aload_n (pc := 78) dX11_join_78 rfl rfl ?_
      refine x_getR (jj := 5) (pc := 79) dX11_join_79 fX11_54 (sC_0 hC) rfl (by decide) rfl rC_0_5 ?_
      refine x_getR (jj := 2) (pc := 82) dX11_join_82 fX11_206 (sC_34 hC) rfl (by decide) rfl rC_34_2 ?_
      refine x_iload_n (pc := 85) dX11_join_85 rfl rfl ?_
      refine x_iload_n (pc := 86) dX11_join_86 rfl rfl ?_
      refine x_ior (pc := 87) dX11_join_87 ?_
      refine x_ialoadV (pc := 88) dX11_join_88 (sC_36 hC) (by omega) (by (repeat (first | rewrite [up_s] | rewrite [up_i (by omega)] | rewrite [up_a (by omega)])); first | exact hgx.2.1 | exact hgy.2.1 | exact hgz.2.1 | rfl) (fun g_88 => ?_)
      refine x_isub (pc := 89) dX11_join_89 (by omega) ?_
      refine x_iload_n (pc := 90) dX11_join_90 rfl rfl ?_
      refine x_isub (pc := 91) dX11_join_91 (by omega) ?_
      refine x_ireturn (pc := 92) dX11_join_92 rfl (by decide) ?_
      have e9 : spJoin A x y n = (0, totV (costV (A 0)) x + totV (costV (A 0)) y - totV (costV (A 0)) (b_or x y) - n, A) := by
        unfold spJoin
        rw [if_neg (by omega), if_neg (by omega)]
      rw [e9, show encT (totE (costV (A 0)) x) + encT (totE (costV (A 0)) y) - encT (totE (costV (A 0)) (b_or x y)) - n = totV (costV (A 0)) x + totV (costV (A 0)) y - totV (costV (A 0)) (b_or x y) - n by omega]
      exact ⟨rfl, rfl, FC9, hR9, Or.inl ⟨rfl, rfl⟩⟩
    · refine x_ldc (n := -1000000) (pc := 71) cX11_220 (by decide) dX11_join_71 ?_
      refine x_goto (tgt := 92) (pc := 73) dX11_join_73 (by decide) ?_
      refine x_ireturn (pc := 92) dX11_join_92 rfl (by decide) ?_
      have e9 : spJoin A x y n = (0, -1000000, A) := by
        unfold spJoin
        rw [if_neg (by omega), if_pos (by omega)]
      rw [e9]
      exact ⟨rfl, rfl, FC9, hR9, Or.inl ⟨rfl, rfl⟩⟩
  · refine x_throw (pc := 24) thX11_148_150 rfl trivial dX11_join_24 dX11_join_27 dX11_join_28 dX11_join_31 (by decide) ?_
    have e9 : spJoin A x y n = (1, 0, A) := by
      unfold spJoin
      rw [if_pos (by omega)]
    rw [e9]
    exact ⟨rfl, rfl, fun _ _ _ _ => rfl, hR, Or.inr ⟨show ¬ (1 : Int) = 0 by decide, rfl⟩⟩
