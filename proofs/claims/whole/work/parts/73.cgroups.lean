/-! the class's groups: at b + 9, with plans at b + 5 -/
def lyG (S : aS) (b u : Int) (r rb rg : Int → Int) : Prop := S (b + 9) = (1, 6, rg) ∧ (rg 0 = b + 5 ∧ rg 1 = b + 10 ∧ rg 2 = b + 11 ∧ rg 3 = b + 12 ∧ rg 4 = b + 13 ∧ rg 5 = b + 14) ∧ S (b + 10) = (13, 128, rN) ∧ S (b + 11) = (13, 128, rN) ∧ S (b + 12) = (13, 128, rN) ∧ S (b + 13) = (13, 128, rN) ∧ S (b + 14) = (13, 128, rN) ∧ lyL S b u r rb
def encT (v : Int) : Int := if v = -1 then 536870912 else v / 2097152
def encR (v : Int) : Int := if v = -1 then 0 else v % 2097152
theorem encT_or (v : Int) : (v = -1 ∧ encT v = 536870912 ∧ encR v = 0) ∨ (v ≠ -1 ∧ encT v = v / 2097152 ∧ encR v = v % 2097152) := by
  unfold encT encR
  by_cases e : v = -1
  · rw [if_pos e, if_pos e]; exact Or.inl ⟨e, rfl, rfl⟩
  · rw [if_neg e, if_neg e]; exact Or.inr ⟨e, rfl, rfl⟩
/-- what stands of a set -/
def GO (M : aM) (b : Int) (c : Int → Int) (s : Int) : Prop := M (b + 10) s = c s ∧ M (b + 11) s = encT (totE c s) ∧ M (b + 13) s = encR (totE c s) ∧ (totE c s ≠ -1 → M (b + 12) s = firstG c s)
def OZ (M : aM) (b : Int) : Prop := (∀ s, 0 ≤ s → s < 128 → M (b + 14) s = onesV s) ∧ M (b + 11) 0 = 0 ∧ M (b + 13) 0 = 0
theorem ones_d (s : Int) : onesV s = dgt s (fun _ => 1) 0 * 262144 + dgt s (fun _ => 1) 1 * 32768 + dgt s (fun _ => 1) 2 * 4096 + dgt s (fun _ => 1) 3 * 512 + dgt s (fun _ => 1) 4 * 64 + dgt s (fun _ => 1) 5 * 8 + dgt s (fun _ => 1) 6 := by
  rw [← rowN_d]
  refine sumN_congr fun i a b => ?_
  by_cases e : hb s i = 1
  · rw [if_pos e, if_pos e]
    show b_shl 1 ((6 - i) * 3) = 1 * wt i
    unfold wt
    omega
  · rw [if_neg e, if_neg e]
theorem row_ones {s : Int} {ρ : Int → Int} {n : Nat} (h : RG s ρ n) : rowN s ρ + onesV s < 2097152 := by
  have d0 := dgt_r h (i := 0) (by omega)
  have d1 := dgt_r h (i := 1) (by omega)
  have d2 := dgt_r h (i := 2) (by omega)
  have d3 := dgt_r h (i := 3) (by omega)
  have d4 := dgt_r h (i := 4) (by omega)
  have d5 := dgt_r h (i := 5) (by omega)
  have d6 := dgt_r h (i := 6) (by omega)
  have g : ∀ i, 0 ≤ dgt s (fun _ => 1) i ∧ dgt s (fun _ => 1) i ≤ 1 := fun i => by
    show 0 ≤ (if hb s i = 1 then (1 : Int) else 0) ∧ (if hb s i = 1 then (1 : Int) else 0) ≤ 1
    split <;> omega
  have g0 := g 0
  have g1 := g 1
  have g2 := g 2
  have g3 := g 3
  have g4 := g 4
  have g5 := g 5
  have g6 := g 6
  rw [rowN_d, ones_d]
  omega
/-- sums of costs are not too great -/
theorem gsum_r {c : Int → Int} (hc : costs9 c) {s : Int} {ρ : Int → Int} {n : Nat} (h : OKR c s ρ n) : 0 ≤ gsum c s ρ n ∧ gsum c s ρ n ≤ 1634094 := by
  have hn : (n : Int) ≤ 7 := by
    by_cases e : (n : Int) ≤ 7
    · exact e
    · obtain ⟨j, j0, j1, j2, j3⟩ := h.1.2 7 (by omega) (by omega)
      have := h.1.le 7 j j0 (by omega) j1 j2
      omega
  have z := sumN_le (f := fun g => c (grp s ρ g)) (c := 233442) (n := n) (fun j a b => by
    have g0 := grp_lt (s := s) (ρ := ρ) (g := j)
    have g1 : 0 < grp s ρ j := by
      by_cases e : grp s ρ j = 0
      · obtain ⟨i, i0, i1, i2, i3⟩ := h.1.2 j a b
        have := (grp_hb (s := s) (ρ := ρ) (g := j) ⟨i0, i1⟩).mpr ⟨i2, i3⟩
        rw [e] at this
        exact absurd this (hb_0 ⟨i0, i1⟩)
      · omega
    rcases hc _ g1 g0.2 with w | w
    · exact absurd w (h.2 j a b)
    · exact w)
  have e : gsum c s ρ n = sumN (fun g => c (grp s ρ g)) n := rfl
  omega
theorem totE_lt {c : Int → Int} (hc : costs9 c) {s : Int} (hs : 0 ≤ s ∧ s < 128) : totE c s = -1 ∨ (0 ≤ totE c s ∧ totE c s / 2097152 ≤ 1634094 ∧ totE c s % 2097152 + onesV s < 2097152) := by
  by_cases e : totE c s = -1
  · exact Or.inl e
  · right
    obtain ⟨n, h1, h2⟩ := dig_ok hc hs e
    have g := gsum_r hc h1
    have r := rowN_r h1.1
    have r2 := row_ones h1.1
    have v : valR c s (digV c s) n = gsum c s (digV c s) n * 2097152 + rowN s (digV c s) := rfl
    rw [h2] at v
    omega
/-- if a group gives the least it is the first one -/
theorem first_eq {c : Int → Int} (hc : costs9 c) {s f : Int} (hs : 0 < s ∧ s < 128) (hf : 0 ≤ f ∧ f < 128) (ht : totE c s ≠ -1) (h : grpC c (totE c) s f = totE c s) : f = firstG c s := by
  have hq : 0 < f ∧ b_and f (b_xor s (-1)) = 0 ∧ hb f (lowV s) = 1 ∧ c f ≠ -1 ∧ totE c (b_xor s f) ≠ -1 := by
    unfold grpC at h
    split at h
    · assumption
    · exact absurd h.symm ht
  have e : grpC c (totE c) s f = c f * 2097152 + (totE c (b_xor s f) + onesV (b_xor s f)) := if_pos hq
  obtain ⟨q1, q2, q3, q4, q5⟩ := hq
  have hx := b_xor_lt (x := s) (y := f) (by omega) (by omega)
  obtain ⟨m, h1, h2⟩ := dig_ok hc hx q5
  obtain ⟨w1, w2, w3⟩ := OKR.cons hs ⟨q1, hf.2⟩ q2 q3 q4 h1
  rw [h2, ← e, h] at w3
  refine w2.symm.trans (hb_ext (y := grp s (digV c s) 0) grp_lt grp_lt fun j a b => ?_)
  rw [grp_hb ⟨a, b⟩, grp_hb ⟨a, b⟩]
  have y := dig_row (c := c) w1.1 (i := j) ⟨a, b⟩
  rw [w3] at y
  have y2 : digV c s j = dgt s (fun h => if hb f h = 1 then 0 else digV c (b_xor s f) h + 1) j := y
  unfold dgt at y2
  constructor
  · rintro ⟨u, v⟩
    rw [if_pos u] at y2
    exact ⟨u, y2.trans v⟩
  · rintro ⟨u, v⟩
    rw [if_pos u] at y2
    exact ⟨u, y2.symm.trans v⟩
/-- the best above lo -/
def isB (f : Int → Int) (lo B : Int) : Prop := (B = -1 ∧ ∀ x, lo < x → x < 128 → f x = -1) ∨ (B ≠ -1 ∧ (∃ x, lo < x ∧ x < 128 ∧ f x = B) ∧ ∀ x, lo < x → x < 128 → f x ≠ -1 → B ≤ f x)
theorem isB.next {f : Int → Int} {lo nx B : Int} (h : isB f lo B) (hn : nx < lo) (hl : lo < 128) (hz : ∀ x, nx < x → x < lo → f x = -1) : isB f nx (omin B (f lo)) := by
  have tri : ∀ x, nx < x → x < 128 → (x < lo ∧ f x = -1) ∨ x = lo ∨ lo < x := fun x a b => by
    by_cases p : x < lo
    · exact Or.inl ⟨p, hz x a p⟩
    · omega
  unfold omin
  rcases h with ⟨h1, h2⟩ | ⟨h1, ⟨y, y0, y1, y2⟩, h2⟩
  · rw [if_pos h1]
    by_cases e : f lo = -1
    · refine Or.inl ⟨e, fun x a b => ?_⟩
      rcases tri x a b with p | p | p
      · exact p.2
      · rw [p]; exact e
      · exact h2 x p b
    · refine Or.inr ⟨e, ⟨lo, hn, hl, rfl⟩, fun x a b w => ?_⟩
      rcases tri x a b with p | p | p
      · exact absurd p.2 w
      · rw [p]; exact Int.le_refl _
      · exact absurd (h2 x p b) w
  · rw [if_neg h1]
    by_cases e : f lo = -1
    · rw [if_pos e]
      refine Or.inr ⟨h1, ⟨y, by omega, y1, y2⟩, fun x a b w => ?_⟩
      rcases tri x a b with p | p | p
      · exact absurd p.2 w
      · rw [p] at w; exact absurd e w
      · exact h2 x p b w
    · rw [if_neg e]
      by_cases k : B ≤ f lo
      · rw [Int.min_eq_left k]
        refine Or.inr ⟨h1, ⟨y, by omega, y1, y2⟩, fun x a b w => ?_⟩
        rcases tri x a b with p | p | p
        · exact absurd p.2 w
        · rw [p]; exact k
        · exact h2 x p b w
      · rw [Int.min_eq_right (by omega)]
        refine Or.inr ⟨e, ⟨lo, hn, hl, rfl⟩, fun x a b w => ?_⟩
        rcases tri x a b with p | p | p
        · exact absurd p.2 w
        · rw [p]; exact Int.le_refl _
        · have := h2 x p b w
          omega
theorem isB.fin {f : Int → Int} {B : Int} (h : isB f 0 B) (h0 : f 0 = -1) (hge : ∀ x, 0 ≤ x → x < 128 → -1 ≤ f x) : B = bestL f 128 := by
  rcases bestL_or (c := f) 128 with ⟨b1, b2⟩ | ⟨i, i0, i1, i2, i3⟩
  · rcases h with ⟨h1, _⟩ | ⟨h1, ⟨y, y0, y1, y2⟩, _⟩
    · rw [h1, b1]
    · exact absurd (y2.symm.trans (b2 y (by omega) (by omega))) h1
  · have ip : 0 < i := by
      by_cases e : i = 0
      · rw [e] at i3; exact absurd h0 i3
      · omega
    rcases h with ⟨h1, h2⟩ | ⟨h1, ⟨y, y0, y1, y2⟩, h2⟩
    · exact absurd (h2 i ip (by omega)) i3
    · have a := h2 i ip (by omega) i3
      have b := bestL_le (c := f) 128 (fun j x y => hge j x (by omega)) (i := y) (by omega) (by omega) (by rw [y2]; exact h1)
      omega
theorem low_bit {s : Int} (hs : 0 < s ∧ s < 128) : b_and s (-s) = b_shl 1 (lowV s) := by
  have z := bt_fin (n := 128) (m := 1) (P := fun s _ => s = 0 ∨ b_and s (-s) = b_shl 1 (lowV s)) (by decide +kernel) (a := s) (by omega) (b := 0) (by omega)
  omega
theorem and_bit {g l : Int} (hg : 0 ≤ g ∧ g < 128) (hl : 0 ≤ l ∧ l < 7) : b_and g (b_shl 1 l) = 0 ↔ ¬ hb g l = 1 := by
  have hz := b_and_lt (x := g) (y := b_shl 1 l) hg
  rw [b_zero_iff hz]
  constructor
  · intro q w
    exact q l hl.1 hl.2 ((hb_and hg (b_shl1_lt hl) hl).mpr ⟨w, (hb_shl1 hl hl).mpr rfl⟩)
  · intro q h a b w
    rw [hb_and hg (b_shl1_lt hl) ⟨a, b⟩, hb_shl1 hl ⟨a, b⟩] at w
    rw [w.2] at w
    exact q w.1
theorem dX1_reckon_0 : decode cX1_reckon 0 = .ok (.iconst 1, 1) := by decide +kernel
theorem dX1_reckon_1 : decode cX1_reckon 1 = .ok (.istore_n 2, 1) := by decide +kernel
theorem dX1_reckon_2 : decode cX1_reckon 2 = .ok (.iload_n 2, 1) := by decide +kernel
theorem dX1_reckon_3 : decode cX1_reckon 3 = .ok (.iload_n 1, 1) := by decide +kernel
theorem dX1_reckon_4 : decode cX1_reckon 4 = .ok (.if_icmp .gt 36, 3) := by decide +kernel
theorem dX1_reckon_7 : decode cX1_reckon 7 = .ok (.iload_n 2, 1) := by decide +kernel
theorem dX1_reckon_8 : decode cX1_reckon 8 = .ok (.iload_n 1, 1) := by decide +kernel
theorem dX1_reckon_9 : decode cX1_reckon 9 = .ok (.iconst (-1), 1) := by decide +kernel
theorem dX1_reckon_10 : decode cX1_reckon 10 = .ok (.ixor, 1) := by decide +kernel
theorem dX1_reckon_11 : decode cX1_reckon 11 = .ok (.iand, 1) := by decide +kernel
theorem dX1_reckon_12 : decode cX1_reckon 12 = .ok (.ifCond .ne 22, 3) := by decide +kernel
theorem dX1_reckon_15 : decode cX1_reckon 15 = .ok (.aload_n 0, 1) := by decide +kernel
theorem dX1_reckon_16 : decode cX1_reckon 16 = .ok (.getfield 11, 3) := by decide +kernel
theorem dX1_reckon_19 : decode cX1_reckon 19 = .ok (.iload_n 2, 1) := by decide +kernel
theorem dX1_reckon_20 : decode cX1_reckon 20 = .ok (.aload_n 0, 1) := by decide +kernel
theorem dX1_reckon_21 : decode cX1_reckon 21 = .ok (.getfield 27, 3) := by decide +kernel
theorem dX1_reckon_24 : decode cX1_reckon 24 = .ok (.iload_n 2, 1) := by decide +kernel
theorem dX1_reckon_25 : decode cX1_reckon 25 = .ok (.invokevirtual 40, 3) := by decide +kernel
theorem dX1_reckon_28 : decode cX1_reckon 28 = .ok (.iastore, 1) := by decide +kernel
theorem dX1_reckon_29 : decode cX1_reckon 29 = .ok (.aload_n 0, 1) := by decide +kernel
theorem dX1_reckon_30 : decode cX1_reckon 30 = .ok (.iload_n 2, 1) := by decide +kernel
theorem dX1_reckon_31 : decode cX1_reckon 31 = .ok (.invokevirtual 45, 3) := by decide +kernel
theorem dX1_reckon_34 : decode cX1_reckon 34 = .ok (.iinc 2 1, 3) := by decide +kernel
theorem dX1_reckon_37 : decode cX1_reckon 37 = .ok (.goto (-35), 3) := by decide +kernel
theorem dX1_reckon_40 : decode cX1_reckon 40 = .ok (.aload_n 0, 1) := by decide +kernel
theorem dX1_reckon_41 : decode cX1_reckon 41 = .ok (.getfield 15, 3) := by decide +kernel
theorem dX1_reckon_44 : decode cX1_reckon 44 = .ok (.iload_n 1, 1) := by decide +kernel
theorem dX1_reckon_45 : decode cX1_reckon 45 = .ok (.iaload, 1) := by decide +kernel
theorem dX1_reckon_46 : decode cX1_reckon 46 = .ok (.ldc 49, 2) := by decide +kernel
theorem dX1_reckon_48 : decode cX1_reckon 48 = .ok (.if_icmp .ge 7, 3) := by decide +kernel
theorem dX1_reckon_51 : decode cX1_reckon 51 = .ok (.iconst 1, 1) := by decide +kernel
theorem dX1_reckon_52 : decode cX1_reckon 52 = .ok (.goto 4, 3) := by decide +kernel
theorem dX1_reckon_55 : decode cX1_reckon 55 = .ok (.iconst 0, 1) := by decide +kernel
theorem dX1_reckon_56 : decode cX1_reckon 56 = .ok (.ireturn, 1) := by decide +kernel
theorem dX1_part_0 : decode cX1_part 0 = .ok (.aload_n 0, 1) := by decide +kernel
theorem dX1_part_1 : decode cX1_part 1 = .ok (.getfield 15, 3) := by decide +kernel
theorem dX1_part_4 : decode cX1_part 4 = .ok (.iload_n 1, 1) := by decide +kernel
theorem dX1_part_5 : decode cX1_part 5 = .ok (.ldc 49, 2) := by decide +kernel
theorem dX1_part_7 : decode cX1_part 7 = .ok (.iastore, 1) := by decide +kernel
theorem dX1_part_8 : decode cX1_part 8 = .ok (.aload_n 0, 1) := by decide +kernel
theorem dX1_part_9 : decode cX1_part 9 = .ok (.getfield 18, 3) := by decide +kernel
theorem dX1_part_12 : decode cX1_part 12 = .ok (.iload_n 1, 1) := by decide +kernel
theorem dX1_part_13 : decode cX1_part 13 = .ok (.iconst 0, 1) := by decide +kernel
theorem dX1_part_14 : decode cX1_part 14 = .ok (.iastore, 1) := by decide +kernel
theorem dX1_part_15 : decode cX1_part 15 = .ok (.aload_n 0, 1) := by decide +kernel
theorem dX1_part_16 : decode cX1_part 16 = .ok (.getfield 21, 3) := by decide +kernel
theorem dX1_part_19 : decode cX1_part 19 = .ok (.iload_n 1, 1) := by decide +kernel
theorem dX1_part_20 : decode cX1_part 20 = .ok (.iconst 0, 1) := by decide +kernel
theorem dX1_part_21 : decode cX1_part 21 = .ok (.iastore, 1) := by decide +kernel
theorem dX1_part_22 : decode cX1_part 22 = .ok (.iload_n 1, 1) := by decide +kernel
theorem dX1_part_23 : decode cX1_part 23 = .ok (.iload_n 1, 1) := by decide +kernel
theorem dX1_part_24 : decode cX1_part 24 = .ok (.ineg, 1) := by decide +kernel
theorem dX1_part_25 : decode cX1_part 25 = .ok (.iand, 1) := by decide +kernel
theorem dX1_part_26 : decode cX1_part 26 = .ok (.istore_n 2, 1) := by decide +kernel
theorem dX1_part_27 : decode cX1_part 27 = .ok (.iload_n 1, 1) := by decide +kernel
theorem dX1_part_28 : decode cX1_part 28 = .ok (.istore_n 3, 1) := by decide +kernel
theorem dX1_part_29 : decode cX1_part 29 = .ok (.iload_n 3, 1) := by decide +kernel
theorem dX1_part_30 : decode cX1_part 30 = .ok (.ifCond .le 34, 3) := by decide +kernel
theorem dX1_part_33 : decode cX1_part 33 = .ok (.iload_n 3, 1) := by decide +kernel
theorem dX1_part_34 : decode cX1_part 34 = .ok (.iload_n 2, 1) := by decide +kernel
theorem dX1_part_35 : decode cX1_part 35 = .ok (.iand, 1) := by decide +kernel
theorem dX1_part_36 : decode cX1_part 36 = .ok (.ifCond .eq 19, 3) := by decide +kernel
theorem dX1_part_39 : decode cX1_part 39 = .ok (.aload_n 0, 1) := by decide +kernel
theorem dX1_part_40 : decode cX1_part 40 = .ok (.getfield 11, 3) := by decide +kernel
theorem dX1_part_43 : decode cX1_part 43 = .ok (.iload_n 3, 1) := by decide +kernel
theorem dX1_part_44 : decode cX1_part 44 = .ok (.iaload, 1) := by decide +kernel
theorem dX1_part_45 : decode cX1_part 45 = .ok (.iconst (-1), 1) := by decide +kernel
theorem dX1_part_46 : decode cX1_part 46 = .ok (.if_icmp .eq 9, 3) := by decide +kernel
theorem dX1_part_49 : decode cX1_part 49 = .ok (.aload_n 0, 1) := by decide +kernel
theorem dX1_part_50 : decode cX1_part 50 = .ok (.iload_n 1, 1) := by decide +kernel
theorem dX1_part_51 : decode cX1_part 51 = .ok (.iload_n 3, 1) := by decide +kernel
theorem dX1_part_52 : decode cX1_part 52 = .ok (.invokevirtual 50, 3) := by decide +kernel
theorem dX1_part_55 : decode cX1_part 55 = .ok (.iload_n 3, 1) := by decide +kernel
theorem dX1_part_56 : decode cX1_part 56 = .ok (.iconst 1, 1) := by decide +kernel
theorem dX1_part_57 : decode cX1_part 57 = .ok (.isub, 1) := by decide +kernel
theorem dX1_part_58 : decode cX1_part 58 = .ok (.iload_n 1, 1) := by decide +kernel
theorem dX1_part_59 : decode cX1_part 59 = .ok (.iand, 1) := by decide +kernel
theorem dX1_part_60 : decode cX1_part 60 = .ok (.istore_n 3, 1) := by decide +kernel
theorem dX1_part_61 : decode cX1_part 61 = .ok (.goto (-32), 3) := by decide +kernel
theorem dX1_part_64 : decode cX1_part 64 = .ok (.return_, 1) := by decide +kernel
theorem dX1_keepIfAhead_0 : decode cX1_keepIfAhead 0 = .ok (.iload_n 1, 1) := by decide +kernel
theorem dX1_keepIfAhead_1 : decode cX1_keepIfAhead 1 = .ok (.iload_n 2, 1) := by decide +kernel
theorem dX1_keepIfAhead_2 : decode cX1_keepIfAhead 2 = .ok (.ixor, 1) := by decide +kernel
theorem dX1_keepIfAhead_3 : decode cX1_keepIfAhead 3 = .ok (.istore_n 3, 1) := by decide +kernel
theorem dX1_keepIfAhead_4 : decode cX1_keepIfAhead 4 = .ok (.aload_n 0, 1) := by decide +kernel
theorem dX1_keepIfAhead_5 : decode cX1_keepIfAhead 5 = .ok (.getfield 11, 3) := by decide +kernel
theorem dX1_keepIfAhead_8 : decode cX1_keepIfAhead 8 = .ok (.iload_n 2, 1) := by decide +kernel
theorem dX1_keepIfAhead_9 : decode cX1_keepIfAhead 9 = .ok (.iaload, 1) := by decide +kernel
theorem dX1_keepIfAhead_10 : decode cX1_keepIfAhead 10 = .ok (.aload_n 0, 1) := by decide +kernel
theorem dX1_keepIfAhead_11 : decode cX1_keepIfAhead 11 = .ok (.getfield 15, 3) := by decide +kernel
theorem dX1_keepIfAhead_14 : decode cX1_keepIfAhead 14 = .ok (.iload_n 3, 1) := by decide +kernel
theorem dX1_keepIfAhead_15 : decode cX1_keepIfAhead 15 = .ok (.iaload, 1) := by decide +kernel
theorem dX1_keepIfAhead_16 : decode cX1_keepIfAhead 16 = .ok (.iadd, 1) := by decide +kernel
theorem dX1_keepIfAhead_17 : decode cX1_keepIfAhead 17 = .ok (.istore 4, 2) := by decide +kernel
theorem dX1_keepIfAhead_19 : decode cX1_keepIfAhead 19 = .ok (.aload_n 0, 1) := by decide +kernel
theorem dX1_keepIfAhead_20 : decode cX1_keepIfAhead 20 = .ok (.getfield 21, 3) := by decide +kernel
theorem dX1_keepIfAhead_23 : decode cX1_keepIfAhead 23 = .ok (.iload_n 3, 1) := by decide +kernel
theorem dX1_keepIfAhead_24 : decode cX1_keepIfAhead 24 = .ok (.iaload, 1) := by decide +kernel
theorem dX1_keepIfAhead_25 : decode cX1_keepIfAhead 25 = .ok (.aload_n 0, 1) := by decide +kernel
theorem dX1_keepIfAhead_26 : decode cX1_keepIfAhead 26 = .ok (.getfield 24, 3) := by decide +kernel
theorem dX1_keepIfAhead_29 : decode cX1_keepIfAhead 29 = .ok (.iload_n 3, 1) := by decide +kernel
theorem dX1_keepIfAhead_30 : decode cX1_keepIfAhead 30 = .ok (.iaload, 1) := by decide +kernel
theorem dX1_keepIfAhead_31 : decode cX1_keepIfAhead 31 = .ok (.iadd, 1) := by decide +kernel
theorem dX1_keepIfAhead_32 : decode cX1_keepIfAhead 32 = .ok (.istore 5, 2) := by decide +kernel
theorem dX1_keepIfAhead_34 : decode cX1_keepIfAhead 34 = .ok (.iload 4, 2) := by decide +kernel
theorem dX1_keepIfAhead_36 : decode cX1_keepIfAhead 36 = .ok (.aload_n 0, 1) := by decide +kernel
theorem dX1_keepIfAhead_37 : decode cX1_keepIfAhead 37 = .ok (.getfield 15, 3) := by decide +kernel
theorem dX1_keepIfAhead_40 : decode cX1_keepIfAhead 40 = .ok (.iload_n 1, 1) := by decide +kernel
theorem dX1_keepIfAhead_41 : decode cX1_keepIfAhead 41 = .ok (.iaload, 1) := by decide +kernel
theorem dX1_keepIfAhead_42 : decode cX1_keepIfAhead 42 = .ok (.if_icmp .lt 32, 3) := by decide +kernel
theorem dX1_keepIfAhead_45 : decode cX1_keepIfAhead 45 = .ok (.iload 4, 2) := by decide +kernel
theorem dX1_keepIfAhead_47 : decode cX1_keepIfAhead 47 = .ok (.ldc 49, 2) := by decide +kernel
theorem dX1_keepIfAhead_49 : decode cX1_keepIfAhead 49 = .ok (.if_icmp .ge 48, 3) := by decide +kernel
theorem dX1_keepIfAhead_52 : decode cX1_keepIfAhead 52 = .ok (.iload 4, 2) := by decide +kernel
theorem dX1_keepIfAhead_54 : decode cX1_keepIfAhead 54 = .ok (.aload_n 0, 1) := by decide +kernel
theorem dX1_keepIfAhead_55 : decode cX1_keepIfAhead 55 = .ok (.getfield 15, 3) := by decide +kernel
theorem dX1_keepIfAhead_58 : decode cX1_keepIfAhead 58 = .ok (.iload_n 1, 1) := by decide +kernel
theorem dX1_keepIfAhead_59 : decode cX1_keepIfAhead 59 = .ok (.iaload, 1) := by decide +kernel
theorem dX1_keepIfAhead_60 : decode cX1_keepIfAhead 60 = .ok (.if_icmp .ne 37, 3) := by decide +kernel
theorem dX1_keepIfAhead_63 : decode cX1_keepIfAhead 63 = .ok (.iload 5, 2) := by decide +kernel
theorem dX1_keepIfAhead_65 : decode cX1_keepIfAhead 65 = .ok (.aload_n 0, 1) := by decide +kernel
theorem dX1_keepIfAhead_66 : decode cX1_keepIfAhead 66 = .ok (.getfield 21, 3) := by decide +kernel
theorem dX1_keepIfAhead_69 : decode cX1_keepIfAhead 69 = .ok (.iload_n 1, 1) := by decide +kernel
theorem dX1_keepIfAhead_70 : decode cX1_keepIfAhead 70 = .ok (.iaload, 1) := by decide +kernel
theorem dX1_keepIfAhead_71 : decode cX1_keepIfAhead 71 = .ok (.if_icmp .ge 26, 3) := by decide +kernel
theorem dX1_keepIfAhead_74 : decode cX1_keepIfAhead 74 = .ok (.aload_n 0, 1) := by decide +kernel
theorem dX1_keepIfAhead_75 : decode cX1_keepIfAhead 75 = .ok (.getfield 15, 3) := by decide +kernel
theorem dX1_keepIfAhead_78 : decode cX1_keepIfAhead 78 = .ok (.iload_n 1, 1) := by decide +kernel
theorem dX1_keepIfAhead_79 : decode cX1_keepIfAhead 79 = .ok (.iload 4, 2) := by decide +kernel
theorem dX1_keepIfAhead_81 : decode cX1_keepIfAhead 81 = .ok (.iastore, 1) := by decide +kernel
theorem dX1_keepIfAhead_82 : decode cX1_keepIfAhead 82 = .ok (.aload_n 0, 1) := by decide +kernel
theorem dX1_keepIfAhead_83 : decode cX1_keepIfAhead 83 = .ok (.getfield 18, 3) := by decide +kernel
theorem dX1_keepIfAhead_86 : decode cX1_keepIfAhead 86 = .ok (.iload_n 1, 1) := by decide +kernel
theorem dX1_keepIfAhead_87 : decode cX1_keepIfAhead 87 = .ok (.iload_n 2, 1) := by decide +kernel
theorem dX1_keepIfAhead_88 : decode cX1_keepIfAhead 88 = .ok (.iastore, 1) := by decide +kernel
theorem dX1_keepIfAhead_89 : decode cX1_keepIfAhead 89 = .ok (.aload_n 0, 1) := by decide +kernel
theorem dX1_keepIfAhead_90 : decode cX1_keepIfAhead 90 = .ok (.getfield 21, 3) := by decide +kernel
theorem dX1_keepIfAhead_93 : decode cX1_keepIfAhead 93 = .ok (.iload_n 1, 1) := by decide +kernel
theorem dX1_keepIfAhead_94 : decode cX1_keepIfAhead 94 = .ok (.iload 5, 2) := by decide +kernel
theorem dX1_keepIfAhead_96 : decode cX1_keepIfAhead 96 = .ok (.iastore, 1) := by decide +kernel
theorem dX1_keepIfAhead_97 : decode cX1_keepIfAhead 97 = .ok (.return_, 1) := by decide +kernel
theorem grpC_or {c : Int → Int} (hc : costs9 c) {s g : Int} (hs : 0 < s ∧ s < 128) (hg : 0 < g ∧ g < 128) (h1 : b_and g (b_xor s (-1)) = 0) (h2 : hb g (lowV s) = 1) (h3 : c g ≠ -1) : (totE c (b_xor s g) = -1 ∧ grpC c (totE c) s g = -1) ∨ (totE c (b_xor s g) ≠ -1 ∧ grpC c (totE c) s g = c g * 2097152 + (totE c (b_xor s g) + onesV (b_xor s g)) ∧ 0 ≤ grpC c (totE c) s g ∧ grpC c (totE c) s g / 2097152 = c g + totE c (b_xor s g) / 2097152 ∧ grpC c (totE c) s g % 2097152 = totE c (b_xor s g) % 2097152 + onesV (b_xor s g)) := by
  have hx := b_xor_lt (x := s) (y := g) (by omega) (by omega)
  have z := totE_lt hc hx
  have o9 := ones_0 (b_xor s g)
  have c9 := hc g hg.1 hg.2
  by_cases e : totE c (b_xor s g) = -1
  · exact Or.inl ⟨e, if_neg fun q => q.2.2.2.2 e⟩
  · right
    have y : grpC c (totE c) s g = c g * 2097152 + (totE c (b_xor s g) + onesV (b_xor s g)) := if_pos ⟨hg.1, h1, h2, h3, e⟩
    refine ⟨e, y, ?_⟩
    rw [y]
    omega
theorem grpC_ge {c : Int → Int} (hc : costs9 c) {s g : Int} (hs : 0 < s ∧ s < 128) (hg : 0 ≤ g ∧ g < 128) : -1 ≤ grpC c (totE c) s g := by
  unfold grpC
  split
  · rename_i q
    have hx := b_xor_lt (x := s) (y := g) (by omega) (by omega)
    have z := totE_lt hc hx
    have o9 := ones_0 (b_xor s g)
    have c9 := hc g q.1 hg.2
    omega
  · omega
theorem s_keepIfAhead {l : Launch} {E : aE} {N : Nat} {S : aS} {M : aM} (hfl : l.stackTraces = false) (b u : Int) (r rb rg t : Int → Int) (hG : lyG S b u r rb rg) (c : Int → Int) (hc : costs9 c) (s g B : Int) (hs : 0 < s ∧ s < 128) (hg : 0 < g ∧ g < 128) (q1 : b_and g (b_xor s (-1)) = 0) (q2 : hb g (lowV s) = 1) (q3 : c g ≠ -1) (hO : OZ M b) (m1 : M (b + 10) g = c g) (m2 : M (b + 11) (b_xor s g) = encT (totE c (b_xor s g))) (m3 : M (b + 13) (b_xor s g) = encR (totE c (b_xor s g))) (m4 : M (b + 11) s = encT B) (m5 : M (b + 13) s = encR B) (hB : B = -1 ∨ 0 ≤ B ∧ B / 2097152 ≤ 2000000) : aMt l E pX1_keepIfAhead [(2, b + 9), (0, s), (0, g)] N S M (aU N S (fun M' => M' (b + 11) s = encT (omin B (grpC c (totE c) s g)) ∧ M' (b + 13) s = encR (omin B (grpC c (totE c) s g)) ∧ (M' (b + 12) s = M (b + 12) s ∧ omin B (grpC c (totE c) s g) = B ∨ M' (b + 12) s = g ∧ omin B (grpC c (totE c) s g) = grpC c (totE c) s g ∧ grpC c (totE c) s g ≠ -1) ∧ ∀ a i, ¬ ((a = b + 11 ∨ a = b + 12 ∨ a = b + 13) ∧ i = s) → M' a i = M a i)) := by
  refine a_met hfl rfl (by decide +kernel) (Nat.le_of_ble_eq_true rfl) ?_
  have hx := b_xor_lt (x := s) (y := g) (by omega) (by omega)
  have hz := totE_lt hc hx
  have ho := ones_0 (b_xor s g)
  have hcg := hc g hg.1 hg.2
  have hgr := grpC_or hc hs hg q1 q2 q3
  have e1 := encT_or (totE c (b_xor s g))
  have e2 := encT_or B
  have e3 := encT_or (grpC c (totE c) s g)
  have m6 := hO.1 (b_xor s g) hx.1 hx.2
  refine x_iload_n (pc := 0) dX1_keepIfAhead_0 rfl rfl ?_
  refine x_iload_n (pc := 1) dX1_keepIfAhead_1 rfl rfl ?_
  refine x_ixor (pc := 2) dX1_keepIfAhead_2 ?_
  refine x_istore_n (pc := 3) dX1_keepIfAhead_3 rfl (by decide) rfl ?_
  refine x_aload_n (pc := 4) dX1_keepIfAhead_4 rfl rfl ?_
  refine x_getR (jj := 1) (pc := 5) dX1_keepIfAhead_5 fX1_11 hG.1 rfl (by decide) rfl hG.2.1.2.1 ?_
  refine x_iload_n (pc := 8) dX1_keepIfAhead_8 rfl rfl ?_
  refine x_ialoadV (pc := 9) dX1_keepIfAhead_9 hG.2.2.1 (by omega) (by (repeat (first | rewrite [up_s] | rewrite [up_i (by omega)] | rewrite [up_a (by omega)])); first | exact m1 | exact m2 | exact m3 | exact m4 | exact m5 | exact m6 | rfl) (fun g_9 => ?_)
  refine x_aload_n (pc := 10) dX1_keepIfAhead_10 rfl rfl ?_
  refine x_getR (jj := 2) (pc := 11) dX1_keepIfAhead_11 fX1_15 hG.1 rfl (by decide) rfl hG.2.1.2.2.1 ?_
  refine x_iload_n (pc := 14) dX1_keepIfAhead_14 rfl rfl ?_
  refine x_ialoadV (pc := 15) dX1_keepIfAhead_15 hG.2.2.2.1 (by omega) (by (repeat (first | rewrite [up_s] | rewrite [up_i (by omega)] | rewrite [up_a (by omega)])); first | exact m1 | exact m2 | exact m3 | exact m4 | exact m5 | exact m6 | rfl) (fun g_15 => ?_)
  refine x_iadd (pc := 16) dX1_keepIfAhead_16 (by omega) ?_
  refine x_istore (pc := 17) dX1_keepIfAhead_17 (by decide) rfl ?_
  refine x_aload_n (pc := 19) dX1_keepIfAhead_19 rfl rfl ?_
  refine x_getR (jj := 4) (pc := 20) dX1_keepIfAhead_20 fX1_21 hG.1 rfl (by decide) rfl hG.2.1.2.2.2.2.1 ?_
  refine x_iload_n (pc := 23) dX1_keepIfAhead_23 rfl rfl ?_
  refine x_ialoadV (pc := 24) dX1_keepIfAhead_24 hG.2.2.2.2.2.1 (by omega) (by (repeat (first | rewrite [up_s] | rewrite [up_i (by omega)] | rewrite [up_a (by omega)])); first | exact m1 | exact m2 | exact m3 | exact m4 | exact m5 | exact m6 | rfl) (fun g_24 => ?_)
  refine x_aload_n (pc := 25) dX1_keepIfAhead_25 rfl rfl ?_
  refine x_getR (jj := 5) (pc := 26) dX1_keepIfAhead_26 fX1_24 hG.1 rfl (by decide) rfl hG.2.1.2.2.2.2.2 ?_
  refine x_iload_n (pc := 29) dX1_keepIfAhead_29 rfl rfl ?_
  refine x_ialoadV (pc := 30) dX1_keepIfAhead_30 hG.2.2.2.2.2.2.1 (by omega) (by (repeat (first | rewrite [up_s] | rewrite [up_i (by omega)] | rewrite [up_a (by omega)])); first | exact m1 | exact m2 | exact m3 | exact m4 | exact m5 | exact m6 | rfl) (fun g_30 => ?_)
  refine x_iadd (pc := 31) dX1_keepIfAhead_31 (by omega) ?_
  refine x_istore (pc := 32) dX1_keepIfAhead_32 (by decide) rfl ?_
  refine x_iload (pc := 34) dX1_keepIfAhead_34 rfl ?_
  refine x_aload_n (pc := 36) dX1_keepIfAhead_36 rfl rfl ?_
  refine x_getR (jj := 2) (pc := 37) dX1_keepIfAhead_37 fX1_15 hG.1 rfl (by decide) rfl hG.2.1.2.2.1 ?_
  refine x_iload_n (pc := 40) dX1_keepIfAhead_40 rfl rfl ?_
  refine x_ialoadV (pc := 41) dX1_keepIfAhead_41 hG.2.2.2.1 (by omega) (by (repeat (first | rewrite [up_s] | rewrite [up_i (by omega)] | rewrite [up_a (by omega)])); first | exact m1 | exact m2 | exact m3 | exact m4 | exact m5 | exact m6 | rfl) (fun g_41 => ?_)
  refine x_icmp_lt (tgt := 74) (pc := 42) dX1_keepIfAhead_42 (by decide) (fun c_42 => ?_) (fun c_42 => ?_)
  · refine x_aload_n (pc := 74) dX1_keepIfAhead_74 rfl rfl ?_
    refine x_getR (jj := 2) (pc := 75) dX1_keepIfAhead_75 fX1_15 hG.1 rfl (by decide) rfl hG.2.1.2.2.1 ?_
    refine x_iload_n (pc := 78) dX1_keepIfAhead_78 rfl rfl ?_
    refine x_iload (pc := 79) dX1_keepIfAhead_79 rfl ?_
    refine x_iastore (pc := 81) dX1_keepIfAhead_81 hG.2.2.2.1 (by omega) ?_
    refine x_aload_n (pc := 82) dX1_keepIfAhead_82 rfl rfl ?_
    refine x_getR (jj := 3) (pc := 83) dX1_keepIfAhead_83 fX1_18 hG.1 rfl (by decide) rfl hG.2.1.2.2.2.1 ?_
    refine x_iload_n (pc := 86) dX1_keepIfAhead_86 rfl rfl ?_
    refine x_iload_n (pc := 87) dX1_keepIfAhead_87 rfl rfl ?_
    refine x_iastore (pc := 88) dX1_keepIfAhead_88 hG.2.2.2.2.1 (by omega) ?_
    refine x_aload_n (pc := 89) dX1_keepIfAhead_89 rfl rfl ?_
    refine x_getR (jj := 4) (pc := 90) dX1_keepIfAhead_90 fX1_21 hG.1 rfl (by decide) rfl hG.2.1.2.2.2.2.1 ?_
    refine x_iload_n (pc := 93) dX1_keepIfAhead_93 rfl rfl ?_
    refine x_iload (pc := 94) dX1_keepIfAhead_94 rfl ?_
    refine x_iastore (pc := 96) dX1_keepIfAhead_96 hG.2.2.2.2.2.1 (by omega) ?_
    refine x_return (pc := 97) dX1_keepIfAhead_97 rfl (by decide) ?_
    have e : omin B (grpC c (totE c) s g) = grpC c (totE c) s g := by
      unfold omin
      (repeat' split) <;> omega
    refine ⟨rfl, rfl, rfl, ?_, ?_, Or.inr ⟨?_, e, by omega⟩, fun a i x => ?_⟩
    · rw [e, up_a (by omega), up_a (by omega), up_s]; omega
    · rw [e, up_s]; omega
    · rw [up_a (by omega), up_s]
    · refine (if_neg (by omega)).trans ((if_neg (by omega)).trans (if_neg (by omega)))
  · refine x_iload (pc := 45) dX1_keepIfAhead_45 rfl ?_
    refine x_ldc (n := 536870912) (pc := 47) cX1_49 (by decide) dX1_keepIfAhead_47 ?_
    refine x_icmp_ge (tgt := 97) (pc := 49) dX1_keepIfAhead_49 (by decide) (fun c_49 => ?_) (fun c_49 => ?_)
    · refine x_return (pc := 97) dX1_keepIfAhead_97 rfl (by decide) ?_
      have e : omin B (grpC c (totE c) s g) = B := by
        unfold omin
        (repeat' split) <;> omega
      refine ⟨rfl, rfl, rfl, ?_, ?_, Or.inl ⟨rfl, e⟩, fun _ _ _ => rfl⟩
      · rw [e]; exact m4
      · rw [e]; exact m5
    · refine x_iload (pc := 52) dX1_keepIfAhead_52 rfl ?_
      refine x_aload_n (pc := 54) dX1_keepIfAhead_54 rfl rfl ?_
      refine x_getR (jj := 2) (pc := 55) dX1_keepIfAhead_55 fX1_15 hG.1 rfl (by decide) rfl hG.2.1.2.2.1 ?_
      refine x_iload_n (pc := 58) dX1_keepIfAhead_58 rfl rfl ?_
      refine x_ialoadV (pc := 59) dX1_keepIfAhead_59 hG.2.2.2.1 (by omega) (by (repeat (first | rewrite [up_s] | rewrite [up_i (by omega)] | rewrite [up_a (by omega)])); first | exact m1 | exact m2 | exact m3 | exact m4 | exact m5 | exact m6 | rfl) (fun g_59 => ?_)
      refine x_icmp_ne (tgt := 97) (pc := 60) dX1_keepIfAhead_60 (by decide) (fun c_60 => ?_) (fun c_60 => ?_)
      · refine x_return (pc := 97) dX1_keepIfAhead_97 rfl (by decide) ?_
        have e : omin B (grpC c (totE c) s g) = B := by
          unfold omin
          (repeat' split) <;> omega
        refine ⟨rfl, rfl, rfl, ?_, ?_, Or.inl ⟨rfl, e⟩, fun _ _ _ => rfl⟩
        · rw [e]; exact m4
        · rw [e]; exact m5
      · refine x_iload (pc := 63) dX1_keepIfAhead_63 rfl ?_
        refine x_aload_n (pc := 65) dX1_keepIfAhead_65 rfl rfl ?_
        refine x_getR (jj := 4) (pc := 66) dX1_keepIfAhead_66 fX1_21 hG.1 rfl (by decide) rfl hG.2.1.2.2.2.2.1 ?_
        refine x_iload_n (pc := 69) dX1_keepIfAhead_69 rfl rfl ?_
        refine x_ialoadV (pc := 70) dX1_keepIfAhead_70 hG.2.2.2.2.2.1 (by omega) (by (repeat (first | rewrite [up_s] | rewrite [up_i (by omega)] | rewrite [up_a (by omega)])); first | exact m1 | exact m2 | exact m3 | exact m4 | exact m5 | exact m6 | rfl) (fun g_70 => ?_)
        refine x_icmp_ge (tgt := 97) (pc := 71) dX1_keepIfAhead_71 (by decide) (fun c_71 => ?_) (fun c_71 => ?_)
        · refine x_return (pc := 97) dX1_keepIfAhead_97 rfl (by decide) ?_
          have e : omin B (grpC c (totE c) s g) = B := by
            unfold omin
            (repeat' split) <;> omega
          refine ⟨rfl, rfl, rfl, ?_, ?_, Or.inl ⟨rfl, e⟩, fun _ _ _ => rfl⟩
          · rw [e]; exact m4
          · rw [e]; exact m5
        · refine x_aload_n (pc := 74) dX1_keepIfAhead_74 rfl rfl ?_
          refine x_getR (jj := 2) (pc := 75) dX1_keepIfAhead_75 fX1_15 hG.1 rfl (by decide) rfl hG.2.1.2.2.1 ?_
          refine x_iload_n (pc := 78) dX1_keepIfAhead_78 rfl rfl ?_
          refine x_iload (pc := 79) dX1_keepIfAhead_79 rfl ?_
          refine x_iastore (pc := 81) dX1_keepIfAhead_81 hG.2.2.2.1 (by omega) ?_
          refine x_aload_n (pc := 82) dX1_keepIfAhead_82 rfl rfl ?_
          refine x_getR (jj := 3) (pc := 83) dX1_keepIfAhead_83 fX1_18 hG.1 rfl (by decide) rfl hG.2.1.2.2.2.1 ?_
          refine x_iload_n (pc := 86) dX1_keepIfAhead_86 rfl rfl ?_
          refine x_iload_n (pc := 87) dX1_keepIfAhead_87 rfl rfl ?_
          refine x_iastore (pc := 88) dX1_keepIfAhead_88 hG.2.2.2.2.1 (by omega) ?_
          refine x_aload_n (pc := 89) dX1_keepIfAhead_89 rfl rfl ?_
          refine x_getR (jj := 4) (pc := 90) dX1_keepIfAhead_90 fX1_21 hG.1 rfl (by decide) rfl hG.2.1.2.2.2.2.1 ?_
          refine x_iload_n (pc := 93) dX1_keepIfAhead_93 rfl rfl ?_
          refine x_iload (pc := 94) dX1_keepIfAhead_94 rfl ?_
          refine x_iastore (pc := 96) dX1_keepIfAhead_96 hG.2.2.2.2.2.1 (by omega) ?_
          refine x_return (pc := 97) dX1_keepIfAhead_97 rfl (by decide) ?_
          have e : omin B (grpC c (totE c) s g) = grpC c (totE c) s g := by
            unfold omin
            (repeat' split) <;> omega
          refine ⟨rfl, rfl, rfl, ?_, ?_, Or.inr ⟨?_, e, by omega⟩, fun a i x => ?_⟩
          · rw [e, up_a (by omega), up_a (by omega), up_s]; omega
          · rw [e, up_s]; omega
          · rw [up_a (by omega), up_s]
          · refine (if_neg (by omega)).trans ((if_neg (by omega)).trans (if_neg (by omega)))
theorem sub_le {g s : Int} (hg : 0 ≤ g ∧ g < 128) (hs : 0 ≤ s ∧ s < 128) (h : b_and g (b_xor s (-1)) = 0) : g ≤ s := by
  have e := (sub_and hg hs).mp h
  rw [b_and_nat (by omega) (by omega)] at e
  have : g.toNat &&& s.toNat ≤ s.toNat := Nat.and_le_right
  omega
theorem sub_rf {s : Int} (hs : 0 ≤ s ∧ s < 128) : b_and s (b_xor s (-1)) = 0 := (sub_iff hs hs).mpr fun _ _ _ w => w
/-- the rest behind a group is a smaller set -/
theorem low_ne {s g : Int} (hs : 0 < s ∧ s < 128) (hg : 0 < g ∧ g < 128) (h : hb g (lowV s) = 1) (hsub : b_and g (b_xor s (-1)) = 0) : (0 ≤ b_xor s g ∧ b_xor s g < s) ∧ b_and (b_xor s g) (b_xor s (-1)) = 0 ∧ b_xor s g ≠ s := by
  have hx := b_xor_lt (x := s) (y := g) (by omega) (by omega)
  have hsb : b_and (b_xor s g) (b_xor s (-1)) = 0 := (sub_iff hx (by omega)).mpr fun j a b w => ((hb_sub (by omega) (by omega) hsub ⟨a, b⟩).mp w).1
  have hl := sub_le hx (by omega) hsb
  obtain ⟨⟨l0, l1⟩, l2, l3⟩ := low_r hs
  have hne : b_xor s g ≠ s := fun e => by
    have := (hb_sub (g := g) (s := s) (by omega) (by omega) hsub ⟨l0, l1⟩).mp (by rw [e]; exact l2)
    exact this.2 h
  exact ⟨⟨hx.1, by omega⟩, hsb, hne⟩
theorem s_part {l : Launch} {E : aE} {N : Nat} {S : aS} {M : aM} (hfl : l.stackTraces = false) (b u : Int) (r rb rg t : Int → Int) (hG : lyG S b u r rb rg) (c : Int → Int) (hc : costs9 c) (s : Int) (hs : 0 < s ∧ s < 128) (hO : OZ M b) (hco : ∀ x, 0 < x → x ≤ s → b_and x (b_xor s (-1)) = 0 → M (b + 10) x = c x) (hrs : ∀ x, (0 ≤ x ∧ x < s) → b_and x (b_xor s (-1)) = 0 → x ≠ s → M (b + 11) x = encT (totE c x) ∧ M (b + 13) x = encR (totE c x)) : aMt l E pX1_part [(2, b + 9), (0, s)] N S M (aU N S (fun M' => GO M' b c s ∧ ∀ a i, ¬ ((a = b + 11 ∨ a = b + 12 ∨ a = b + 13) ∧ i = s) → M' a i = M a i)) := by
  refine a_met hfl rfl (by decide +kernel) (Nat.le_of_ble_eq_true rfl) ?_
  have l12 := (low_r hs).1
  have hss := sub_rf (s := s) (by omega)
  have loop := a_loop3 (fun g B M1 => 0 ≤ g ∧ g < 128 ∧ b_and g (b_xor s (-1)) = 0 ∧ isB (grpC c (totE c) s) g B ∧ (B = -1 ∨ 0 ≤ B ∧ B / 2097152 ≤ 2000000) ∧ M1 (b + 11) s = encT B ∧ M1 (b + 13) s = encR B ∧ (B ≠ -1 → (0 ≤ M1 (b + 12) s ∧ M1 (b + 12) s < 128) ∧ (grpC c (totE c) s) (M1 (b + 12) s) = B) ∧ ∀ a i, ¬ ((a = b + 11 ∨ a = b + 12 ∨ a = b + 13) ∧ i = s) → M1 a i = M a i) (fun g B M1 => g.toNat) (fun g B M1 => aX l E pX1_part (aU N S (fun M' => GO M' b c s ∧ ∀ a i, ¬ ((a = b + 11 ∨ a = b + 12 ∨ a = b + 13) ∧ i = s) → M' a i = M a i)) 0 0 N S M1 29 [(0, (2, b + 9)), (1, (0, s)), (2, (0, b_shl 1 (lowV s))), (3, (0, g))] []) (by
    intro g B M1 hI ih
    obtain ⟨g1, g2, g3, g4, g5, g6, g7, g8, g9⟩ := hI
    have hgl : g ≤ s := sub_le ⟨g1, g2⟩ ⟨by omega, hs.2⟩ g3
    refine x_iload_n (pc := 29) dX1_part_29 rfl rfl ?_
    refine x_if_le (tgt := 64) (pc := 30) dX1_part_30 (by decide) (fun c_30 => ?_) (fun c_30 => ?_)
    · refine x_return (pc := 64) dX1_part_64 rfl (by decide) ?_
      have e0 : g = 0 := by omega
      subst e0
      have hB := g4.fin (show (grpC c (totE c) s) 0 = -1 from if_neg (by omega)) (fun x y z => grpC_ge hc hs ⟨y, z⟩)
      rw [← totE_1 hc hs] at hB
      subst hB
      refine ⟨rfl, rfl, rfl, ⟨(g9 _ _ (by omega)).trans (hco s hs.1 (Int.le_refl s) hss), g6, g7, fun w => first_eq hc hs (g8 w).1 w (g8 w).2⟩, g9⟩
    · obtain ⟨n1, n2, n3⟩ := sub_next (s := s) (g := g) ⟨by omega, hs.2⟩ ⟨by omega, by omega⟩ g3
      refine x_iload_n (pc := 33) dX1_part_33 rfl rfl ?_
      refine x_iload_n (pc := 34) dX1_part_34 rfl rfl ?_
      refine x_iand (pc := 35) dX1_part_35 ?_
      refine x_if_eq (tgt := 55) (pc := 36) dX1_part_36 (by decide) (fun c_36 => ?_) (fun c_36 => ?_)
      · refine x_iload_n (pc := 55) dX1_part_55 rfl rfl ?_
        refine x_iconst (pc := 56) dX1_part_56 (by decide) ?_
        refine x_isub (pc := 57) dX1_part_57 (by omega) ?_
        refine x_iload_n (pc := 58) dX1_part_58 rfl rfl ?_
        refine x_iand (pc := 59) dX1_part_59 ?_
        refine x_istore_n (pc := 60) dX1_part_60 rfl (by decide) rfl ?_
        refine x_goto (tgt := 29) (pc := 61) dX1_part_61 (by decide) ?_
        have hz9 : (grpC c (totE c) s) g = -1 := by
          unfold grpC
          exact if_neg (fun w => (and_bit (g := g) ⟨by omega, by omega⟩ l12).mp (by assumption) w.2.2.1)
        have e9 : omin B ((grpC c (totE c) s) g) = B := by
          rw [hz9]
          unfold omin
          split
          · rename_i q; exact q.symm
          · exact if_pos rfl
        have nb := g4.next (nx := b_and (g - 1) s) (by omega) (by omega) (fun x y z => by
            unfold grpC
            refine if_neg fun w => ?_
            have := n3 x (by omega) (by omega) w.2.1 y
            omega)
        rw [e9] at nb
        refine x_lo (lo' := [(0, (2, b + 9)), (1, (0, s)), (2, (0, b_shl 1 (lowV s))), (3, (0, b_and (g - 1) s))]) ⟨rfl, rfl, rfl, rfl, trivial⟩ (ih _ B M1 ⟨n1.1, by omega, n2, nb, g5, g6, g7, g8, g9⟩ (by omega))
      · refine x_aload_n (pc := 39) dX1_part_39 rfl rfl ?_
        refine x_getR (jj := 1) (pc := 40) dX1_part_40 fX1_11 hG.1 rfl (by decide) rfl hG.2.1.2.1 ?_
        refine x_iload_n (pc := 43) dX1_part_43 rfl rfl ?_
        refine x_ialoadV (pc := 44) dX1_part_44 hG.2.2.1 (by omega) (by (repeat (first | rewrite [up_s] | rewrite [up_i (by omega)] | rewrite [up_a (by omega)])); first | exact (g9 _ _ (by omega)).trans (hco g (by omega) (by omega) g3) | rfl) (fun g_44 => ?_)
        refine x_iconst (pc := 45) dX1_part_45 (by decide) ?_
        refine x_icmp_eq (tgt := 55) (pc := 46) dX1_part_46 (by decide) (fun c_46 => ?_) (fun c_46 => ?_)
        · refine x_iload_n (pc := 55) dX1_part_55 rfl rfl ?_
          refine x_iconst (pc := 56) dX1_part_56 (by decide) ?_
          refine x_isub (pc := 57) dX1_part_57 (by omega) ?_
          refine x_iload_n (pc := 58) dX1_part_58 rfl rfl ?_
          refine x_iand (pc := 59) dX1_part_59 ?_
          refine x_istore_n (pc := 60) dX1_part_60 rfl (by decide) rfl ?_
          refine x_goto (tgt := 29) (pc := 61) dX1_part_61 (by decide) ?_
          have hz9 : (grpC c (totE c) s) g = -1 := by
            unfold grpC
            exact if_neg (fun w => w.2.2.2.1 (by assumption))
          have e9 : omin B ((grpC c (totE c) s) g) = B := by
            rw [hz9]
            unfold omin
            split
            · rename_i q; exact q.symm
            · exact if_pos rfl
          have nb := g4.next (nx := b_and (g - 1) s) (by omega) (by omega) (fun x y z => by
              unfold grpC
              refine if_neg fun w => ?_
              have := n3 x (by omega) (by omega) w.2.1 y
              omega)
          rw [e9] at nb
          refine x_lo (lo' := [(0, (2, b + 9)), (1, (0, s)), (2, (0, b_shl 1 (lowV s))), (3, (0, b_and (g - 1) s))]) ⟨rfl, rfl, rfl, rfl, trivial⟩ (ih _ B M1 ⟨n1.1, by omega, n2, nb, g5, g6, g7, g8, g9⟩ (by omega))
        · refine x_aload_n (pc := 49) dX1_part_49 rfl rfl ?_
          refine x_iload_n (pc := 50) dX1_part_50 rfl rfl ?_
          refine x_iload_n (pc := 51) dX1_part_51 rfl rfl ?_
          have hq2 : hb g (lowV s) = 1 := by
            by_cases w : hb g (lowV s) = 1
            · exact w
            · exact absurd ((and_bit (g := g) ⟨by omega, by omega⟩ l12).mpr w) (by assumption)
          have hne := low_ne hs ⟨by omega, by omega⟩ hq2 g3
          have hre := hrs _ hne.1 hne.2.1 hne.2.2
          have hgr := grpC_or hc hs ⟨by omega, by omega⟩ g3 hq2 (by assumption)
          have hcg := hc g (by omega) (by omega)
          have hzz := totE_lt hc (b_xor_lt (x := s) (y := g) (by omega) (by omega))
          have hO1 : OZ M1 b := ⟨fun x y z => (g9 _ _ (by omega)).trans (hO.1 x y z), (g9 _ _ (by omega)).trans hO.2.1, (g9 _ _ (by omega)).trans hO.2.2⟩
          refine x_callV2 (pc := 52) dX1_part_52 rfl kX1_50 (s_keepIfAhead hfl b u r rb rg t hG c hc s g B hs ⟨by omega, by omega⟩ g3 hq2 (by assumption) hO1 ((g9 _ _ (by omega)).trans (hco g (by omega) (by omega) g3)) ((g9 _ _ (by omega)).trans hre.1) ((g9 _ _ (by omega)).trans hre.2) g6 g7 g5) hG.1 rfl rfl (Nat.le_of_ble_eq_true rfl) (k_U (fun M9 hM9 => ?_)) n_U
          obtain ⟨k1, k2, k3, k4⟩ := hM9
          refine x_iload_n (pc := 55) dX1_part_55 rfl rfl ?_
          refine x_iconst (pc := 56) dX1_part_56 (by decide) ?_
          refine x_isub (pc := 57) dX1_part_57 (by omega) ?_
          refine x_iload_n (pc := 58) dX1_part_58 rfl rfl ?_
          refine x_iand (pc := 59) dX1_part_59 ?_
          refine x_istore_n (pc := 60) dX1_part_60 rfl (by decide) rfl ?_
          refine x_goto (tgt := 29) (pc := 61) dX1_part_61 (by decide) ?_
          have nb := g4.next (nx := b_and (g - 1) s) (by omega) (by omega) (fun x y z => by
              unfold grpC
              refine if_neg fun w => ?_
              have := n3 x (by omega) (by omega) w.2.1 y
              omega)
          refine x_lo (lo' := [(0, (2, b + 9)), (1, (0, s)), (2, (0, b_shl 1 (lowV s))), (3, (0, b_and (g - 1) s))]) ⟨rfl, rfl, rfl, rfl, trivial⟩ (ih _ (omin B ((grpC c (totE c) s) g)) _ ⟨n1.1, by omega, n2, nb, ?_, k1, k2, fun w => ?_, fun a i x => (k4 a i x).trans (g9 a i x)⟩ (by omega))
          · unfold omin
            (repeat' split) <;> omega
          · rcases k3 with ⟨k3, k5⟩ | ⟨k3, k5, k6⟩
            · rw [k5] at w
              rw [k3, k5]
              exact g8 w
            · rw [k3, k5]
              exact ⟨by omega, rfl⟩)
  refine x_aload_n (pc := 0) dX1_part_0 rfl rfl ?_
  refine x_getR (jj := 2) (pc := 1) dX1_part_1 fX1_15 hG.1 rfl (by decide) rfl hG.2.1.2.2.1 ?_
  refine x_iload_n (pc := 4) dX1_part_4 rfl rfl ?_
  refine x_ldc (n := 536870912) (pc := 5) cX1_49 (by decide) dX1_part_5 ?_
  refine x_iastore (pc := 7) dX1_part_7 hG.2.2.2.1 (by omega) ?_
  refine x_aload_n (pc := 8) dX1_part_8 rfl rfl ?_
  refine x_getR (jj := 3) (pc := 9) dX1_part_9 fX1_18 hG.1 rfl (by decide) rfl hG.2.1.2.2.2.1 ?_
  refine x_iload_n (pc := 12) dX1_part_12 rfl rfl ?_
  refine x_iconst (pc := 13) dX1_part_13 (by decide) ?_
  refine x_iastore (pc := 14) dX1_part_14 hG.2.2.2.2.1 (by omega) ?_
  refine x_aload_n (pc := 15) dX1_part_15 rfl rfl ?_
  refine x_getR (jj := 4) (pc := 16) dX1_part_16 fX1_21 hG.1 rfl (by decide) rfl hG.2.1.2.2.2.2.1 ?_
  refine x_iload_n (pc := 19) dX1_part_19 rfl rfl ?_
  refine x_iconst (pc := 20) dX1_part_20 (by decide) ?_
  refine x_iastore (pc := 21) dX1_part_21 hG.2.2.2.2.2.1 (by omega) ?_
  refine x_iload_n (pc := 22) dX1_part_22 rfl rfl ?_
  refine x_iload_n (pc := 23) dX1_part_23 rfl rfl ?_
  refine x_ineg (pc := 24) dX1_part_24 (by omega) ?_
  refine x_iand (pc := 25) dX1_part_25 ?_
  rewrite [low_bit hs]
  refine x_istore_n (pc := 26) dX1_part_26 rfl (by decide) rfl ?_
  refine x_iload_n (pc := 27) dX1_part_27 rfl rfl ?_
  refine x_istore_n (pc := 28) dX1_part_28 rfl (by decide) rfl ?_
  refine x_lo (lo' := [(0, (2, b + 9)), (1, (0, s)), (2, (0, b_shl 1 (lowV s))), (3, (0, s))]) ⟨rfl, rfl, rfl, rfl, trivial⟩ (loop (s) (-1) _ ⟨by omega, hs.2, hss, Or.inl ⟨rfl, fun x y z => ?_⟩, Or.inl rfl, ?_, ?_, fun w => absurd rfl w, fun a i x => ?_⟩)
  · unfold grpC
    refine if_neg fun w => ?_
    have := sub_le (g := x) (s := s) ⟨by omega, z⟩ (by omega) w.2.1
    omega
  · rw [up_a (by omega), up_a (by omega), up_s]; rfl
  · rw [up_s]; rfl
  · exact (if_neg (by omega)).trans ((if_neg (by omega)).trans (if_neg (by omega)))
