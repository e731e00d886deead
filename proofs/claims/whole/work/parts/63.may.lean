/-! who may buy -/
theorem barB_iff {t : Int → Int} {set a : Int} (ha : 0 ≤ a) : barB t set a = true ↔ hb set a = 1 ∧ ∃ b : Int, 0 ≤ b ∧ b < a ∧ hb set b = 1 ∧ t (50 + 7 * a + b) = 1 := by
  unfold barB
  rw [Bool.and_eq_true, decide_eq_true_eq, Bool.not_eq_true', ← Bool.not_eq_true, allB_iff]
  constructor
  · rintro ⟨h1, h2⟩
    refine ⟨h1, Classical.byContradiction fun q => h2 fun b x y => ?_⟩
    by_cases e1 : hb set b = 1
    · by_cases e2 : t (50 + 7 * a + b) = 1
      · exact absurd ⟨b, x, by omega, e1, e2⟩ q
      · rw [decide_eq_false e2]; simp
    · rw [decide_eq_false e1]; simp
  · rintro ⟨h1, b, x, y, e1, e2⟩
    refine ⟨h1, fun h => ?_⟩
    have z := h b x (by omega)
    rw [decide_eq_true e1, decide_eq_true e2] at z
    cases z
theorem barC_iff {br : Int → Int} {set a : Int} (hs : 0 ≤ set ∧ set < 128) (hr : 0 ≤ br a ∧ br a < 128) : barC br set a = true ↔ hb set a = 1 ∧ ∃ b : Int, 0 ≤ b ∧ b < 7 ∧ hb (br a) b = 1 ∧ hb set b = 1 := by
  unfold barC
  rw [Bool.and_eq_true, decide_eq_true_eq, decide_eq_true_eq]
  constructor
  · rintro ⟨h1, h2⟩
    refine ⟨h1, Classical.byContradiction fun q => h2 ((b_zero_iff (b_and_lt hr)).mpr fun b x y z => q ⟨b, x, y, ?_⟩)⟩
    exact (hb_and hr hs ⟨x, y⟩).mp z
  · rintro ⟨h1, b, x, y, e⟩
    exact ⟨h1, fun h => (b_zero_iff (b_and_lt hr)).mp h b x y ((hb_and hr hs ⟨x, y⟩).mpr e)⟩
theorem RHs.barred {M : aM} {s set : Int} {t : Int → Int} (h : RHs M s t) (hs : 0 ≤ set ∧ set < 128) (hy : ∀ a b, 0 ≤ a → a < 7 → 0 ≤ b → b < 7 → t (50 + 7 * a + b) = t (50 + 7 * b + a)) (hd : ∀ a, 0 ≤ a → a < 7 → t (50 + 7 * a + a) = 0) : firstB (barC (M (s + 9)) set) 7 = -1 ↔ barV t set = false := by
  have hr := h.2.2.2.1
  unfold barV
  rw [decide_eq_false_iff_not, Classical.not_not, firstB_none, firstB_none]
  constructor
  · intro g a x y
    rw [← Bool.not_eq_true, barB_iff x]
    rintro ⟨h1, b, b0, b1, e1, e2⟩
    have z := g a x y
    rw [← Bool.not_eq_true, barC_iff hs (hr a x (by omega)).1] at z
    exact z ⟨h1, b, b0, by omega, ((hr a x (by omega)).2 b b0 (by omega)).mpr e2, e1⟩
  · intro g a x y
    rw [← Bool.not_eq_true, barC_iff hs (hr a x (by omega)).1]
    rintro ⟨h1, b, b0, b1, e1, e2⟩
    have e1 := ((hr a x (by omega)).2 b b0 b1).mp e1
    by_cases e : b < a
    · have z := g a x y
      rw [← Bool.not_eq_true, barB_iff x] at z
      exact z ⟨h1, b, b0, e, e2, e1⟩
    · by_cases e9 : b = a
      · subst e9
        have := hd b b0 b1
        omega
      · have z := g b b0 (by omega)
        rw [← Bool.not_eq_true, barB_iff b0] at z
        exact z ⟨e2, a, x, by omega, h1, by rw [← hy a b x (by omega) b0 b1]; exact e1⟩
/-- may a set buy together -/
theorem RHs.may {M : aM} {s set : Int} {t : Int → Int} (h : RHs M s t) (hs : 0 ≤ set ∧ set < 128) (hy : ∀ a b, 0 ≤ a → a < 7 → 0 ≤ b → b < 7 → t (50 + 7 * a + b) = t (50 + 7 * b + a)) (hd : ∀ a, 0 ≤ a → a < 7 → t (50 + 7 * a + a) = 0) : mayC (M (s + 9)) (M (s + 10)) set = if barV t set = false ∧ holdV t set ≠ -1 then 1 else 0 := by
  unfold mayC
  rw [h.hold hs]
  by_cases e : barV t set = false ∧ holdV t set ≠ -1
  · rw [if_pos e, if_pos ⟨(h.barred hs hy hd).mpr e.1, e.2⟩]
  · rw [if_neg e, if_neg fun z => e ⟨(h.barred hs hy hd).mp z.1, z.2⟩]
