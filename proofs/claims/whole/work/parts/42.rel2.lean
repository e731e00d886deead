/-! one word of told and one of the street -/
theorem RHs.upd {M : aM} {s a i k v : Int} {t : Int → Int} (h : RHs M s t)
    (q : (a = s ∧ i = 1 ∧ k = 0) ∨ (a = s + 7 ∧ k = 1 + i ∧ 0 ≤ i ∧ i < 7) ∨ (a = s + 8 ∧ k = 8 + i ∧ 0 ≤ i ∧ i < 42) ∨ (a = s + 11 ∧ k = 148 + i ∧ 0 ≤ i ∧ i < 7) ∨ (a = s ∧ i = 7 ∧ k = 155) ∨ (a = s + 12 ∧ k = 156 + i ∧ 0 ≤ i ∧ i < 7) ∨ (a = s + 13 ∧ k = 163 + i ∧ 0 ≤ i ∧ i < 28) ∨ (a = s + 14 ∧ k = 191 + i ∧ 0 ≤ i ∧ i < 28)) : RHs (up M a i v) s (ut t k v) := by
  obtain ⟨h1, h2, h3, h4, h5, h6, h7, h8, h9⟩ := h
  have g : ∀ (b j c : Int), (b = a ∧ j = i ↔ c = k) → M b j = t c → up M a i v b j = ut t k v c := by
    intro b j c e h
    unfold up ut
    by_cases w : c = k
    · rw [if_pos (e.mpr w), if_pos w]
    · rw [if_neg (fun z => w (e.mp z)), if_neg w, h]
  refine ⟨g _ _ _ (by omega) h1, fun j x y => g _ _ _ (by omega) (h2 j x y), fun j x y => g _ _ _ (by omega) (h3 j x y), fun j x y => ?_, fun j x y => ?_, fun j x y => g _ _ _ (by omega) (h6 j x y), g _ _ _ (by omega) h7, fun j x y => g _ _ _ (by omega) (h8 j x y), fun j x y => ⟨g _ _ _ (by omega) (h9 j x y).1, g _ _ _ (by omega) (h9 j x y).2⟩⟩
  · rw [up_a (by omega)]
    exact ⟨(h4 j x y).1, fun b c d => by rw [ut_n (by omega)]; exact (h4 j x y).2 b c d⟩
  · rw [up_a (by omega)]
    exact ⟨(h5 j x y).1, fun b c d => by rw [ut_n (by omega)]; exact (h5 j x y).2 b c d⟩
theorem RHs.bar1 {M : aM} {s a b : Int} {t : Int → Int} (h : RHs M s t) (ha : 0 ≤ a ∧ a < 7) (hb9 : 0 ≤ b ∧ b < 7) : RHs (up M (s + 9) a (b_or (M (s + 9) a) (b_shl 1 b))) s (ut t (50 + 7 * a + b) 1) := by
  obtain ⟨h1, h2, h3, h4, h5, h6, h7, h8, h9⟩ := h
  refine ⟨?_, fun j x y => ?_, fun j x y => ?_, fun j x y => ?_, fun j x y => ?_, fun j x y => ?_, ?_, fun j x y => ?_, fun j x y => ?_⟩
  · rw [up_a (by omega), ut_n (by omega)]; exact h1
  · rw [up_a (by omega), ut_n (by omega)]; exact h2 j x y
  · rw [up_a (by omega), ut_n (by omega)]; exact h3 j x y
  · by_cases e : j = a
    · subst e
      rw [up_s]
      have g := h4 j x y
      refine ⟨b_or_lt g.1 (b_shl1_lt hb9), fun c d f => ?_⟩
      rw [hb_or g.1 (b_shl1_lt hb9) ⟨d, f⟩, hb_shl1 hb9 ⟨d, f⟩, g.2 c d f]
      by_cases w : c = b
      · subst w; rw [ut_s]; simp
      · rw [ut_n (by omega)]; simp [w]
    · rw [up_i e]
      exact ⟨(h4 j x y).1, fun c d f => by rw [ut_n (by omega)]; exact (h4 j x y).2 c d f⟩
  · rw [up_a (by omega)]
    exact ⟨(h5 j x y).1, fun c d f => by rw [ut_n (by omega)]; exact (h5 j x y).2 c d f⟩
  · rw [up_a (by omega), ut_n (by omega)]; exact h6 j x y
  · rw [up_a (by omega), ut_n (by omega)]; exact h7
  · rw [up_a (by omega), ut_n (by omega)]; exact h8 j x y
  · rw [up_a (by omega), ut_n (by omega), up_a (by omega), ut_n (by omega)]; exact h9 j x y
theorem hb_xor1 {x i h : Int} (hx : 0 ≤ x ∧ x < 128) (hi : 0 ≤ i ∧ i < 7) (hh : 0 ≤ h ∧ h < 7) : hb (b_xor x (b_shl 1 i)) h = 1 ↔ (if h = i then ¬ hb x h = 1 else hb x h = 1) := by
  rw [hb_iff (b_xor_lt hx (b_shl1_lt hi)) hh, hb_iff hx hh, bt_xor, bt_shl1 ⟨hi.1, by omega⟩ ⟨hh.1, by omega⟩]
  by_cases e : h = i
  · rw [if_pos e, decide_eq_true e]; cases bt x h <;> simp
  · rw [if_neg e, decide_eq_false e]; cases bt x h <;> simp
theorem RHs.trust1 {M : aM} {s a b v : Int} {t : Int → Int} (h : RHs M s t) (ha : 0 ≤ a ∧ a < 7) (hb9 : 0 ≤ b ∧ b < 7) (hv : v = 1 ↔ ¬ t (99 + 7 * a + b) = 1) : RHs (up M (s + 10) b (b_xor (M (s + 10) b) (b_shl 1 a))) s (ut t (99 + 7 * a + b) v) := by
  obtain ⟨h1, h2, h3, h4, h5, h6, h7, h8, h9⟩ := h
  refine ⟨?_, fun j x y => ?_, fun j x y => ?_, fun j x y => ?_, fun j x y => ?_, fun j x y => ?_, ?_, fun j x y => ?_, fun j x y => ?_⟩
  · rw [up_a (by omega), ut_n (by omega)]; exact h1
  · rw [up_a (by omega), ut_n (by omega)]; exact h2 j x y
  · rw [up_a (by omega), ut_n (by omega)]; exact h3 j x y
  · rw [up_a (by omega)]
    exact ⟨(h4 j x y).1, fun c d f => by rw [ut_n (by omega)]; exact (h4 j x y).2 c d f⟩
  · by_cases e : j = b
    · subst e
      rw [up_s]
      have g := h5 j x y
      refine ⟨b_xor_lt g.1 (b_shl1_lt ha), fun c d f => ?_⟩
      rw [hb_xor1 g.1 ha ⟨d, f⟩]
      by_cases w : c = a
      · subst w; rw [ut_s, if_pos rfl, g.2 c d f]; exact hv.symm
      · rw [ut_n (by omega), if_neg w]; exact g.2 c d f
    · rw [up_i e]
      exact ⟨(h5 j x y).1, fun c d f => by rw [ut_n (by omega)]; exact (h5 j x y).2 c d f⟩
  · rw [up_a (by omega), ut_n (by omega)]; exact h6 j x y
  · rw [up_a (by omega), ut_n (by omega)]; exact h7
  · rw [up_a (by omega), ut_n (by omega)]; exact h8 j x y
  · rw [up_a (by omega), ut_n (by omega), up_a (by omega), ut_n (by omega)]; exact h9 j x y
theorem RHs.ct {M : aM} {s : Int} {t u : Int → Int} (h : RHs M s t) (e : ∀ j, 0 ≤ j → j < 219 → u j = t j) : RHs M s u := by
  obtain ⟨h1, h2, h3, h4, h5, h6, h7, h8, h9⟩ := h
  refine ⟨h1.trans (e _ (by omega) (by omega)).symm, fun j x y => (h2 j x y).trans (e _ (by omega) (by omega)).symm, fun j x y => (h3 j x y).trans (e _ (by omega) (by omega)).symm, fun j x y => ⟨(h4 j x y).1, fun c d f => by rw [e _ (by omega) (by omega)]; exact (h4 j x y).2 c d f⟩, fun j x y => ⟨(h5 j x y).1, fun c d f => by rw [e _ (by omega) (by omega)]; exact (h5 j x y).2 c d f⟩, fun j x y => (h6 j x y).trans (e _ (by omega) (by omega)).symm, h7.trans (e _ (by omega) (by omega)).symm, fun j x y => (h8 j x y).trans (e _ (by omega) (by omega)).symm, fun j x y => ⟨(h9 j x y).1.trans (e _ (by omega) (by omega)).symm, (h9 j x y).2.trans (e _ (by omega) (by omega)).symm⟩⟩
theorem RTar.ct {M : aM} {u : Int} {t v : Int → Int} (h : RTar M u t) (e : ∀ j, 219 ≤ j → v j = t j) : RTar M u v := by
  obtain ⟨h1, h2, h3, h4, h5, h6, h7, h8, h9, h10, h11⟩ := h
  refine ⟨h1.trans (e _ (by omega)).symm, h2.trans (e _ (by omega)).symm, fun k a b => ?_, h4.trans (e _ (by omega)).symm, fun k a b => ?_, h6.trans (e _ (by omega)).symm, h7.trans (e _ (by omega)).symm, h8.trans (e _ (by omega)).symm, fun i a b => (h9 i a b).trans (e _ (by omega)).symm, h10.trans (e _ (by omega)).symm, h11.trans (e _ (by omega)).symm⟩
  · rw [e _ (by omega)] at b
    exact ⟨(h3 k a b).1.trans (e _ (by omega)).symm, (h3 k a b).2.trans (e _ (by omega)).symm⟩
  · rw [e _ (by omega)] at b
    exact ⟨(h5 k a b).1.trans (e _ (by omega)).symm, (h5 k a b).2.trans (e _ (by omega)).symm⟩
theorem RPr.ct {M : aM} {b : Int} {t v : Int → Int} (h : RPr M b t) (e : ∀ j, 219 ≤ j → v j = t j) : RPr M b v :=
  ⟨h.1, fun q x y => by rw [plainV_cg e, cartV_cg e, singleV_cg e, sevV_cg e]; exact h.2.1 q x y, h.2.2⟩
theorem RPl.ct {M : aM} {w : Int} {t v : Int → Int} (h : RPl M w t) (h9 : 0 ≤ t 244 ∧ t 244 ≤ 6) (e : ∀ j, ¬ (148 ≤ j ∧ j < 219) → ¬ (50 ≤ j ∧ j < 148) → j ≠ 0 → v j = t j) : RPl M w v := fun s a b => by
  rw [allV_cg (t := v) (u := t) ⟨fun j x => e j (by omega) (by omega) (by omega), fun i x y z => ⟨e _ (by omega) (by omega) (by omega), fun m c d => e _ (by omega) (by omega) (by omega)⟩, by rw [e 244 (by omega) (by omega) (by omega)]; exact h9.2⟩ (by rw [e 244 (by omega) (by omega) (by omega)]; exact h9.1)]
  exact h s a b
/-- the worths of all sets with h forgotten: what is new of h doesn't matter -/
theorem RPl.fg {M : aM} {w h : Int} {t v : Int → Int} (g : RPl M w t) (h9 : 0 ≤ t 244 ∧ t 244 ≤ 6) (hh : 0 ≤ h ∧ h < 7) (e : ∀ j, ¬ (148 ≤ j ∧ j < 219) → ¬ (50 ≤ j ∧ j < 148) → j ≠ 0 → j ≠ 1 + h → ¬ (8 + 6 * h ≤ j ∧ j < 14 + 6 * h) → v j = t j) : RPl (fgM M w h 128) w v := fun s a b => by
  unfold fgM
  by_cases q : hb s h = 1
  · rw [if_pos ⟨rfl, a, b, by unfold isOfV; rw [if_pos ⟨hh.1, hh.2, q⟩]⟩]
    exact Or.inl rfl
  · rw [if_neg (fun z => by have := z.2.2.2; unfold isOfV at this; rw [if_neg (fun y => q y.2.2)] at this; omega)]
    rw [allV_cg (t := v) (u := t) ⟨fun j x => e j (by omega) (by omega) (by omega) (by omega) (by omega), fun i x y z => ?_, by rw [e 244 (by omega) (by omega) (by omega) (by omega) (by omega)]; exact h9.2⟩ (by rw [e 244 (by omega) (by omega) (by omega) (by omega) (by omega)]; exact h9.1)]
    · exact g s a b
    · have hne : i ≠ h := fun k => q (k ▸ z)
      exact ⟨e _ (by omega) (by omega) (by omega) (by omega) (by omega), fun m c d => e _ (by omega) (by omega) (by omega) (by omega) (by omega)⟩
theorem fgM_none {M : aM} {w h n : Int} (q : h < 0) : fgM M w h n = M := by
  funext a j
  unfold fgM
  refine if_neg fun z => ?_
  have := z.2.2.2
  unfold isOfV at this
  rw [if_neg (by omega)] at this
  omega
/-- nothing of the reference's, nor of the law's row, has changed -/
def frC (M M' : aM) : Prop := ∀ a i : Int, 109 ≤ a → a < 140 → M' a i = M a i
/-- a new street in an old place: all else as it was -/
theorem RC.mk0 {M M' A A' : aM} {N : Nat} {S : aS} (h : RC M N S A) (hA : ∀ r, r ≠ 0 → A' r = A r) (hT : ∀ j, 219 ≤ j → A' 0 j = A 0 j) (hR : ∀ a, ¬ (1 ≤ a ∧ a < 16) → a ≠ 31 → a ≠ 82 → eqR M M' a) (hst : ∀ a, 2 ≤ a → a < 8 → eqR M M' a) (hH : RHs M' 1 (A' 0)) (hP : RPl M' 31 (A' 0)) (hE : RSe M' (A' 0)) : RC M' N S A' := by
  obtain ⟨h1, h2, h3, h4, h5, h6, h7, h8, h9⟩ := h
  refine ⟨⟨hH, (h1.2.cg fun a x y => hst a (by omega) (by omega)).ct hT⟩, ?_, ?_, ?_, ?_, (h6.cg fun a x y => hR a (by omega) (by omega) (by omega)).ct hT, hP, h8.cg (fun a x y => hR a (by omega) (by omega) (by omega)) (fun a x y => hR a (by omega) (by omega) (by omega)), hE⟩
  · have z := h2.cg (hR 0 (by omega) (by omega) (by omega))
    unfold RFr at z ⊢
    rw [hA 2 (by omega)]; exact z
  · have z := h3.cg (hR 17 (by omega) (by omega) (by omega)) (hR 18 (by omega) (by omega) (by omega))
    unfold RRd at z ⊢
    rw [hA 2 (by omega), hA 1 (by omega)]; exact z
  · have z := h4.cg (hR 105 (by omega) (by omega) (by omega)) (hR 106 (by omega) (by omega) (by omega)) (hR 107 (by omega) (by omega) (by omega))
    unfold RTy at z ⊢
    rw [hA 3 (by omega), hA 4 (by omega), hA 5 (by omega)]; exact z
  · have z := h5.cg (hR 16 (by omega) (by omega) (by omega)) (fun a x => hR a (by omega) (by omega) (by omega))
    unfold RIm at z ⊢
    rw [hA 6 (by omega), hA 7 (by omega)]; exact z
