/-! WHAT EVERY CALL KEEPS of the abstract state -/
def TA (t : Int → Int) : Prop := (0 ≤ t 0 ∧ t 0 ≤ 7) ∧ (∀ h, 0 ≤ h → h < 7 → 0 ≤ t (1 + h) ∧ t (1 + h) ≤ 8) ∧ (∀ i, 0 ≤ i → i < 42 → 0 ≤ t (8 + i) ∧ t (8 + i) ≤ 8) ∧ (∀ a b, 0 ≤ a → a < 7 → 0 ≤ b → b < 7 → (t (50 + 7 * a + b) = 0 ∨ t (50 + 7 * a + b) = 1) ∧ t (50 + 7 * a + b) = t (50 + 7 * b + a)) ∧ (∀ a b, 0 ≤ a → a < 7 → 0 ≤ b → b < 7 → (t (99 + 7 * a + b) = 0 ∨ t (99 + 7 * a + b) = 1 ∧ a < t 0 ∧ b < t 0)) ∧ (∀ h, 0 ≤ h → h < 7 → 0 ≤ t (148 + h) ∧ t (148 + h) ≤ 100000) ∧ (1 ≤ t 155 ∧ t 155 ≤ 1000) ∧ (∀ h, 0 ≤ h → h < 7 → 0 ≤ t (156 + h) ∧ t (156 + h) ≤ 4) ∧ (∀ i, 0 ≤ i → i < 28 → 0 ≤ t (163 + i) ∧ t (163 + i) ≤ 8) ∧ (∀ h n, 0 ≤ h → h < 7 → 0 ≤ n → n < t (156 + h) → 1 ≤ t (191 + 4 * h + n) ∧ t (191 + 4 * h + n) ≤ 9)
def TZ (t : Int → Int) : Prop := (t 219 = 0 ∨ t 219 = 1) ∧ (0 ≤ t 220 ∧ t 220 ≤ 6) ∧ (∀ k, 0 ≤ k → k < t 220 → 1 ≤ t (221 + k) ∧ t (221 + k) ≤ 60 ∧ 1 ≤ t (227 + k) ∧ t (227 + k) ≤ 99) ∧ (0 ≤ t 233 ∧ t 233 ≤ 4) ∧ (∀ k, 0 ≤ k → k < t 233 → 1 ≤ t (234 + k) ∧ t (234 + k) ≤ 60 ∧ 0 ≤ t (238 + k) ∧ t (238 + k) ≤ 99) ∧ (0 ≤ t 242 ∧ t 242 ≤ 99) ∧ (0 ≤ t 243 ∧ t 243 ≤ 99) ∧ (1 ≤ t 244 ∧ t 244 ≤ 6) ∧ (∀ i, 0 ≤ i → i < 6 → 0 ≤ t (245 + i) ∧ t (245 + i) ≤ 99) ∧ (0 ≤ t 251 ∧ t 251 ≤ 999) ∧ (0 ≤ t 252 ∧ t 252 ≤ 2)
theorem TOK.ta {t : Int → Int} (h : TOK t) : TA t := ⟨h.1, h.2.1, h.2.2.1, h.2.2.2.1, h.2.2.2.2.1, h.2.2.2.2.2.1, h.2.2.2.2.2.2.1, h.2.2.2.2.2.2.2.1, h.2.2.2.2.2.2.2.2.1, h.2.2.2.2.2.2.2.2.2.1⟩
theorem TOK.tz {t : Int → Int} (h : TOK t) : TZ t := h.2.2.2.2.2.2.2.2.2.2
theorem TA.tok {t : Int → Int} (h : TA t) (z : TZ t) : TOK t := ⟨h.1, h.2.1, h.2.2.1, h.2.2.2.1, h.2.2.2.2.1, h.2.2.2.2.2.1, h.2.2.2.2.2.2.1, h.2.2.2.2.2.2.2.1, h.2.2.2.2.2.2.2.2.1, h.2.2.2.2.2.2.2.2.2, z⟩
theorem TZ.cg {t u : Int → Int} (h : TZ t) (e : ∀ j, 219 ≤ j → j < 253 → u j = t j) : TZ u := by
  obtain ⟨h1, h2, h3, h4, h5, h6, h7, h8, h9, h10, h11⟩ := h
  have e1 := e 220 (by decide) (by decide)
  have e2 := e 233 (by decide) (by decide)
  unfold TZ
  rw [e1, e2, e 219 (by decide) (by decide), e 242 (by decide) (by decide), e 243 (by decide) (by decide), e 244 (by decide) (by decide), e 251 (by decide) (by decide), e 252 (by decide) (by decide)]
  refine ⟨h1, h2, fun k a b => ?_, h4, fun k a b => ?_, h6, h7, h8, fun i a b => ?_, h10, h11⟩
  · rw [e _ (by omega) (by omega), e _ (by omega) (by omega)]; exact h3 k a b
  · rw [e _ (by omega) (by omega), e _ (by omega) (by omega)]; exact h5 k a b
  · rw [e _ (by omega) (by omega)]; exact h9 i a b
theorem TZ.f {f u : Int → Int} (h : FOK f) (e : ∀ j, 219 ≤ j → j < 253 → u j = f (j - 219)) : TZ u := by
  obtain ⟨h1, h2, h3, h4, h5, h6, h7, h8, h9, h10, h11⟩ := h
  have e1 : u 220 = f 1 := e 220 (by decide) (by decide)
  have e2 : u 233 = f 14 := e 233 (by decide) (by decide)
  have e3 : u 219 = f 0 := e 219 (by decide) (by decide)
  have e4 : u 242 = f 23 := e 242 (by decide) (by decide)
  have e5 : u 243 = f 24 := e 243 (by decide) (by decide)
  have e6 : u 244 = f 25 := e 244 (by decide) (by decide)
  have e7 : u 251 = f 32 := e 251 (by decide) (by decide)
  have e8 : u 252 = f 33 := e 252 (by decide) (by decide)
  unfold TZ
  rw [e1, e2, e3, e4, e5, e6, e7, e8]
  refine ⟨h1, h2, fun k a b => ?_, h4, fun k a b => ?_, h6, h7, h8, fun i a b => ?_, h10, h11⟩
  · rw [e _ (by omega) (by omega), e _ (by omega) (by omega), show 221 + k - 219 = 2 + k by omega, show 227 + k - 219 = 8 + k by omega]; exact h3 k a b
  · rw [e _ (by omega) (by omega), e _ (by omega) (by omega), show 234 + k - 219 = 15 + k by omega, show 238 + k - 219 = 19 + k by omega]; exact h5 k a b
  · rw [e _ (by omega) (by omega), show 245 + i - 219 = 26 + i by omega]; exact h9 i a b
theorem TA.r1 {t : Int → Int} (h : TA t) (j : Int) (a : 1 ≤ j) (b : j < 50) : 0 ≤ t j ∧ t j ≤ 8 := by
  by_cases e : j < 8
  · have := h.2.1 (j - 1) (by omega) (by omega)
    rw [show 1 + (j - 1) = j by omega] at this
    exact this
  · have := h.2.2.1 (j - 8) (by omega) (by omega)
    rw [show 8 + (j - 8) = j by omega] at this
    exact this
theorem TA.r3 {t : Int → Int} (h : TA t) (j : Int) (a : 148 ≤ j) (b : j < 155) : 0 ≤ t j ∧ t j ≤ 100000 := by
  have := h.2.2.2.2.2.1 (j - 148) (by omega) (by omega)
  rw [show 148 + (j - 148) = j by omega] at this
  exact this
theorem TA.w {t u : Int → Int} (h : TA t) (e : ∀ j, 0 ≤ j → j < 219 → ¬ (1 ≤ j ∧ j < 50) → ¬ (148 ≤ j ∧ j < 156) → u j = t j) (r1 : ∀ j, 1 ≤ j → j < 50 → 0 ≤ u j ∧ u j ≤ 8) (r3 : ∀ j, 148 ≤ j → j < 155 → 0 ≤ u j ∧ u j ≤ 100000) (r4 : 1 ≤ u 155 ∧ u 155 ≤ 1000) : TA u := by
  obtain ⟨h1, h2, h3, h4, h5, h6, h7, h8, h9, h10⟩ := h
  have e0 := e 0 (by decide) (by decide) (by decide) (by decide)
  unfold TA
  rw [e0]
  refine ⟨h1, fun i a b => r1 _ (by omega) (by omega), fun i a b => r1 _ (by omega) (by omega), fun a b p q r s => ?_, fun a b p q r s => ?_, fun i a b => r3 _ (by omega) (by omega), r4, fun i a b => ?_, fun i a b => ?_, fun i n a b c d => ?_⟩
  · rw [e _ (by omega) (by omega) (by omega) (by omega), e _ (by omega) (by omega) (by omega) (by omega)]; exact h4 a b p q r s
  · rw [e _ (by omega) (by omega) (by omega) (by omega)]; exact h5 a b p q r s
  · rw [e _ (by omega) (by omega) (by omega) (by omega)]; exact h8 i a b
  · rw [e _ (by omega) (by omega) (by omega) (by omega)]; exact h9 i a b
  · have h89 := h8 i a b
    rw [e _ (by omega) (by omega) (by omega) (by omega)] at d
    rw [e _ (by omega) (by omega) (by omega) (by omega)]; exact h10 i n a b c d
theorem TA.cg {t u : Int → Int} (h : TA t) (e : ∀ j, 0 ≤ j → j < 219 → u j = t j) : TA u := h.w (fun j a b _ _ => e j a b) (fun j a b => by rw [e j (by omega) (by omega)]; exact h.r1 j a b) (fun j a b => by rw [e j (by omega) (by omega)]; exact h.r3 j a b) (by rw [e 155 (by decide) (by decide)]; exact h.2.2.2.2.2.2.1)
theorem TOK.cg {t u : Int → Int} (h : TOK t) (e : ∀ j, 0 ≤ j → j < 253 → u j = t j) : TOK u := (h.ta.cg fun j a b => e j a (by omega)).tok (h.tz.cg fun j a b => e j (by omega) b)
theorem ut_at {t : Int → Int} {k v j : Int} : ut t k v j = if j = k then v else t j := rfl
/-- one word of the state is told -/
theorem TOK.one {t : Int → Int} {k v : Int} (h : TOK t) (hk : (1 ≤ k ∧ k < 50 ∧ 0 ≤ v ∧ v ≤ 8) ∨ (148 ≤ k ∧ k < 155 ∧ 0 ≤ v ∧ v ≤ 100000) ∨ (k = 155 ∧ 1 ≤ v ∧ v ≤ 1000)) : TOK (ut t k v) := by
  refine TA.tok (h.ta.w (fun j a b c d => ut_n (by omega)) (fun j a b => ?_) (fun j a b => ?_) ?_) (h.tz.cg fun j a b => ut_n (by omega))
  · rw [ut_at]; split
    · omega
    · exact h.ta.r1 j a b
  · rw [ut_at]; split
    · omega
    · exact h.ta.r3 j a b
  · rw [ut_at]; split
    · omega
    · exact h.2.2.2.2.2.2.1
theorem TOK.house {t : Int → Int} {c : Int} (h : TOK t) (h7 : t 0 ≠ 7) (hc : 0 ≤ c ∧ c ≤ 8) : TOK (ut (ut t (1 + t 0) c) 0 (t 0 + 1)) := by
  have q := h.1
  have z := h.one (k := 1 + t 0) (v := c) (Or.inl ⟨by omega, by omega, hc.1, hc.2⟩)
  have e0 : ut t (1 + t 0) c 0 = t 0 := ut_n (by omega)
  generalize ut t (1 + t 0) c = u at z e0 ⊢
  refine TA.tok ?_ (z.tz.cg fun j a b => ut_n (by omega))
  obtain ⟨z1, z2, z3, z4, z5, z6, z7, z8, z9, z10⟩ := z.ta
  have g : ∀ j, j ≠ 0 → ut u 0 (t 0 + 1) j = u j := fun j e => ut_n e
  have g0 : ut u 0 (t 0 + 1) 0 = t 0 + 1 := ut_s
  unfold TA
  rw [g0, g 155 (by decide)]
  refine ⟨by omega, fun i a b => ?_, fun i a b => ?_, fun a b p q r s => ?_, fun a b p q r s => ?_, fun i a b => ?_, z7, fun i a b => ?_, fun i a b => ?_, fun i n a b c d => ?_⟩
  · rw [g _ (by omega)]; exact z2 i a b
  · rw [g _ (by omega)]; exact z3 i a b
  · rw [g _ (by omega), g _ (by omega)]; exact z4 a b p q r s
  · rw [g _ (by omega)]
    rcases z5 a b p q r s with w | w
    · exact Or.inl w
    · exact Or.inr ⟨w.1, by omega, by omega⟩
  · rw [g _ (by omega)]; exact z6 i a b
  · rw [g _ (by omega)]; exact z8 i a b
  · rw [g _ (by omega)]; exact z9 i a b
  · rw [g _ (by omega)] at d
    rw [g _ (by omega)]; exact z10 i n a b c d
theorem TOK.bar {t : Int → Int} {a b : Int} (h : TOK t) (ha : 0 ≤ a ∧ a < 7) (hb9 : 0 ≤ b ∧ b < 7) : TOK (ut (ut t (50 + 7 * a + b) 1) (50 + 7 * b + a) 1) := by
  have g : ∀ j, ¬ (50 ≤ j ∧ j < 99) → ut (ut t (50 + 7 * a + b) 1) (50 + 7 * b + a) 1 j = t j := fun j e => by rw [ut_n (by omega), ut_n (by omega)]
  have g2 : ∀ j, ut (ut t (50 + 7 * a + b) 1) (50 + 7 * b + a) 1 j = if j = 50 + 7 * a + b ∨ j = 50 + 7 * b + a then 1 else t j := fun j => by
    rw [ut_at, ut_at]
    by_cases e1 : j = 50 + 7 * b + a
    · rw [if_pos e1, if_pos (Or.inr e1)]
    · rw [if_neg e1]
      by_cases e2 : j = 50 + 7 * a + b
      · rw [if_pos e2, if_pos (Or.inl e2)]
      · rw [if_neg e2, if_neg (fun q => q.elim e2 e1)]
  generalize ut (ut t (50 + 7 * a + b) 1) (50 + 7 * b + a) 1 = u at g g2 ⊢
  refine TA.tok ?_ (h.tz.cg fun j a b => g j (by omega))
  obtain ⟨z1, z2, z3, z4, z5, z6, z7, z8, z9, z10⟩ := h.ta
  unfold TA
  rw [g 0 (by decide), g 155 (by decide)]
  refine ⟨z1, fun i a b => ?_, fun i a b => ?_, fun x y p q r s => ?_, fun a b p q r s => ?_, fun i a b => ?_, z7, fun i a b => ?_, fun i a b => ?_, fun i n a b c d => ?_⟩
  · rw [g _ (by omega)]; exact z2 i a b
  · rw [g _ (by omega)]; exact z3 i a b
  · rw [g2, g2]
    by_cases e : 50 + 7 * x + y = 50 + 7 * a + b ∨ 50 + 7 * x + y = 50 + 7 * b + a
    · rw [if_pos e, if_pos (by omega)]; exact ⟨Or.inr rfl, rfl⟩
    · rw [if_neg e, if_neg (by omega)]; exact z4 x y p q r s
  · rw [g _ (by omega)]; exact z5 a b p q r s
  · rw [g _ (by omega)]; exact z6 i a b
  · rw [g _ (by omega)]; exact z8 i a b
  · rw [g _ (by omega)]; exact z9 i a b
  · have h89 := z8 i a b
    rw [g _ (by omega)] at d
    rw [g _ (by omega)]; exact z10 i n a b c d
theorem TB.cg {t u : Int → Int} (h : TB t) (e : ∀ j, 50 ≤ j → j < 99 → u j = t j) : TB u := ⟨fun a b p q r s => by rw [e _ (by omega) (by omega), e _ (by omega) (by omega)]; exact h.1 a b p q r s, fun a p q => by rw [e _ (by omega) (by omega)]; exact h.2 a p q⟩
theorem TB.one {t : Int → Int} {k v : Int} (h : TB t) (hk : ¬ (50 ≤ k ∧ k < 99)) : TB (ut t k v) := h.cg fun j a b => ut_n (by omega)
theorem TB.bar {t : Int → Int} {a b : Int} (h : TB t) (ha : 0 ≤ a ∧ a < 7) (hb9 : 0 ≤ b ∧ b < 7) (hab : a ≠ b) : TB (ut (ut t (50 + 7 * a + b) 1) (50 + 7 * b + a) 1) := by
  have g2 : ∀ j, ut (ut t (50 + 7 * a + b) 1) (50 + 7 * b + a) 1 j = if j = 50 + 7 * a + b ∨ j = 50 + 7 * b + a then 1 else t j := fun j => by
    rw [ut_at, ut_at]
    by_cases e1 : j = 50 + 7 * b + a
    · rw [if_pos e1, if_pos (Or.inr e1)]
    · rw [if_neg e1]
      by_cases e2 : j = 50 + 7 * a + b
      · rw [if_pos e2, if_pos (Or.inl e2)]
      · rw [if_neg e2, if_neg (fun q => q.elim e2 e1)]
  refine ⟨fun x y p q r s => ?_, fun x p q => ?_⟩
  · rw [g2, g2]
    by_cases e : 50 + 7 * x + y = 50 + 7 * a + b ∨ 50 + 7 * x + y = 50 + 7 * b + a
    · rw [if_pos e, if_pos (by omega)]
    · rw [if_neg e, if_neg (by omega)]; exact h.1 x y p q r s
  · rw [g2, if_neg (by omega)]; exact h.2 x p q
theorem TOK.trust {t : Int → Int} {a b v : Int} (h : TOK t) (ha : 0 ≤ a ∧ a < t 0) (hb9 : 0 ≤ b ∧ b < t 0) (hv : v = 0 ∨ v = 1) : TOK (ut t (99 + 7 * a + b) v) := by
  have q0 := h.1
  have g : ∀ j, ¬ (99 ≤ j ∧ j < 148) → ut t (99 + 7 * a + b) v j = t j := fun j e => ut_n (by omega)
  have g2 : ∀ j, ut t (99 + 7 * a + b) v j = if j = 99 + 7 * a + b then v else t j := fun j => rfl
  generalize ut t (99 + 7 * a + b) v = u at g g2 ⊢
  refine TA.tok ?_ (h.tz.cg fun j a b => g j (by omega))
  obtain ⟨z1, z2, z3, z4, z5, z6, z7, z8, z9, z10⟩ := h.ta
  unfold TA
  rw [g 0 (by decide), g 155 (by decide)]
  refine ⟨z1, fun i a b => ?_, fun i a b => ?_, fun x y p q r s => ?_, fun x y p q r s => ?_, fun i a b => ?_, z7, fun i a b => ?_, fun i a b => ?_, fun i n a b c d => ?_⟩
  · rw [g _ (by omega)]; exact z2 i a b
  · rw [g _ (by omega)]; exact z3 i a b
  · rw [g _ (by omega), g _ (by omega)]; exact z4 x y p q r s
  · rw [g2]
    by_cases e : 99 + 7 * x + y = 99 + 7 * a + b
    · rw [if_pos e]
      rcases hv with hv | hv
      · exact Or.inl hv
      · exact Or.inr ⟨hv, by omega, by omega⟩
    · rw [if_neg e]; exact z5 x y p q r s
  · rw [g _ (by omega)]; exact z6 i a b
  · rw [g _ (by omega)]; exact z8 i a b
  · rw [g _ (by omega)]; exact z9 i a b
  · have h89 := z8 i a b
    rw [g _ (by omega)] at d
    rw [g _ (by omega)]; exact z10 i n a b c d
theorem TOK.doubt {t : Int → Int} {h s c : Int} (z : TOK t) (hh : 0 ≤ h ∧ h < 7) (hs : 0 ≤ s ∧ s ≤ 8) (hc : 1 ≤ c ∧ c ≤ 9) (h4 : t (156 + h) ≠ 4) : TOK (ut (ut (ut t (163 + 4 * h + t (156 + h)) s) (191 + 4 * h + t (156 + h)) c) (156 + h) (t (156 + h) + 1)) := by
  have q0 := z.2.2.2.2.2.2.2.1 h hh.1 hh.2
  generalize hn : t (156 + h) = n at q0 h4 ⊢
  have g : ∀ j, ¬ (156 ≤ j ∧ j < 219) → ut (ut (ut t (163 + 4 * h + n) s) (191 + 4 * h + n) c) (156 + h) (n + 1) j = t j := fun j e => by rw [ut_n (by omega), ut_n (by omega), ut_n (by omega)]
  have ga : ∀ i, 0 ≤ i → i < 7 → ut (ut (ut t (163 + 4 * h + n) s) (191 + 4 * h + n) c) (156 + h) (n + 1) (156 + i) = if i = h then n + 1 else t (156 + i) := fun i a b => by
    by_cases e : i = h
    · rw [if_pos e, e, ut_s]
    · rw [if_neg e, ut_n (by omega), ut_n (by omega), ut_n (by omega)]
  have gb : ∀ j, 163 ≤ j → j < 191 → ut (ut (ut t (163 + 4 * h + n) s) (191 + 4 * h + n) c) (156 + h) (n + 1) j = if j = 163 + 4 * h + n then s else t j := fun j a b => by
    rw [ut_n (by omega), ut_n (by omega)]; rfl
  have gc : ∀ j, 191 ≤ j → j < 219 → ut (ut (ut t (163 + 4 * h + n) s) (191 + 4 * h + n) c) (156 + h) (n + 1) j = if j = 191 + 4 * h + n then c else t j := fun j a b => by
    rw [ut_n (by omega), ut_at]
    by_cases e : j = 191 + 4 * h + n
    · rw [if_pos e, if_pos e]
    · rw [if_neg e, if_neg e, ut_n (by omega)]
  generalize ut (ut (ut t (163 + 4 * h + n) s) (191 + 4 * h + n) c) (156 + h) (n + 1) = u at g ga gb gc ⊢
  refine TA.tok ?_ (z.tz.cg fun j a b => g j (by omega))
  obtain ⟨z1, z2, z3, z4, z5, z6, z7, z8, z9, z10⟩ := z.ta
  unfold TA
  rw [g 0 (by decide), g 155 (by decide)]
  refine ⟨z1, fun i a b => ?_, fun i a b => ?_, fun x y p q r s => ?_, fun x y p q r s => ?_, fun i a b => ?_, z7, fun i a b => ?_, fun i a b => ?_, fun i m a b p d => ?_⟩
  · rw [g _ (by omega)]; exact z2 i a b
  · rw [g _ (by omega)]; exact z3 i a b
  · rw [g _ (by omega), g _ (by omega)]; exact z4 x y p q r s
  · rw [g _ (by omega)]; exact z5 x y p q r s
  · rw [g _ (by omega)]; exact z6 i a b
  · rw [ga i a b]
    split
    · omega
    · exact z8 i a b
  · rw [gb _ (by omega) (by omega)]
    split
    · exact hs
    · exact z9 i a b
  · have h89 := z8 i a b
    rw [ga i a b] at d
    by_cases e : i = h
    · rw [if_pos e] at d
      rw [gc _ (by omega) (by omega)]
      by_cases e2 : 191 + 4 * i + m = 191 + 4 * h + n
      · rw [if_pos e2]; exact hc
      · rw [if_neg e2]
        exact z10 i m a b p (by rw [e, hn]; omega)
    · rw [if_neg e] at d
      rw [gc _ (by omega) (by omega), if_neg (by omega)]
      exact z10 i m a b p d
def INV (A : aM) : Prop := TOK (A 0) ∧ TB (A 0) ∧ (0 ≤ A 2 0 ∧ A 2 0 ≤ 300) ∧ (∀ i, 0 ≤ i → i < A 2 0 → 0 ≤ A 1 i ∧ A 1 i ≤ 255) ∧ (∀ i, 0 ≤ i → i < 4 → (-1 ≤ A 3 i ∧ A 3 i ≤ 3) ∧ (0 ≤ A 4 i ∧ A 4 i ≤ 40)) ∧ (∀ i, 0 ≤ i → i < 3 → A 6 i = 0 ∨ (A 6 i = 1 ∧ TOK (fun j => A 7 (253 * i + j)) ∧ TB (fun j => A 7 (253 * i + j))))
theorem INV.a0 {A A' : aM} (h : INV A) (e : ∀ r, r ≠ 0 → A' r = A r) (t : TOK (A' 0)) (b : TB (A' 0)) : INV A' := by
  obtain ⟨h1, h2, h3, h4, h5, h6⟩ := h
  unfold INV
  rw [e 1 (by decide), e 2 (by decide), e 3 (by decide), e 4 (by decide), e 6 (by decide), e 7 (by decide)]
  exact ⟨t, b, h3, h4, h5, h6⟩
theorem up0_r {A : aM} {k v r : Int} (h : r ≠ 0) : up A 0 k v r = A r := funext fun i => up_a h
theorem INV.one {A : aM} {k v : Int} (h : INV A) (hk : (1 ≤ k ∧ k < 50 ∧ 0 ≤ v ∧ v ≤ 8) ∨ (148 ≤ k ∧ k < 155 ∧ 0 ≤ v ∧ v ≤ 100000) ∨ (k = 155 ∧ 1 ≤ v ∧ v ≤ 1000)) : INV (up A 0 k v) :=
  h.a0 (fun r hr => up0_r hr) (by rw [up_0]; exact h.1.one hk) (by rw [up_0]; exact h.2.1.one (by omega))
/-- told stays; of the numbers only the fraction changes -/
theorem INV.fr {A : aM} {p q : Int} (h : INV A) : INV (frA A p q) := by
  have e : ∀ r, r ≠ 2 → frA A p q r = A r := fun r hr => funext fun i => by unfold frA; rw [up_a hr, up_a hr]
  have e2 : frA A p q 2 0 = A 2 0 := by unfold frA; rw [up_i (by decide), up_i (by decide)]
  obtain ⟨h1, h2, h3, h4, h5, h6⟩ := h
  unfold INV
  rw [e 0 (by decide), e 1 (by decide), e2, e 3 (by decide), e 4 (by decide), e 6 (by decide), e 7 (by decide)]
  exact ⟨h1, h2, h3, h4, h5, h6⟩
theorem INV.house {A : aM} (h : INV A) (c : Int) : INV (spHouse A c).2.2 := by
  unfold spHouse
  split
  · exact h
  split
  · exact h
  · refine h.a0 (fun r hr => (up0_r hr).trans (up0_r hr)) ?_ ?_
    · show TOK (up (up A 0 (1 + A 0 0) c) 0 0 (A 0 0 + 1) 0)
      rw [up_0, up_0]; exact h.1.house (by assumption) (by omega)
    · show TB (up (up A 0 (1 + A 0 0) c) 0 0 (A 0 0 + 1) 0)
      have := h.1.1
      rw [up_0, up_0]; exact (h.2.1.one (by omega)).one (by omega)
theorem INV.want {A : aM} (h : INV A) (a i s : Int) : INV (spWant A a i s).2.2 := by
  have := h.1.1
  unfold spWant
  split
  · exact h
  split
  · exact h
  · exact h.one (by omega)
theorem INV.cellar {A : aM} (h : INV A) (a s : Int) : INV (spCellar A a s).2.2 := by
  have := h.1.1
  unfold spCellar
  split
  · exact h
  split
  · exact h
  · exact h.one (by omega)
theorem INV.pay {A : aM} (h : INV A) (a s : Int) : INV (spPay A a s).2.2 := by
  have := h.1.1
  unfold spPay
  split
  · exact h
  split
  · exact h
  · exact h.one (by omega)
theorem INV.by_ {A : aM} (h : INV A) (v : Int) : INV (spBy A v).2.2 := by
  unfold spBy
  split
  · exact h
  · exact h.one (by omega)
theorem INV.bar {A : aM} (h : INV A) (a b : Int) : INV (spBar A a b).2.2 := by
  have := h.1.1
  unfold spBar
  split
  · exact h
  split
  · exact h
  · refine h.a0 (fun r hr => (up0_r hr).trans (up0_r hr)) ?_ ?_
    · show TOK (up (up A 0 (50 + 7 * a + b) 1) 0 (50 + 7 * b + a) 1 0)
      rw [up_0, up_0]; exact h.1.bar (by omega) (by omega)
    · show TB (up (up A 0 (50 + 7 * a + b) 1) 0 (50 + 7 * b + a) 1 0)
      rw [up_0, up_0]; exact h.2.1.bar (by omega) (by omega) (by assumption)
theorem INV.trust {A : aM} (h : INV A) (a b x : Int) : INV (spTrust A a b x).2.2 := by
  have := h.1.1
  unfold spTrust
  split
  · exact h
  split
  · exact h
  · refine h.a0 (fun r hr => up0_r hr) ?_ ?_
    · show TOK (up A 0 (99 + 7 * a + b) (if x = 0 then 0 else 1) 0)
      rw [up_0]; exact h.1.trust (by omega) (by omega) (by split <;> omega)
    · show TB (up A 0 (99 + 7 * a + b) (if x = 0 then 0 else 1) 0)
      rw [up_0]; exact h.2.1.one (by omega)
theorem INV.doubt {A : aM} (h : INV A) (a s c : Int) : INV (spDoubt A a s c).2.2 := by
  have := h.1.1
  unfold spDoubt
  split
  · exact h
  split
  · exact h
  split
  · exact h
  · have q0 := h.1.2.2.2.2.2.2.2.1 a (by omega) (by omega)
    refine h.a0 (fun r hr => (up0_r hr).trans ((up0_r hr).trans (up0_r hr))) ?_ ?_
    · show TOK (up (up (up A 0 (163 + 4 * a + A 0 (156 + a)) s) 0 (191 + 4 * a + A 0 (156 + a)) c) 0 (156 + a) (A 0 (156 + a) + 1) 0)
      rw [up_0, up_0, up_0]; exact h.1.doubt (by omega) (by omega) (by omega) (by assumption)
    · show TB (up (up (up A 0 (163 + 4 * a + A 0 (156 + a)) s) 0 (191 + 4 * a + A 0 (156 + a)) c) 0 (156 + a) (A 0 (156 + a) + 1) 0)
      rw [up_0, up_0, up_0]; exact ((h.2.1.one (by omega)).one (by omega)).one (by omega)
theorem bys_r4 {w : Int} {n : Nat} (hn : n < 4) : 0 ≤ bys w (24 - 8 * (n : Int)) ∧ bys w (24 - 8 * (n : Int)) ≤ 255 := by
  have e := bys_eq (w := w) (s := 24 - 8 * (n : Int)) (k := 24 - 8 * n) (by omega) (by omega)
  have := (((Int32.ofInt w).toBitVec >>> (24 - 8 * n)).setWidth 8).isLt
  omega
theorem INV.ap_1 {A : aM} (h : INV A) {v : Int} (hv : 0 ≤ v ∧ v ≤ 255) (h9 : A 2 0 < 300) : INV (ap1 A v) := by
  have e : ∀ r, r ≠ 1 → r ≠ 2 → ap1 A v r = A r := fun r h1 h2 => funext fun i => by unfold ap1; rw [up_a h2, up_a h1]
  have e1 : ∀ i, ap1 A v 1 i = if i = A 2 0 then v else A 1 i := fun i => by
    unfold ap1; rw [up_a (by decide), up_at]
  have e2 : ap1 A v 2 0 = A 2 0 + 1 := ap1_len
  obtain ⟨h1, h2, h3, h4, h5, h6⟩ := h
  unfold INV
  rw [e 0 (by decide) (by decide), e2, e 3 (by decide) (by decide), e 4 (by decide) (by decide), e 6 (by decide) (by decide), e 7 (by decide) (by decide)]
  refine ⟨h1, h2, by omega, fun i a b => ?_, h5, h6⟩
  rw [e1]
  split
  · exact hv
  · exact h4 i a (by omega)
theorem INV.ap_k {A : aM} {w : Int} (h : INV A) : ∀ n : Nat, n ≤ 4 → A 2 0 + n ≤ 300 → INV (apk A w n)
  | 0, _, _ => h
  | n + 1, q4, q => by
    have z := INV.ap_k (w := w) h n (by omega) (by omega)
    exact z.ap_1 (bys_r4 (by omega)) (by rw [apk_len]; omega)
theorem INV.feed {A : aM} (h : INV A) (w1 w2 w3 w4 w5 : Int) : INV (spFeed A w1 w2 w3 w4 w5).2.2 := by
  unfold spFeed
  split
  · exact h
  · exact ((((h.ap_k 4 (by decide) (by omega)).ap_k 4 (by decide) (by rw [apk_len]; omega)).ap_k 4 (by decide) (by rw [apk_len, apk_len]; omega)).ap_k 4 (by decide) (by rw [apk_len, apk_len, apk_len]; omega)).ap_k 4 (by decide) (by rw [apk_len, apk_len, apk_len, apk_len]; omega)
theorem INV.bad {A : aM} {k p : Int} (h : INV A) : INV (badT A k p) := by
  obtain ⟨b0, b1, b2, b3, b4⟩ := badT_2 (A := A) (k := k) (p := p)
  have e : ∀ r, r ≠ 2 → badT A k p r = A r := fun r hr => funext fun i => badT_o hr
  obtain ⟨h1, h2, h3, h4, h5, h6⟩ := h
  unfold INV
  rw [e 0 (by decide), e 1 (by decide), b0, e 3 (by decide), e 4 (by decide), e 6 (by decide), e 7 (by decide)]
  exact ⟨h1, h2, by decide, fun i a b => by omega, h5, h6⟩
theorem INV.text {A : aM} (h : INV A) (x : Int) : INV (spText A x).2.2 := by
  unfold spText
  split
  · exact h
  split
  · exact h.bad
  · have hz : (textR (A 1) x 301 0 fr0 0).1 = 0 := by omega
    have hf := textR_ok (T := A 1) (n := x) 301 0 fr0 0 (by omega) fr0_ok hz
    generalize (textR (A 1) x 301 0 fr0 0).2.2.2 = f at hf ⊢
    have b := h.bad (k := 0) (p := -1)
    have eo : ∀ j, 219 ≤ j → j < 253 → okT A f 0 j = f (j - 219) := fun j a b => if_pos ⟨rfl, a, b⟩
    have eu : ∀ j, ¬ (219 ≤ j ∧ j < 253) → okT A f 0 j = badT A 0 (-1) 0 j := fun j q => if_neg fun z => q z.2
    exact b.a0 (fun r hr => funext fun j => if_neg fun z => hr z.1) ((b.1.ta.cg fun j p q => eu j (by omega)).tok (TZ.f hf eo)) (b.2.1.cg fun j p q => eu j (by omega))
theorem INV.tray {A : aM} (h : INV A) (t s n : Int) : INV (spTray A t s n).2.2 := by
  unfold spTray
  split
  · exact h
  split
  · exact h
  · show INV (trA A t s n)
    have e : ∀ r, r ≠ 3 → r ≠ 4 → r ≠ 5 → trA A t s n r = A r := fun r h3 h4 h5 => funext fun i => by
      unfold trA
      rw [if_neg (fun z => h5 z.1), up_a h4, up_a h3]
    have e4 : ∀ i, trA A t s n 4 i = if i = t then n else A 4 i := fun i => by
      unfold trA
      rw [if_neg (by omega), up_at, up_a (by decide)]
    obtain ⟨h1, h2, h3, h4, h5, h6⟩ := h
    unfold INV
    rw [e 0 (by decide) (by decide) (by decide), e 1 (by decide) (by decide) (by decide), e 2 (by decide) (by decide) (by decide), trA_3, e 6 (by decide) (by decide) (by decide), e 7 (by decide) (by decide) (by decide)]
    refine ⟨h1, h2, h3, h4, fun i a b => ⟨?_, ?_⟩, h6⟩
    · show -1 ≤ (if i = t then s else A 3 i) ∧ (if i = t then s else A 3 i) ≤ 3
      split
      · omega
      · exact (h5 i a b).1
    · rw [e4]
      split
      · omega
      · exact (h5 i a b).2
theorem INV.write {A : aM} (h : INV A) (t n v : Int) : INV (spWrite A t n v).2.2 := by
  unfold spWrite
  split
  · exact h
  split
  · exact h
  split
  · exact h
  · have e : ∀ r, r ≠ 5 → up A 5 (40 * t + n) (cut (A 3 t) v) r = A r := fun r hr => funext fun i => up_a hr
    obtain ⟨h1, h2, h3, h4, h5, h6⟩ := h
    show INV (up A 5 (40 * t + n) (cut (A 3 t) v))
    unfold INV
    rw [e 0 (by decide), e 1 (by decide), e 2 (by decide), e 3 (by decide), e 4 (by decide), e 6 (by decide), e 7 (by decide)]
    exact ⟨h1, h2, h3, h4, h5, h6⟩
theorem INV.take {A : aM} (h : INV A) (t k : Int) : INV (spTake A t k).2.2 := by
  have q7 := h.1.1
  unfold spTake
  split
  · exact h
  split
  · exact h
  split
  · exact h
  · have c3 : ¬ (6 < A 4 t ∨ allB (tkB A t) (A 4 t).toNat = false) := by assumption
    have hb0 : allB (tkB A t) (A 4 t).toNat = true := by
      cases hq : allB (tkB A t) (A 4 t).toNat with
      | true => rfl
      | false => exact absurd (Or.inr hq) c3
    have hb1 := allB_iff.mp hb0
    have e0 : ∀ j, ¬ (8 + 6 * k ≤ j ∧ j < 8 + 6 * k + A 4 t) → tkA A t k (A 4 t) 0 j = A 0 j := fun j q => if_neg fun z => q z.2
    have e1 : ∀ j, 8 + 6 * k ≤ j → j < 8 + 6 * k + A 4 t → tkA A t k (A 4 t) 0 j = A 5 (40 * t + (j - (8 + 6 * k))) := fun j p q => if_pos ⟨rfl, p, q⟩
    refine h.a0 (fun r hr => funext fun j => if_neg fun z => hr z.1) (TA.tok (h.1.ta.w (fun j a b c d => e0 j (by omega)) (fun j a b => ?_) (fun j a b => by rw [show (0, A 4 t, tkA A t k (A 4 t)).2.2 0 j = A 0 j from e0 j (by omega)]; exact h.1.ta.r3 j a b) (by rw [show (0, A 4 t, tkA A t k (A 4 t)).2.2 0 155 = A 0 155 from e0 155 (by omega)]; exact h.1.2.2.2.2.2.2.1)) (h.1.tz.cg fun j a b => e0 j (by omega))) (h.2.1.cg fun j a b => e0 j (by omega))
    show 0 ≤ tkA A t k (A 4 t) 0 j ∧ tkA A t k (A 4 t) 0 j ≤ 8
    by_cases z : 8 + 6 * k ≤ j ∧ j < 8 + 6 * k + A 4 t
    · rw [e1 j z.1 z.2]
      have := hb1 (j - (8 + 6 * k)) (by omega) (by omega)
      exact of_decide_eq_true this
    · rw [e0 j z]; exact h.1.ta.r1 j a b
theorem INV.image {A : aM} (h : INV A) (i : Int) : INV (spImage A i).2.2 := by
  unfold spImage
  split
  · exact h
  · show INV (imgA A i 253)
    have e : ∀ r, r ≠ 6 → r ≠ 7 → imgA A i 253 r = A r := fun r h6 h7 => funext fun j => by
      unfold imgA
      rw [if_neg (fun z => h7 z.1), up_a h6]
    have e6 : ∀ j, imgA A i 253 6 j = if j = i then 1 else A 6 j := fun j => by
      unfold imgA
      rw [if_neg (by omega), up_at]
    have e7 : ∀ j, imgA A i 253 7 j = if 253 * i ≤ j ∧ j < 253 * i + 253 then A 0 (j - 253 * i) else A 7 j := fun j => by
      unfold imgA
      by_cases z : 253 * i ≤ j ∧ j < 253 * i + 253
      · rw [if_pos z, if_pos ⟨rfl, z⟩]
      · rw [if_neg z, if_neg (fun q => z q.2), up_a (by decide)]
    obtain ⟨h1, h2, h3, h4, h5, h6⟩ := h
    unfold INV
    rw [e 0 (by decide) (by decide), e 1 (by decide) (by decide), e 2 (by decide) (by decide), e 3 (by decide) (by decide), e 4 (by decide) (by decide)]
    refine ⟨h1, h2, h3, h4, h5, fun x a b => ?_⟩
    by_cases z : x = i
    · have g : ∀ j, 0 ≤ j → j < 253 → imgA A i 253 7 (253 * x + j) = A 0 j := fun j p q => by
        rw [e7, if_pos (by omega), show 253 * x + j - 253 * i = j by omega]
      exact Or.inr ⟨by rw [e6, if_pos z], h1.cg g, h2.cg fun j p q => g j (by omega) (by omega)⟩
    · have g : ∀ j, 0 ≤ j → j < 253 → imgA A i 253 7 (253 * x + j) = A 7 (253 * x + j) := fun j p q => by
        rw [e7, if_neg (by omega)]
      rw [e6, if_neg z]
      rcases h6 x a b with w | w
      · exact Or.inl w
      · exact Or.inr ⟨w.1, w.2.1.cg g, w.2.2.cg fun j p q => g j (by omega) (by omega)⟩
theorem INV.restore {A : aM} (h : INV A) (i : Int) : INV (spRestore A i).2.2 := by
  unfold spRestore
  split
  · exact h
  split
  · exact h
  · have w : TOK (fun j => A 7 (253 * i + j)) ∧ TB (fun j => A 7 (253 * i + j)) := by
      rcases h.2.2.2.2.2 i (by omega) (by omega) with w | w
      · exact absurd w (by assumption)
      · exact w.2
    have g : ∀ j, 0 ≤ j → j < 253 → resA A i 253 0 j = A 7 (253 * i + j) := fun j p q => if_pos ⟨rfl, p, q⟩
    exact h.a0 (fun r hr => funext fun j => if_neg fun z => hr z.1) (w.1.cg g) (w.2.cg fun j p q => g j (by omega) (by omega))
theorem INV.upper_ {A : aM} (h : INV A) : INV (spUpper A).2.2 := by
  unfold spUpper
  (repeat' split) <;> exact h
theorem INV.lower_ {A : aM} (h : INV A) : INV (spLower A).2.2 := by
  unfold spLower
  (repeat' split) <;> exact h
theorem INV.fault_ {A : aM} (h : INV A) (w : Int) : INV (spFault A w).2.2 := by
  unfold spFault
  (repeat' split) <;> exact h
theorem INV.holder_ {A : aM} (h : INV A) (s : Int) : INV (spHolder A s).2.2 := by
  unfold spHolder
  (repeat' split) <;> exact h
theorem INV.chain_ {A : aM} (h : INV A) (x y : Int) : INV (spChain A x y).2.2 := by
  unfold spChain
  (repeat' split) <;> exact h
theorem INV.count_ {A : aM} (h : INV A) (w : Int) : INV (spCount A w).2.2 := by
  unfold spCount
  (repeat' split) <;> exact h
theorem INV.price_ {A : aM} (h : INV A) (q : Int) : INV (spPrice A q).2.2 := by
  unfold spPrice
  (repeat' split) <;> exact h
theorem INV.buys_ {A : aM} (h : INV A) (q m : Int) : INV (spBuys A q m).2.2 := by
  unfold spBuys
  (repeat' split) <;> exact h
theorem INV.cost_ {A : aM} (h : INV A) (s : Int) : INV (spCost A s).2.2 := by
  unfold spCost
  (repeat' split) <;> exact h
theorem INV.bought_ {A : aM} (h : INV A) (s k : Int) : INV (spBought A s k).2.2 := by
  unfold spBought
  (repeat' split) <;> exact h
theorem INV.least_ {A : aM} (h : INV A) (s : Int) : INV (spLeast A s).2.2 := by
  unfold spLeast
  (repeat' split) <;> exact h
theorem INV.group_ {A : aM} (h : INV A) (s x : Int) : INV (spGroup A s x).2.2 := by
  unfold spGroup
  (repeat' split) <;> exact h
theorem INV.come_ {A : aM} (h : INV A) (s x : Int) : INV (spCome A s x).2.2 := by
  unfold spCome
  (repeat' split) <;> exact h
theorem INV.join_ {A : aM} (h : INV A) (x y n : Int) : INV (spJoin A x y n).2.2 := by
  unfold spJoin
  (repeat' split) <;> exact h
theorem INV.judge_ {A : aM} (h : INV A) (s : Int) : INV (spJudge A s).2.2 := by
  unfold spJudge
  (repeat' split) <;> exact h
theorem INV.keeps_ {A : aM} (h : INV A) (s : Int) : INV (spKeeps A s).2.2 := by
  unfold spKeeps
  (repeat' split) <;> exact h
theorem INV.proof_ {A : aM} (h : INV A) (t s d : Int) : INV (spProof A t s d).2.2 := by
  unfold spProof
  (repeat' split) <;> exact h
theorem INV.seller_ {A : aM} (h : INV A) (s p k x : Int) : INV (spSeller A s p k x).2.2 := by
  unfold spSeller
  (repeat' split) <;> exact h
theorem INV.risk_ {A : aM} (h : INV A) (s q : Int) : INV (spRisk A s q).2.2 := by
  unfold spRisk
  (repeat' split) <;> first | exact h | exact h.fr
theorem INV.before_ {A : aM} (h : INV A) (s : Int) : INV (spBefore A s).2.2 := by
  unfold spBefore
  (repeat' split) <;> first | exact h | exact h.fr
theorem INV.ruled_ {A : aM} (h : INV A) (s x : Int) : INV (spRuled A s x).2.2 := by
  unfold spRuled
  (repeat' split) <;> first | exact h | exact h.fr
theorem INV.can_ {A : aM} (h : INV A) (s : Int) : INV (spCan A s).2.2 := by
  unfold spCan
  (repeat' split) <;> first | exact h | exact h.fr
theorem INV.share_ {A : aM} (h : INV A) (s x most : Int) : INV (spShare A s x most).2.2 := by
  unfold spShare
  (repeat' split) <;> first | exact h | exact h.fr
theorem INV.row_ {A : aM} (h : INV A) (s x : Int) : INV (spRow A s x).2.2 := by
  unfold spRow
  (repeat' split) <;> first | exact h | exact h.fr
theorem A0_inv : INV A0 := by
  have e : A0 2 0 = 0 := A0_0 (by decide)
  refine ⟨A0_tok, A0_tb, by rw [e]; decide, fun i a b => ?_, fun i a b => ?_, fun i a b => Or.inl (A0_0 (by omega))⟩
  · rw [e] at b; omega
  · rw [A0_3, A0_0 (r := 4) (by omega)]; decide
