/-! TEXT: tokens and lines, as a function of the tape -/
def blB (x : Int) : Bool := decide (x = 32 ∨ x = 10)
def leB (x : Int) : Bool := decide (97 ≤ x ∧ x ≤ 122)
def dgB (x : Int) : Bool := decide (48 ≤ x ∧ x ≤ 57)
def runF (p : Int → Bool) (T : Int → Int) : Nat → Int → Int
  | 0, a => a
  | k + 1, a => if p (T a) = true then runF p T k (a + 1) else a
/-- from a on: the first place that is not p, or n -/
def runV (p : Int → Bool) (T : Int → Int) (n a : Int) : Int := runF p T (n - a).toNat a
theorem runV_1 {p : Int → Bool} {T : Int → Int} {n a : Int} (h : a < n) (hp : p (T a) = true) : runV p T n a = runV p T n (a + 1) := by
  unfold runV
  rw [show (n - a).toNat = (n - (a + 1)).toNat + 1 by omega]
  exact if_pos hp
theorem runV_0 {p : Int → Bool} {T : Int → Int} {n a : Int} (h : ¬ (a < n ∧ p (T a) = true)) : runV p T n a = a := by
  unfold runV
  by_cases e : a < n
  · rw [show (n - a).toNat = (n - (a + 1)).toNat + 1 by omega]
    exact if_neg fun q => h ⟨e, q⟩
  · rw [show (n - a).toNat = 0 by omega]; rfl
theorem runF_r (p : Int → Bool) (T : Int → Int) : ∀ (k : Nat) (a : Int), a ≤ runF p T k a ∧ runF p T k a ≤ a + k
  | 0, a => ⟨Int.le_refl _, by show a ≤ a + ((0 : Nat) : Int); omega⟩
  | k + 1, a => by
    have ih := runF_r p T k (a + 1)
    show a ≤ (if p (T a) = true then runF p T k (a + 1) else a) ∧ (if p (T a) = true then runF p T k (a + 1) else a) ≤ _
    split <;> omega
theorem runV_r (p : Int → Bool) (T : Int → Int) {n a : Int} (h : a ≤ n) : a ≤ runV p T n a ∧ runV p T n a ≤ n := by
  have := runF_r p T (n - a).toNat a
  unfold runV
  omega
theorem runV_s {p : Int → Bool} {T : Int → Int} {n a : Int} (h : a < n) (hp : p (T a) = true) : a + 1 ≤ runV p T n a ∧ runV p T n a ≤ n := by
  rw [runV_1 h hp]
  exact runV_r p T (by omega)
/-- the number of k digits from b on -/
def dvalF (T : Int → Int) (b : Int) : Nat → Int
  | 0 => 0
  | k + 1 => 10 * dvalF T b k + (T (b + k) - 48)
/-- the token behind place a: where it begins, where it ends, its kind (0 end, 1 word, 2 number, 3 stop, 4 bad), its number -/
def tB (T : Int → Int) (n a : Int) : Int := runV blB T n a
def tE (T : Int → Int) (n a : Int) : Int := if n ≤ tB T n a then tB T n a else if leB (T (tB T n a)) = true then runV leB T n (tB T n a) else if dgB (T (tB T n a)) = true then runV dgB T n (tB T n a) else tB T n a + 1
def tK (T : Int → Int) (n a : Int) : Int := if n ≤ tB T n a then 0 else if leB (T (tB T n a)) = true then 1 else if dgB (T (tB T n a)) = true then (if 3 < tE T n a - tB T n a then 4 else 2) else if T (tB T n a) = 59 then 3 else 4
def tV (T : Int → Int) (n a : Int) : Int := dvalF T (tB T n a) (tE T n a - tB T n a).toNat
theorem tB_r {T : Int → Int} {n a : Int} (h : a ≤ n) : a ≤ tB T n a ∧ tB T n a ≤ n := runV_r _ _ h
theorem tE_r {T : Int → Int} {n a : Int} (h : a ≤ n) : tB T n a ≤ tE T n a ∧ tE T n a ≤ n := by
  have hb := tB_r (T := T) h
  unfold tE
  split
  · omega
  · split
    · exact runV_r _ _ hb.2
    · split
      · exact runV_r _ _ hb.2
      · omega
theorem tE_s {T : Int → Int} {n a : Int} (h : a ≤ n) (hk : tK T n a ≠ 0) : tB T n a + 1 ≤ tE T n a := by
  have hb := tB_r (T := T) h
  have h0 : ¬ n ≤ tB T n a := fun q => hk (if_pos q)
  unfold tE
  rw [if_neg h0]
  split
  · exact (runV_s (by omega) (by assumption)).1
  · split
    · exact (runV_s (by omega) (by assumption)).1
    · omega
theorem tK_r (T : Int → Int) (n a : Int) : 0 ≤ tK T n a ∧ tK T n a ≤ 4 := by
  unfold tK
  (repeat' split) <;> omega
theorem tK_0 {T : Int → Int} {n a : Int} : tK T n a = 0 ↔ n ≤ tB T n a := by
  unfold tK
  by_cases h : n ≤ tB T n a
  · rw [if_pos h]; exact ⟨fun _ => h, fun _ => rfl⟩
  · rw [if_neg h]
    refine ⟨fun q => ?_, fun q => absurd q h⟩
    (repeat' split at q) <;> omega
/-- the words of a TEXT -/
def wrdL : List (List Int) := [[119, 104, 111, 108, 101], [97, 98, 111, 118, 101], [115, 116, 101, 112], [99, 97, 114, 116], [103, 97, 116, 104, 101, 114], [107, 101, 101, 112], [109, 111, 110, 116, 104, 115], [114, 105, 115, 101], [108, 97, 116, 101], [114, 117, 108, 101], [112, 97, 114, 116, 115], [97, 108, 111, 110, 101], [97, 108, 105, 107, 101]]
def wdL (i : Nat) : List Int := wrdL.getD i []
def eqL (T : Int → Int) (b : Int) : List Int → Bool
  | [] => true
  | c :: l => decide (T b = c) && eqL T (b + 1) l
/-- from b to e stands word i -/
def isWd (T : Int → Int) (b e : Int) (i : Int) : Bool := decide (e - b = (wdL i.toNat).length) && eqL T b (wdL i.toNat)
abbrev tR : Type := Int × Int × Int × (Int → Int)
def badR (k p : Int) : tR := (k, p, 0, fun _ => 0)
def errR (T : Int → Int) (n a k : Int) : tR := badR (if tK T n a = 4 then 1 else k) (tB T n a)
/-- the line's end -/
def finR (T : Int → Int) (n a : Int) (f : Int → Int) : tR := if tK T n a = 3 then (0, -1, tE T n a, f) else errR T n a 2
def numR (T : Int → Int) (n a lo hi : Int) (k : Int → Int → tR) : tR := if tK T n a ≠ 2 then errR T n a 2 else if ¬ (lo ≤ tV T n a ∧ tV T n a ≤ hi) then badR 3 (tB T n a) else k (tV T n a) (tE T n a)
def fU (f : Int → Int) (k v : Int) : Int → Int := fun j => if j = k then v else f j
def hasS (f : Int → Int) (v : Int) : Nat → Bool
  | 0 => false
  | k + 1 => hasS f v k || decide (f (2 + k) = v)
def oneR (T : Int → Int) (n a lo hi i : Int) (f : Int → Int) : tR := numR T n a lo hi fun v e => finR T n e (fU f i v)
def firstW (p : Int → Bool) : Nat → Int → Int
  | 0, _ => -1
  | k + 1, i => if p i = true then i else firstW p k (i + 1)
theorem firstW_r (p : Int → Bool) : ∀ (k : Nat) (i : Int), firstW p k i = -1 ∨ (i ≤ firstW p k i ∧ firstW p k i < i + k ∧ p (firstW p k i) = true)
  | 0, _ => Or.inl rfl
  | k + 1, i => by
    have ih := firstW_r p k (i + 1)
    show (if p i = true then i else firstW p k (i + 1)) = -1 ∨ _ 
    by_cases e : p i = true
    · right
      show i ≤ (if p i = true then i else firstW p k (i + 1)) ∧ (if p i = true then i else firstW p k (i + 1)) < _ ∧ p (if p i = true then i else firstW p k (i + 1)) = true
      rw [if_pos e]; exact ⟨by omega, by omega, e⟩
    · rw [if_neg e]
      rcases ih with ih | ih
      · exact Or.inl ih
      · right
        show i ≤ (if p i = true then i else firstW p k (i + 1)) ∧ (if p i = true then i else firstW p k (i + 1)) < _ ∧ p (if p i = true then i else firstW p k (i + 1)) = true
        rw [if_neg e]; exact ⟨by omega, by omega, ih.2.2⟩
/-- which word stands from b to e, -1 if none -/
def wIx (T : Int → Int) (b e : Int) : Int := firstW (isWd T b e) 13 0
def ruleR (T : Int → Int) (n a : Int) (f : Int → Int) : tR := if tK T n a = 1 ∧ 10 ≤ wIx T (tB T n a) (tE T n a) then finR T n (tE T n a) (fU f 33 (wIx T (tB T n a) (tE T n a) - 10)) else errR T n a 2
def stepR (T : Int → Int) (n a : Int) (f : Int → Int) : tR := numR T n a 1 60 fun v e => if hasS f v (f 1).toNat = true then badR 4 (tB T n a) else numR T n e 1 99 fun u e2 => finR T n e2 (fU (fU (fU f (2 + f 1) v) (8 + f 1) u) 1 (f 1 + 1))
def cartR (T : Int → Int) (n a : Int) (f : Int → Int) : tR := numR T n a 1 60 fun v e => numR T n e 0 99 fun u e2 => finR T n e2 (fU (fU (fU f (15 + f 14) v) (19 + f 14) u) 14 (f 14 + 1))
def riseR (T : Int → Int) (n a : Int) (f : Int → Int) : tR := numR T n a 0 5 fun v e => numR T n e 0 99 fun u e2 => finR T n e2 (fU f (26 + v) u)
/-- what follows word w that ends at e (b: where it began) -/
def bodyR (T : Int → Int) (n b e w : Int) (f : Int → Int) : tR :=
  if w = 0 then finR T n e (fU f 0 0) else if w = 1 then finR T n e (fU f 0 1)
  else if w = 2 then (if f 1 = 6 then badR 4 b else stepR T n e f)
  else if w = 3 then (if f 14 = 4 then badR 4 b else cartR T n e f)
  else if w = 4 then oneR T n e 0 99 23 f else if w = 5 then oneR T n e 0 99 24 f else if w = 6 then oneR T n e 1 6 25 f
  else if w = 7 then riseR T n e f else if w = 8 then oneR T n e 0 999 32 f else if w = 9 then ruleR T n e f
  else badR 2 b
def lineR (T : Int → Int) (n a : Int) (f : Int → Int) : tR := if tK T n a ≠ 1 then errR T n a 2 else bodyR T n (tB T n a) (tE T n a) (wIx T (tB T n a) (tE T n a)) f
def textR (T : Int → Int) (n : Int) : Nat → Int → (Int → Int) → Int → tR
  | 0, _, _, _ => badR 9 0
  | j + 1, a, f, k => if tK T n a = 0 then (0, -1, k, f) else if (lineR T n a f).1 ≠ 0 then lineR T n a f else textR T n j (lineR T n a f).2.2.1 (lineR T n a f).2.2.2 (k + 1)
def fr0 : Int → Int := fun j => if j = 25 then 1 else 0
def FOK (f : Int → Int) : Prop := (f 0 = 0 ∨ f 0 = 1) ∧ (0 ≤ f 1 ∧ f 1 ≤ 6) ∧ (∀ k, 0 ≤ k → k < f 1 → 1 ≤ f (2 + k) ∧ f (2 + k) ≤ 60 ∧ 1 ≤ f (8 + k) ∧ f (8 + k) ≤ 99) ∧ (0 ≤ f 14 ∧ f 14 ≤ 4) ∧ (∀ k, 0 ≤ k → k < f 14 → 1 ≤ f (15 + k) ∧ f (15 + k) ≤ 60 ∧ 0 ≤ f (19 + k) ∧ f (19 + k) ≤ 99) ∧ (0 ≤ f 23 ∧ f 23 ≤ 99) ∧ (0 ≤ f 24 ∧ f 24 ≤ 99) ∧ (1 ≤ f 25 ∧ f 25 ≤ 6) ∧ (∀ i, 0 ≤ i → i < 6 → 0 ≤ f (26 + i) ∧ f (26 + i) ≤ 99) ∧ (0 ≤ f 32 ∧ f 32 ≤ 999) ∧ 0 ≤ f 33 ∧ f 33 ≤ 2
theorem fr0_ok : FOK fr0 := by
  refine ⟨Or.inl rfl, by decide, fun k a b => ?_, by decide, fun k a b => ?_, by decide, by decide, by decide, fun i a b => ?_, by decide, by decide⟩
  · have : fr0 1 = 0 := rfl
    omega
  · have : fr0 14 = 0 := rfl
    omega
  · unfold fr0; rw [if_neg (by omega)]; omega
theorem fU_s {f : Int → Int} {k v : Int} : fU f k v k = v := if_pos rfl
theorem fU_n {f : Int → Int} {k v j : Int} (h : j ≠ k) : fU f k v j = f j := if_neg h
/-- what a part of a line gives, if it goes well: a place, from lo to n, and numbers that a tariff may hold -/
def okR (lo n : Int) (r : tR) : Prop := r.1 = 0 → (lo ≤ r.2.2.1 ∧ r.2.2.1 ≤ n) ∧ FOK r.2.2.2
theorem okR.bad {lo n k p : Int} (h : k ≠ 0) : okR lo n (badR k p) := fun q => absurd q h
theorem okR.err {T : Int → Int} {lo n a k : Int} (h : k ≠ 0) : okR lo n (errR T n a k) := fun q => absurd q (by show ¬ (if tK T n a = 4 then (1 : Int) else k) = 0; split <;> omega)
theorem okR.fin {T : Int → Int} {lo n a : Int} {f : Int → Int} (ha : lo ≤ a ∧ a ≤ n) (hf : FOK f) : okR lo n (finR T n a f) := by
  unfold finR
  have h1 := tE_r (T := T) ha.2
  have h2 := tB_r (T := T) ha.2
  split
  · exact fun _ => ⟨⟨by show lo ≤ tE T n a; omega, h1.2⟩, hf⟩
  · exact okR.err (by decide)
theorem okR.num {T : Int → Int} {lo n a l h : Int} {k : Int → Int → tR} (ha : lo ≤ a ∧ a ≤ n) (hk : ∀ v e, l ≤ v → v ≤ h → lo ≤ e → e ≤ n → okR lo n (k v e)) : okR lo n (numR T n a l h k) := by
  unfold numR
  have h1 := tE_r (T := T) ha.2
  have h2 := tB_r (T := T) ha.2
  split
  · exact okR.err (by decide)
  · split
    · exact okR.bad (by decide)
    · exact hk _ _ (by omega) (by omega) (by omega) (by omega)
theorem FOK.one {f : Int → Int} {i v : Int} (h : FOK f) (hi : (i = 0 ∧ (v = 0 ∨ v = 1)) ∨ ((i = 23 ∨ i = 24) ∧ 0 ≤ v ∧ v ≤ 99) ∨ (i = 25 ∧ 1 ≤ v ∧ v ≤ 6) ∨ (26 ≤ i ∧ i < 32 ∧ 0 ≤ v ∧ v ≤ 99) ∨ (i = 32 ∧ 0 ≤ v ∧ v ≤ 999) ∨ (i = 33 ∧ 0 ≤ v ∧ v ≤ 2)) : FOK (fU f i v) := by
  obtain ⟨h1, h2, h3, h4, h5, h6, h7, h8, h9, h10, h11, h12⟩ := h
  have e1 : fU f i v 1 = f 1 := fU_n (by omega)
  have e14 : fU f i v 14 = f 14 := fU_n (by omega)
  unfold FOK
  rw [e1, e14]
  refine ⟨?_, h2, fun k a b => ?_, h4, fun k a b => ?_, ?_, ?_, ?_, fun j a b => ?_, ?_, ?_⟩
  · by_cases e : (0 : Int) = i
    · rw [← e, fU_s]; omega
    · rw [fU_n e]; exact h1
  · rw [fU_n (by omega), fU_n (by omega)]; exact h3 k a b
  · rw [fU_n (by omega), fU_n (by omega)]; exact h5 k a b
  · by_cases e : (23 : Int) = i
    · rw [← e, fU_s]; omega
    · rw [fU_n e]; exact h6
  · by_cases e : (24 : Int) = i
    · rw [← e, fU_s]; omega
    · rw [fU_n e]; exact h7
  · by_cases e : (25 : Int) = i
    · rw [← e, fU_s]; omega
    · rw [fU_n e]; exact h8
  · by_cases e : 26 + j = i
    · rw [← e, fU_s]; omega
    · rw [fU_n e]; exact h9 j a b
  · by_cases e : (32 : Int) = i
    · rw [← e, fU_s]; omega
    · rw [fU_n e]; exact h10
  · by_cases e : (33 : Int) = i
    · rw [← e, fU_s]; omega
    · rw [fU_n e]; exact ⟨h11, h12⟩
theorem FOK.step {f : Int → Int} {v u : Int} (h : FOK f) (hs : f 1 ≠ 6) (hv : 1 ≤ v ∧ v ≤ 60) (hu : 1 ≤ u ∧ u ≤ 99) : FOK (fU (fU (fU f (2 + f 1) v) (8 + f 1) u) 1 (f 1 + 1)) := by
  obtain ⟨h1, h2, h3, h4, h5, h6, h7, h8, h9, h10, h11, h12⟩ := h
  have g : ∀ j, j ≠ 1 → j ≠ 2 + f 1 → j ≠ 8 + f 1 → fU (fU (fU f (2 + f 1) v) (8 + f 1) u) 1 (f 1 + 1) j = f j := fun j a b c => by rw [fU_n a, fU_n c, fU_n b]
  unfold FOK
  rw [fU_s, g 14 (by omega) (by omega) (by omega), g 0 (by omega) (by omega) (by omega), g 23 (by omega) (by omega) (by omega), g 24 (by omega) (by omega) (by omega), g 25 (by omega) (by omega) (by omega), g 32 (by omega) (by omega) (by omega), g 33 (by omega) (by omega) (by omega)]
  refine ⟨h1, by omega, fun k a b => ?_, h4, fun k a b => ?_, h6, h7, h8, fun j a b => ?_, h10, h11, h12⟩
  · by_cases e : k = f 1
    · rw [e, fU_n (by omega), fU_n (by omega), fU_s, fU_n (by omega), fU_s]; omega
    · rw [g _ (by omega) (by omega) (by omega), g _ (by omega) (by omega) (by omega)]; exact h3 k a (by omega)
  · rw [g _ (by omega) (by omega) (by omega), g _ (by omega) (by omega) (by omega)]; exact h5 k a b
  · rw [g _ (by omega) (by omega) (by omega)]; exact h9 j a b
theorem FOK.cart {f : Int → Int} {v u : Int} (h : FOK f) (hs : f 14 ≠ 4) (hv : 1 ≤ v ∧ v ≤ 60) (hu : 0 ≤ u ∧ u ≤ 99) : FOK (fU (fU (fU f (15 + f 14) v) (19 + f 14) u) 14 (f 14 + 1)) := by
  obtain ⟨h1, h2, h3, h4, h5, h6, h7, h8, h9, h10, h11, h12⟩ := h
  have g : ∀ j, j ≠ 14 → j ≠ 15 + f 14 → j ≠ 19 + f 14 → fU (fU (fU f (15 + f 14) v) (19 + f 14) u) 14 (f 14 + 1) j = f j := fun j a b c => by rw [fU_n a, fU_n c, fU_n b]
  unfold FOK
  rw [fU_s, g 1 (by omega) (by omega) (by omega), g 0 (by omega) (by omega) (by omega), g 23 (by omega) (by omega) (by omega), g 24 (by omega) (by omega) (by omega), g 25 (by omega) (by omega) (by omega), g 32 (by omega) (by omega) (by omega), g 33 (by omega) (by omega) (by omega)]
  refine ⟨h1, h2, fun k a b => ?_, by omega, fun k a b => ?_, h6, h7, h8, fun j a b => ?_, h10, h11, h12⟩
  · rw [g _ (by omega) (by omega) (by omega), g _ (by omega) (by omega) (by omega)]; exact h3 k a b
  · by_cases e : k = f 14
    · rw [e, fU_n (by omega), fU_n (by omega), fU_s, fU_n (by omega), fU_s]; omega
    · rw [g _ (by omega) (by omega) (by omega), g _ (by omega) (by omega) (by omega)]; exact h5 k a (by omega)
  · rw [g _ (by omega) (by omega) (by omega)]; exact h9 j a b
theorem oneR_ok {T : Int → Int} {lo n a l h i : Int} {f : Int → Int} (ha : lo ≤ a ∧ a ≤ n) (hf : FOK f) (hi : ∀ v, l ≤ v → v ≤ h → ((i = 23 ∨ i = 24) ∧ 0 ≤ v ∧ v ≤ 99) ∨ (i = 25 ∧ 1 ≤ v ∧ v ≤ 6) ∨ (i = 32 ∧ 0 ≤ v ∧ v ≤ 999)) : okR lo n (oneR T n a l h i f) :=
  okR.num ha fun v e x y z w => okR.fin ⟨z, w⟩ (hf.one (by have := hi v x y; omega))
theorem wIx_r (T : Int → Int) (b e : Int) : -1 ≤ wIx T b e ∧ wIx T b e ≤ 12 := by
  have := firstW_r (isWd T b e) 13 0
  unfold wIx
  omega
theorem bodyR_ok {T : Int → Int} {lo n b e w : Int} {f : Int → Int} (he : lo ≤ e ∧ e ≤ n) (hf : FOK f) : okR lo n (bodyR T n b e w f) := by
  unfold bodyR
  split
  · exact okR.fin he (hf.one (by omega))
  split
  · exact okR.fin he (hf.one (by omega))
  split
  · split
    · exact okR.bad (by decide)
    · refine okR.num he fun v e x y z q => ?_
      split
      · exact okR.bad (by decide)
      · exact okR.num ⟨z, q⟩ fun u e2 x2 y2 z2 q2 => okR.fin ⟨z2, q2⟩ (hf.step (by assumption) ⟨x, y⟩ ⟨x2, y2⟩)
  split
  · split
    · exact okR.bad (by decide)
    · exact okR.num he fun v e x y z q => okR.num ⟨z, q⟩ fun u e2 x2 y2 z2 q2 => okR.fin ⟨z2, q2⟩ (hf.cart (by assumption) ⟨x, y⟩ ⟨x2, y2⟩)
  split
  · exact oneR_ok he hf fun v a b => by omega
  split
  · exact oneR_ok he hf fun v a b => by omega
  split
  · exact oneR_ok he hf fun v a b => by omega
  split
  · exact okR.num he fun v e x y z q => okR.num ⟨z, q⟩ fun u e2 x2 y2 z2 q2 => okR.fin ⟨z2, q2⟩ (hf.one (by omega))
  split
  · exact oneR_ok he hf fun v a b => by omega
  split
  · unfold ruleR
    have h1 := tE_r (T := T) he.2
    have h2 := tB_r (T := T) he.2
    have h3 := wIx_r T (tB T n e) (tE T n e)
    split
    · exact okR.fin ⟨by omega, by omega⟩ (hf.one (by omega))
    · exact okR.err (by decide)
  · exact okR.bad (by decide)
theorem lineR_ok {T : Int → Int} {n a : Int} {f : Int → Int} (ha : a ≤ n) (hf : FOK f) : okR (a + 1) n (lineR T n a f) := by
  unfold lineR
  by_cases h : tK T n a = 1
  · rw [if_neg (fun q => q h)]
    have h1 := tE_r (T := T) ha
    have h2 := tB_r (T := T) ha
    have h3 := tE_s (T := T) ha (by omega)
    exact bodyR_ok ⟨by omega, h1.2⟩ hf
  · rw [if_pos h]; exact okR.err (by decide)
theorem textR_ok {T : Int → Int} {n : Int} : ∀ (j : Nat) (a : Int) (f : Int → Int) (k : Int), a ≤ n → FOK f → (textR T n j a f k).1 = 0 → FOK (textR T n j a f k).2.2.2
  | 0, _, _, _, _, _, q => absurd q (show ¬ (9 : Int) = 0 by decide)
  | j + 1, a, f, k, ha, hf, q => by
    have e : textR T n (j + 1) a f k = if tK T n a = 0 then (0, -1, k, f) else if (lineR T n a f).1 ≠ 0 then lineR T n a f else textR T n j (lineR T n a f).2.2.1 (lineR T n a f).2.2.2 (k + 1) := rfl
    rw [e] at q ⊢
    have hl := lineR_ok (T := T) ha hf
    by_cases h0 : tK T n a = 0
    · rw [if_pos h0]; exact hf
    · rw [if_neg h0] at q ⊢
      by_cases h1 : (lineR T n a f).1 = 0
      · rw [if_neg (fun z => z h1)] at q ⊢
        exact textR_ok j _ _ _ (hl h1).1.2 (hl h1).2 q
      · rw [if_pos h1] at q ⊢
        exact (hl q).2
