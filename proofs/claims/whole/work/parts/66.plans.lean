/-! plans: what the spec's functions are one by the next -/
/-- the numbers that plans look at -/
def TQ (t : Int → Int) : Prop := TT t ∧ (∀ h, 0 ≤ h → h < 7 → 0 ≤ t (1 + h) ∧ t (1 + h) ≤ 8) ∧ (∀ i, 0 ≤ i → i < 42 → 0 ≤ t (8 + i) ∧ t (8 + i) ≤ 8) ∧ (0 ≤ t 242 ∧ t 242 ≤ 99) ∧ (0 ≤ t 243 ∧ t 243 ≤ 99) ∧ (1 ≤ t 244 ∧ t 244 ≤ 6) ∧ (∀ i, 0 ≤ i → i < 6 → 0 ≤ t (245 + i) ∧ t (245 + i) ≤ 99)
theorem TOK.tq {t : Int → Int} (h : TOK t) : TQ t := ⟨h.tt, h.2.1, h.2.2.1, h.2.2.2.2.2.2.2.2.2.2.2.2.2.2.2.1, h.2.2.2.2.2.2.2.2.2.2.2.2.2.2.2.2.1, h.2.2.2.2.2.2.2.2.2.2.2.2.2.2.2.2.2.1, h.2.2.2.2.2.2.2.2.2.2.2.2.2.2.2.2.2.2.1⟩
theorem core_lo {t : Int → Int} {j : Int} (h : j < 148) : core t j = t j := if_neg (by omega)
theorem core_tq {t : Int → Int} (h : TQ t) : TQ (core t) := by
  obtain ⟨h1, h2, h3, h4, h5, h6, h7⟩ := h
  refine ⟨core_tt h1, fun i a b => ?_, fun i a b => ?_, ?_, ?_, ?_, fun i a b => ?_⟩
  · rw [core_lo (by omega)]; exact h2 i a b
  · rw [core_lo (by omega)]; exact h3 i a b
  · rw [core_hi (by omega)]; exact h4
  · rw [core_hi (by omega)]; exact h5
  · rw [core_hi (by omega)]; exact h6
  · rw [core_hi (by omega)]; exact h7 i a b
theorem sumN_if {f : Int → Int} {set : Int} : ∀ n : Nat, (∀ i : Int, 0 ≤ i → i < n → 0 ≤ f i ∧ f i ≤ 8) → (∀ i : Int, 0 ≤ i → i < n → hb set i = 0 ∨ hb set i = 1) → 0 ≤ sumN (fun h => if hb set h = 1 then f h else 0) n ∧ sumN (fun h => if hb set h = 1 then f h else 0) n ≤ 8 * sumN (hb set) n
  | 0, _, _ => by show (0 : Int) ≤ 0 ∧ (0 : Int) ≤ 8 * 0; omega
  | n + 1, h, g => by
    have ih := sumN_if n (fun i a b => h i a (by omega)) (fun i a b => g i a (by omega))
    have h1 := h n (by omega) (by omega)
    have h2 := g n (by omega) (by omega)
    unfold sumN
    split <;> omega
theorem size_r {set : Int} (hs : 0 ≤ set ∧ set < 128) : 0 ≤ sumN (hb set) 7 ∧ sumN (hb set) 7 ≤ 7 := by
  have := sumN_le (f := hb set) (c := 1) (n := 7) (fun j a b => by have := hb01 hs (h := j) ⟨a, by omega⟩; omega)
  omega
theorem roomV_r {t : Int → Int} {set : Int} (hK : TQ t) (hs : 0 ≤ set ∧ set < 128) : 0 ≤ roomV t set ∧ roomV t set ≤ 8 * sumN (hb set) 7 ∧ roomV t set ≤ 56 := by
  have h1 := sumN_if (f := fun h => t (1 + h)) (set := set) 7 (fun i a b => hK.2.1 i a (by omega)) (fun i a b => hb01 hs ⟨a, by omega⟩)
  have h2 := size_r hs
  have h3 : roomV t set = sumN (fun h => if hb set h = 1 then t (1 + h) else 0) 7 := rfl
  omega
theorem wantV_r {t : Int → Int} {set m : Int} (hK : TQ t) (hs : 0 ≤ set ∧ set < 128) (hm : 0 ≤ m ∧ m < 6) : 0 ≤ wantV t set m ∧ wantV t set m ≤ 8 * sumN (hb set) 7 ∧ wantV t set m ≤ 56 := by
  have h1 := sumN_if (f := fun h => t (8 + 6 * h + m)) (set := set) 7 (fun i a b => by have := hK.2.2.1 (6 * i + m) (by omega) (by omega); rw [show 8 + (6 * i + m) = 8 + 6 * i + m by omega] at this; exact this) (fun i a b => hb01 hs ⟨a, by omega⟩)
  have h2 := size_r hs
  have h3 : wantV t set m = sumN (fun h => if hb set h = 1 then t (8 + 6 * h + m) else 0) 7 := rfl
  omega
theorem buysV_r {t : Int → Int} {q m : Int} (hK : TQ t) (hq : 0 ≤ q) (hm : 0 ≤ m ∧ m < 6) : buysV t q m = -1 ∨ 0 ≤ buysV t q m ∧ buysV t q m ≤ 297 * q := by
  have h1 := sevV_r hK.1 q.toNat q hq (by omega)
  have h2 := hK.2.2.2.2.2.2 m hm.1 hm.2
  have a1 : q * t (245 + m) ≤ q * 99 := Int.mul_le_mul_of_nonneg_left h2.2 hq
  have a2 : 0 ≤ q * t (245 + m) := Int.mul_nonneg hq h2.1
  unfold buysV
  split
  · exact Or.inl rfl
  · right; omega
theorem bestL_1 (c : Int → Int) {i : Int} (h : 0 ≤ i) : bestL c (i + 1).toNat = omin (bestL c i.toNat) (c i) := by
  rw [show (i + 1).toNat = i.toNat + 1 by omega]
  show omin (bestL c i.toNat) (c ((i.toNat : Nat) : Int)) = _
  rw [show ((i.toNat : Nat) : Int) = i by omega]
theorem bestL_none {c : Int → Int} : ∀ {n : Nat}, (∀ i : Int, 0 ≤ i → i < n → c i = -1) → bestL c n = -1
  | 0, _ => rfl
  | n + 1, h => by
    unfold bestL
    rw [bestL_none fun i a b => h i a (by omega), h n (by omega) (by omega)]
    rfl
/-- the best is one of them, or there is none -/
theorem bestL_or {c : Int → Int} : ∀ n : Nat, (bestL c n = -1 ∧ ∀ i : Int, 0 ≤ i → i < n → c i = -1) ∨ (∃ i : Int, 0 ≤ i ∧ i < n ∧ c i = bestL c n ∧ c i ≠ -1)
  | 0 => Or.inl ⟨rfl, fun i a b => by omega⟩
  | n + 1 => by
    have ih := bestL_or (c := c) n
    have e : bestL c (n + 1) = omin (bestL c n) (c n) := rfl
    rw [e]
    unfold omin
    by_cases g : bestL c n = -1
    · rw [if_pos g]
      by_cases k : c n = -1
      · rcases ih with ih | ⟨i, i0, i1, i2, i3⟩
        · exact Or.inl ⟨k, fun i a b => by
            by_cases q : i = n
            · rw [q]; exact k
            · exact ih.2 i a (by omega)⟩
        · exact absurd (i2.trans g) i3
      · exact Or.inr ⟨n, by omega, by omega, rfl, k⟩
    · rw [if_neg g]
      rcases ih with ih | ⟨i, i0, i1, i2, i3⟩
      · exact absurd ih.1 g
      · by_cases k : c n = -1
        · rw [if_pos k]
          exact Or.inr ⟨i, i0, by omega, i2, i3⟩
        · rw [if_neg k]
          by_cases q : bestL c n ≤ c n
          · rw [Int.min_eq_left q]
            exact Or.inr ⟨i, i0, by omega, i2, i3⟩
          · rw [Int.min_eq_right (by omega)]
            exact Or.inr ⟨n, by omega, by omega, rfl, k⟩
/-- what a value of a plan of k months with so many kept may be -/
def okP (k kept room v : Int) : Prop := v = -1 ∨ (0 ≤ v ∧ v / 512 ≤ 38808 * k ∧ v % 512 + kept ≤ 56 * k + room)
theorem candV_r {t : Int → Int} {set m kept left k : Int} {nxt : Int → Int} (hK : TQ t) (hs : 0 ≤ set ∧ set < 128) (hm : 0 ≤ m ∧ m < 6) (hk : 0 ≤ k ∧ k < 6) (hkept : 0 ≤ kept ∧ kept ≤ roomV t set) (hl : 0 ≤ left ∧ left ≤ roomV t set) (hn : okP k left (roomV t set) (nxt left)) : okP (k + 1) kept (roomV t set) (candV t set m kept nxt left) := by
  have hw := wantV_r hK hs hm
  have hr := roomV_r hK hs
  have a1 : 0 ≤ t 243 * left := Int.mul_nonneg hK.2.2.2.2.1.1 hl.1
  have a2 : t 243 * left ≤ 99 * left := Int.mul_le_mul_of_nonneg_right hK.2.2.2.2.1.2 hl.1
  unfold candV
  by_cases e : wantV t set m + left - kept < 0 ∨ buysV t (wantV t set m + left - kept) m = -1 ∨ nxt left = -1
  · rw [if_pos e]; exact Or.inl rfl
  · rw [if_neg e]
    have hb := buysV_r (q := wantV t set m + left - kept) hK (by omega) hm
    rcases hn with hn | ⟨n1, n2, n3⟩
    · exact absurd (Or.inr (Or.inr hn)) e
    · right
      omega
theorem planV_r {t : Int → Int} {set : Int} (hK : TQ t) (hs : 0 ≤ set ∧ set < 128) : ∀ n : Nat, n ≤ t 244 → ∀ kept : Int, 0 ≤ kept → kept ≤ roomV t set → okP n kept (roomV t set) (planV t set n kept)
  | 0, _, kept, h0, h1 => by
    right
    show (0 : Int) ≤ 0 ∧ (0 : Int) / 512 ≤ 38808 * 0 ∧ (0 : Int) % 512 + kept ≤ 56 * 0 + roomV t set
    omega
  | n + 1, hn, kept, h0, h1 => by
    have hm := hK.2.2.2.2.2.1
    have e : planV t set (n + 1) kept = bestL (candV t set (t 244 - ((n : Int) + 1)) kept (planV t set n)) (roomV t set + 1).toNat := rfl
    rcases bestL_or (c := candV t set (t 244 - ((n : Int) + 1)) kept (planV t set n)) (roomV t set + 1).toNat with g | ⟨i, i0, i1, i2, i3⟩
    · left
      rw [e]; exact g.1
    · rw [e, ← i2]
      have z := candV_r (m := t 244 - ((n : Int) + 1)) (kept := kept) (left := i) (k := n) (nxt := planV t set n) hK hs (by omega) (by omega) ⟨h0, h1⟩ (by omega) (planV_r hK hs n (by omega) i i0 (by omega))
      rw [show (((n + 1 : Nat)) : Int) = (n : Int) + 1 by omega]
      exact z
theorem planV_1 {t : Int → Int} {set k kept : Int} (h : 1 ≤ k) : planV t set k.toNat kept = bestL (candV t set (t 244 - k) kept (planV t set (k - 1).toNat)) (roomV t set + 1).toNat := by
  rw [show k.toNat = (k - 1).toNat + 1 by omega]
  show bestL (candV t set (t 244 - ((((k - 1).toNat : Nat) : Int) + 1)) kept (planV t set (k - 1).toNat)) (roomV t set + 1).toNat = _
  rw [show t 244 - ((((k - 1).toNat : Nat) : Int) + 1) = t 244 - k by omega]
theorem planV_r1 {t : Int → Int} {set k kept : Int} (hK : TQ t) (hs : 0 ≤ set ∧ set < 128) (hk : 0 ≤ k ∧ k ≤ t 244) (hkept : 0 ≤ kept ∧ kept ≤ roomV t set) : okP k kept (roomV t set) (planV t set k.toNat kept) := by
  have z := planV_r hK hs k.toNat (by omega) kept hkept.1 hkept.2
  rw [show ((k.toNat : Nat) : Int) = k by omega] at z
  exact z
theorem allV_r {t : Int → Int} {set : Int} (hK : TQ t) (hs : 0 ≤ set ∧ set < 128) : allV t set = -1 ∨ (0 ≤ allV t set ∧ allV t set / 512 ≤ 232848 ∧ allV t set < 536870912) := by
  have hm := hK.2.2.2.2.2.1
  have hr := roomV_r hK hs
  have z := planV_r1 (k := t 244) (kept := 0) hK hs (by omega) (by omega)
  have e : planV t set (t 244).toNat 0 = allV t set := rfl
  rw [e] at z
  unfold okP at z
  omega
/-- how many are left of the best plan, the fewest -/
def leftV (t : Int → Int) (set k kept : Int) : Int := firstB (fun left => decide (candV t set (t 244 - k) kept (planV t set (k - 1).toNat) left = planV t set k.toNat kept)) (roomV t set + 1).toNat
def keptV (t : Int → Int) (set : Int) : Nat → Int
  | 0 => 0
  | j + 1 => leftV t set (t 244 - j) (keptV t set j)
def rowV (t : Int → Int) (set j : Int) : Int := wantV t set j + keptV t set (j + 1).toNat - keptV t set j.toNat
theorem leftV_r {t : Int → Int} {set k kept : Int} (hK : TQ t) (hs : 0 ≤ set ∧ set < 128) (hk : 1 ≤ k) (hp : planV t set k.toNat kept ≠ -1) : (0 ≤ leftV t set k kept ∧ leftV t set k kept ≤ roomV t set) ∧ candV t set (t 244 - k) kept (planV t set (k - 1).toNat) (leftV t set k kept) = planV t set k.toNat kept ∧ planV t set (k - 1).toNat (leftV t set k kept) ≠ -1 ∧ 0 ≤ wantV t set (t 244 - k) + leftV t set k kept - kept ∧ buysV t (wantV t set (t 244 - k) + leftV t set k kept - kept) (t 244 - k) ≠ -1 := by
  have hr := roomV_r hK hs
  have e := planV_1 (t := t) (set := set) (k := k) (kept := kept) hk
  rcases bestL_or (c := candV t set (t 244 - k) kept (planV t set (k - 1).toNat)) (roomV t set + 1).toNat with g | ⟨i, i0, i1, i2, i3⟩
  · exact absurd (e.trans g.1) hp
  · rcases firstB_range (p := fun left => decide (candV t set (t 244 - k) kept (planV t set (k - 1).toNat) left = planV t set k.toNat kept)) (roomV t set + 1).toNat with f | ⟨f0, f1, f2⟩
    · have := firstB_none.mp f i i0 i1
      rw [e, i2] at this
      simp at this
    · have f2 := of_decide_eq_true f2
      have fl : firstB (fun left => decide (candV t set (t 244 - k) kept (planV t set (k - 1).toNat) left = planV t set k.toNat kept)) (roomV t set + 1).toNat = leftV t set k kept := rfl
      rw [fl] at f0 f1 f2
      refine ⟨⟨f0, by omega⟩, f2, ?_⟩
      have f3 : candV t set (t 244 - k) kept (planV t set (k - 1).toNat) (leftV t set k kept) ≠ -1 := by rw [f2]; exact hp
      unfold candV at f3
      by_cases q : wantV t set (t 244 - k) + leftV t set k kept - kept < 0 ∨ buysV t (wantV t set (t 244 - k) + leftV t set k kept - kept) (t 244 - k) = -1 ∨ planV t set (k - 1).toNat (leftV t set k kept) = -1
      · rw [if_pos q] at f3
        exact absurd rfl f3
      · exact ⟨fun z => q (Or.inr (Or.inr z)), by omega, fun z => q (Or.inr (Or.inl z))⟩
theorem keptV_1 {t : Int → Int} {set j : Int} (h : 0 ≤ j) : keptV t set (j + 1).toNat = leftV t set (t 244 - j) (keptV t set j.toNat) := by
  rw [show (j + 1).toNat = j.toNat + 1 by omega]
  show leftV t set (t 244 - ((j.toNat : Nat) : Int)) (keptV t set j.toNat) = _
  rw [show ((j.toNat : Nat) : Int) = j by omega]
theorem keptV_r {t : Int → Int} {set : Int} (hK : TQ t) (hs : 0 ≤ set ∧ set < 128) (ha : allV t set ≠ -1) : ∀ n : Nat, (n : Int) ≤ t 244 → (0 ≤ keptV t set n ∧ keptV t set n ≤ roomV t set) ∧ planV t set (t 244 - n).toNat (keptV t set n) ≠ -1
  | 0, _ => by
    have hr := roomV_r hK hs
    refine ⟨⟨Int.le_refl 0, hr.1⟩, ?_⟩
    rw [show t 244 - ((0 : Nat) : Int) = t 244 by omega]
    exact ha
  | n + 1, hn => by
    have ih := keptV_r hK hs ha n (by omega)
    have z := leftV_r (k := t 244 - n) hK hs (by omega) ih.2
    have e : keptV t set (n + 1) = leftV t set (t 244 - n) (keptV t set n) := rfl
    rw [e, show t 244 - ((n + 1 : Nat) : Int) = t 244 - (n : Int) - 1 by omega]
    exact ⟨z.1, z.2.2.1⟩
theorem keptV_r1 {t : Int → Int} {set j : Int} (hK : TQ t) (hs : 0 ≤ set ∧ set < 128) (ha : allV t set ≠ -1) (hj : 0 ≤ j ∧ j ≤ t 244) : (0 ≤ keptV t set j.toNat ∧ keptV t set j.toNat ≤ roomV t set) ∧ planV t set (t 244 - j).toNat (keptV t set j.toNat) ≠ -1 := by
  have z := keptV_r hK hs ha j.toNat (by omega)
  rw [show ((j.toNat : Nat) : Int) = j by omega] at z
  exact z
/-- the sacks of the best plan -/
theorem row_sum {t : Int → Int} {set : Int} (hK : TQ t) (hs : 0 ≤ set ∧ set < 128) (ha : allV t set ≠ -1) : ∀ n : Nat, (n : Int) ≤ t 244 → sumN (rowV t set) n + planV t set (t 244 - n).toNat (keptV t set n) % 512 = allV t set % 512
  | 0, _ => by
    rw [show t 244 - ((0 : Nat) : Int) = t 244 by omega]
    show 0 + planV t set (t 244).toNat 0 % 512 = allV t set % 512
    rw [Int.zero_add]
    rfl
  | n + 1, hn => by
    have ih := row_sum hK hs ha n (by omega)
    have k0 := keptV_r hK hs ha n (by omega)
    have k1 := keptV_r hK hs ha (n + 1) hn
    have hr := roomV_r hK hs
    have z := leftV_r (k := t 244 - n) hK hs (by omega) k0.2
    have e : keptV t set (n + 1) = leftV t set (t 244 - n) (keptV t set n) := rfl
    rw [← e] at z
    have hm := hK.2.2.2.2.2.1
    have p1 := planV_r1 (k := t 244 - n) (kept := keptV t set n) hK hs (by omega) k0.1
    have p2 := planV_r1 (k := t 244 - n - 1) (kept := keptV t set (n + 1)) hK hs (by omega) k1.1
    obtain ⟨z1, z2, z3, z4, z5⟩ := z
    rw [show t 244 - (t 244 - (n : Int)) = (n : Int) by omega] at z2 z4 z5
    unfold candV at z2
    rw [if_neg (by omega)] at z2
    rw [show t 244 - ((n + 1 : Nat) : Int) = t 244 - (n : Int) - 1 by omega]
    have er : sumN (rowV t set) (n + 1) = sumN (rowV t set) n + rowV t set n := rfl
    have er2 : rowV t set n = wantV t set n + keptV t set (n + 1) - keptV t set n := by
      unfold rowV
      rw [show ((n : Int) + 1).toNat = n + 1 by omega, show (n : Int).toNat = n by omega]
    rw [er, er2]
    have hw := wantV_r (m := (n : Int)) hK hs (by omega)
    unfold okP at p1 p2
    omega
theorem row_all {t : Int → Int} {set : Int} (hK : TQ t) (hs : 0 ≤ set ∧ set < 128) (ha : allV t set ≠ -1) : sumN (rowV t set) (t 244).toNat = allV t set % 512 := by
  have hm := hK.2.2.2.2.2.1
  have z := row_sum hK hs ha (t 244).toNat (by omega)
  rw [show t 244 - (((t 244).toNat : Nat) : Int) = 0 by omega] at z
  have e : planV t set (0 : Int).toNat (keptV t set (t 244).toNat) = 0 := rfl
  rw [e] at z
  omega
theorem costV_r {t : Int → Int} {set : Int} (hK : TQ t) (hs : 0 ≤ set ∧ set < 128) : costV t set = -1 ∨ (-99 ≤ costV t set ∧ costV t set ≤ 233442) := by
  have h1 := allV_r hK hs
  have h2 := size_r hs
  have a1 : t 242 * (sumN (hb set) 7 - 1) ≤ 99 * 6 := by
    by_cases e : sumN (hb set) 7 = 0
    · rw [e]; have := hK.2.2.2.1; omega
    · have b1 : t 242 * (sumN (hb set) 7 - 1) ≤ t 242 * 6 := Int.mul_le_mul_of_nonneg_left (by omega) hK.2.2.2.1.1
      have := hK.2.2.2.1
      omega
  have a2 : -99 ≤ t 242 * (sumN (hb set) 7 - 1) := by
    by_cases e : sumN (hb set) 7 = 0
    · rw [e]; have := hK.2.2.2.1; omega
    · have b1 : 0 ≤ t 242 * (sumN (hb set) 7 - 1) := Int.mul_nonneg hK.2.2.2.1.1 (by omega)
      omega
  unfold costV
  split
  · exact Or.inl rfl
  · right
    omega
theorem costV_r1 {t : Int → Int} {set : Int} (hK : TQ t) (hs : 0 < set ∧ set < 128) : costV t set = -1 ∨ (0 ≤ costV t set ∧ costV t set ≤ 233442) := by
  have h1 := allV_r hK (set := set) (by omega)
  have h2 := size_r (set := set) (by omega)
  have h3 : sumN (hb set) 7 ≠ 0 := by
    intro q
    have h9 : ∀ i : Int, 0 ≤ i → i < 7 → hb set i = 0 := by
      have key : ∀ n : Nat, n ≤ 7 → sumN (hb set) n ≤ 0 → ∀ i : Int, 0 ≤ i → i < n → hb set i = 0 := by
        intro n
        induction n with
        | zero => intro _ _ i a b; omega
        | succ n ih =>
          intro hn hq i a b
          have e : sumN (hb set) (n + 1) = sumN (hb set) n + hb set n := rfl
          have p := sumN_le (f := hb set) (c := 1) (n := n) (fun j a b => by have := hb01 (x := set) (by omega) (h := j) ⟨a, by omega⟩; omega)
          have p2 := hb01 (x := set) (by omega) (h := n) (by omega)
          by_cases g : i = n
          · rw [g]; omega
          · exact ih (by omega) (by omega) i a (by omega)
      exact key 7 (by omega) (by omega)
    have := (b_zero_iff (x := set) (by omega)).mpr fun h a b c => by have := h9 h a b; omega
    omega
  have a1 : t 242 * (sumN (hb set) 7 - 1) ≤ t 242 * 6 := Int.mul_le_mul_of_nonneg_left (by omega) hK.2.2.2.1.1
  have a2 : 0 ≤ t 242 * (sumN (hb set) 7 - 1) := Int.mul_nonneg hK.2.2.2.1.1 (by omega)
  have a3 := hK.2.2.2.1
  unfold costV
  split
  · exact Or.inl rfl
  · right
    omega
