/-! HOW MANY SETS OF COLUMNS THERE ARE: the algorithm comes to an end -/
def chs : Nat → Nat → Nat
  | _, 0 => 1
  | 0, _ + 1 => 0
  | n + 1, k + 1 => chs n k + chs n (k + 1)
theorem chs_0 (n : Nat) : chs n 0 = 1 := by
  cases n <;> rfl
theorem chs_up (n k : Nat) : chs n k ≤ chs (n + 1) k := by
  cases k with
  | zero => rw [chs_0, chs_0]; exact Nat.le_refl _
  | succ k => exact Nat.le_add_left _ _
theorem chs_mono (n k : Nat) : ∀ d, chs n k ≤ chs (n + d) k
  | 0 => Nat.le_refl _
  | d + 1 => Nat.le_trans (chs_mono n k d) (chs_up (n + d) k)
theorem chs_36 : ∀ k, k < 6 → chs 36 k ≤ 400000 := by decide +kernel
theorem chs_le {w h : Nat} (hw : w ≤ 5) (hh : h ≤ 31) : chs (w + h) w ≤ 400000 := by
  have a := chs_mono (w + h) w (36 - (w + h))
  rw [show w + h + (36 - (w + h)) = 36 by omega] at a
  exact Nat.le_trans a (chs_36 w (by omega))
def cnt (p : Nat → Bool) : Nat → Nat
  | 0 => 0
  | n + 1 => cnt p n + (if p n = true then 1 else 0)
theorem cnt_0 {p : Nat → Bool} : ∀ n, (∀ i, i < n → p i = false) → cnt p n = 0
  | 0, _ => rfl
  | n + 1, h => by
    show cnt p n + _ = 0
    rw [cnt_0 n fun i hi => h i (by omega), h n (by omega)]
    rfl
theorem cnt_z {p : Nat → Bool} : ∀ n, cnt p n = 0 → ∀ i, i < n → p i = false
  | 0, _, i, hi => absurd hi (by omega)
  | n + 1, h, i, hi => by
    have h : cnt p n + (if p n = true then 1 else 0) = 0 := h
    by_cases e : i = n
    · subst e
      cases hq : p i
      · rfl
      · rw [hq, if_pos rfl] at h; omega
    · exact cnt_z n (by omega) i (by omega)
theorem cnt_1 : ∀ n, cnt (fun _ => true) n = n
  | 0 => rfl
  | n + 1 => by
    show cnt _ n + (if true = true then 1 else 0) = n + 1
    rw [cnt_1 n, if_pos rfl]
theorem cnt_sp {p q : Nat → Bool} : ∀ n, cnt p n = cnt (fun i => p i && q i) n + cnt (fun i => p i && !q i) n
  | 0 => rfl
  | n + 1 => by
    show cnt p n + _ = cnt _ n + (if (p n && q n) = true then 1 else 0) + (cnt _ n + (if (p n && !q n) = true then 1 else 0))
    rw [cnt_sp (q := q) n]
    cases p n <;> cases q n <;> simp <;> omega
theorem cnt_le1 {p : Nat → Bool} : ∀ n, (∀ i j, i < j → j < n → p i = true → p j = true → False) → cnt p n ≤ 1
  | 0, _ => by show 0 ≤ 1; omega
  | n + 1, h => by
    show cnt p n + (if p n = true then 1 else 0) ≤ 1
    by_cases e : p n = true
    · rw [if_pos e, cnt_0 n fun i hi => by
        cases hq : p i
        · rfl
        · exact (h i n hi (by omega) hq e).elim]
      omega
    · rw [if_neg e]
      exact cnt_le1 n fun i j x y => h i j x (by omega)
theorem cnt_pig : ∀ (m k : Nat) (p : Nat → Bool) (K : Nat) (s : Nat → Nat → Bool), (∀ i j, i < j → j < K → p i = true → p j = true → ∃ v, v < m ∧ s i v ≠ s j v) → (∀ i, i < K → p i = true → cnt (s i) m = k) → cnt p K ≤ chs m k
  | 0, 0, p, K, s, h, _ => cnt_le1 K fun i j x y a b => by
    obtain ⟨v, hv, -⟩ := h i j x y a b
    omega
  | 0, k + 1, p, K, s, _, h2 => by
    rw [cnt_0 K fun i hi => by
      cases hq : p i
      · rfl
      · exact absurd (h2 i hi hq) (by show ¬ (0 = k + 1); omega)]
    exact Nat.zero_le _
  | m + 1, 0, p, K, s, h, h2 => cnt_le1 K fun i j x y a b => by
    obtain ⟨v, hv, q⟩ := h i j x y a b
    exact q ((cnt_z _ (h2 i (by omega) a) v hv).trans (cnt_z _ (h2 j y b) v hv).symm)
  | m + 1, k + 1, p, K, s, h, h2 => by
    rw [cnt_sp (q := fun i => s i m) K]
    show _ ≤ chs m k + chs m (k + 1)
    refine Nat.add_le_add (cnt_pig m k _ K s (fun i j x y a b => ?_) fun i hi a => ?_) (cnt_pig m (k + 1) _ K s (fun i j x y a b => ?_) fun i hi a => ?_)
    · rw [Bool.and_eq_true] at a b
      obtain ⟨v, hv, q⟩ := h i j x y a.1 b.1
      by_cases e : v = m
      · subst e
        exact absurd (a.2.trans b.2.symm) q
      · exact ⟨v, by omega, q⟩
    · rw [Bool.and_eq_true] at a
      have z : cnt (s i) m + (if s i m = true then 1 else 0) = k + 1 := h2 i hi a.1
      rw [if_pos a.2] at z
      omega
    · rw [Bool.and_eq_true] at a b
      obtain ⟨v, hv, q⟩ := h i j x y a.1 b.1
      by_cases e : v = m
      · subst e
        have a2 : s i v = false := by
          cases hq : s i v
          · rfl
          · rw [hq] at a; exact absurd a.2 (by decide)
        have b2 : s j v = false := by
          cases hq : s j v
          · rfl
          · rw [hq] at b; exact absurd b.2 (by decide)
        exact absurd (a2.trans b2.symm) q
      · exact ⟨v, by omega, q⟩
    · rw [Bool.and_eq_true] at a
      have z : cnt (s i) m + (if s i m = true then 1 else 0) = k + 1 := h2 i hi a.1
      rw [if_neg (fun q => by rw [q] at a; exact absurd a.2 (by decide))] at z
      omega
def nB (ν : Nat → Nat) : Nat → Nat → Bool
  | 0, _ => false
  | w + 1, v => nB ν w v || (ν w == v)
theorem nB_iff {ν : Nat → Nat} {v : Nat} : ∀ w, nB ν w v = true ↔ ∃ j, j < w ∧ ν j = v
  | 0 => ⟨fun q => (by cases q), fun ⟨j, hj, _⟩ => absurd hj (by omega)⟩
  | w + 1 => by
    show (nB ν w v || (ν w == v)) = true ↔ _
    rw [Bool.or_eq_true, nB_iff w, beq_iff_eq]
    constructor
    · rintro (⟨j, hj, e⟩ | e)
      · exact ⟨j, by omega, e⟩
      · exact ⟨w, by omega, e⟩
    · rintro ⟨j, hj, e⟩
      by_cases c : j = w
      · subst c; exact Or.inr e
      · exact Or.inl ⟨j, by omega, e⟩
theorem cnt_or {f : Nat → Bool} {x : Nat} : ∀ m, cnt (fun v => f v || (x == v)) m = cnt f m + (if x < m ∧ f x = false then 1 else 0)
  | 0 => by
    rw [if_neg (by omega)]
    rfl
  | m + 1 => by
    have ih := cnt_or (f := f) (x := x) m
    show cnt (fun v => f v || (x == v)) m + (if (f m || (x == m)) = true then 1 else 0) = cnt f m + (if f m = true then 1 else 0) + (if x < m + 1 ∧ f x = false then 1 else 0)
    rw [ih]
    by_cases e : x = m
    · subst e
      have h1 : ¬ (x < x ∧ f x = false) := fun q => by omega
      rw [if_neg h1]
      cases hf : f x <;> simp
    · have hb : (x == m) = false := by simp [e]
      rw [hb, Bool.or_false]
      by_cases c : x < m ∧ f x = false
      · rw [if_pos c, if_pos (show x < m + 1 ∧ f x = false from ⟨by omega, c.2⟩)]
        omega
      · rw [if_neg c, if_neg (show ¬ (x < m + 1 ∧ f x = false) from fun q => c ⟨by omega, q.2⟩)]
        omega
theorem cnt_nB {ν : Nat → Nat} {m : Nat} : ∀ w, (∀ j, j < w → ν j < m) → (∀ j k, j < w → k < w → ν j = ν k → j = k) → cnt (nB ν w) m = w
  | 0, _, _ => cnt_0 m fun _ _ => rfl
  | w + 1, h1, h2 => by
    show cnt (fun v => nB ν w v || (ν w == v)) m = w + 1
    rw [cnt_or (f := nB ν w) (x := ν w), cnt_nB w (fun j hj => h1 j (by omega)) (fun j k hj hk => h2 j k (by omega) (by omega)), if_pos (show ν w < m ∧ nB ν w (ν w) = false from ⟨h1 w (by omega), ?_⟩)]
    cases hq : nB ν w (ν w)
    · rfl
    · obtain ⟨j, hj, e⟩ := (nB_iff w).mp hq
      have := h2 j w (by omega) (by omega) e
      omega
section SX
variable {w h : Nat} {F : Nat → Nat → Int}
/-- the states, turn by turn -/
def sxR (w h : Nat) (F : Nat → Nat → Int) (Z : Nat → Int) (fx : Nat → Bool) (st : sx) : Nat → sx
  | 0 => st
  | n + 1 => sxN w h F Z fx (sxR w h F Z fx st n)
theorem sxR_ok {C : Nat} {Z : Nat → Int} {fx : Nat → Bool} {st : sx} (hP : PBx w h F C) (H : OKx w h F st) : ∀ n, (∀ k, k < n → sxE w F Z fx (sxR w h F Z fx st k) ≠ -1) → OKx w h F (sxR w h F Z fx st n)
  | 0, _ => H
  | n + 1, hn => by
    have g := sx_go (Z := Z) (fx := fx) hP (sxR_ok hP H n fun k hk => hn k (by omega)) (hn n (by omega))
    show OKx w h F (sxN w h F Z fx (sxR w h F Z fx st n))
    rw [g.2.2.2.2.1]
    exact g.2.2.2.2.2.1
theorem least_of {p : Nat → Prop} : ∀ n, p n → ∃ m, m ≤ n ∧ p m ∧ ∀ k, k < m → ¬ p k := fun n hn => by
  induction n using Nat.strongRecOn with
  | _ n ih =>
    by_cases c : ∃ k, k < n ∧ p k
    · obtain ⟨k, hk, q⟩ := c
      obtain ⟨m, m1, m2, m3⟩ := ih k hk q
      exact ⟨m, by omega, m2, m3⟩
    · exact ⟨n, Nat.le_refl n, hn, fun k hk q => c ⟨k, hk, q⟩⟩
theorem sx_stop {C : Nat} {Z : Nat → Int} {fx : Nat → Bool} {st : sx} (hP : PBx w h F C) (H : OKx w h F st) : ∃ n, n ≤ chs (w + h) w ∧ sxE w F Z fx (sxR w h F Z fx st n) = -1 ∧ ∀ k, k < n → sxE w F Z fx (sxR w h F Z fx st k) ≠ -1 := by
  refine Classical.byContradiction fun hno => ?_
  have ne : ∀ n, n ≤ chs (w + h) w → sxE w F Z fx (sxR w h F Z fx st n) ≠ -1 := fun n hn q => by
    obtain ⟨m, m1, m2, m3⟩ := least_of (p := fun n => sxE w F Z fx (sxR w h F Z fx st n) = -1) n q
    exact hno ⟨m, by omega, m2, m3⟩
  have ok : ∀ n, n ≤ chs (w + h) w → OKx w h F (sxR w h F Z fx st n) := fun n hn => sxR_ok hP H n fun k hk => ne k (by omega)
  have c := cnt_pig (w + h) w (fun _ => true) (chs (w + h) w + 1) (fun i => nB (sxR w h F Z fx st i).1 w) (fun i j hij hj _ _ => ?_) (fun i hi _ => ?_)
  · rw [cnt_1] at c
    omega
  · refine Classical.byContradiction fun hs => ?_
    have same : ∀ v, v < w + h → nB (sxR w h F Z fx st i).1 w v = nB (sxR w h F Z fx st j).1 w v := fun v hv => Classical.byContradiction fun q => hs ⟨v, hv, q⟩
    refine sx_bland (Z := Z) (fx := fx) hP (fun k => sxR w h F Z fx st k) i j hij (fun k x y => ok k (by omega)) (fun k x y => ⟨ne k (by omega), rfl⟩) fun v => ?_
    show (∃ l, l < w ∧ _ = v) ↔ ∃ l, l < w ∧ _ = v
    rw [← nB_iff, ← nB_iff]
    by_cases hv : v < w + h
    · rw [same v hv]
    · constructor
      · intro q
        obtain ⟨l, hl, e⟩ := (nB_iff w).mp q
        have := (ok i (by omega)).2.2.2.1.1 l hl
        omega
      · intro q
        obtain ⟨l, hl, e⟩ := (nB_iff w).mp q
        have := (ok j (by omega)).2.2.2.1.1 l hl
        omega
  · have g := (ok i (by omega)).2.2.2.1
    exact cnt_nB w g.1 g.2.2.2.1
/-- the state at the end -/
def sxF (w h : Nat) (F : Nat → Nat → Int) (Z : Nat → Int) (fx : Nat → Bool) : Nat → sx → sx
  | 0, st => st
  | f + 1, st => if sxE w F Z fx st = -1 then st else sxF w h F Z fx f (sxN w h F Z fx st)
theorem sxR_sh {Z : Nat → Int} {fx : Nat → Bool} {st : sx} : ∀ n, sxR w h F Z fx (sxN w h F Z fx st) n = sxR w h F Z fx st (n + 1)
  | 0 => rfl
  | n + 1 => by
    show sxN w h F Z fx (sxR w h F Z fx (sxN w h F Z fx st) n) = sxN w h F Z fx (sxR w h F Z fx st (n + 1))
    rw [sxR_sh n]
theorem sxF_R {Z : Nat → Int} {fx : Nat → Bool} : ∀ (f n : Nat) (st : sx), n ≤ f → sxE w F Z fx (sxR w h F Z fx st n) = -1 → (∀ k, k < n → sxE w F Z fx (sxR w h F Z fx st k) ≠ -1) → sxF w h F Z fx f st = sxR w h F Z fx st n
  | 0, n, st, hn, _, _ => by
    rw [show n = 0 by omega]
    rfl
  | f + 1, n, st, hn, h1, h2 => by
    show (if sxE w F Z fx st = -1 then st else sxF w h F Z fx f (sxN w h F Z fx st)) = _
    by_cases e : n = 0
    · subst e
      rw [if_pos (show sxE w F Z fx st = -1 from h1)]
      rfl
    · rw [if_neg (show ¬ sxE w F Z fx st = -1 from h2 0 (by omega)), sxF_R f (n - 1) (sxN w h F Z fx st) (by omega)]
      · rw [sxR_sh, show n - 1 + 1 = n by omega]
      · rw [sxR_sh, show n - 1 + 1 = n by omega]; exact h1
      · intro k hk
        rw [sxR_sh]
        exact h2 (k + 1) (by omega)
def sxD (w h : Nat) (F : Nat → Nat → Int) (Z : Nat → Int) (fx : Nat → Bool) (st : sx) : sx := sxF w h F Z fx 400000 st
theorem sx_end {C : Nat} {Z : Nat → Int} {fx : Nat → Bool} {st : sx} (hP : PBx w h F C) (hw : w ≤ 5) (hh : h ≤ 31) (H : OKx w h F st) : ∃ n, n ≤ 400000 ∧ sxD w h F Z fx st = sxR w h F Z fx st n ∧ OKx w h F (sxD w h F Z fx st) ∧ sxE w F Z fx (sxR w h F Z fx st n) = -1 ∧ ∀ k, k < n → sxE w F Z fx (sxR w h F Z fx st k) ≠ -1 ∧ OKx w h F (sxR w h F Z fx st k) := by
  obtain ⟨n, n1, n2, n3⟩ := sx_stop (Z := Z) (fx := fx) hP H
  have n4 := chs_le hw hh
  have e := sxF_R (w := w) (h := h) (F := F) (Z := Z) (fx := fx) 400000 n st (by omega) n2 n3
  refine ⟨n, by omega, e, ?_, n2, fun k hk => ⟨n3 k hk, sxR_ok hP H k fun l hl => n3 l (by omega)⟩⟩
  unfold sxD
  rw [e]
  exact sxR_ok hP H n n3
end SX
