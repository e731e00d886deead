/-! GROUPS: of all partings the least, by rows of numbers -/
theorem hb_xor {x y h : Int} (hx : 0 ≤ x ∧ x < 128) (hy : 0 ≤ y ∧ y < 128) (hh : 0 ≤ h ∧ h < 7) : hb (b_xor x y) h = 1 ↔ ¬ (hb x h = 1 ↔ hb y h = 1) := by
  rw [hb_iff (b_xor_lt hx hy) hh, hb_iff hx hh, hb_iff hy hh, bt_xor]
  cases bt x h <;> cases bt y h <;> simp
theorem sub_iff {g s : Int} (hg : 0 ≤ g ∧ g < 128) (hs : 0 ≤ s ∧ s < 128) : b_and g (b_xor s (-1)) = 0 ↔ ∀ h, 0 ≤ h → h < 7 → hb g h = 1 → hb s h = 1 := by
  have hz : 0 ≤ b_and g (b_xor s (-1)) ∧ b_and g (b_xor s (-1)) < 128 := b_and_lt hg
  rw [b_zero_iff hz]
  constructor
  · intro q h a b w
    have z := q h a b
    rw [hb_andn hg hs ⟨a, b⟩] at z
    by_cases e : hb s h = 1
    · exact e
    · exact absurd ⟨w, e⟩ z
  · intro q h a b w
    rw [hb_andn hg hs ⟨a, b⟩] at w
    exact w.2 (q h a b w.1)
theorem hb_sub {g s h : Int} (hg : 0 ≤ g ∧ g < 128) (hs : 0 ≤ s ∧ s < 128) (hgs : b_and g (b_xor s (-1)) = 0) (hh : 0 ≤ h ∧ h < 7) : hb (b_xor s g) h = 1 ↔ hb s h = 1 ∧ ¬ hb g h = 1 := by
  have z := (sub_iff hg hs).mp hgs h hh.1 hh.2
  rw [hb_xor hs hg hh]
  constructor
  · intro q
    by_cases a : hb g h = 1
    · exact absurd ⟨fun _ => a, fun _ => z a⟩ q
    · by_cases b : hb s h = 1
      · exact ⟨b, a⟩
      · exact absurd ⟨fun x => absurd x b, fun x => absurd x a⟩ q
  · rintro ⟨a, b⟩ q
    exact b (q.mp a)
theorem low_r {s : Int} (hs : 0 < s ∧ s < 128) : (0 ≤ lowV s ∧ lowV s < 7) ∧ hb s (lowV s) = 1 ∧ ∀ i, 0 ≤ i → i < lowV s → ¬ hb s i = 1 := by
  unfold lowV
  rcases firstB_range (p := fun h => decide (hb s h = 1)) 7 with q | ⟨q1, q2, q3⟩
  · exfalso
    have z := firstB_none.mp q
    have := (b_zero_iff (x := s) (by omega)).mpr fun h a b w => by
      have := z h a (by omega)
      simp [w] at this
    omega
  · refine ⟨⟨q1, by omega⟩, of_decide_eq_true q3, fun i a b => ?_⟩
    have := firstB_lt (p := fun h => decide (hb s h = 1)) 7 i a b
    exact of_decide_eq_false this
theorem sumN_add {f g : Int → Int} : ∀ n : Nat, sumN (fun i => f i + g i) n = sumN f n + sumN g n
  | 0 => rfl
  | n + 1 => by
    unfold sumN
    rw [sumN_add n]
    omega
theorem sumN_shift {f : Int → Int} : ∀ n : Nat, sumN f (n + 1) = f 0 + sumN (fun i => f (i + 1)) n
  | 0 => by
    show sumN f 0 + f ((0 : Nat) : Int) = f 0 + 0
    show 0 + f 0 = f 0 + 0
    omega
  | n + 1 => by
    have ih := sumN_shift (f := f) n
    have e : sumN f (n + 1 + 1) = sumN f (n + 1) + f ((n + 1 : Nat) : Int) := rfl
    have e2 : sumN (fun i => f (i + 1)) (n + 1) = sumN (fun i => f (i + 1)) n + f ((n : Int) + 1) := rfl
    rw [e, e2, ih, show ((n + 1 : Nat) : Int) = (n : Int) + 1 by omega]
    omega
theorem sumN_ge {f : Int → Int} {i : Int} : ∀ n : Nat, (∀ j : Int, 0 ≤ j → j < n → 0 ≤ f j) → 0 ≤ i → i < n → f i ≤ sumN f n
  | 0, _, a, b => by omega
  | n + 1, h, a, b => by
    have hn := h n (by omega) (by omega)
    have hp : ∀ m : Nat, m ≤ n → 0 ≤ sumN f m := by
      intro m
      induction m with
      | zero => intro _; exact Int.le_refl 0
      | succ m ih =>
        intro hm
        have := h m (by omega) (by omega)
        have := ih (by omega)
        unfold sumN
        omega
    unfold sumN
    by_cases e : i = n
    · subst e
      have := hp n (Nat.le_refl n)
      omega
    · have := sumN_ge n (fun j x y => h j x (by omega)) a (by omega)
      omega
theorem bestL_le {c : Int → Int} : ∀ (n : Nat) {i : Int}, (∀ j : Int, 0 ≤ j → j < n → -1 ≤ c j) → 0 ≤ i → i < n → c i ≠ -1 → bestL c n ≠ -1 ∧ bestL c n ≤ c i
  | 0, i, _, a, b, _ => by omega
  | n + 1, i, hc, a, b, h => by
    have e : bestL c (n + 1) = omin (bestL c n) (c n) := rfl
    have hn := hc n (by omega) (by omega)
    have hb : -1 ≤ bestL c n := by
      rcases bestL_or (c := c) n with q | ⟨j, j0, j1, j2, j3⟩
      · omega
      · have := hc j j0 (by omega)
        omega
    rw [e]
    unfold omin
    by_cases g : i = n
    · subst g
      by_cases k : bestL c n = -1
      · rw [if_pos k]
        exact ⟨h, Int.le_refl _⟩
      · rw [if_neg k, if_neg h]
        omega
    · have ih := bestL_le n (fun j x y => hc j x (by omega)) a (by omega) h
      rw [if_neg ih.1]
      by_cases k : c n = -1
      · rw [if_pos k]; exact ih
      · rw [if_neg k]
        omega
/-! rows of numbers -/
def grp (s : Int) (ρ : Int → Int) (g : Int) : Int := orN (fun h => decide (hb s h = 1 ∧ ρ h = g)) 7
theorem grp_lt {s g : Int} {ρ : Int → Int} : 0 ≤ grp s ρ g ∧ grp s ρ g < 128 := (orN_hb (p := fun h => decide (hb s h = 1 ∧ ρ h = g)) (n := 7) (by omega)).1
theorem grp_hb {s g h : Int} {ρ : Int → Int} (hh : 0 ≤ h ∧ h < 7) : hb (grp s ρ g) h = 1 ↔ hb s h = 1 ∧ ρ h = g := by
  unfold grp
  rw [(orN_hb (p := fun h => decide (hb s h = 1 ∧ ρ h = g)) (n := 7) (by omega)).2 h hh.1 hh.2]
  constructor
  · intro q; exact of_decide_eq_true q.2
  · intro q; exact ⟨by omega, decide_eq_true q⟩
def RG (s : Int) (ρ : Int → Int) (n : Nat) : Prop := (∀ h, 0 ≤ h → h < 7 → hb s h = 1 → 0 ≤ ρ h ∧ ρ h < n ∧ ∀ g, 0 ≤ g → g < ρ h → ∃ h', 0 ≤ h' ∧ h' < h ∧ hb s h' = 1 ∧ ρ h' = g) ∧ ∀ g : Int, 0 ≤ g → g < n → ∃ h, 0 ≤ h ∧ h < 7 ∧ hb s h = 1 ∧ ρ h = g
def OKR (c : Int → Int) (s : Int) (ρ : Int → Int) (n : Nat) : Prop := RG s ρ n ∧ ∀ g : Int, 0 ≤ g → g < n → c (grp s ρ g) ≠ -1
def gsum (c : Int → Int) (s : Int) (ρ : Int → Int) (n : Nat) : Int := sumN (fun g => c (grp s ρ g)) n
def wt (h : Int) : Int := b_shl 1 ((6 - h) * 3)
theorem wt_v {h : Int} (hh : 0 ≤ h ∧ h < 7) : (h = 0 ∧ wt h = 262144) ∨ (h = 1 ∧ wt h = 32768) ∨ (h = 2 ∧ wt h = 4096) ∨ (h = 3 ∧ wt h = 512) ∨ (h = 4 ∧ wt h = 64) ∨ (h = 5 ∧ wt h = 8) ∨ (h = 6 ∧ wt h = 1) := bt_fin (n := 7) (m := 1) (P := fun h _ => (h = 0 ∧ wt h = 262144) ∨ (h = 1 ∧ wt h = 32768) ∨ (h = 2 ∧ wt h = 4096) ∨ (h = 3 ∧ wt h = 512) ∨ (h = 4 ∧ wt h = 64) ∨ (h = 5 ∧ wt h = 8) ∨ (h = 6 ∧ wt h = 1)) (by decide +kernel) hh (b := 0) (by omega)
def rowN (s : Int) (ρ : Int → Int) : Int := sumN (fun h => if hb s h = 1 then ρ h * wt h else 0) 7
def valR (c : Int → Int) (s : Int) (ρ : Int → Int) (n : Nat) : Int := gsum c s ρ n * 2097152 + rowN s ρ
def isMin (c : Int → Int) (s v : Int) : Prop := (v = -1 ∧ ∀ ρ n, ¬ OKR c s ρ n) ∨ (0 ≤ v ∧ ∃ ρ n, OKR c s ρ n ∧ valR c s ρ n = v ∧ ∀ ρ' n', OKR c s ρ' n' → v ≤ valR c s ρ' n')
theorem isMin.eq {c : Int → Int} {s v w : Int} (h : isMin c s v) (k : isMin c s w) : v = w := by
  rcases h with ⟨h1, h2⟩ | ⟨h1, ρ, n, h2, h3, h4⟩
  · rcases k with ⟨k1, k2⟩ | ⟨k1, σ, m, k2, k3, k4⟩
    · omega
    · exact absurd k2 (h2 σ m)
  · rcases k with ⟨k1, k2⟩ | ⟨k1, σ, m, k2, k3, k4⟩
    · exact absurd h2 (k2 ρ n)
    · have a := h4 σ m k2
      have b := k4 ρ n h2
      omega
theorem RG.le {s : Int} {ρ : Int → Int} {n : Nat} (h : RG s ρ n) : ∀ k : Nat, ∀ i : Int, 0 ≤ i → i < k → i < 7 → hb s i = 1 → ρ i ≤ i
  | 0, i, a, b, _, _ => by omega
  | k + 1, i, a, b, c, d => by
    have z := h.1 i a c d
    by_cases e : ρ i ≤ 0
    · omega
    · obtain ⟨j, j0, j1, j2, j3⟩ := z.2.2 (ρ i - 1) (by omega) (by omega)
      have := RG.le h k j j0 (by omega) (by omega) j2
      omega
/-- what costs may be -/
def costs9 (c : Int → Int) : Prop := ∀ s, 0 < s → s < 128 → c s = -1 ∨ (0 ≤ c s ∧ c s ≤ 233442)
theorem ones_0 (s : Int) : 0 ≤ onesV s := by
  have key : ∀ n : Nat, n ≤ 7 → 0 ≤ sumN (fun h => if hb s h = 1 then b_shl 1 ((6 - h) * 3) else 0) n := by
    intro n
    induction n with
    | zero => intro _; exact Int.le_refl 0
    | succ n ih =>
      intro hn
      have := ih (by omega)
      have w := wt_v (h := n) (by omega)
      unfold wt at w
      unfold sumN
      split <;> omega
  exact key 7 (by omega)
/-- the first group and the rest -/
theorem OKR.peel {c : Int → Int} {s : Int} {ρ : Int → Int} {n : Nat} (hs : 0 < s ∧ s < 128) (h : OKR c s ρ n) : ∃ m : Nat, n = m + 1 ∧ (0 < grp s ρ 0 ∧ grp s ρ 0 < 128) ∧ b_and (grp s ρ 0) (b_xor s (-1)) = 0 ∧ hb (grp s ρ 0) (lowV s) = 1 ∧ c (grp s ρ 0) ≠ -1 ∧ OKR c (b_xor s (grp s ρ 0)) (fun h => ρ h - 1) m ∧ valR c s ρ n = c (grp s ρ 0) * 2097152 + (valR c (b_xor s (grp s ρ 0)) (fun h => ρ h - 1) m + onesV (b_xor s (grp s ρ 0))) := by
  obtain ⟨⟨h1, h2⟩, h3⟩ := h
  obtain ⟨⟨l0, l1⟩, l2, l3⟩ := low_r hs
  have g0 := grp_lt (s := s) (g := 0) (ρ := ρ)
  have hl := h1 _ l0 l1 l2
  have e0 : ρ (lowV s) = 0 := by
    by_cases e : ρ (lowV s) = 0
    · exact e
    · obtain ⟨j, j0, j1, j2, j3⟩ := hl.2.2 0 (by omega) (by omega)
      exact absurd j2 (l3 j j0 j1)
  have hlow : hb (grp s ρ 0) (lowV s) = 1 := (grp_hb ⟨l0, l1⟩).mpr ⟨l2, e0⟩
  have hsub : b_and (grp s ρ 0) (b_xor s (-1)) = 0 := (sub_iff g0 (by omega)).mpr fun h a b w => ((grp_hb ⟨a, b⟩).mp w).1
  have hpos : 0 < grp s ρ 0 := by
    by_cases e : grp s ρ 0 = 0
    · rw [e] at hlow
      exact absurd hlow (hb_0 ⟨l0, l1⟩)
    · omega
  obtain ⟨m, rfl⟩ : ∃ m : Nat, n = m + 1 := ⟨n - 1, by omega⟩
  have hr : ∀ h, 0 ≤ h → h < 7 → (hb (b_xor s (grp s ρ 0)) h = 1 ↔ hb s h = 1 ∧ ρ h ≠ 0) := fun h a b => by
    rw [hb_sub g0 (by omega) hsub ⟨a, b⟩, grp_hb ⟨a, b⟩]
    constructor
    · rintro ⟨x, y⟩; exact ⟨x, fun z => y ⟨x, z⟩⟩
    · rintro ⟨x, y⟩; exact ⟨x, fun z => y z.2⟩
  have hg : ∀ g : Int, 0 ≤ g → grp s ρ (g + 1) = grp (b_xor s (grp s ρ 0)) (fun h => ρ h - 1) g := fun g hg => hb_ext grp_lt grp_lt fun j a b => by
    rw [grp_hb ⟨a, b⟩, grp_hb ⟨a, b⟩, hr j a b]
    constructor
    · rintro ⟨x, y⟩; exact ⟨⟨x, by omega⟩, by omega⟩
    · rintro ⟨⟨x, y⟩, z⟩; exact ⟨x, by omega⟩
  refine ⟨m, rfl, ⟨hpos, g0.2⟩, hsub, hlow, h3 0 (by omega) (by omega), ⟨⟨fun h a b w => ?_, fun g a b => ?_⟩, fun g a b => ?_⟩, ?_⟩
  · obtain ⟨w1, w2⟩ := (hr h a b).mp w
    have z := h1 h a b w1
    show 0 ≤ ρ h - 1 ∧ ρ h - 1 < (m : Int) ∧ ∀ g, 0 ≤ g → g < ρ h - 1 → ∃ h', 0 ≤ h' ∧ h' < h ∧ hb (b_xor s (grp s ρ 0)) h' = 1 ∧ ρ h' - 1 = g
    refine ⟨by omega, by omega, fun g x y => ?_⟩
    obtain ⟨j, j0, j1, j2, j3⟩ := z.2.2 (g + 1) (by omega) (by omega)
    exact ⟨j, j0, j1, (hr j j0 (by omega)).mpr ⟨j2, by omega⟩, by omega⟩
  · show ∃ h, 0 ≤ h ∧ h < 7 ∧ hb (b_xor s (grp s ρ 0)) h = 1 ∧ ρ h - 1 = g
    obtain ⟨j, j0, j1, j2, j3⟩ := h2 (g + 1) (by omega) (by omega)
    exact ⟨j, j0, j1, (hr j j0 j1).mpr ⟨j2, by omega⟩, by omega⟩
  · rw [← hg g a]
    exact h3 (g + 1) (by omega) (by omega)
  · have e1 : gsum c s ρ (m + 1) = c (grp s ρ 0) + gsum c (b_xor s (grp s ρ 0)) (fun h => ρ h - 1) m := by
      unfold gsum
      rw [sumN_shift]
      congr 1
      exact sumN_congr fun i a b => by rw [hg i a]
    have e2 : rowN s ρ = rowN (b_xor s (grp s ρ 0)) (fun h => ρ h - 1) + onesV (b_xor s (grp s ρ 0)) := by
      unfold rowN onesV
      rw [← sumN_add]
      refine sumN_congr fun i a b => ?_
      have z := hr i a b
      have ew : b_shl 1 ((6 - i) * 3) = wt i := rfl
      rw [ew]
      by_cases q : hb s i = 1
      · rw [if_pos q]
        by_cases q2 : ρ i = 0
        · rw [if_neg (fun y => (z.mp y).2 q2), if_neg (fun y => (z.mp y).2 q2), q2]
          omega
        · rw [if_pos (z.mpr ⟨q, q2⟩), if_pos (z.mpr ⟨q, q2⟩), Int.sub_mul]
          omega
      · rw [if_neg q, if_neg (fun y => q (z.mp y).1), if_neg (fun y => q (z.mp y).1)]
        rfl
    unfold valR
    rw [e1, e2, Int.add_mul]
    omega
/-- a group ahead of a row -/
theorem OKR.cons {c : Int → Int} {s g : Int} {σ : Int → Int} {m : Nat} (hs : 0 < s ∧ s < 128) (hg : 0 < g ∧ g < 128) (hsub : b_and g (b_xor s (-1)) = 0) (hlow : hb g (lowV s) = 1) (hc : c g ≠ -1) (h : OKR c (b_xor s g) σ m) : OKR c s (fun h => if hb g h = 1 then 0 else σ h + 1) (m + 1) ∧ grp s (fun h => if hb g h = 1 then 0 else σ h + 1) 0 = g ∧ valR c s (fun h => if hb g h = 1 then 0 else σ h + 1) (m + 1) = c g * 2097152 + (valR c (b_xor s g) σ m + onesV (b_xor s g)) := by
  obtain ⟨⟨h1, h2⟩, h3⟩ := h
  obtain ⟨⟨l0, l1⟩, l2, l3⟩ := low_r hs
  have hr : ∀ h, 0 ≤ h → h < 7 → (hb (b_xor s g) h = 1 ↔ hb s h = 1 ∧ ¬ hb g h = 1) := fun h a b => hb_sub (by omega) (by omega) hsub ⟨a, b⟩
  have hgs := (sub_iff (g := g) (s := s) (by omega) (by omega)).mp hsub
  have rg : ∀ h, hb g h = 1 → (fun h => if hb g h = 1 then 0 else σ h + 1) h = 0 := fun h w => if_pos w
  have rn : ∀ h, ¬ hb g h = 1 → (fun h => if hb g h = 1 then 0 else σ h + 1) h = σ h + 1 := fun h w => if_neg w
  generalize hρ : (fun h => if hb g h = 1 then 0 else σ h + 1) = ρ at rg rn ⊢
  have eg0 : grp s ρ 0 = g := hb_ext grp_lt (by omega) fun j a b => by
    rw [grp_hb ⟨a, b⟩]
    constructor
    · rintro ⟨x, y⟩
      by_cases q : hb g j = 1
      · exact q
      · have := rn j q
        have := (h1 j a b ((hr j a b).mpr ⟨x, q⟩)).1
        omega
    · intro q
      exact ⟨hgs j a b q, rg j q⟩
  have eg : ∀ k : Int, 0 ≤ k → grp s ρ (k + 1) = grp (b_xor s g) σ k := fun k hk => hb_ext grp_lt grp_lt fun j a b => by
    rw [grp_hb ⟨a, b⟩, grp_hb ⟨a, b⟩, hr j a b]
    constructor
    · rintro ⟨x, y⟩
      by_cases q : hb g j = 1
      · have := rg j q
        omega
      · have := rn j q
        exact ⟨⟨x, q⟩, by omega⟩
    · rintro ⟨⟨x, y⟩, z⟩
      have := rn j y
      exact ⟨x, by omega⟩
  have ok : OKR c s ρ (m + 1) := by
    refine ⟨⟨fun h a b w => ?_, fun k a b => ?_⟩, fun k a b => ?_⟩
    · by_cases q : hb g h = 1
      · have := rg h q
        exact ⟨by omega, by omega, fun k x y => by omega⟩
      · have e := rn h q
        have z := h1 h a b ((hr h a b).mpr ⟨w, q⟩)
        refine ⟨by omega, by omega, fun k x y => ?_⟩
        by_cases k0 : k = 0
        · refine ⟨lowV s, l0, ?_, l2, ?_⟩
          · by_cases q2 : lowV s < h
            · exact q2
            · by_cases q3 : lowV s = h
              · rw [q3] at hlow
                exact absurd hlow q
              · exact absurd w (l3 h a (by omega))
          · rw [rg _ hlow, k0]
        · obtain ⟨j, j0, j1, j2, j3⟩ := z.2.2 (k - 1) (by omega) (by omega)
          have w2 := (hr j j0 (by omega)).mp j2
          exact ⟨j, j0, j1, w2.1, by rw [rn j w2.2]; omega⟩
    · by_cases k0 : k = 0
      · exact ⟨lowV s, l0, l1, l2, by rw [rg _ hlow, k0]⟩
      · obtain ⟨j, j0, j1, j2, j3⟩ := h2 (k - 1) (by omega) (by omega)
        have w2 := (hr j j0 j1).mp j2
        exact ⟨j, j0, j1, w2.1, by rw [rn j w2.2]; omega⟩
    · by_cases k0 : k = 0
      · rw [k0, eg0]; exact hc
      · have := eg (k - 1) (by omega)
        rw [show k - 1 + 1 = k by omega] at this
        rw [this]
        exact h3 (k - 1) (by omega) (by omega)
  refine ⟨ok, eg0, ?_⟩
  obtain ⟨m', em, p1, p2, p3, p4, p5, p6⟩ := ok.peel hs
  have em : m = m' := by omega
  subst em
  rw [eg0] at p6
  rw [p6]
  have e1 : gsum c (b_xor s g) (fun h => ρ h - 1) m = gsum c (b_xor s g) σ m := sumN_congr fun i a b => by
    have : grp (b_xor s g) (fun h => ρ h - 1) i = grp (b_xor s g) σ i := hb_ext grp_lt grp_lt fun j x y => by
      rw [grp_hb ⟨x, y⟩, grp_hb ⟨x, y⟩]
      constructor
      · rintro ⟨u, v⟩
        have := rn j ((hr j x y).mp u).2
        exact ⟨u, by omega⟩
      · rintro ⟨u, v⟩
        have := rn j ((hr j x y).mp u).2
        exact ⟨u, by omega⟩
    rw [this]
  have e2 : rowN (b_xor s g) (fun h => ρ h - 1) = rowN (b_xor s g) σ := sumN_congr fun i a b => by
    by_cases q : hb (b_xor s g) i = 1
    · rw [if_pos q, if_pos q]
      show (ρ i - 1) * wt i = σ i * wt i
      rw [rn i ((hr i a b).mp q).2, show σ i + 1 - 1 = σ i by omega]
    · rw [if_neg q, if_neg q]
  unfold valR
  rw [e1, e2]
theorem size_xor {g s : Int} (hg : 0 < g ∧ g < 128) (hs : 0 < s ∧ s < 128) (hsub : b_and g (b_xor s (-1)) = 0) : sumN (hb (b_xor s g)) 7 + 1 ≤ sumN (hb s) 7 := by
  have e : sumN (hb s) 7 = sumN (hb (b_xor s g)) 7 + sumN (hb g) 7 := by
    rw [← sumN_add]
    refine sumN_congr fun i a b => ?_
    have z := hb_sub (g := g) (s := s) (by omega) (by omega) hsub ⟨a, by omega⟩
    have z2 := (sub_iff (g := g) (s := s) (by omega) (by omega)).mp hsub i a (by omega)
    have x1 := hb01 (x := s) (by omega) (h := i) ⟨a, by omega⟩
    have x2 := hb01 (x := g) (by omega) (h := i) ⟨a, by omega⟩
    have x3 := hb01 (x := b_xor s g) (b_xor_lt (by omega) (by omega)) (h := i) ⟨a, by omega⟩
    omega
  obtain ⟨⟨l0, l1⟩, l2, l3⟩ := low_r hg
  have := sumN_ge (f := hb g) (i := lowV g) 7 (fun j a b => by have := hb01 (x := g) (by omega) (h := j) ⟨a, by omega⟩; omega) l0 (by omega)
  omega
theorem size_pos {s : Int} (hs : 0 < s ∧ s < 128) : 1 ≤ sumN (hb s) 7 := by
  obtain ⟨⟨l0, l1⟩, l2, l3⟩ := low_r hs
  have := sumN_ge (f := hb s) (i := lowV s) 7 (fun j a b => by have := hb01 (x := s) (by omega) (h := j) ⟨a, by omega⟩; omega) l0 (by omega)
  omega
theorem OKR.none {c : Int → Int} : OKR c 0 (fun _ => 0) 0 := ⟨⟨fun h a b w => absurd w (hb_0 ⟨a, b⟩), fun g a b => by omega⟩, fun g a b => by omega⟩
theorem valR_0 {c : Int → Int} {ρ : Int → Int} : valR c 0 ρ 0 = 0 := by
  have e : rowN 0 ρ = 0 := by
    have : rowN 0 ρ = sumN (fun _ => 0) 7 := sumN_congr fun i a b => if_neg (hb_0 ⟨a, by omega⟩)
    rw [this]
    rfl
  unfold valR
  rw [e]
  rfl
/-- the class's way finds the least -/
theorem totF_min {c : Int → Int} (hc : costs9 c) : ∀ (k : Nat) (s : Int), 0 ≤ s → s < 128 → sumN (hb s) 7 ≤ k → isMin c s (totF c k s)
  | 0, s, h0, h1, h2 => by
    have e : s = 0 := by
      by_cases e : s = 0
      · exact e
      · have := size_pos (s := s) (by omega)
        omega
    subst e
    refine Or.inr ⟨Int.le_refl 0, fun _ => 0, 0, OKR.none, valR_0, fun ρ n h => ?_⟩
    have : n = 0 := by
      by_cases e : n = 0
      · exact e
      · obtain ⟨j, j0, j1, j2, j3⟩ := h.1.2 0 (by omega) (by omega)
        exact absurd j2 (hb_0 ⟨j0, j1⟩)
    subst this
    rw [valR_0]
    exact Int.le_refl 0
  | k + 1, s, h0, h1, h2 => by
    unfold totF
    by_cases e : s = 0
    · subst e
      rw [if_pos rfl]
      have z := totF_min hc 0 0 (by omega) (by omega) (by decide)
      exact z
    · rw [if_neg e]
      have hs : 0 < s ∧ s < 128 := by omega
      have ih : ∀ g, 0 < g → g < 128 → b_and g (b_xor s (-1)) = 0 → isMin c (b_xor s g) (totF c k (b_xor s g)) := fun g a b w => by
        have x := b_xor_lt (x := s) (y := g) (by omega) (by omega)
        exact totF_min hc k _ x.1 x.2 (by have := size_xor ⟨a, b⟩ hs w; omega)
      have hge : ∀ g, 0 ≤ g → g < 128 → -1 ≤ grpC c (totF c k) s g := fun g a b => by
        unfold grpC
        split
        · rename_i q
          have h3 := hc g (by omega) b
          have h4 := ih g q.1 b q.2.1
          have h5 := ones_0 (b_xor s g)
          rcases h4 with h4 | h4
          · exact absurd h4.1 q.2.2.2.2
          · have := h4.1
            omega
        · omega
      have hval : ∀ g, 0 < g → g < 128 → b_and g (b_xor s (-1)) = 0 → hb g (lowV s) = 1 → c g ≠ -1 → totF c k (b_xor s g) ≠ -1 → grpC c (totF c k) s g = c g * 2097152 + (totF c k (b_xor s g) + onesV (b_xor s g)) ∧ grpC c (totF c k) s g ≠ -1 := fun g a b q1 q2 q3 q4 => by
        have e : grpC c (totF c k) s g = c g * 2097152 + (totF c k (b_xor s g) + onesV (b_xor s g)) := if_pos ⟨a, q1, q2, q3, q4⟩
        have h3 := hc g a b
        have h5 := ones_0 (b_xor s g)
        rcases ih g a b q1 with h4 | h4
        · exact absurd h4.1 q4
        · have := h4.1
          exact ⟨e, by omega⟩
      have hmin : ∀ ρ n, OKR c s ρ n → bestL (grpC c (totF c k) s) 128 ≠ -1 ∧ bestL (grpC c (totF c k) s) 128 ≤ valR c s ρ n := fun ρ n h => by
        obtain ⟨m, em, p1, p2, p3, p4, p5, p6⟩ := h.peel hs
        rcases ih _ p1.1 p1.2 p2 with h4 | ⟨h4, _, _, _, _, h5⟩
        · exact absurd p5 (h4.2 _ _)
        · have z := hval _ p1.1 p1.2 p2 p3 p4 (by omega)
          have y := bestL_le (c := grpC c (totF c k) s) 128 (fun j a b => hge j a (by omega)) (i := grp s ρ 0) (by omega) (by omega) z.2
          have w := h5 _ _ p5
          refine ⟨y.1, ?_⟩
          rw [p6]
          omega
      rcases bestL_or (c := grpC c (totF c k) s) 128 with q | ⟨g, g0, g1, g2, g3⟩
      · left
        exact ⟨q.1, fun ρ n h => (hmin ρ n h).1 q.1⟩
      · right
        have hq : 0 < g ∧ b_and g (b_xor s (-1)) = 0 ∧ hb g (lowV s) = 1 ∧ c g ≠ -1 ∧ totF c k (b_xor s g) ≠ -1 := by
          unfold grpC at g3
          split at g3
          · assumption
          · exact absurd rfl g3
        obtain ⟨q1, q2, q3, q4, q5⟩ := hq
        have z := hval g q1 (by omega) q2 q3 q4 q5
        rcases ih g q1 (by omega) q2 with h4 | ⟨h4, σ, m, h5, h6, _⟩
        · exact absurd h4.1 q5
        · obtain ⟨w1, w2, w3⟩ := OKR.cons hs ⟨q1, by omega⟩ q2 q3 q4 h5
          refine ⟨?_, _, _, w1, ?_, fun ρ' n' h' => (hmin ρ' n' h').2⟩
          · have := hge g g0 (by omega)
            omega
          · rw [w3, h6, ← g2, z.1]
theorem totE_min {c : Int → Int} (hc : costs9 c) {s : Int} (hs : 0 ≤ s ∧ s < 128) : isMin c s (totE c s) := totF_min hc 7 s hs.1 hs.2 (size_r hs).2
theorem totE_0 {c : Int → Int} : totE c 0 = 0 := rfl
theorem totF_eq {c : Int → Int} (hc : costs9 c) {k : Nat} {s : Int} (hs : 0 ≤ s ∧ s < 128) (hk : sumN (hb s) 7 ≤ k) : totF c k s = totE c s := (totF_min hc k s hs.1 hs.2 hk).eq (totE_min hc hs)
/-- TOTAL of a set by those of smaller ones -/
theorem totE_1 {c : Int → Int} (hc : costs9 c) {s : Int} (hs : 0 < s ∧ s < 128) : totE c s = bestL (grpC c (totE c) s) 128 := by
  have e : totE c s = bestL (grpC c (totF c 6) s) 128 := by
    show (if s = 0 then 0 else bestL (grpC c (totF c 6) s) 128) = _
    rw [if_neg (by omega)]
  rw [e]
  refine bestL_cg 128 fun g a b => ?_
  unfold grpC
  by_cases q : 0 < g ∧ b_and g (b_xor s (-1)) = 0
  · have x := b_xor_lt (x := s) (y := g) (by omega) (by omega)
    have y := size_xor (g := g) (s := s) ⟨q.1, by omega⟩ hs q.2
    have z := size_r (set := s) (by omega)
    rw [totF_eq hc x (by omega)]
  · rw [if_neg (fun w => q ⟨w.1, w.2.1⟩), if_neg (fun w => q ⟨w.1, w.2.1⟩)]
