/-! digits of rows; sets that are in a set -/
theorem nat_of {x : Int} (hx : 0 ≤ x ∧ x < 2147483648) : ((Int32.ofInt x).toBitVec.toNat : Int) = x := by
  have h := a_i32 (n := x) ⟨by omega, by omega⟩
  have h2 : (Int32.ofInt x).toBitVec.toInt = x := h
  rw [BitVec.toInt_eq_toNat_cond] at h2
  split at h2 <;> omega
theorem b_and_nat {x y : Int} (hx : 0 ≤ x ∧ x < 2147483648) (hy : 0 ≤ y ∧ y < 2147483648) : b_and x y = ((x.toNat &&& y.toNat : Nat) : Int) := by
  have e : b_and x y = ((Int32.ofInt x).toBitVec &&& (Int32.ofInt y).toBitVec).toInt := rfl
  have ex := nat_of hx
  have ey := nat_of hy
  have z : ((Int32.ofInt x).toBitVec &&& (Int32.ofInt y).toBitVec).toNat = x.toNat &&& y.toNat := by
    rw [BitVec.toNat_and]
    congr 1 <;> omega
  have l : x.toNat &&& y.toNat ≤ x.toNat := Nat.and_le_left
  rw [e, BitVec.toInt_eq_toNat_of_lt (by rw [z]; omega), z]
theorem b_and7 {x : Int} (hx : 0 ≤ x ∧ x < 2147483648) : b_and x 7 = x % 8 := by
  rw [b_and_nat hx (by omega)]
  have e : x.toNat &&& (7 : Int).toNat = x.toNat % 8 := Nat.and_two_pow_sub_one_eq_mod x.toNat 3
  rw [e]
  omega
theorem b_shr_k {x : Int} {k : Nat} (hx : 0 ≤ x ∧ x < 2147483648) (hk : k = 0 ∨ k = 3 ∨ k = 6 ∨ k = 9 ∨ k = 12 ∨ k = 15 ∨ k = 18) : b_shr x (k : Int) = x / ((2 ^ k : Nat) : Int) := by
  have e : b_shr x (k : Int) = ((Int32.ofInt x).toBitVec.sshiftRight k).toInt := by
    unfold b_shr
    generalize Int32.ofInt x = y
    show (y >>> (Int32.ofInt (k : Int) &&& 31)).toBitVec.toInt = _
    congr 1
    rcases hk with rfl | rfl | rfl | rfl | rfl | rfl | rfl <;> rfl
  rw [e, BitVec.toInt_sshiftRight, Int.shiftRight_eq_div_pow]
  have h := a_i32 (n := x) ⟨by omega, by omega⟩
  have h2 : (Int32.ofInt x).toBitVec.toInt = x := h
  rw [h2]
theorem dig_v {R h : Int} (hR : 0 ≤ R ∧ R < 2097152) (hh : 0 ≤ h ∧ h < 7) : (h = 0 ∧ digE R h = R / 262144 % 8) ∨ (h = 1 ∧ digE R h = R / 32768 % 8) ∨ (h = 2 ∧ digE R h = R / 4096 % 8) ∨ (h = 3 ∧ digE R h = R / 512 % 8) ∨ (h = 4 ∧ digE R h = R / 64 % 8) ∨ (h = 5 ∧ digE R h = R / 8 % 8) ∨ (h = 6 ∧ digE R h = R % 8) := by
  have e : R % 2097152 = R := by omega
  have key : ∀ k : Nat, (k = 0 ∨ k = 3 ∨ k = 6 ∨ k = 9 ∨ k = 12 ∨ k = 15 ∨ k = 18) → (6 - h) * 3 = (k : Int) → digE R h = R / ((2 ^ k : Nat) : Int) % 8 := fun k hk q => by
    unfold digE
    rw [e, q, b_shr_k (by omega) hk]
    have p1 : 0 ≤ R / ((2 ^ k : Nat) : Int) := Int.ediv_nonneg hR.1 (Int.natCast_nonneg _)
    have p2 : R / ((2 ^ k : Nat) : Int) ≤ R := Int.ediv_le_self _ hR.1
    exact b_and7 (by omega)
  rcases (show h = 0 ∨ h = 1 ∨ h = 2 ∨ h = 3 ∨ h = 4 ∨ h = 5 ∨ h = 6 by omega) with q | q | q | q | q | q | q
  · exact Or.inl ⟨q, key 18 (by omega) (by omega)⟩
  · exact Or.inr (Or.inl ⟨q, key 15 (by omega) (by omega)⟩)
  · exact Or.inr (Or.inr (Or.inl ⟨q, key 12 (by omega) (by omega)⟩))
  · exact Or.inr (Or.inr (Or.inr (Or.inl ⟨q, key 9 (by omega) (by omega)⟩)))
  · exact Or.inr (Or.inr (Or.inr (Or.inr (Or.inl ⟨q, key 6 (by omega) (by omega)⟩))))
  · exact Or.inr (Or.inr (Or.inr (Or.inr (Or.inr (Or.inl ⟨q, key 3 (by omega) (by omega)⟩)))))
  · exact Or.inr (Or.inr (Or.inr (Or.inr (Or.inr (Or.inr ⟨q, by have := key 0 (by omega) (by omega); rw [this, show (((2 ^ 0 : Nat)) : Int) = 1 by rfl, Int.ediv_one]⟩)))))
def dgt (s : Int) (ρ : Int → Int) (h : Int) : Int := if hb s h = 1 then ρ h else 0
theorem rowN_d {s : Int} {ρ : Int → Int} : rowN s ρ = dgt s ρ 0 * 262144 + dgt s ρ 1 * 32768 + dgt s ρ 2 * 4096 + dgt s ρ 3 * 512 + dgt s ρ 4 * 64 + dgt s ρ 5 * 8 + dgt s ρ 6 := by
  have e : rowN s ρ = sumN (fun h => dgt s ρ h * wt h) 7 := sumN_congr fun i a b => by
    unfold dgt
    split
    · rfl
    · omega
  have w0 : wt 0 = 262144 := by decide +kernel
  have w1 : wt 1 = 32768 := by decide +kernel
  have w2 : wt 2 = 4096 := by decide +kernel
  have w3 : wt 3 = 512 := by decide +kernel
  have w4 : wt 4 = 64 := by decide +kernel
  have w5 : wt 5 = 8 := by decide +kernel
  have w6 : wt 6 = 1 := by decide +kernel
  rw [e]
  show 0 + dgt s ρ 0 * wt 0 + dgt s ρ 1 * wt 1 + dgt s ρ 2 * wt 2 + dgt s ρ 3 * wt 3 + dgt s ρ 4 * wt 4 + dgt s ρ 5 * wt 5 + dgt s ρ 6 * wt 6 = _
  rw [w0, w1, w2, w3, w4, w5, w6]
  omega
theorem dgt_r {s : Int} {ρ : Int → Int} {n : Nat} (h : RG s ρ n) {i : Int} (hi : 0 ≤ i ∧ i < 7) : 0 ≤ dgt s ρ i ∧ dgt s ρ i ≤ 6 := by
  unfold dgt
  split
  · rename_i q
    have z := h.1 i hi.1 hi.2 q
    have y := h.le 7 i hi.1 (by omega) hi.2 q
    omega
  · omega
theorem rowN_r {s : Int} {ρ : Int → Int} {n : Nat} (h : RG s ρ n) : 0 ≤ rowN s ρ ∧ rowN s ρ < 2097152 := by
  have d0 := dgt_r h (i := 0) (by omega)
  have d1 := dgt_r h (i := 1) (by omega)
  have d2 := dgt_r h (i := 2) (by omega)
  have d3 := dgt_r h (i := 3) (by omega)
  have d4 := dgt_r h (i := 4) (by omega)
  have d5 := dgt_r h (i := 5) (by omega)
  have d6 := dgt_r h (i := 6) (by omega)
  rw [rowN_d]
  omega
theorem dig_row {c : Int → Int} {s : Int} {ρ : Int → Int} {n : Nat} (h : RG s ρ n) {i : Int} (hi : 0 ≤ i ∧ i < 7) : digE (valR c s ρ n) i = dgt s ρ i := by
  have hr := rowN_r h
  have e : valR c s ρ n % 2097152 = rowN s ρ := by
    unfold valR
    omega
  have e2 : digE (valR c s ρ n) i = digE (rowN s ρ) i := by
    unfold digE
    rw [e, show rowN s ρ % 2097152 = rowN s ρ by omega]
  have d0 := dgt_r h (i := 0) (by omega)
  have d1 := dgt_r h (i := 1) (by omega)
  have d2 := dgt_r h (i := 2) (by omega)
  have d3 := dgt_r h (i := 3) (by omega)
  have d4 := dgt_r h (i := 4) (by omega)
  have d5 := dgt_r h (i := 5) (by omega)
  have d6 := dgt_r h (i := 6) (by omega)
  rw [e2]
  have z := dig_v hr hi
  rw [rowN_d] at z ⊢
  rcases z with ⟨rfl, z⟩ | ⟨rfl, z⟩ | ⟨rfl, z⟩ | ⟨rfl, z⟩ | ⟨rfl, z⟩ | ⟨rfl, z⟩ | ⟨rfl, z⟩ <;> rw [z] <;> omega
theorem OKR.cg {c : Int → Int} {s : Int} {ρ σ : Int → Int} {n : Nat} (h : OKR c s ρ n) (e : ∀ i, 0 ≤ i → i < 7 → hb s i = 1 → σ i = ρ i) : OKR c s σ n ∧ valR c s σ n = valR c s ρ n := by
  have eg : ∀ g, grp s σ g = grp s ρ g := fun g => hb_ext grp_lt grp_lt fun j a b => by
    rw [grp_hb ⟨a, b⟩, grp_hb ⟨a, b⟩]
    constructor
    · rintro ⟨x, y⟩; exact ⟨x, by rw [← e j a b x]; exact y⟩
    · rintro ⟨x, y⟩; exact ⟨x, by rw [e j a b x]; exact y⟩
  refine ⟨⟨⟨fun i a b w => ?_, fun g a b => ?_⟩, fun g a b => by rw [eg]; exact h.2 g a b⟩, ?_⟩
  · have z := h.1.1 i a b w
    rw [e i a b w]
    refine ⟨z.1, z.2.1, fun g x y => ?_⟩
    obtain ⟨j, j0, j1, j2, j3⟩ := z.2.2 g x y
    exact ⟨j, j0, j1, j2, by rw [e j j0 (by omega) j2]; exact j3⟩
  · obtain ⟨j, j0, j1, j2, j3⟩ := h.1.2 g a b
    exact ⟨j, j0, j1, j2, by rw [e j j0 j1 j2]; exact j3⟩
  · have e1 : gsum c s σ n = gsum c s ρ n := sumN_congr fun i a b => by rw [eg]
    have e2 : rowN s σ = rowN s ρ := sumN_congr fun i a b => by
      by_cases q : hb s i = 1
      · rw [if_pos q, if_pos q, e i a (by omega) q]
      · rw [if_neg q, if_neg q]
    unfold valR
    rw [e1, e2]
/-- the row that TOTAL tells -/
theorem dig_ok {c : Int → Int} (hc : costs9 c) {s : Int} (hs : 0 ≤ s ∧ s < 128) (ht : totE c s ≠ -1) : ∃ n, OKR c s (digV c s) n ∧ valR c s (digV c s) n = totE c s := by
  rcases totE_min hc hs with h | ⟨h0, ρ, n, h1, h2, h3⟩
  · exact absurd h.1 ht
  · have z := h1.cg (σ := digV c s) fun i a b w => by
      have y := dig_row (c := c) h1.1 (i := i) ⟨a, b⟩
      rw [h2] at y
      show digE (totE c s) i = ρ i
      rw [y]
      exact if_pos w
    exact ⟨n, z.1, z.2.trans h2⟩
theorem dig_0 {c : Int → Int} (hc : costs9 c) {s h : Int} (hs : 0 ≤ s ∧ s < 128) (ht : totE c s ≠ -1) (hh : 0 ≤ h ∧ h < 7) (q : ¬ hb s h = 1) : digV c s h = 0 := by
  obtain ⟨n, h1, h2⟩ := dig_ok hc hs ht
  have y := dig_row (c := c) h1.1 (i := h) hh
  rw [h2] at y
  show digE (totE c s) h = 0
  rw [y]
  exact if_neg q
theorem totE_nn {c : Int → Int} (hc : costs9 c) {s : Int} (hs : 0 ≤ s ∧ s < 128) : totE c s = -1 ∨ 0 ≤ totE c s := by
  rcases totE_min hc hs with h | h
  · exact Or.inl h.1
  · exact Or.inr h.1
theorem first_ok {c : Int → Int} (hc : costs9 c) {s : Int} (hs : 0 < s ∧ s < 128) (ht : totE c s ≠ -1) : (0 < firstG c s ∧ firstG c s < 128) ∧ b_and (firstG c s) (b_xor s (-1)) = 0 ∧ hb (firstG c s) (lowV s) = 1 ∧ c (firstG c s) ≠ -1 ∧ totE c (b_xor s (firstG c s)) ≠ -1 ∧ totE c s = c (firstG c s) * 2097152 + (totE c (b_xor s (firstG c s)) + onesV (b_xor s (firstG c s))) ∧ (∀ h, 0 ≤ h → h < 7 → hb (b_xor s (firstG c s)) h = 1 → digV c s h = digV c (b_xor s (firstG c s)) h + 1) ∧ ∀ n, OKR c s (digV c s) n → ∃ m : Nat, n = m + 1 ∧ OKR c (b_xor s (firstG c s)) (digV c (b_xor s (firstG c s))) m := by
  obtain ⟨n, h1, h2⟩ := dig_ok hc (s := s) (by omega) ht
  have hf : grp s (digV c s) 0 = firstG c s := rfl
  have key : ∀ n, OKR c s (digV c s) n → ∃ m : Nat, n = m + 1 ∧ (0 < firstG c s ∧ firstG c s < 128) ∧ b_and (firstG c s) (b_xor s (-1)) = 0 ∧ hb (firstG c s) (lowV s) = 1 ∧ c (firstG c s) ≠ -1 ∧ OKR c (b_xor s (firstG c s)) (fun h => digV c s h - 1) m ∧ valR c s (digV c s) n = c (firstG c s) * 2097152 + (valR c (b_xor s (firstG c s)) (fun h => digV c s h - 1) m + onesV (b_xor s (firstG c s))) := fun n h => h.peel hs
  obtain ⟨m, em, p1, p2, p3, p4, p5, p6⟩ := key n h1
  have hx := b_xor_lt (x := s) (y := firstG c s) (by omega) (by omega)
  have hmr : totE c (b_xor s (firstG c s)) ≠ -1 ∧ totE c (b_xor s (firstG c s)) = valR c (b_xor s (firstG c s)) (fun h => digV c s h - 1) m := by
    rcases totE_min hc hx with q | ⟨q0, σ, k, q1, q2, q3⟩
    · exact absurd p5 (q.2 _ _)
    · refine ⟨by omega, ?_⟩
      have a := q3 _ _ p5
      obtain ⟨w1, w2, w3⟩ := OKR.cons hs p1 p2 p3 p4 q1
      rcases totE_min hc (s := s) (by omega) with y | ⟨y0, _, _, _, _, y3⟩
      · exact absurd y.1 ht
      · have b := y3 _ _ w1
        rw [w3, q2, ← h2, p6] at b
        omega
  have hd : ∀ h, 0 ≤ h → h < 7 → hb (b_xor s (firstG c s)) h = 1 → digV c s h = digV c (b_xor s (firstG c s)) h + 1 := fun h a b w => by
    have y := dig_row (c := c) p5.1 (i := h) ⟨a, b⟩
    rw [← hmr.2] at y
    have y2 : digV c (b_xor s (firstG c s)) h = if hb (b_xor s (firstG c s)) h = 1 then digV c s h - 1 else 0 := y
    rw [if_pos w] at y2
    omega
  refine ⟨p1, p2, p3, p4, hmr.1, ?_, hd, fun n' h' => ?_⟩
  · rw [← h2, p6, ← hmr.2]
  · obtain ⟨m', em', _, _, _, _, p5', _⟩ := key n' h'
    exact ⟨m', em', (p5'.cg (σ := digV c (b_xor s (firstG c s))) fun i a b w => by have := hd i a b w; omega).1⟩
theorem many_ok {c : Int → Int} (hc : costs9 c) : ∀ (k : Nat) (s : Int) (n : Nat), 0 ≤ s → s < 128 → sumN (hb s) 7 ≤ k → totE c s ≠ -1 → OKR c s (digV c s) n → manyF c k s = n
  | 0, s, n, a, b, q, ht, h => by
    have e : s = 0 := by
      by_cases e : s = 0
      · exact e
      · have := size_pos (s := s) (by omega)
        omega
    subst e
    have : n = 0 := by
      by_cases e : n = 0
      · exact e
      · obtain ⟨j, j0, j1, j2, j3⟩ := h.1.2 0 (by omega) (by omega)
        exact absurd j2 (hb_0 ⟨j0, j1⟩)
    subst this
    rfl
  | k + 1, s, n, a, b, q, ht, h => by
    unfold manyF
    by_cases e : s = 0
    · subst e
      rw [if_pos rfl]
      have : n = 0 := by
        by_cases e : n = 0
        · exact e
        · obtain ⟨j, j0, j1, j2, j3⟩ := h.1.2 0 (by omega) (by omega)
          exact absurd j2 (hb_0 ⟨j0, j1⟩)
      subst this
      rfl
    · rw [if_neg e]
      obtain ⟨p1, p2, p3, p4, p5, p6, p7, p8⟩ := first_ok hc (s := s) (by omega) ht
      obtain ⟨m, em, hm⟩ := p8 n h
      have hx := b_xor_lt (x := s) (y := firstG c s) (by omega) (by omega)
      rw [many_ok hc k _ m hx.1 hx.2 (by have := size_xor p1 ⟨by omega, b⟩ p2; omega) p5 hm]
      omega
/-! the sets in a set, from above -/
theorem sub_and {x s : Int} (hx : 0 ≤ x ∧ x < 128) (hs : 0 ≤ s ∧ s < 128) : b_and x (b_xor s (-1)) = 0 ↔ b_and x s = x := by
  rw [sub_iff hx hs]
  constructor
  · intro q
    refine hb_ext (b_and_lt hx) hx fun j a b => ?_
    rw [hb_and hx hs ⟨a, b⟩]
    exact ⟨fun w => w.1, fun w => ⟨w, q j a b w⟩⟩
  · intro q h a b w
    rw [← q, hb_and hx hs ⟨a, b⟩] at w
    exact w.2
theorem land_next : ∀ (n x g s : Nat), g ≤ n → x &&& s = x → g &&& s = g → x < g → x ≤ (g - 1) &&& s
  | 0, x, g, s, hn, _, _, h => by omega
  | n + 1, x, g, s, hn, hx, hg, h => by
    have x2 := Nat.and_div_two (a := x) (b := s)
    have g2 := Nat.and_div_two (a := g) (b := s)
    have y2 := Nat.and_div_two (a := g - 1) (b := s)
    have x1 := Nat.and_mod_two_eq_one (a := x) (b := s)
    have y1 := Nat.and_mod_two_eq_one (a := g - 1) (b := s)
    rw [hx] at x2 x1
    rw [hg] at g2
    by_cases e : g % 2 = 1
    · have e2 : (g - 1) / 2 = g / 2 := by omega
      rw [e2, ← g2] at y2
      omega
    · have e2 : (g - 1) / 2 = g / 2 - 1 := by omega
      rw [e2] at y2
      have ih := land_next n (x / 2) (g / 2) (s / 2) (by omega) x2.symm g2.symm (by omega)
      by_cases q : x % 2 = 1
      · have := x1.mp q
        have := y1.mpr ⟨by omega, this.2⟩
        omega
      · omega
theorem sub_next {s g : Int} (hs : 0 ≤ s ∧ s < 128) (hg : 0 < g ∧ g < 128) (hgs : b_and g (b_xor s (-1)) = 0) : (0 ≤ b_and (g - 1) s ∧ b_and (g - 1) s < g) ∧ b_and (b_and (g - 1) s) (b_xor s (-1)) = 0 ∧ ∀ x, 0 ≤ x → x < 128 → b_and x (b_xor s (-1)) = 0 → b_and (g - 1) s < x → g ≤ x := by
  have e1 := b_and_nat (x := g) (y := s) (by omega) (by omega)
  have e2 := b_and_nat (x := g - 1) (y := s) (by omega) (by omega)
  have l2 := b_and_lt (x := g - 1) (y := s) (by omega)
  have hg2 := (sub_and (x := g) (s := s) (by omega) hs).mp hgs
  have n1 : (g - 1).toNat = g.toNat - 1 := by omega
  rw [n1] at e2
  have z0 : (g.toNat - 1) &&& s.toNat ≤ g.toNat - 1 := Nat.and_le_left
  have z1 : (g.toNat - 1) &&& s.toNat < g.toNat := by omega
  have z2 : ((g.toNat - 1) &&& s.toNat) &&& s.toNat = (g.toNat - 1) &&& s.toNat := by rw [Nat.and_assoc, Nat.and_self]
  refine ⟨by omega, (sub_and l2 hs).mpr ?_, fun x a b w y => ?_⟩
  · rw [b_and_nat (by omega) (by omega), e2]
    rw [show (((g.toNat - 1 &&& s.toNat : Nat) : Int)).toNat = (g.toNat - 1) &&& s.toNat by omega, z2]
  · have w2 := (sub_and (x := x) (s := s) ⟨a, b⟩ hs).mp w
    have e3 := b_and_nat (x := x) (y := s) (by omega) (by omega)
    by_cases q : x < g
    · have := land_next g.toNat x.toNat g.toNat s.toNat (Nat.le_refl _) (by omega) (by omega) (by omega)
      omega
    · omega
