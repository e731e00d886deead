/-! BLAND'S RULE: it comes to no set of columns twice -/
theorem fr_le {a b c d e f : Int} (hb : 0 < b) (hd : 0 < d) (hf : 0 < f) (h1 : a * d ≤ c * b) (h2 : c * f ≤ e * d) : a * f ≤ e * b := by
  have x1 := Int.mul_le_mul_of_nonneg_right h1 (Int.le_of_lt hf)
  have x2 := Int.mul_le_mul_of_nonneg_right h2 (Int.le_of_lt hb)
  refine Int.le_of_mul_le_mul_left (a := d) ?_ hd
  rw [show d * (a * f) = a * d * f by grind, show d * (e * b) = e * d * b by grind]
  rw [show c * b * f = c * f * b by grind] at x1
  omega
theorem fr_lt {a b c d e f : Int} (hb : 0 < b) (hd : 0 < d) (hf : 0 < f) (h1 : a * d < c * b) (h2 : c * f ≤ e * d) : a * f < e * b := by
  have x1 := Int.mul_lt_mul_of_pos_right h1 hf
  have x2 := Int.mul_le_mul_of_nonneg_right h2 (Int.le_of_lt hb)
  refine Int.lt_of_mul_lt_mul_left (a := d) ?_ (Int.le_of_lt hd)
  rw [show d * (a * f) = a * d * f by grind, show d * (e * b) = e * d * b by grind]
  rw [show c * b * f = c * f * b by grind] at x1
  omega
theorem fr_lt2 {a b c d e f : Int} (hb : 0 < b) (hd : 0 < d) (hf : 0 < f) (h1 : a * d ≤ c * b) (h2 : c * f < e * d) : a * f < e * b := by
  have x1 := Int.mul_le_mul_of_nonneg_right h1 (Int.le_of_lt hf)
  have x2 := Int.mul_lt_mul_of_pos_right h2 hb
  refine Int.lt_of_mul_lt_mul_left (a := d) ?_ (Int.le_of_lt hd)
  rw [show d * (a * f) = a * d * f by grind, show d * (e * b) = e * d * b by grind]
  rw [show c * b * f = c * f * b by grind] at x1
  omega
theorem fr_eq {a b c d e f : Int} (hd : 0 < d) (h1 : a * d = c * b) (h2 : c * f = e * d) : a * f = e * b := by
  refine Int.eq_of_mul_eq_mul_left (a := d) (by omega) ?_
  rw [show d * (a * f) = a * d * f by grind, show d * (e * b) = e * d * b by grind, h1, ← h2]
  grind
/-- the column that comes in, as both programs look for it -/
def entL (z : Nat → Int) (fx : Nat → Bool) (ν : Nat → Nat) : Nat → Int
  | 0 => -1
  | j + 1 => if fx j = false ∧ z j < 0 ∧ (entL z fx ν j = -1 ∨ ν j < ν (entL z fx ν j).toNat) then (j : Int) else entL z fx ν j
theorem entL_sp {z : Nat → Int} {fx : Nat → Bool} {ν : Nat → Nat} : ∀ n, (entL z fx ν n = -1 ∧ ∀ j, j < n → fx j = false → 0 ≤ z j) ∨ ∃ j, j < n ∧ entL z fx ν n = (j : Int) ∧ fx j = false ∧ z j < 0 ∧ ∀ k, k < n → fx k = false → z k < 0 → ν j ≤ ν k
  | 0 => Or.inl ⟨rfl, fun j hj => absurd hj (by omega)⟩
  | n + 1 => by
    rcases entL_sp (z := z) (fx := fx) (ν := ν) n with ⟨e, h⟩ | ⟨j, hj, e, h1, h2, h3⟩
    · by_cases c : fx n = false ∧ z n < 0
      · refine Or.inr ⟨n, by omega, ?_, c.1, c.2, fun k hk f1 f2 => ?_⟩
        · show (if _ then _ else _) = _
          rw [if_pos ⟨c.1, c.2, Or.inl e⟩]
        · by_cases e2 : k = n
          · subst e2; exact Nat.le_refl _
          · have := h k (by omega) f1; omega
      · refine Or.inl ⟨?_, fun k hk f1 => ?_⟩
        · show (if _ then _ else _) = _
          rw [if_neg (fun q => c ⟨q.1, q.2.1⟩)]
          exact e
        · by_cases e2 : k = n
          · subst e2
            exact Int.not_lt.mp fun q => c ⟨f1, q⟩
          · exact h k (by omega) f1
    · by_cases c : fx n = false ∧ z n < 0 ∧ ν n < ν j
      · refine Or.inr ⟨n, by omega, ?_, c.1, c.2.1, fun k hk f1 f2 => ?_⟩
        · show (if _ then _ else _) = _
          rw [if_pos ⟨c.1, c.2.1, Or.inr (by rw [e]; exact c.2.2)⟩]
        · by_cases e2 : k = n
          · subst e2; exact Nat.le_refl _
          · exact Nat.le_trans (Nat.le_of_lt c.2.2) (h3 k (by omega) f1 f2)
      · refine Or.inr ⟨j, by omega, ?_, h1, h2, fun k hk f1 f2 => ?_⟩
        · show (if _ then _ else _) = _
          rw [if_neg (fun q => c ⟨q.1, q.2.1, by
            rcases q.2.2 with q | q
            · rw [e] at q; omega
            · rw [e] at q; exact q⟩)]
          exact e
        · by_cases e2 : k = n
          · subst e2
            exact Nat.not_lt.mp fun q => c ⟨f1, f2, q⟩
          · exact h3 k (by omega) f1 f2
/-- the row that leaves -/
def leaL (T : Nat → Nat → Int) (ρ : Nat → Nat) (w c : Nat) : Nat → Int
  | 0 => -1
  | i + 1 => if 0 < T i c ∧ (leaL T ρ w c i = -1 ∨ T i w * T (leaL T ρ w c i).toNat c < T (leaL T ρ w c i).toNat w * T i c ∨ (T i w * T (leaL T ρ w c i).toNat c = T (leaL T ρ w c i).toNat w * T i c ∧ ρ i < ρ (leaL T ρ w c i).toNat)) then (i : Int) else leaL T ρ w c i
theorem leaL_sp {T : Nat → Nat → Int} {ρ : Nat → Nat} {w c : Nat} : ∀ n, (leaL T ρ w c n = -1 ∧ ∀ i, i < n → T i c ≤ 0) ∨ ∃ r, r < n ∧ leaL T ρ w c n = (r : Int) ∧ 0 < T r c ∧ ∀ i, i < n → 0 < T i c → T r w * T i c < T i w * T r c ∨ (T r w * T i c = T i w * T r c ∧ ρ r ≤ ρ i)
  | 0 => Or.inl ⟨rfl, fun j hj => absurd hj (by omega)⟩
  | n + 1 => by
    rcases leaL_sp (T := T) (ρ := ρ) (w := w) (c := c) n with ⟨e, h⟩ | ⟨r, hr, e, h1, h2⟩
    · by_cases g : 0 < T n c
      · refine Or.inr ⟨n, by omega, ?_, g, fun k hk f1 => ?_⟩
        · show (if _ then _ else _) = _
          rw [if_pos ⟨g, Or.inl e⟩]
        · by_cases e2 : k = n
          · subst e2; exact Or.inr ⟨rfl, Nat.le_refl _⟩
          · have := h k (by omega); omega
      · refine Or.inl ⟨?_, fun k hk => ?_⟩
        · show (if _ then _ else _) = _
          rw [if_neg (fun q => g q.1)]
          exact e
        · by_cases e2 : k = n
          · subst e2; omega
          · exact h k (by omega)
    · by_cases g : 0 < T n c ∧ (T n w * T r c < T r w * T n c ∨ (T n w * T r c = T r w * T n c ∧ ρ n < ρ r))
      · refine Or.inr ⟨n, by omega, ?_, g.1, fun k hk f1 => ?_⟩
        · show (if _ then _ else _) = _
          rw [if_pos ⟨g.1, Or.inr (by rw [e]; exact g.2)⟩]
        · by_cases e2 : k = n
          · subst e2; exact Or.inr ⟨rfl, Nat.le_refl _⟩
          · rcases g.2 with g2 | ⟨g2, g3⟩
            · refine Or.inl (fr_lt g.1 h1 f1 g2 ?_)
              rcases h2 k (by omega) f1 with q | q
              · exact Int.le_of_lt q
              · exact Int.le_of_eq q.1
            · rcases h2 k (by omega) f1 with q | q
              · exact Or.inl (fr_lt2 g.1 h1 f1 (Int.le_of_eq g2) q)
              · exact Or.inr ⟨fr_eq h1 g2 q.1, by omega⟩
      · refine Or.inr ⟨r, by omega, ?_, h1, fun k hk f1 => ?_⟩
        · show (if _ then _ else _) = _
          rw [if_neg (fun q => g ⟨q.1, by
            rcases q.2 with q | q
            · rw [e] at q; omega
            · rw [e] at q; exact q⟩)]
          exact e
        · by_cases e2 : k = n
          · subst e2
            rcases Int.lt_trichotomy (T r w * T k c) (T k w * T r c) with q | q | q
            · exact Or.inl q
            · refine Or.inr ⟨q, Nat.not_lt.mp fun z => g ⟨f1, Or.inr ⟨q.symm, z⟩⟩⟩
            · exact absurd ⟨f1, Or.inl q⟩ g
          · exact h2 k (by omega) f1
section BL
variable {w h : Nat} {F : Nat → Nat → Int}
def sxE (w : Nat) (F : Nat → Nat → Int) (Z : Nat → Int) (fx : Nat → Bool) (st : sx) : Int := entL (fun k => ta w F st Z k) fx st.1 w
def sxL (w h : Nat) (F : Nat → Nat → Int) (st : sx) (c : Nat) : Int := leaL (fun i k => ta w F st (F (st.2.1 i)) k) st.2.1 w c h
def sxN (w h : Nat) (F : Nat → Nat → Int) (Z : Nat → Int) (fx : Nat → Bool) (st : sx) : sx := piv st (sxL w h F st (sxE w F Z fx st).toNat).toNat (sxE w F Z fx st).toNat
/-- one turn: what is known of it -/
def sxG (w h : Nat) (F : Nat → Nat → Int) (Z : Nat → Int) (fx : Nat → Bool) (st : sx) (j r : Nat) : Prop := sxE w F Z fx st = j ∧ sxL w h F st j = r ∧ j < w ∧ r < h ∧ sxN w h F Z fx st = piv st r j ∧ OKx w h F (piv st r j) ∧ fx j = false ∧ ta w F st Z j < 0 ∧ (∀ k, k < w → fx k = false → ta w F st Z k < 0 → st.1 j ≤ st.1 k) ∧ 0 < ta w F st (F (st.2.1 r)) j ∧ ∀ i, i < h → 0 < ta w F st (F (st.2.1 i)) j → ta w F st (F (st.2.1 r)) w * ta w F st (F (st.2.1 i)) j < ta w F st (F (st.2.1 i)) w * ta w F st (F (st.2.1 r)) j ∨ (ta w F st (F (st.2.1 r)) w * ta w F st (F (st.2.1 i)) j = ta w F st (F (st.2.1 i)) w * ta w F st (F (st.2.1 r)) j ∧ st.2.1 r ≤ st.2.1 i)
theorem sx_go {C : Nat} {Z : Nat → Int} {fx : Nat → Bool} {st : sx} (hP : PBx w h F C) (H : OKx w h F st) (he : sxE w F Z fx st ≠ -1) : sxG w h F Z fx st (sxE w F Z fx st).toNat (sxL w h F st (sxE w F Z fx st).toNat).toNat := by
  rcases entL_sp (z := fun k => ta w F st Z k) (fx := fx) (ν := st.1) w with ⟨e, -⟩ | ⟨j, hj, e, e1, e2, e3⟩
  · exact absurd e he
  · have e : sxE w F Z fx st = j := e
    have ej : (sxE w F Z fx st).toNat = j := by rw [e]; rfl
    rw [ej]
    rcases leaL_sp (T := fun i k => ta w F st (F (st.2.1 i)) k) (ρ := st.2.1) (w := w) (c := j) h with ⟨-, g⟩ | ⟨r, hr, g, g1, g2⟩
    · obtain ⟨i, hi, q⟩ := sx_bounded hP H hj
      have := g i hi
      omega
    · have g : sxL w h F st j = r := g
      rw [g]
      refine ⟨e, g, hj, hr, ?_, H.pv hr hj g1 fun i hi q => ?_, e1, e2, e3, g1, g2⟩
      · unfold sxN
        rw [ej, g]
      · rcases g2 i hi q with z | z
        · exact Int.le_of_lt z
        · exact Int.le_of_eq z.1
theorem max_of (f : Nat → Nat) (a : Nat) : ∀ n, ∃ k, a ≤ k ∧ k ≤ a + n ∧ ∀ i, a ≤ i → i ≤ a + n → f i ≤ f k
  | 0 => ⟨a, by omega, by omega, fun i h1 h2 => by rw [show i = a by omega]; exact Nat.le_refl _⟩
  | n + 1 => by
    obtain ⟨k, h1, h2, h3⟩ := max_of f a n
    by_cases c : f k ≤ f (a + n + 1)
    · refine ⟨a + n + 1, by omega, by omega, fun i x y => ?_⟩
      by_cases e : i = a + n + 1
      · rw [e]; exact Nat.le_refl _
      · exact Nat.le_trans (h3 i x (by omega)) c
    · refine ⟨k, h1, by omega, fun i x y => ?_⟩
      by_cases e : i = a + n + 1
      · rw [e]; omega
      · exact h3 i x (by omega)
/-- v is in a column -/
def inN (w : Nat) (st : sx) (v : Nat) : Prop := ∃ j, j < w ∧ st.1 j = v
theorem inN_piv {st : sx} (H : OKx w h F st) {r j v : Nat} (hr : r < h) (hj : j < w) : inN w (piv st r j) v ↔ (inN w st v ∧ v ≠ st.1 j) ∨ v = st.2.1 r := by
  obtain ⟨-, -, -, ⟨g1, g2, g3, g4, g5, g6⟩, -⟩ := H
  constructor
  · intro ⟨k, hk, e⟩
    have e : (if k = j then st.2.1 r else st.1 k) = v := e
    by_cases c : k = j
    · rw [if_pos c] at e
      exact Or.inr e.symm
    · rw [if_neg c] at e
      exact Or.inl ⟨⟨k, hk, e⟩, fun q => c (g4 k j hk hj (e.trans q))⟩
  · rintro (⟨⟨k, hk, e⟩, q⟩ | q)
    · refine ⟨k, hk, ?_⟩
      show (if k = j then st.2.1 r else st.1 k) = v
      rw [if_neg (fun c => q (by rw [← e, c]))]
      exact e
    · refine ⟨j, hj, ?_⟩
      show (if j = j then st.2.1 r else st.1 j) = v
      rw [if_pos rfl]
      exact q.symm
theorem sx_bland {C : Nat} {Z : Nat → Int} {fx : Nat → Bool} (hP : PBx w h F C) (st : Nat → sx) (a b : Nat) (hab : a < b) (hV : ∀ k, a ≤ k → k ≤ b → OKx w h F (st k)) (hS : ∀ k, a ≤ k → k < b → sxE w F Z fx (st k) ≠ -1 ∧ st (k + 1) = sxN w h F Z fx (st k)) (hN : ∀ v, inN w (st a) v ↔ inN w (st b) v) : False := by
  have G : ∀ k, a ≤ k → k < b → sxG w h F Z fx (st k) (sxE w F Z fx (st k)).toNat (sxL w h F (st k) (sxE w F Z fx (st k)).toNat).toNat := fun k x y => sx_go hP (hV k x (by omega)) (hS k x y).1
  generalize hc : (fun k => (sxE w F Z fx (st k)).toNat) = c at *
  generalize hr : (fun k => (sxL w h F (st k) (c k)).toNat) = r at *
  have G : ∀ k, a ≤ k → k < b → sxG w h F Z fx (st k) (c k) (r k) := fun k x y => by
    have := G k x y
    rw [← hr, ← hc]
    exact this
  have n1 : ∀ k, a ≤ k → k < b → st (k + 1) = piv (st k) (r k) (c k) := fun k x y => (hS k x y).2.trans (G k x y).2.2.2.2.1
  have nst : ∀ k, a ≤ k → k < b → ∀ v, inN w (st (k + 1)) v ↔ (inN w (st k) v ∧ v ≠ (st k).1 (c k)) ∨ v = (st k).2.1 (r k) := fun k x y v => by
    rw [n1 k x y]
    exact inN_piv (hV k x (by omega)) (G k x y).2.2.2.1 (G k x y).2.2.1
  have pers1 : ∀ v x d, a ≤ x → x + d ≤ b → (∀ k, x ≤ k → k < x + d → v ≠ (st k).2.1 (r k)) → ¬ inN w (st x) v → ¬ inN w (st (x + d)) v := fun v x d => by
    induction d with
    | zero => exact fun _ _ _ q => q
    | succ d ih =>
      intro e1 e2 e3 e4 e5
      rcases (nst (x + d) (by omega) (by omega) v).mp e5 with q | q
      · exact ih e1 (by omega) (fun k x1 x2 => e3 k x1 (by omega)) e4 q.1
      · exact e3 (x + d) (by omega) (by omega) q
  have pers2 : ∀ v x d, a ≤ x → x + d ≤ b → (∀ k, x ≤ k → k < x + d → v ≠ (st k).1 (c k)) → inN w (st x) v → inN w (st (x + d)) v := fun v x d => by
    induction d with
    | zero => exact fun _ _ _ q => q
    | succ d ih =>
      intro e1 e2 e3 e4
      exact (nst (x + d) (by omega) (by omega) v).mpr (Or.inl ⟨ih e1 (by omega) (fun k x1 x2 => e3 k x1 (by omega)) e4, e3 (x + d) (by omega) (by omega)⟩)
  have pers3 : ∀ l, l < w → fx l = true → ∀ d, a + d ≤ b → (st (a + d)).1 l = (st a).1 l := fun l hl hf d => by
    induction d with
    | zero => exact fun _ => rfl
    | succ d ih =>
      intro e1
      rw [show a + (d + 1) = a + d + 1 by omega, n1 (a + d) (by omega) (by omega)]
      show (if l = c (a + d) then _ else (st (a + d)).1 l) = _
      rw [if_neg (fun q => by
        have := (G (a + d) (by omega) (by omega)).2.2.2.2.2.2.1
        rw [← q, hf] at this
        cases this)]
      exact ih (by omega)
  -- the greatest that comes in
  obtain ⟨k1, m1, m2, m3⟩ := max_of (fun k => (st k).1 (c k)) a (b - 1 - a)
  have m2 : k1 < b := by omega
  have m3 : ∀ i, a ≤ i → i < b → (st i).1 (c i) ≤ (st k1).1 (c k1) := fun i x y => m3 i x (by omega)
  generalize ht : (st k1).1 (c k1) = t at *
  have g1 := G k1 m1 m2
  have v1 := hV k1 m1 (by omega)
  have Nt : inN w (st k1) t := ⟨c k1, g1.2.2.1, ht⟩
  have Nt2 : ¬ inN w (st (k1 + 1)) t := fun q => by
    rcases (nst k1 m1 m2 t).mp q with q | q
    · exact q.2 ht.symm
    · exact v1.2.2.2.1.2.2.2.2.2 (c k1) (r k1) g1.2.2.1 g1.2.2.2.1 (ht.trans q)
  -- it leaves
  obtain ⟨k2, s1, s2, s3⟩ : ∃ k, a ≤ k ∧ k < b ∧ t = (st k).2.1 (r k) := by
    refine Classical.byContradiction fun hno => ?_
    have hno : ∀ k, a ≤ k → k < b → t ≠ (st k).2.1 (r k) := fun k x y q => hno ⟨k, x, y, q⟩
    have q1 := pers1 t (k1 + 1) (b - (k1 + 1)) (by omega) (by omega) (fun k x y => hno k (by omega) (by omega)) Nt2
    rw [show k1 + 1 + (b - (k1 + 1)) = b by omega] at q1
    have q2 := pers1 t a (k1 - a) (by omega) (by omega) (fun k x y => hno k (by omega) (by omega)) (fun q => q1 ((hN t).mp q))
    rw [show a + (k1 - a) = k1 by omega] at q2
    exact q2 Nt
  have g2 := G k2 s1 s2
  have v2 := hV k2 s1 (by omega)
  have fick : ∀ v, inN w (st k1) v → ¬ inN w (st k2) v → v ≤ t := fun v p1 p2 => by
    refine Nat.not_lt.mp fun hv => p2 ?_
    have ne : ∀ k, a ≤ k → k < b → v ≠ (st k).1 (c k) := fun k x y q => by
      have := m3 k x y
      omega
    have q1 := pers2 v k1 (b - k1) (by omega) (by omega) (fun k x y => ne k (by omega) (by omega)) p1
    rw [show k1 + (b - k1) = b by omega] at q1
    have q2 := pers2 v a (k2 - a) (by omega) (by omega) (fun k x y => ne k (by omega) (by omega)) ((hN v).mpr q1)
    rwa [show a + (k2 - a) = k2 by omega] at q2
  -- all turns are at 0
  have opos : ∀ k, a ≤ k → k ≤ b → 0 < ov w F (st k) := fun k x y => (hV k x y).2.1
  have pl : ∀ k, a ≤ k → k < b → ∀ u, ov w F (st k) * ta w F (st (k + 1)) u w = ta w F (st k) u w * ov w F (st (k + 1)) - ta w F (st k) u (c k) * ta w F (st k) (F ((st k).2.1 (r k))) w := fun k x y u => by
    have hh := hV k x (by omega)
    have gg := G k x y
    rw [n1 k x y, ov_piv gg.2.2.1]
    exact ta_pl hh.1 hh.2.2.1 gg.2.2.1 (by omega) (by have := gg.2.2.1; omega) u
  have le1 : ∀ k, a ≤ k → k < b → ta w F (st k) Z w * ov w F (st (k + 1)) ≤ ta w F (st (k + 1)) Z w * ov w F (st k) ∧ (0 < ta w F (st k) (F ((st k).2.1 (r k))) w → ta w F (st k) Z w * ov w F (st (k + 1)) < ta w F (st (k + 1)) Z w * ov w F (st k)) := fun k x y => by
    have z := pl k x y Z
    have gg := G k x y
    have p := (hV k x (by omega)).2.2.2.2 (r k) gg.2.2.2.1
    have q := gg.2.2.2.2.2.2.2.1
    rw [Int.mul_comm (ov w F (st k))] at z
    have e := Int.mul_nonneg (show 0 ≤ - ta w F (st k) Z (c k) by omega) p
    rw [Int.neg_mul] at e
    refine ⟨by omega, fun hp => ?_⟩
    have e2 := Int.mul_pos (show 0 < - ta w F (st k) Z (c k) by omega) hp
    rw [Int.neg_mul] at e2
    omega
  have le2 : ∀ x d, a ≤ x → x + d ≤ b → ta w F (st x) Z w * ov w F (st (x + d)) ≤ ta w F (st (x + d)) Z w * ov w F (st x) := fun x d => by
    induction d with
    | zero => exact fun _ _ => Int.le_refl _
    | succ d ih =>
      intro e1 e2
      exact fr_le (opos x e1 (by omega)) (opos (x + d) (by omega) (by omega)) (opos (x + d + 1) (by omega) (by omega)) (ih e1 (by omega)) (le1 (x + d) (by omega) (by omega)).1
  have cyc : ov w F (st a) * ta w F (st b) Z w = ta w F (st a) Z w * ov w F (st b) := by
    rw [ta_sp (s2 := st b) (hV a (by omega) (by omega)).2.2.1 (by omega), sF_0 w fun l hl => ?_, ta_e (by omega), if_pos rfl]
    · omega
    · obtain ⟨j, hj, e⟩ := (hN ((st a).1 l)).mp ⟨l, hl, rfl⟩
      rw [← e, ta_nu hj (by omega), if_neg (by omega), Int.mul_zero]
  have deg : ∀ k, a ≤ k → k < b → ta w F (st k) (F ((st k).2.1 (r k))) w = 0 := fun k x y => by
    have p := (hV k x (by omega)).2.2.2.2 (r k) (G k x y).2.2.2.1
    refine Classical.byContradiction fun hz => ?_
    have q1 := le2 a (k - a) (by omega) (by omega)
    rw [show a + (k - a) = k by omega] at q1
    have q2 := (le1 k x y).2 (by omega)
    have q3 := le2 (k + 1) (b - (k + 1)) (by omega) (by omega)
    rw [show k + 1 + (b - (k + 1)) = b by omega] at q3
    have q4 := fr_lt2 (opos a (by omega) (by omega)) (opos k x (by omega)) (opos (k + 1) (by omega) (by omega)) q1 q2
    have q5 := fr_lt (opos a (by omega) (by omega)) (opos (k + 1) (by omega) (by omega)) (opos b (by omega) (by omega)) q4 q3
    rw [Int.mul_comm] at cyc
    omega
  have val : ∀ d, a + d ≤ b → ∀ u, ta w F (st (a + d)) u w * ov w F (st a) = ta w F (st a) u w * ov w F (st (a + d)) := fun d => by
    induction d with
    | zero => exact fun _ _ => rfl
    | succ d ih =>
      intro e u
      have z := pl (a + d) (by omega) (by omega) u
      rw [deg (a + d) (by omega) (by omega), Int.mul_zero, Int.sub_zero] at z
      have q : ta w F (st (a + d + 1)) u w * ov w F (st (a + d)) = ta w F (st (a + d)) u w * ov w F (st (a + d + 1)) := by
        rw [Int.mul_comm]; exact z
      exact fr_eq (opos (a + d) (by omega) (by omega)) q (ih (by omega) u)
  have zero : ∀ v, inN w (st k1) v → ta w F (st k2) (F v) w = 0 := fun v ⟨j, hj, e⟩ => by
    have q1 := val (k1 - a) (by omega) (F v)
    rw [show a + (k1 - a) = k1 by omega, ← e, ta_nu hj (by omega), if_neg (by omega), Int.zero_mul] at q1
    have q2 := val (k2 - a) (by omega) (F v)
    rw [show a + (k2 - a) = k2 by omega] at q2
    have p1 := opos k1 m1 (by omega)
    have p2 := opos a (by omega) (by omega)
    have q3 : ta w F (st a) (F v) w = 0 := by
      rcases Int.mul_eq_zero.mp q1.symm with q | q
      · rw [← e]; exact q
      · omega
    rw [q3, Int.zero_mul] at q2
    rcases Int.mul_eq_zero.mp q2 with q | q
    · exact q
    · omega
  -- the two tableaux
  have sp := ta_sp (st := st k1) (s2 := st k2) (k := c k2) v1.2.2.1 (by have := g2.2.2.1; omega) Z
  rw [ta_e (by have := g2.2.2.1; omega), if_neg (by have := g2.2.2.1; omega), Int.mul_zero, Int.add_zero] at sp
  have neg : ov w F (st k1) * ta w F (st k2) Z (c k2) < 0 := by
    have p1 := opos k1 m1 (by omega)
    have p2 := g2.2.2.2.2.2.2.2.1
    have := Int.mul_pos p1 (show 0 < - ta w F (st k2) Z (c k2) by omega)
    rw [Int.mul_neg] at this
    omega
  obtain ⟨l, hl, hpos⟩ : ∃ l, l < w ∧ 0 < ta w F (st k1) Z l * ta w F (st k2) (F ((st k1).1 l)) (c k2) := by
    refine Classical.byContradiction fun hno => ?_
    have q := (sF_nn (g := fun l => - ta w F (st k1) Z l * ta w F (st k2) (F ((st k1).1 l)) (c k2)) w fun i hi => by
      show 0 ≤ - ta w F (st k1) Z i * ta w F (st k2) (F ((st k1).1 i)) (c k2)
      rw [Int.neg_mul]
      have : ¬ 0 < ta w F (st k1) Z i * ta w F (st k2) (F ((st k1).1 i)) (c k2) := fun q => hno ⟨i, hi, q⟩
      omega).1
    omega
  have unfixed : ¬ (fx l = true) → ta w F (st k1) Z l < 0 → t ≤ (st k1).1 l := fun f1 f2 => by
    have := g1.2.2.2.2.2.2.2.2.1 l hl (by cases hq : fx l; rfl; exact absurd hq f1) f2
    rwa [ht] at this
  have same : fx l = true → (st k2).1 l = (st k1).1 l := fun hf => by
    have q1 := pers3 l hl hf (k1 - a) (by omega)
    have q2 := pers3 l hl hf (k2 - a) (by omega)
    rw [show a + (k1 - a) = k1 by omega] at q1
    rw [show a + (k2 - a) = k2 by omega] at q2
    rw [q1, q2]
  have hv := v1.2.2.2.1.1 l hl
  rcases v2.2.2.2.1.2.2.1 _ hv with ⟨j, hj, e⟩ | ⟨i, hi, e⟩
  · rw [← e, ta_nu hj (by have := g2.2.2.1; omega)] at hpos
    by_cases ej : c k2 = j
    · rw [if_pos ej] at hpos
      have p2 := opos k2 s1 (by omega)
      have zl : ta w F (st k1) Z l < 0 := by
        refine Int.not_le.mp fun q => ?_
        have := Int.mul_nonneg q (Int.le_of_lt p2)
        rw [Int.mul_neg] at hpos
        omega
      have nf : ¬ fx l = true := fun hf => by
        have q1 := same hf
        have q2 := v2.2.2.2.1.2.2.2.1 l j hl hj (q1.trans e.symm)
        have q3 := g2.2.2.2.2.2.2.1
        rw [ej, ← q2, hf] at q3
        cases q3
      have q1 := unfixed nf zl
      have q2 := m3 k2 s1 s2
      rw [ej, e] at q2
      have q3 : (st k2).1 j = (st k2).2.1 (r k2) := by rw [← s3, e]; omega
      exact v2.2.2.2.1.2.2.2.2.2 j (r k2) hj g2.2.2.2.1 q3
    · rw [if_neg ej, Int.mul_zero] at hpos
      omega
  · have nb : ¬ inN w (st k2) ((st k1).1 l) := fun ⟨j, hj, q⟩ => v2.2.2.2.1.2.2.2.2.2 j i hj hi (q.trans e.symm)
    have inn : inN w (st k1) ((st k1).1 l) := ⟨l, hl, rfl⟩
    have hle := fick _ inn nb
    have nf : ¬ fx l = true := fun hf => nb ⟨l, hl, same hf⟩
    by_cases et : (st k1).1 l = t
    · have el : l = c k1 := v1.2.2.2.1.2.2.2.1 l (c k1) hl g1.2.2.1 (et.trans ht.symm)
      have q1 := g1.2.2.2.2.2.2.2.1
      have q2 := g2.2.2.2.2.2.2.2.2.2.1
      rw [← s3, ← et] at q2
      rw [← el] at q1
      have := Int.mul_pos (show 0 < - ta w F (st k1) Z l by omega) q2
      rw [Int.neg_mul] at this
      omega
    · have zl : ¬ ta w F (st k1) Z l < 0 := fun q => by
        have := unfixed nf q
        omega
      have hp : 0 < ta w F (st k2) (F ((st k1).1 l)) (c k2) := by
        refine Int.not_le.mp fun q => ?_
        have := Int.mul_nonneg (show 0 ≤ ta w F (st k1) Z l by omega) (show 0 ≤ - ta w F (st k2) (F ((st k1).1 l)) (c k2) by omega)
        rw [Int.mul_neg] at this
        omega
      rw [← e] at hp
      have q0 := zero _ inn
      rw [← e] at q0
      rcases g2.2.2.2.2.2.2.2.2.2.2 i hi hp with q | q
      · rw [deg k2 s1 s2, q0, Int.zero_mul, Int.zero_mul] at q
        omega
      · have := q.2
        rw [← s3, e] at this
        omega
end BL
