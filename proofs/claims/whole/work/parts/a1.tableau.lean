/-! THE TABLEAU of a problem: w columns, h rows, F the vector of each variable's name (w numbers and a constant) -/
abbrev sx : Type := (Nat → Nat) × (Nat → Nat) × Int
def bas (w : Nat) (F : Nat → Nat → Int) (ν : Nat → Nat) : Nat → Nat → Int := fun j => if j < w then F (ν j) else iM w
def ta (w : Nat) (F : Nat → Nat → Int) (st : sx) (u : Nat → Int) (k : Nat) : Int := if k = w then st.2.2 * dt (w + 1) (ur (bas w F st.1) w u) else -st.2.2 * dt (w + 1) (ur (bas w F st.1) k u)
def ov (w : Nat) (F : Nat → Nat → Int) (st : sx) : Int := st.2.2 * dt (w + 1) (bas w F st.1)
def piv (st : sx) (r j : Nat) : sx := (fun k => if k = j then st.2.1 r else st.1 k, fun i => if i = r then st.1 j else st.2.1 i, -st.2.2)
section TA
variable {w h : Nat} {F : Nat → Nat → Int} {st : sx}
theorem bas_lt {ν : Nat → Nat} {j : Nat} (hj : j < w) : bas w F ν j = F (ν j) := if_pos hj
theorem bas_w {ν : Nat → Nat} : bas w F ν w = iM w := if_neg (by omega)
theorem bas_piv {r j : Nat} (hj : j < w) : bas w F (piv st r j).1 = ur (bas w F st.1) j (F (st.2.1 r)) := by
  funext k
  by_cases e : k = j
  · subst e
    rw [ur_s, bas_lt hj]
    show F (if k = k then st.2.1 r else st.1 k) = _
    rw [if_pos rfl]
  · rw [ur_n e]
    unfold bas
    by_cases e2 : k < w
    · rw [if_pos e2, if_pos e2]
      show F (if k = j then st.2.1 r else st.1 k) = _
      rw [if_neg e]
    · rw [if_neg e2, if_neg e2]
theorem ta_w {u : Nat → Int} : ta w F st u w = st.2.2 * dt (w + 1) (ur (bas w F st.1) w u) := if_pos rfl
theorem ta_k {u : Nat → Int} {k : Nat} (hk : k < w) : ta w F st u k = -st.2.2 * dt (w + 1) (ur (bas w F st.1) k u) := if_neg (by omega)
theorem ta_pl (hσ : st.2.2 = 1 ∨ st.2.2 = -1) (hS : Spn (w + 1) (bas w F st.1)) {r j k : Nat} (hj : j < w) (hk : k < w + 1) (hkj : k ≠ j) (u : Nat → Int) : ov w F st * ta w F (piv st r j) u k = ta w F st u k * ta w F st (F (st.2.1 r)) j - ta w F st u j * ta w F st (F (st.2.1 r)) k := by
  have z := dt_pl hS (j := j) (k := k) (by omega) hk (Ne.symm hkj) (F (st.2.1 r)) u
  rw [ta_k hj, ta_k hj]
  by_cases e : k = w
  · subst e
    rw [ta_w, ta_w, ta_w, bas_piv hj]
    unfold ov
    show st.2.2 * _ * (-st.2.2 * _) = _
    rcases hσ with e | e <;> rw [e] <;> grind
  · have hk2 : k < w := by omega
    rw [ta_k hk2, ta_k hk2, ta_k hk2, bas_piv hj]
    unfold ov
    show st.2.2 * _ * (- -st.2.2 * _) = _
    rcases hσ with e | e <;> rw [e] <;> grind
theorem ta_pj {r j : Nat} (hj : j < w) (u : Nat → Int) : ta w F (piv st r j) u j = - ta w F st u j := by
  rw [ta_k hj, ta_k hj, bas_piv hj, ur_ur]
  show - -st.2.2 * _ = _
  grind
theorem ov_piv {r j : Nat} (hj : j < w) : ov w F (piv st r j) = ta w F st (F (st.2.1 r)) j := by
  rw [ta_k hj]
  unfold ov
  rw [bas_piv hj]
  rfl
theorem ta_nu {j k : Nat} (hj : j < w) (hk : k < w + 1) : ta w F st (F (st.1 j)) k = if k = j then - ov w F st else 0 := by
  have e : F (st.1 j) = bas w F st.1 j := (bas_lt hj).symm
  rw [e]
  by_cases e1 : k = j
  · subst e1
    rw [if_pos rfl, ta_k hj, ur_self]
    unfold ov
    grind
  · rw [if_neg e1]
    have z : dt (w + 1) (ur (bas w F st.1) k (bas w F st.1 j)) = 0 := dt_dup _ hk (by omega) e1
    by_cases e2 : k = w
    · subst e2
      rw [ta_w, z, Int.mul_zero]
    · rw [ta_k (by omega), z, Int.mul_zero]
theorem ta_e {k : Nat} (hk : k < w + 1) : ta w F st (iM w) k = if k = w then ov w F st else 0 := by
  have e : iM w = bas w F st.1 w := bas_w.symm
  rw [e]
  by_cases e1 : k = w
  · subst e1
    rw [if_pos rfl, ta_w, ur_self]
    rfl
  · rw [if_neg e1, ta_k (by omega), dt_dup _ hk (by omega) e1, Int.mul_zero]
theorem ta_cg {u v : Nat → Int} {k : Nat} (hk : k < w + 1) (e : ∀ c, c < w + 1 → u c = v c) : ta w F st u k = ta w F st v k := by
  have z : ∀ k, dt (w + 1) (ur (bas w F st.1) k u) = dt (w + 1) (ur (bas w F st.1) k v) := fun k => dt_cg _ _ _ fun r c hr hc => by
    by_cases e1 : r = k
    · subst e1; rw [ur_s, ur_s]; exact e c hc
    · rw [ur_n e1, ur_n e1]
  unfold ta
  rw [z, z]
theorem ta_sum {k : Nat} (hk : k < w + 1) (x : Nat → Int) (V : Nat → Nat → Int) (m : Nat) : ta w F st (fun c => sF (fun l => x l * V l c) m) k = sF (fun l => x l * ta w F st (V l) k) m := by
  by_cases e : k = w
  · subst e
    rw [ta_w, dt_sum _ hk, ← sF_mul]
    refine sF_cg _ fun i hi => ?_
    rw [ta_w]
    grind
  · rw [ta_k (by omega), dt_sum _ hk, ← sF_mul]
    refine sF_cg _ fun i hi => ?_
    rw [ta_k (by omega)]
    grind
theorem ta_mul {k : Nat} (hk : k < w + 1) (x : Int) (u : Nat → Int) : ta w F st (fun c => x * u c) k = x * ta w F st u k := by
  by_cases e : k = w
  · subst e
    rw [ta_w, ta_w, dt_smul _ _ _ _ _ hk]
    grind
  · rw [ta_k (by omega), ta_k (by omega), dt_smul _ _ _ _ _ hk]
    grind
theorem ta_exp {k : Nat} (hk : k < w + 1) (u : Nat → Int) : ta w F st u k = sF (fun l => u l * ta w F st (iM l) k) (w + 1) := by
  rw [← ta_sum hk]
  refine ta_cg hk fun c hc => ?_
  rw [sF_one (k := c) _ hc fun i hi h => by rw [show iM i c = 0 from if_neg h, Int.mul_zero], show iM c c = 1 from if_pos rfl, Int.mul_one]
/-- what one tableau's rows tell, read in another -/
theorem ta_sp {s2 : sx} (hS : Spn (w + 1) (bas w F st.1)) {k : Nat} (hk : k < w + 1) (u : Nat → Int) : ov w F st * ta w F s2 u k = sF (fun l => - ta w F st u l * ta w F s2 (F (st.1 l)) k) w + ta w F st u w * ta w F s2 (iM w) k := by
  have z : dt (w + 1) (bas w F st.1) * ta w F s2 u k = sF (fun l => dt (w + 1) (ur (bas w F st.1) l u) * ta w F s2 (bas w F st.1 l) k) (w + 1) := by
    rw [← ta_mul hk, ← ta_sum hk]
    exact ta_cg hk fun c hc => hS u c hc
  have z2 : ov w F st * ta w F s2 u k = sF (fun l => st.2.2 * (dt (w + 1) (ur (bas w F st.1) l u) * ta w F s2 (bas w F st.1 l) k)) (w + 1) := by
    rw [sF_mul, ← z]
    unfold ov
    grind
  rw [z2]
  show sF _ w + st.2.2 * (dt (w + 1) (ur (bas w F st.1) w u) * ta w F s2 (bas w F st.1 w) k) = _
  rw [bas_w, ta_w (st := st)]
  rw [sF_cg w fun l hl => by rw [bas_lt hl, show st.2.2 * (dt (w + 1) (ur (bas w F st.1) l u) * ta w F s2 (F (st.1 l)) k) = - ta w F st u l * ta w F s2 (F (st.1 l)) k by rw [ta_k (st := st) hl]; grind]]
  grind
/-- a state of the algorithm -/
def OKx (w h : Nat) (F : Nat → Nat → Int) (st : sx) : Prop := (st.2.2 = 1 ∨ st.2.2 = -1) ∧ 0 < ov w F st ∧ Spn (w + 1) (bas w F st.1) ∧ ((∀ j, j < w → st.1 j < w + h) ∧ (∀ i, i < h → st.2.1 i < w + h) ∧ (∀ v, v < w + h → (∃ j, j < w ∧ st.1 j = v) ∨ ∃ i, i < h ∧ st.2.1 i = v) ∧ (∀ j k, j < w → k < w → st.1 j = st.1 k → j = k) ∧ (∀ i k, i < h → k < h → st.2.1 i = st.2.1 k → i = k) ∧ ∀ j i, j < w → i < h → st.1 j ≠ st.2.1 i) ∧ ∀ i, i < h → 0 ≤ ta w F st (F (st.2.1 i)) w
theorem ta_new (hσ : st.2.2 = 1 ∨ st.2.2 = -1) (hS : Spn (w + 1) (bas w F st.1)) (h0 : ov w F st ≠ 0) {r j k : Nat} (hj : j < w) (hk : k < w + 1) : ta w F (piv st r j) (F (st.1 j)) k = if k = j then ov w F st else ta w F st (F (st.2.1 r)) k := by
  by_cases e : k = j
  · subst e
    rw [if_pos rfl, ta_pj hj, ta_nu hj hk, if_pos rfl]
    omega
  · rw [if_neg e]
    have z := ta_pl (r := r) hσ hS hj hk e (F (st.1 j))
    rw [ta_nu hj hk, if_neg e, ta_nu hj (by omega), if_pos rfl] at z
    refine Int.eq_of_mul_eq_mul_left h0 (z.trans ?_)
    grind
theorem OKx.pv (H : OKx w h F st) {r j : Nat} (hr : r < h) (hj : j < w) (hp : 0 < ta w F st (F (st.2.1 r)) j) (hm : ∀ i, i < h → 0 < ta w F st (F (st.2.1 i)) j → ta w F st (F (st.2.1 r)) w * ta w F st (F (st.2.1 i)) j ≤ ta w F st (F (st.2.1 i)) w * ta w F st (F (st.2.1 r)) j) : OKx w h F (piv st r j) := by
  obtain ⟨h1, h2, h3, ⟨g1, g2, g3, g4, g5, g6⟩, h5⟩ := H
  refine ⟨?_, ?_, ?_, ⟨fun k hk => ?_, fun i hi => ?_, fun v hv => ?_, fun k l hk hl e => ?_, fun i l hi hl e => ?_, fun k i hk hi => ?_⟩, fun i hi => ?_⟩
  · show -st.2.2 = 1 ∨ -st.2.2 = -1
    omega
  · rw [ov_piv hj]; exact hp
  · rw [bas_piv hj]
    refine h3.st (fun q => ?_) (by omega) _
    unfold ov at h2
    rw [q, Int.mul_zero] at h2
    omega
  · show (if k = j then st.2.1 r else st.1 k) < _
    split
    · exact g2 r hr
    · exact g1 k hk
  · show (if i = r then st.1 j else st.2.1 i) < _
    split
    · exact g1 j hj
    · exact g2 i hi
  · rcases g3 v hv with ⟨k, hk, e⟩ | ⟨i, hi, e⟩
    · by_cases e2 : k = j
      · subst e2
        refine Or.inr ⟨r, hr, ?_⟩
        show (if r = r then st.1 k else st.2.1 r) = v
        rw [if_pos rfl]; exact e
      · refine Or.inl ⟨k, hk, ?_⟩
        show (if k = j then st.2.1 r else st.1 k) = v
        rw [if_neg e2]; exact e
    · by_cases e2 : i = r
      · subst e2
        refine Or.inl ⟨j, hj, ?_⟩
        show (if j = j then st.2.1 i else st.1 j) = v
        rw [if_pos rfl]; exact e
      · refine Or.inr ⟨i, hi, ?_⟩
        show (if i = r then st.1 j else st.2.1 i) = v
        rw [if_neg e2]; exact e
  · have e : (if k = j then st.2.1 r else st.1 k) = (if l = j then st.2.1 r else st.1 l) := e
    by_cases e1 : k = j <;> by_cases e2 : l = j
    · omega
    · rw [if_pos e1, if_neg e2] at e
      exact absurd e.symm (g6 l r hl hr)
    · rw [if_neg e1, if_pos e2] at e
      exact absurd e (g6 k r hk hr)
    · rw [if_neg e1, if_neg e2] at e
      exact g4 k l hk hl e
  · have e : (if i = r then st.1 j else st.2.1 i) = (if l = r then st.1 j else st.2.1 l) := e
    by_cases e1 : i = r <;> by_cases e2 : l = r
    · omega
    · rw [if_pos e1, if_neg e2] at e
      exact absurd e (g6 j l hj hl)
    · rw [if_neg e1, if_pos e2] at e
      exact absurd e.symm (g6 j i hj hi)
    · rw [if_neg e1, if_neg e2] at e
      exact g5 i l hi hl e
  · show (if k = j then st.2.1 r else st.1 k) ≠ (if i = r then st.1 j else st.2.1 i)
    by_cases e1 : k = j <;> by_cases e2 : i = r
    · rw [if_pos e1, if_pos e2]
      exact (g6 j r hj hr).symm
    · rw [if_pos e1, if_neg e2]
      exact fun q => e2 (g5 r i hr hi q).symm
    · rw [if_neg e1, if_pos e2]
      exact fun q => e1 (g4 k j hk hj q)
    · rw [if_neg e1, if_neg e2]
      exact g6 k i hk hi
  · show 0 ≤ ta w F (piv st r j) (F (if i = r then st.1 j else st.2.1 i)) w
    by_cases e : i = r
    · rw [if_pos e, ta_new h1 h3 (by omega) hj (by omega), if_neg (by omega)]
      exact h5 r hr
    · rw [if_neg e]
      have z := ta_pl (r := r) h1 h3 hj (k := w) (by omega) (by omega) (F (st.2.1 i))
      have q : 0 ≤ ov w F st * ta w F (piv st r j) (F (st.2.1 i)) w := by
        rw [z]
        by_cases e2 : 0 < ta w F st (F (st.2.1 i)) j
        · have := hm i hi e2
          have c := Int.mul_comm (ta w F st (F (st.2.1 i)) j) (ta w F st (F (st.2.1 r)) w)
          omega
        · have a1 := Int.mul_nonneg (h5 i hi) (Int.le_of_lt hp)
          have a2 := Int.mul_nonneg (show 0 ≤ -ta w F st (F (st.2.1 i)) j by omega) (h5 r hr)
          rw [Int.neg_mul] at a2
          omega
      exact Int.nonneg_of_mul_nonneg_right q h2
/-- the problem: variables that are paid, what sets with a cost spare -/
def PBx (w h : Nat) (F : Nat → Nat → Int) (C : Nat) : Prop := (∀ v, v < w → F v = iM v) ∧ (∀ v, w ≤ v → v < w + h → (∀ c, c < w → F v c = 0 ∨ F v c = -1) ∧ 0 ≤ F v w ∧ F v w ≤ C) ∧ ∀ c, c < w → ∃ v, w ≤ v ∧ v < w + h ∧ F v c = -1
theorem sF_nn {g : Nat → Int} : ∀ n, (∀ i, i < n → 0 ≤ g i) → 0 ≤ sF g n ∧ ∀ i, i < n → g i ≤ sF g n
  | 0, _ => ⟨by show (0 : Int) ≤ 0; omega, fun i hi => absurd hi (by omega)⟩
  | n + 1, hg => by
    obtain ⟨a, b⟩ := sF_nn n fun i hi => hg i (by omega)
    have c := hg n (by omega)
    refine ⟨by show 0 ≤ sF g n + g n; omega, fun i hi => ?_⟩
    show g i ≤ sF g n + g n
    by_cases e : i = n
    · subst e; omega
    · have := b i (by omega); omega
/-- a row to leave is always found -/
theorem sx_bounded {C : Nat} (hP : PBx w h F C) (H : OKx w h F st) {j : Nat} (hj : j < w) : ∃ i, i < h ∧ 0 < ta w F st (F (st.2.1 i)) j := by
  refine Classical.byContradiction fun hno => ?_
  obtain ⟨p1, p2, p3⟩ := hP
  obtain ⟨h1, h2, h3, ⟨g1, g2, g3, g4, g5, g6⟩, h5⟩ := H
  have neg : ∀ v, v < w + h → ta w F st (F v) j ≤ 0 := fun v hv => by
    rcases g3 v hv with ⟨k, hk, e⟩ | ⟨i, hi, e⟩
    · rw [← e, ta_nu hk (by omega)]
      split <;> omega
    · rw [← e]
      exact Int.not_lt.mp fun q => hno ⟨i, hi, q⟩
  have y : ∀ c, c < w → ta w F st (iM c) j ≤ 0 := fun c hc => by
    have := neg c (by omega)
    rwa [p1 c hc] at this
  have ew : ta w F st (iM w) j = 0 := by rw [ta_e (by omega), if_neg (by omega)]
  have y0 : ∀ c, c < w → ta w F st (iM c) j = 0 := fun c hc => by
    obtain ⟨v, v1, v2, v3⟩ := p3 c hc
    have a := neg v v2
    rw [ta_exp (by omega)] at a
    have a : sF (fun l => F v l * ta w F st (iM l) j) w + F v w * ta w F st (iM w) j ≤ 0 := a
    rw [ew, Int.mul_zero] at a
    have b := sF_nn (g := fun l => F v l * ta w F st (iM l) j) w fun i hi => by
      show 0 ≤ F v i * ta w F st (iM i) j
      rcases (p2 v v1 v2).1 i hi with e | e
      · rw [e, Int.zero_mul]; omega
      · rw [e]; have := y i hi; omega
    have b2 : F v c * ta w F st (iM c) j ≤ _ := b.2 c hc
    rw [v3] at b2
    have := y c hc
    omega
  have z : ta w F st (F (st.1 j)) j = 0 := by
    rw [ta_exp (by omega)]
    refine sF_0 _ fun i hi => ?_
    by_cases e : i = w
    · subst e; rw [ew, Int.mul_zero]
    · rw [y0 i (by omega), Int.mul_zero]
  rw [ta_nu hj (by omega), if_pos rfl] at z
  omega
end TA
