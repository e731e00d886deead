/-! the reference's way through all partings -/
def lowS (s h : Int) : Int := orN (fun i => decide (hb s i = 1 ∧ i < h)) 7
theorem lowS_lt {s h : Int} : 0 ≤ lowS s h ∧ lowS s h < 128 := (orN_hb (p := fun i => decide (hb s i = 1 ∧ i < h)) (n := 7) (by omega)).1
theorem lowS_hb {s h i : Int} (hi : 0 ≤ i ∧ i < 7) : hb (lowS s h) i = 1 ↔ hb s i = 1 ∧ i < h := by
  unfold lowS
  rw [(orN_hb (p := fun i => decide (hb s i = 1 ∧ i < h)) (n := 7) (by omega)).2 i hi.1 hi.2]
  constructor
  · intro q; exact of_decide_eq_true q.2
  · intro q; exact ⟨by omega, decide_eq_true q⟩
theorem lowS_7 {s : Int} (hs : 0 ≤ s ∧ s < 128) : lowS s 7 = s := hb_ext lowS_lt hs fun j a b => by
  rw [lowS_hb ⟨a, b⟩]
  exact ⟨fun q => q.1, fun q => ⟨q, b⟩⟩
theorem lowS_0 {s : Int} : lowS s 0 = 0 := hb_ext lowS_lt (by omega) fun j a b => by
  rw [lowS_hb ⟨a, b⟩]
  exact ⟨fun q => by omega, fun q => absurd q (hb_0 ⟨a, b⟩)⟩
theorem lowS_skip {s k : Int} (hk : 0 ≤ k ∧ k < 7) (h : ¬ hb s k = 1) : lowS s (k + 1) = lowS s k := hb_ext lowS_lt lowS_lt fun j a b => by
  rw [lowS_hb ⟨a, b⟩, lowS_hb ⟨a, b⟩]
  constructor
  · rintro ⟨u, v⟩
    refine ⟨u, ?_⟩
    by_cases e : j = k
    · rw [e] at u; exact absurd u h
    · omega
  · rintro ⟨u, v⟩; exact ⟨u, by omega⟩
def agr (s h : Int) (σ ρ : Int → Int) : Prop := ∀ i, 0 ≤ i → i < h → i < 7 → hb s i = 1 → σ i = ρ i
theorem agr_skip {s k : Int} {σ ρ : Int → Int} (h : ¬ hb s k = 1) : agr s (k + 1) σ ρ ↔ agr s k σ ρ := by
  constructor
  · intro q i a b c d; exact q i a (by omega) c d
  · intro q i a b c d
    by_cases e : i = k
    · rw [e] at d; exact absurd d h
    · exact q i a (by omega) c d
def hiW (h : Int) : Int := if h ≤ 0 then 2097152 else wt (h - 1)
theorem hiW_v {h : Int} (hh : 0 ≤ h ∧ h ≤ 7) : (h = 0 ∧ hiW h = 2097152) ∨ (h = 1 ∧ hiW h = 262144) ∨ (h = 2 ∧ hiW h = 32768) ∨ (h = 3 ∧ hiW h = 4096) ∨ (h = 4 ∧ hiW h = 512) ∨ (h = 5 ∧ hiW h = 64) ∨ (h = 6 ∧ hiW h = 8) ∨ (h = 7 ∧ hiW h = 1) := by
  unfold hiW
  by_cases e : h ≤ 0
  · rw [if_pos e]
    omega
  · rw [if_neg e]
    have := wt_v (h := h - 1) (by omega)
    omega
theorem low_dgt {s h : Int} {σ ρ : Int → Int} (hh : 0 ≤ h ∧ h ≤ 7) (hg : agr s h σ ρ) {i : Int} (hi : 0 ≤ i ∧ i < 7) : dgt (lowS s h) ρ i = if i < h then dgt s σ i else 0 := by
  unfold dgt
  by_cases e : i < h
  · rw [if_pos e]
    by_cases q : hb s i = 1
    · rw [if_pos q, if_pos ((lowS_hb hi).mpr ⟨q, e⟩), hg i hi.1 e hi.2 q]
    · rw [if_neg q, if_neg fun w => q ((lowS_hb hi).mp w).1]
  · rw [if_neg e, if_neg fun w => e ((lowS_hb hi).mp w).2]
theorem row_bd {s h : Int} {σ ρ : Int → Int} {n : Nat} (hh : 0 ≤ h ∧ h ≤ 7) (hs : RG s σ n) (hg : agr s h σ ρ) : rowN (lowS s h) ρ ≤ rowN s σ ∧ rowN s σ < rowN (lowS s h) ρ + hiW h := by
  have d0 := dgt_r hs (i := 0) (by omega)
  have d1 := dgt_r hs (i := 1) (by omega)
  have d2 := dgt_r hs (i := 2) (by omega)
  have d3 := dgt_r hs (i := 3) (by omega)
  have d4 := dgt_r hs (i := 4) (by omega)
  have d5 := dgt_r hs (i := 5) (by omega)
  have d6 := dgt_r hs (i := 6) (by omega)
  rw [rowN_d, rowN_d, low_dgt hh hg (by omega), low_dgt hh hg (by omega), low_dgt hh hg (by omega), low_dgt hh hg (by omega), low_dgt hh hg (by omega), low_dgt hh hg (by omega), low_dgt hh hg (by omega)]
  rcases hiW_v hh with ⟨rfl, w⟩ | ⟨rfl, w⟩ | ⟨rfl, w⟩ | ⟨rfl, w⟩ | ⟨rfl, w⟩ | ⟨rfl, w⟩ | ⟨rfl, w⟩ | ⟨rfl, w⟩ <;> rw [w] <;> simp <;> omega
def upR (ρ : Int → Int) (k g : Int) : Int → Int := fun i => if i = k then g else ρ i
theorem row_up {s k g : Int} {ρ : Int → Int} (hk : 0 ≤ k ∧ k < 7) (hb9 : hb s k = 1) : rowN (lowS s (k + 1)) (upR ρ k g) = rowN (lowS s k) ρ + g * wt k := by
  have e : ∀ i, 0 ≤ i ∧ i < 7 → dgt (lowS s (k + 1)) (upR ρ k g) i = if i = k then g else dgt (lowS s k) ρ i := fun i hi => by
    unfold dgt upR
    by_cases q : i = k
    · rw [if_pos q, if_pos q, if_pos]
      rw [lowS_hb hi, q]
      exact ⟨hb9, by omega⟩
    · rw [if_neg q, if_neg q]
      by_cases w : hb s i = 1 ∧ i < k
      · rw [if_pos ((lowS_hb hi).mpr w), if_pos ((lowS_hb hi).mpr ⟨w.1, by omega⟩)]
      · rw [if_neg fun z => w ((lowS_hb hi).mp z), if_neg fun z => w (by have := (lowS_hb hi).mp z; exact ⟨this.1, by omega⟩)]
  have z : dgt (lowS s k) ρ k = 0 := by
    unfold dgt
    rw [if_neg]
    intro q
    have := (lowS_hb hk).mp q
    omega
  rw [rowN_d, rowN_d, e 0 (by omega), e 1 (by omega), e 2 (by omega), e 3 (by omega), e 4 (by omega), e 5 (by omega), e 6 (by omega)]
  rcases wt_v hk with ⟨rfl, w⟩ | ⟨rfl, w⟩ | ⟨rfl, w⟩ | ⟨rfl, w⟩ | ⟨rfl, w⟩ | ⟨rfl, w⟩ | ⟨rfl, w⟩ <;> rw [w, z] <;> simp <;> omega
/-- one more household in a group -/
theorem RG.more {s k g : Int} {ρ : Int → Int} {n : Nat} (hk : 0 ≤ k ∧ k < 7) (hb9 : hb s k = 1) (hg : 0 ≤ g ∧ g ≤ n) (h : RG (lowS s k) ρ n) : RG (lowS s (k + 1)) (upR ρ k g) (if g = n then n + 1 else n) := by
  have hN : ((if g = n then n + 1 else n : Nat) : Int) = if g = n then (n : Int) + 1 else n := by split <;> omega
  have up1 : upR ρ k g k = g := if_pos rfl
  have up2 : ∀ i, i ≠ k → upR ρ k g i = ρ i := fun i q => if_neg q
  have lift : ∀ g' : Int, 0 ≤ g' → g' < n → ∃ j, 0 ≤ j ∧ j < k ∧ hb (lowS s (k + 1)) j = 1 ∧ upR ρ k g j = g' := fun g' a b => by
    obtain ⟨j, j0, j1, j2, j3⟩ := h.2 g' a b
    have w := (lowS_hb ⟨j0, j1⟩).mp j2
    exact ⟨j, j0, w.2, (lowS_hb ⟨j0, j1⟩).mpr ⟨w.1, by omega⟩, by rw [up2 j (by omega)]; exact j3⟩
  refine ⟨fun i a b w => ?_, fun g' a b => ?_⟩
  · have w := (lowS_hb ⟨a, b⟩).mp w
    by_cases e : i = k
    · subst e
      rw [up1, hN]
      refine ⟨hg.1, by split <;> omega, fun g' x y => ?_⟩
      obtain ⟨j, j0, j1, j2, j3⟩ := lift g' x (by omega)
      exact ⟨j, j0, j1, j2, j3⟩
    · rw [up2 i e, hN]
      have z := h.1 i a b ((lowS_hb ⟨a, b⟩).mpr ⟨w.1, by omega⟩)
      refine ⟨z.1, by split <;> omega, fun g' x y => ?_⟩
      obtain ⟨j, j0, j1, j2, j3⟩ := z.2.2 g' x y
      have w2 := (lowS_hb ⟨j0, by omega⟩).mp j2
      exact ⟨j, j0, j1, (lowS_hb ⟨j0, by omega⟩).mpr ⟨w2.1, by omega⟩, by rw [up2 j (by omega)]; exact j3⟩
  · rw [hN] at b
    by_cases e : g' = g
    · exact ⟨k, hk.1, hk.2, (lowS_hb hk).mpr ⟨hb9, by omega⟩, by rw [up1, e]⟩
    · obtain ⟨j, j0, j1, j2, j3⟩ := lift g' a (by split at b <;> omega)
      exact ⟨j, j0, by omega, j2, j3⟩
theorem grp_more {s k g : Int} {ρ : Int → Int} (hk : 0 ≤ k ∧ k < 7) (hb9 : hb s k = 1) : grp (lowS s (k + 1)) (upR ρ k g) g = b_or (grp (lowS s k) ρ g) (b_shl 1 k) := hb_ext grp_lt (b_or_lt grp_lt (b_shl1_lt hk)) fun j a b => by
  rw [grp_hb ⟨a, b⟩, lowS_hb ⟨a, b⟩, hb_or grp_lt (b_shl1_lt hk) ⟨a, b⟩, grp_hb ⟨a, b⟩, lowS_hb ⟨a, b⟩, hb_shl1 hk ⟨a, b⟩]
  unfold upR
  by_cases e : j = k
  · rw [if_pos e]
    exact ⟨fun _ => Or.inr e, fun _ => ⟨⟨e ▸ hb9, by omega⟩, rfl⟩⟩
  · rw [if_neg e]
    constructor
    · rintro ⟨⟨u, v⟩, w⟩; exact Or.inl ⟨⟨u, by omega⟩, w⟩
    · rintro (⟨⟨u, v⟩, w⟩ | w)
      · exact ⟨⟨u, by omega⟩, w⟩
      · exact absurd w e
theorem grp_same {s k g g' : Int} {ρ : Int → Int} (hk : 0 ≤ k ∧ k < 7) (hg : g' ≠ g) : grp (lowS s (k + 1)) (upR ρ k g) g' = grp (lowS s k) ρ g' := hb_ext grp_lt grp_lt fun j a b => by
  rw [grp_hb ⟨a, b⟩, lowS_hb ⟨a, b⟩, grp_hb ⟨a, b⟩, lowS_hb ⟨a, b⟩]
  unfold upR
  by_cases e : j = k
  · rw [if_pos e]
    exact ⟨fun q => absurd q.2.symm hg, fun q => by omega⟩
  · rw [if_neg e]
    constructor
    · rintro ⟨⟨u, v⟩, w⟩; exact ⟨⟨u, by omega⟩, w⟩
    · rintro ⟨⟨u, v⟩, w⟩; exact ⟨⟨u, by omega⟩, w⟩
theorem grp_new {s k : Int} {ρ : Int → Int} {n : Nat} (h : RG (lowS s k) ρ n) : grp (lowS s k) ρ n = 0 := hb_ext grp_lt (by omega) fun j a b => by
  rw [grp_hb ⟨a, b⟩]
  constructor
  · rintro ⟨u, v⟩
    have := h.1 j a b u
    omega
  · exact fun q => absurd q (hb_0 ⟨a, b⟩)
/-- taken out again -/
theorem grp_less {s k g : Int} {ρ : Int → Int} (hk : 0 ≤ k ∧ k < 7) : b_and (b_or (grp (lowS s k) ρ g) (b_shl 1 k)) (b_xor (b_shl 1 k) (-1)) = grp (lowS s k) ρ g := hb_ext (b_and_lt (b_or_lt grp_lt (b_shl1_lt hk))) grp_lt fun j a b => by
  rw [hb_andn (b_or_lt grp_lt (b_shl1_lt hk)) (b_shl1_lt hk) ⟨a, b⟩, hb_or grp_lt (b_shl1_lt hk) ⟨a, b⟩, hb_shl1 hk ⟨a, b⟩]
  constructor
  · rintro ⟨u | u, v⟩
    · exact u
    · exact absurd u v
  · intro u
    refine ⟨Or.inl u, fun e => ?_⟩
    have := (lowS_hb ⟨a, b⟩).mp ((grp_hb ⟨a, b⟩).mp u).1
    omega
theorem agr_up {s k g : Int} {σ ρ : Int → Int} (h : agr s k σ ρ) (e : σ k = g) : agr s (k + 1) σ (upR ρ k g) := fun i a b c d => by
  unfold upR
  by_cases q : i = k
  · rw [if_pos q, q]; exact e
  · rw [if_neg q]; exact h i a (by omega) c d
theorem agr_dn {s k g : Int} {σ ρ : Int → Int} (hk : 0 ≤ k ∧ k < 7) (hb9 : hb s k = 1) (h : agr s (k + 1) σ (upR ρ k g)) : agr s k σ ρ ∧ σ k = g := by
  refine ⟨fun i a b c d => ?_, ?_⟩
  · have := h i a (by omega) c d
    unfold upR at this
    rw [if_neg (by omega)] at this
    exact this
  · have := h k hk.1 (by omega) hk.2 hb9
    unfold upR at this
    rw [if_pos rfl] at this
    exact this
/-- a row goes on with a group that there is, or the next -/
theorem dig_next {s k : Int} {σ ρ : Int → Int} {n m : Nat} (hk : 0 ≤ k ∧ k < 7) (hb9 : hb s k = 1) (hs : RG s σ m) (h : RG (lowS s k) ρ n) (hg : agr s k σ ρ) : 0 ≤ σ k ∧ σ k ≤ n := by
  have z := hs.1 k hk.1 hk.2 hb9
  refine ⟨z.1, ?_⟩
  by_cases e : σ k ≤ n
  · exact e
  · obtain ⟨j, j0, j1, j2, j3⟩ := z.2.2 n (by omega) (by omega)
    have w := h.1 j j0 (by omega) ((lowS_hb ⟨j0, by omega⟩).mpr ⟨j2, j1⟩)
    have := hg j j0 j1 (by omega) j2
    omega
/-- what the reference keeps of the best so far -/
def BSt (M : aM) (m : Int) (c : Int → Int) (s B : Int) : Prop := (B = -1 ∧ M m 32 = -1) ∨ (0 ≤ B ∧ ∃ σ n, OKR c s σ n ∧ valR c s σ n = B ∧ M m 32 = gsum c s σ n ∧ M m 33 = ((n : Nat) : Int) ∧ ∀ i, 0 ≤ i → i < 7 → hb s i = 1 → M (m + 17) i = σ i)
theorem BSt.cg {M M' : aM} {m : Int} {c : Int → Int} {s B : Int} (h : BSt M m c s B) (e : M' m 32 = M m 32 ∧ M' m 33 = M m 33 ∧ ∀ i, M' (m + 17) i = M (m + 17) i) : BSt M' m c s B := by
  rcases h with h | ⟨h0, σ, n, h1, h2, h3, h4, h5⟩
  · exact Or.inl ⟨h.1, e.1.trans h.2⟩
  · exact Or.inr ⟨h0, σ, n, h1, h2, e.1.trans h3, e.2.1.trans h4, fun i a b w => (e.2.2 i).trans (h5 i a b w)⟩
/-- the plan's rows, the costs, the groups -/
def frG (M M' : aM) (m : Int) : Prop := ∀ a i : Int, (a = m → i ≠ 19 ∧ i ≠ 28 ∧ i ≠ 32 ∧ i ≠ 33) → ¬ (m + 6 ≤ a ∧ a < m + 9) → ¬ (m + 11 ≤ a ∧ a < m + 19) → M' a i = M a i
theorem frG.rf {M : aM} {m : Int} : frG M M m := fun _ _ _ _ _ => rfl
theorem frG.tr {M M' M'' : aM} {m : Int} (h : frG M M' m) (h' : frG M' M'' m) : frG M M'' m := fun a i x y z => (h' a i x y z).trans (h a i x y z)
theorem frG.k {M M' : aM} {m : Int} (h : frG M M' m) : frK M M' m := fun a i x y z => h a i (fun q => by have := x q; omega) y (by omega)
theorem frL.g {M M' : aM} {m : Int} (h : frL M M' m) : frG M M' m := fun a i x y z => h a i (fun q => by have := x q; omega) y (by omega)
theorem frG.up {M M' : aM} {m a i v : Int} (h : frG M M' m) (ha : (a = m ∧ (i = 32 ∨ i = 33)) ∨ (m + 16 ≤ a ∧ a < m + 19)) : frG M (up M' a i v) m := fun b j x y z => (if_neg (by omega)).trans (h b j x y z)
/-- what parted has done, from a row's beginning on -/
def PPo (M M' : aM) (m : Int) (t : Int → Int) (s h : Int) (ρ : Int → Int) (n : Nat) (B : Int) : Prop := ∃ B', BSt M' m (costV t) s B' ∧ (B ≠ -1 → B' ≠ -1 ∧ B' ≤ B) ∧ (B' = B ∨ ∃ σ k, OKR (costV t) s σ k ∧ agr s h σ ρ ∧ valR (costV t) s σ k = B') ∧ (∀ σ k, OKR (costV t) s σ k → agr s h σ ρ → B' ≠ -1 ∧ B' ≤ valR (costV t) s σ k) ∧ frG M M' m ∧ RP0 M' m t ∧ RCs M' m t ∧ (∀ i, 0 ≤ i → i < h → M' (m + 16) i = M (m + 16) i) ∧ ∀ g : Int, 0 ≤ g → g < n → M' (m + 18) g = M (m + 18) g
theorem RG.n7 {s : Int} {ρ : Int → Int} {n : Nat} (h : RG s ρ n) : n ≤ 7 := by
  by_cases e : n ≤ 7
  · exact e
  · obtain ⟨j, j0, j1, j2, j3⟩ := h.2 7 (by omega) (by omega)
    have := h.le 7 j j0 (by omega) j1 j2
    omega
theorem grp_pos {s : Int} {ρ : Int → Int} {n : Nat} (h : RG s ρ n) {g : Int} (hg : 0 ≤ g ∧ g < n) : 0 < grp s ρ g ∧ grp s ρ g < 128 := by
  refine ⟨?_, grp_lt.2⟩
  obtain ⟨i, i0, i1, i2, i3⟩ := h.2 g hg.1 hg.2
  have w := (grp_hb (s := s) (ρ := ρ) (g := g) ⟨i0, i1⟩).mpr ⟨i2, i3⟩
  have z := grp_lt (s := s) (ρ := ρ) (g := g)
  by_cases e : grp s ρ g = 0
  · rw [e] at w
    exact absurd w (hb_0 ⟨i0, i1⟩)
  · omega
