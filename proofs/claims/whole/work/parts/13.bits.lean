/-! BITS of ints as sets; sums, firsts -/
def bt (x h : Int) : Bool := (Int32.ofInt x).toBitVec.getLsbD h.toNat
theorem bt_raw (x : Int32) (h : Int) : bt x.toInt h = x.toBitVec.getLsbD h.toNat := by
  unfold bt
  rw [Int32.ofInt_toInt]
theorem bt_and (x y h : Int) : bt (b_and x y) h = (bt x h && bt y h) := by
  unfold b_and
  rw [bt_raw, Int32.toBitVec_and, BitVec.getLsbD_and]
  rfl
theorem bt_or (x y h : Int) : bt (b_or x y) h = (bt x h || bt y h) := by
  unfold b_or
  rw [bt_raw, Int32.toBitVec_or, BitVec.getLsbD_or]
  rfl
theorem bt_xor (x y h : Int) : bt (b_xor x y) h = Bool.xor (bt x h) (bt y h) := by
  unfold b_xor
  rw [bt_raw, Int32.toBitVec_xor, BitVec.getLsbD_xor]
  rfl
theorem bt_ext {x y : Int} (hx : -2147483648 ≤ x ∧ x ≤ 2147483647) (hy : -2147483648 ≤ y ∧ y ≤ 2147483647) (h : ∀ j : Int, 0 ≤ j → j < 32 → bt x j = bt y j) : x = y := by
  have e : (Int32.ofInt x).toBitVec = (Int32.ofInt y).toBitVec := BitVec.eq_of_getLsbD_eq fun i hi => by
    have := h i (by omega) (by omega)
    unfold bt at this
    simpa using this
  have e2 : Int32.ofInt x = Int32.ofInt y := Int32.toBitVec_inj.mp e
  have e3 := congrArg Int32.toInt e2
  rwa [a_i32 hx, a_i32 hy] at e3
theorem bt_fin {n m : Nat} {P : Int → Int → Prop} (h : ∀ i : Fin n, ∀ j : Fin m, P (i : Nat) (j : Nat)) {a b : Int} (ha : 0 ≤ a ∧ a < n) (hb : 0 ≤ b ∧ b < m) : P a b := by
  have := h ⟨a.toNat, by omega⟩ ⟨b.toNat, by omega⟩
  rwa [show ((a.toNat : Nat) : Int) = a by omega, show ((b.toNat : Nat) : Int) = b by omega] at this
theorem bt_shl1 {i h : Int} (hi : 0 ≤ i ∧ i < 31) (hh : 0 ≤ h ∧ h < 32) : bt (b_shl 1 i) h = decide (h = i) := bt_fin (n := 31) (m := 32) (P := fun i h => bt (b_shl 1 i) h = decide (h = i)) (by decide +kernel) hi hh
theorem bt_m1 {h : Int} (hh : 0 ≤ h ∧ h < 32) : bt (-1) h = true := bt_fin (n := 1) (m := 32) (P := fun _ h => bt (-1) h = true) (by decide +kernel) (a := 0) (by omega) hh
theorem bt_zero (h : Int) : bt 0 h = false := by
  unfold bt
  rw [show (Int32.ofInt 0).toBitVec = 0#32 from rfl, BitVec.getLsbD_zero]
theorem bt_hi {x h : Int} (hx : 0 ≤ x ∧ x < 128) (hh : 7 ≤ h ∧ h < 32) : bt x h = false := by
  have := bt_fin (n := 128) (m := 32) (P := fun x h => 7 ≤ h → bt x h = false) (by decide +kernel) hx (b := h) (by omega)
  exact this hh.1
/-- the bit of a household in a set -/
def hb (set h : Int) : Int := b_and (b_shr set h) 1
theorem hb_bt {x h : Int} (hx : 0 ≤ x ∧ x < 128) (hh : 0 ≤ h ∧ h < 7) : hb x h = if bt x h = true then 1 else 0 := bt_fin (n := 128) (m := 7) (P := fun x h => hb x h = if bt x h = true then 1 else 0) (by decide +kernel) hx hh
theorem hb01 {x h : Int} (hx : 0 ≤ x ∧ x < 128) (hh : 0 ≤ h ∧ h < 7) : hb x h = 0 ∨ hb x h = 1 := by
  rw [hb_bt hx hh]
  split
  · exact Or.inr rfl
  · exact Or.inl rfl
theorem hb_ext {x y : Int} (hx : 0 ≤ x ∧ x < 128) (hy : 0 ≤ y ∧ y < 128) (h : ∀ j : Int, 0 ≤ j → j < 7 → (hb x j = 1 ↔ hb y j = 1)) : x = y := by
  refine bt_ext (by omega) (by omega) fun j h0 h1 => ?_
  by_cases h7 : j < 7
  · have := h j h0 h7
    rw [hb_bt hx ⟨h0, h7⟩, hb_bt hy ⟨h0, h7⟩] at this
    cases e1 : bt x j <;> cases e2 : bt y j <;> simp [e1, e2] at this <;> rfl
  · rw [bt_hi hx ⟨by omega, h1⟩, bt_hi hy ⟨by omega, h1⟩]
theorem hb_iff {x h : Int} (hx : 0 ≤ x ∧ x < 128) (hh : 0 ≤ h ∧ h < 7) : hb x h = 1 ↔ bt x h = true := by
  rw [hb_bt hx hh]
  cases bt x h <;> simp
/-- ints below 128 from bits -/
theorem bt_lt {x : Int} (hr : -2147483648 ≤ x ∧ x ≤ 2147483647) (h : ∀ j : Int, 7 ≤ j → j < 32 → bt x j = false) : 0 ≤ x ∧ x < 128 := by
  have e : x = b_and x 127 := by
    refine bt_ext hr (a_r32 _) fun j h0 h1 => ?_
    rw [bt_and]
    by_cases h7 : j < 7
    · have : bt 127 j = true := bt_fin (n := 1) (m := 7) (P := fun _ h => bt 127 h = true) (by decide +kernel) (a := 0) (by omega) ⟨h0, h7⟩
      rw [this, Bool.and_true]
    · rw [h j (by omega) h1, Bool.false_and]
  have h2 : (Int32.ofInt x &&& Int32.ofInt 127).toInt = (((Int32.ofInt x).toBitVec &&& 127#32).toNat : Int) := by
    show ((Int32.ofInt x).toBitVec &&& 127#32).toInt = _
    rw [BitVec.toInt_eq_toNat_of_lt]
    have : ((Int32.ofInt x).toBitVec &&& 127#32).toNat ≤ 127 := by
      rw [BitVec.toNat_and]
      exact Nat.and_le_right
    omega
  have h3 : ((Int32.ofInt x).toBitVec &&& 127#32).toNat ≤ 127 := by
    rw [BitVec.toNat_and]
    exact Nat.and_le_right
  unfold b_and at e
  rw [h2] at e
  omega
theorem b_and_lt {x y : Int} (hx : 0 ≤ x ∧ x < 128) : 0 ≤ b_and x y ∧ b_and x y < 128 := bt_lt (a_r32 _) fun j h7 h1 => by rw [bt_and, bt_hi hx ⟨h7, h1⟩, Bool.false_and]
theorem b_and_lt2 {x y : Int} (hy : 0 ≤ y ∧ y < 128) : 0 ≤ b_and x y ∧ b_and x y < 128 := bt_lt (a_r32 _) fun j h7 h1 => by rw [bt_and, bt_hi hy ⟨h7, h1⟩, Bool.and_false]
theorem b_or_lt {x y : Int} (hx : 0 ≤ x ∧ x < 128) (hy : 0 ≤ y ∧ y < 128) : 0 ≤ b_or x y ∧ b_or x y < 128 := bt_lt (a_r32 _) fun j h7 h1 => by rw [bt_or, bt_hi hx ⟨h7, h1⟩, bt_hi hy ⟨h7, h1⟩]; rfl
theorem b_xor_lt {x y : Int} (hx : 0 ≤ x ∧ x < 128) (hy : 0 ≤ y ∧ y < 128) : 0 ≤ b_xor x y ∧ b_xor x y < 128 := bt_lt (a_r32 _) fun j h7 h1 => by rw [bt_xor, bt_hi hx ⟨h7, h1⟩, bt_hi hy ⟨h7, h1⟩]; rfl
theorem b_shl1_lt {i : Int} (hi : 0 ≤ i ∧ i < 7) : 0 ≤ b_shl 1 i ∧ b_shl 1 i < 128 := bt_fin (n := 7) (m := 1) (P := fun i _ => 0 ≤ b_shl 1 i ∧ b_shl 1 i < 128) (by decide +kernel) hi (b := 0) (by omega)
theorem hb_or {x y h : Int} (hx : 0 ≤ x ∧ x < 128) (hy : 0 ≤ y ∧ y < 128) (hh : 0 ≤ h ∧ h < 7) : hb (b_or x y) h = 1 ↔ hb x h = 1 ∨ hb y h = 1 := by
  rw [hb_iff (b_or_lt hx hy) hh, hb_iff hx hh, hb_iff hy hh, bt_or, Bool.or_eq_true]
theorem hb_and {x y h : Int} (hx : 0 ≤ x ∧ x < 128) (hy : 0 ≤ y ∧ y < 128) (hh : 0 ≤ h ∧ h < 7) : hb (b_and x y) h = 1 ↔ hb x h = 1 ∧ hb y h = 1 := by
  rw [hb_iff (b_and_lt hx) hh, hb_iff hx hh, hb_iff hy hh, bt_and, Bool.and_eq_true]
theorem hb_shl1 {i h : Int} (hi : 0 ≤ i ∧ i < 7) (hh : 0 ≤ h ∧ h < 7) : hb (b_shl 1 i) h = 1 ↔ h = i := by
  rw [hb_iff (b_shl1_lt hi) hh, bt_shl1 ⟨hi.1, by omega⟩ ⟨hh.1, by omega⟩, decide_eq_true_eq]
/-- x without y's bits: x & ~y -/
theorem hb_andn {x y h : Int} (hx : 0 ≤ x ∧ x < 128) (hy : 0 ≤ y ∧ y < 128) (hh : 0 ≤ h ∧ h < 7) : hb (b_and x (b_xor y (-1))) h = 1 ↔ hb x h = 1 ∧ ¬ hb y h = 1 := by
  rw [hb_iff (b_and_lt hx) hh, hb_iff hx hh, hb_iff hy hh, bt_and, bt_xor, bt_m1 ⟨hh.1, by omega⟩]
  cases bt x h <;> cases bt y h <;> simp
theorem b_zero_iff {x : Int} (hx : 0 ≤ x ∧ x < 128) : x = 0 ↔ ∀ h : Int, 0 ≤ h → h < 7 → ¬ hb x h = 1 := by
  constructor
  · intro e h h0 h1
    subst e
    rw [hb_iff hx ⟨h0, h1⟩, bt_zero]
    decide
  · intro h
    refine hb_ext hx (by omega) fun j h0 h1 => ⟨fun q => absurd q (h j h0 h1), fun q => ?_⟩
    rw [hb_iff (by omega) ⟨h0, h1⟩, bt_zero] at q
    cases q
/-! sums, firsts, alls -/
def sumN (f : Int → Int) : Nat → Int
  | 0 => 0
  | n + 1 => sumN f n + f n
def firstB (p : Int → Bool) : Nat → Int
  | 0 => -1
  | n + 1 => if firstB p n = -1 then (if p n = true then n else -1) else firstB p n
def allB (p : Int → Bool) : Nat → Bool
  | 0 => true
  | n + 1 => allB p n && p n
theorem allB_iff {p : Int → Bool} : ∀ {n : Nat}, allB p n = true ↔ ∀ i : Int, 0 ≤ i → i < n → p i = true
  | 0 => ⟨fun _ i h0 h1 => by omega, fun _ => rfl⟩
  | n + 1 => by
    unfold allB
    rw [Bool.and_eq_true, allB_iff (n := n)]
    constructor
    · intro h i h0 h1
      by_cases e : i < n
      · exact h.1 i h0 e
      · rw [show i = n by omega]; exact h.2
    · exact fun h => ⟨fun i h0 h1 => h i h0 (by omega), h n (by omega) (by omega)⟩
theorem firstB_none {p : Int → Bool} : ∀ {n : Nat}, firstB p n = -1 ↔ ∀ i : Int, 0 ≤ i → i < n → p i = false
  | 0 => ⟨fun _ i h0 h1 => by omega, fun _ => rfl⟩
  | n + 1 => by
    unfold firstB
    constructor
    · intro h i h0 h1
      by_cases e9 : firstB p n = -1
      · rw [if_pos e9] at h
        by_cases e : i < n
        · exact firstB_none.mp e9 i h0 e
        · rw [show i = n by omega]
          cases hp : p n
          · rfl
          · rw [hp, if_pos rfl] at h; omega
      · rw [if_neg e9] at h
        exact absurd h e9
    · intro h
      rw [if_pos (firstB_none.mpr fun i h0 h1 => h i h0 (by omega)), h n (by omega) (by omega)]
      rfl
theorem firstB_some {p : Int → Bool} : ∀ {n : Nat} {v : Int}, 0 ≤ v → v < n → p v = true → (∀ i : Int, 0 ≤ i → i < v → p i = false) → firstB p n = v
  | 0, v, h0, h1, _, _ => by omega
  | n + 1, v, h0, h1, hp, hn => by
    unfold firstB
    by_cases e : v < n
    · rw [firstB_some h0 e hp hn, if_neg (by omega)]
    · have ev : v = n := by omega
      subst ev
      rw [if_pos (firstB_none.mpr fun i g0 g1 => hn i g0 g1), hp, if_pos rfl]
theorem firstB_range {p : Int → Bool} : ∀ (n : Nat), firstB p n = -1 ∨ (0 ≤ firstB p n ∧ firstB p n < n ∧ p (firstB p n) = true)
  | 0 => Or.inl rfl
  | n + 1 => by
    unfold firstB
    by_cases e9 : firstB p n = -1
    · rw [if_pos e9]
      by_cases hp : p n = true
      · rw [if_pos hp]; exact Or.inr ⟨by omega, by omega, hp⟩
      · rw [if_neg hp]; exact Or.inl rfl
    · rw [if_neg e9]
      rcases firstB_range (p := p) n with h | h
      · exact absurd h e9
      · exact Or.inr ⟨h.1, by omega, h.2.2⟩
theorem sumN_le {f : Int → Int} {c : Int} : ∀ {n : Nat}, (∀ i : Int, 0 ≤ i → i < n → 0 ≤ f i ∧ f i ≤ c) → 0 ≤ sumN f n ∧ sumN f n ≤ n * c
  | 0, _ => by
    show (0 : Int) ≤ 0 ∧ (0 : Int) ≤ (0 : Nat) * c
    simp
  | n + 1, h => by
    have h1 := sumN_le (n := n) (c := c) fun i h0 h1 => h i h0 (by omega)
    have h2 := h n (by omega) (by omega)
    unfold sumN
    rw [show ((n + 1 : Nat) : Int) * c = n * c + c by rw [Int.natCast_add, Int.add_mul]; simp]
    omega
theorem sumN_congr {f g : Int → Int} : ∀ {n : Nat}, (∀ i : Int, 0 ≤ i → i < n → f i = g i) → sumN f n = sumN g n
  | 0, _ => rfl
  | n + 1, h => by
    unfold sumN
    rw [sumN_congr fun i h0 h1 => h i h0 (by omega), h n (by omega) (by omega)]
theorem sumN_1 (f : Int → Int) {i : Int} (h : 0 ≤ i) : sumN f (i + 1).toNat = sumN f i.toNat + f i := by
  rw [show (i + 1).toNat = i.toNat + 1 by omega]
  show sumN f i.toNat + f ((i.toNat : Nat) : Int) = _
  rw [show ((i.toNat : Nat) : Int) = i by omega]
theorem allB_1 (p : Int → Bool) {i : Int} (h : 0 ≤ i) : allB p (i + 1).toNat = (allB p i.toNat && p i) := by
  rw [show (i + 1).toNat = i.toNat + 1 by omega]
  show (allB p i.toNat && p ((i.toNat : Nat) : Int)) = _
  rw [show ((i.toNat : Nat) : Int) = i by omega]
