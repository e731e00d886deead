/-! prices: what the spec's functions are one by the next -/
theorem cartF_low {t : Int → Int} : ∀ {n : Nat} {j : Int}, 0 ≤ j → j ≤ n → cartF t n j = cartV t j
  | 0, j, h0, h1 => by
    have e : j = 0 := by omega
    subst e
    rfl
  | n + 1, j, h0, h1 => by
    by_cases e : j = n + 1
    · subst e
      unfold cartV
      rw [show ((n : Int) + 1).toNat = n + 1 by omega]
    · show (if j = (n : Int) + 1 then cartL t (cartF t n) ((n : Int) + 1) (t 233).toNat else cartF t n j) = _
      rw [if_neg e]
      exact cartF_low h0 (by omega)
theorem cartL_congr {t c d : Int → Int} {q : Int} (hK : TT t) (h : ∀ j, 0 ≤ j → j < q → c j = d j) (hq : 1 ≤ q) : ∀ n : Nat, (n : Int) ≤ t 233 → cartL t c q n = cartL t d q n
  | 0, _ => rfl
  | n + 1, hn => by
    have ih := cartL_congr hK h hq n (by omega)
    have k0 := hK.2.2.2.2 0 (by omega) (by omega)
    have kn := hK.2.2.2.2 n (by omega) (by omega)
    unfold cartL
    rw [ih, h _ (by omega) (by have := k0.1; rw [show (234 : Int) + 0 = 234 by rfl] at this; omega), h _ (by omega) (by omega)]
theorem cartV_eq {t : Int → Int} {q : Int} (hK : TT t) (hq : 1 ≤ q) : cartV t q = cartL t (cartV t) q (t 233).toNat := by
  unfold cartV
  rw [show q.toNat = (q - 1).toNat + 1 by omega]
  show (if q = (((q - 1).toNat : Nat) : Int) + 1 then cartL t (cartF t (q - 1).toNat) ((((q - 1).toNat : Nat) : Int) + 1) (t 233).toNat else cartF t (q - 1).toNat q) = _
  rw [if_pos (by omega), show (((q - 1).toNat : Nat) : Int) + 1 = q by omega]
  exact cartL_congr hK (fun j a b => cartF_low a (by omega)) hq _ (by have := hK.2.2.2.1; omega)
theorem cartL_r {t c : Int → Int} {q : Int} (hK : TT t) (h : ∀ j, 0 ≤ j → j < q → 0 ≤ c j ∧ c j ≤ 99 * j) (hq : 1 ≤ q) : ∀ n : Nat, (n : Int) ≤ t 233 → 0 ≤ cartL t c q n ∧ cartL t c q n ≤ 99 * q
  | 0, _ => by show (0 : Int) ≤ 0 ∧ (0 : Int) ≤ 99 * q; omega
  | n + 1, hn => by
    have ih := cartL_r hK h hq n (by omega)
    have k0 := hK.2.2.2.2 0 (by omega) (by omega)
    have kn := hK.2.2.2.2 n (by omega) (by omega)
    rw [show (234 : Int) + 0 = 234 by rfl, show (238 : Int) + 0 = 238 by rfl] at k0
    have h0 := h (max 0 (q - t 234)) (by omega) (by omega)
    have hn := h (max 0 (q - t (234 + (n : Int)))) (by omega) (by omega)
    unfold cartL
    split <;> omega
theorem cartV_r {t : Int → Int} (hK : TT t) : ∀ n : Nat, ∀ q : Int, 0 ≤ q → q ≤ n → 0 ≤ cartV t q ∧ cartV t q ≤ 99 * q
  | 0, q, h0, h1 => by
    have e : q = 0 := by omega
    subst e
    show (0 : Int) ≤ 0 ∧ (0 : Int) ≤ 99 * 0
    omega
  | n + 1, q, h0, h1 => by
    by_cases e : q ≤ n
    · exact cartV_r hK n q h0 e
    · rw [cartV_eq hK (by omega)]
      exact cartL_r hK (fun j a b => cartV_r hK n j a (by omega)) (by omega) _ (by have := hK.2.2.2.1; omega)
theorem sumV_1 {t : Int → Int} {q : Int} (hq : 1 ≤ q) : sumV t q.toNat = if priceV t q = -1 ∨ sumV t (q - 1).toNat = -1 then -1 else sumV t (q - 1).toNat + priceV t q := by
  rw [show q.toNat = (q - 1).toNat + 1 by omega]
  show (if priceV t ((((q - 1).toNat : Nat) : Int) + 1) = -1 ∨ sumV t (q - 1).toNat = -1 then -1 else sumV t (q - 1).toNat + priceV t ((((q - 1).toNat : Nat) : Int) + 1)) = _
  rw [show (((q - 1).toNat : Nat) : Int) + 1 = q by omega]
theorem sumV_r {t : Int → Int} (hK : TT t) : ∀ n : Nat, sumV t n = -1 ∨ 0 ≤ sumV t n ∧ sumV t n ≤ 99 * n
  | 0 => Or.inr (by show (0 : Int) ≤ 0 ∧ (0 : Int) ≤ 99 * 0; omega)
  | n + 1 => by
    have ih := sumV_r hK n
    have hp := priceV_r (q := (n : Int) + 1) hK
    unfold sumV
    split
    · exact Or.inl rfl
    · right
      omega
theorem plainV_r {t : Int → Int} {q : Int} (hK : TT t) (hq : 0 ≤ q) : plainV t q = -1 ∨ 0 ≤ plainV t q ∧ plainV t q ≤ 99 * q := by
  have hs := sumV_r hK q.toNat
  have hp := priceV_r (q := q) hK
  unfold plainV
  by_cases e : t 219 = 1
  · rw [if_pos e]
    omega
  · rw [if_neg e]
    by_cases e2 : priceV t q = -1
    · rw [if_pos e2]
      exact Or.inl rfl
    · rw [if_neg e2]
      right
      have h1 : 1 ≤ priceV t q ∧ priceV t q ≤ 99 := by omega
      have a1 : 0 ≤ q * priceV t q := Int.mul_nonneg hq (by omega)
      have a2 : q * priceV t q ≤ q * 99 := Int.mul_le_mul_of_nonneg_left h1.2 hq
      omega
theorem singleV_r {t : Int → Int} {q : Int} (hK : TT t) (hq : 0 ≤ q) : singleV t q = -1 ∨ 0 ≤ singleV t q ∧ singleV t q ≤ 198 * q := by
  have h1 := plainV_r hK hq
  have h2 := cartV_r hK q.toNat q hq (by omega)
  unfold singleV
  split
  · exact Or.inl rfl
  · right
    omega
theorem sevF_low {t : Int → Int} : ∀ {n : Nat} {j : Int}, 0 ≤ j → j ≤ n → sevF t n j = sevV t j
  | 0, j, h0, h1 => by
    have e : j = 0 := by omega
    subst e
    rfl
  | n + 1, j, h0, h1 => by
    by_cases e : j = n + 1
    · subst e
      unfold sevV
      rw [show ((n : Int) + 1).toNat = n + 1 by omega]
    · show (if j = (n : Int) + 1 then splitL t (sevF t n) ((n : Int) + 1) (n + 1) else sevF t n j) = _
      rw [if_neg e]
      exact sevF_low h0 (by omega)
theorem splitL_congr {t f g : Int → Int} {q : Int} (h : ∀ j, 0 ≤ j → j < q → f j = g j) : ∀ n : Nat, (n : Int) ≤ q → splitL t f q n = splitL t g q n
  | 0, _ => rfl
  | n + 1, hn => by
    unfold splitL
    rw [splitL_congr h n (by omega), h _ (by omega) (by omega)]
theorem sevV_eq {t : Int → Int} {q : Int} (hq : 1 ≤ q) : sevV t q = splitL t (sevV t) q q.toNat := by
  have e : sevV t q = sevF t ((q - 1).toNat + 1) q := by
    unfold sevV
    rw [show q.toNat = (q - 1).toNat + 1 by omega]
  rw [e]
  show (if q = (((q - 1).toNat : Nat) : Int) + 1 then splitL t (sevF t (q - 1).toNat) ((((q - 1).toNat : Nat) : Int) + 1) ((q - 1).toNat + 1) else sevF t (q - 1).toNat q) = _
  rw [if_pos (by omega), show (((q - 1).toNat : Nat) : Int) + 1 = q by omega, show (q - 1).toNat + 1 = q.toNat by omega]
  exact splitL_congr (fun j a b => sevF_low a (by omega)) _ (by omega)
theorem splitL_1 {t f : Int → Int} {q i : Int} (h : 0 ≤ i) : splitL t f q (i + 1).toNat = omin (splitL t f q i.toNat) (oadd (singleV t (i + 1)) (f (q - (i + 1)))) := by
  rw [show (i + 1).toNat = i.toNat + 1 by omega]
  show omin (splitL t f q i.toNat) (oadd (singleV t (((i.toNat : Nat) : Int) + 1)) (f (q - (((i.toNat : Nat) : Int) + 1)))) = _
  rw [show ((i.toNat : Nat) : Int) = i by omega]
theorem splitL_r {t f : Int → Int} {q : Int} (hK : TT t) (h : ∀ j, 0 ≤ j → j < q → f j = -1 ∨ 0 ≤ f j ∧ f j ≤ 198 * j) : ∀ n : Nat, (n : Int) ≤ q → splitL t f q n = -1 ∨ 0 ≤ splitL t f q n ∧ splitL t f q n ≤ 198 * q
  | 0, _ => Or.inl rfl
  | n + 1, hn => by
    have ih := splitL_r hK h n (by omega)
    have h1 := singleV_r (q := (n : Int) + 1) hK (by omega)
    have h2 := h (q - ((n : Int) + 1)) (by omega) (by omega)
    unfold splitL omin oadd
    (repeat' split) <;> omega
theorem sevV_r {t : Int → Int} (hK : TT t) : ∀ n : Nat, ∀ q : Int, 0 ≤ q → q ≤ n → sevV t q = -1 ∨ 0 ≤ sevV t q ∧ sevV t q ≤ 198 * q
  | 0, q, h0, h1 => by
    have e : q = 0 := by omega
    subst e
    right
    show (0 : Int) ≤ 0 ∧ (0 : Int) ≤ 198 * 0
    omega
  | n + 1, q, h0, h1 => by
    by_cases e : q ≤ n
    · exact sevV_r hK n q h0 e
    · rw [sevV_eq (by omega)]
      exact splitL_r hK (fun j a b => sevV_r hK n j a (by omega)) _ (by omega)
