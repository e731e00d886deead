/-! a seller's steps gain no more than his price alone -/
/-- both none, or both some and the first no more -/
def nle (a b : Int) : Prop := (a = -1 ∧ b = -1) ∨ (0 ≤ a ∧ a ≤ b)
/-- the second none, or both some and the first no more -/
def mle (a b : Int) : Prop := b = -1 ∨ (0 ≤ a ∧ a ≤ b)
theorem omin_nle {a b c d : Int} (h : nle a b) (k : nle c d) : nle (omin a c) (omin b d) := by
  unfold nle omin at *
  (repeat' split) <;> omega
theorem oadd_nle {a b c d : Int} (h : nle a b) (k : nle c d) : nle (oadd a c) (oadd b d) := by
  unfold nle oadd at *
  (repeat' split) <;> omega
theorem bestL_nle {c d : Int → Int} : ∀ n : Nat, (∀ i : Int, 0 ≤ i → i < n → nle (c i) (d i)) → nle (bestL c n) (bestL d n)
  | 0, _ => Or.inl ⟨rfl, rfl⟩
  | n + 1, h => omin_nle (bestL_nle n fun i a b => h i a (by omega)) (h n (by omega) (by omega))
theorem stepV_s (t : Int → Int) (q : Int) (k : Nat) : stepV t q (k + 1) = if t (221 + (k : Int)) ≤ q ∧ (stepV t q k).1 < t (221 + (k : Int)) then (t (221 + (k : Int)), t (227 + (k : Int))) else stepV t q k := rfl
theorem price_p {t : Int → Int} {p q : Int} (hq : 1 ≤ q) : priceV (stepT t p 0 0) q = p := by
  have e : stepV (stepT t p 0 0) q 1 = (1, p) := by
    rw [stepV_s]
    exact if_pos ⟨hq, show (0 : Int) < 1 by decide⟩
  show (stepV (stepT t p 0 0) q 1).2 = p
  rw [e]
theorem price_s {t : Int → Int} {p n r q : Int} (hq : 1 ≤ q) (hn : 2 ≤ n) : priceV (stepT t p n r) q = if n ≤ q then r else p := by
  have e0 : (stepT t p n r 220).toNat = 2 := by
    have : stepT t p n r 220 = if n = 0 then 1 else 2 := rfl
    rw [this, if_neg (by omega)]
    rfl
  have e1 : stepV (stepT t p n r) q 1 = (1, p) := by
    rw [stepV_s]
    exact if_pos ⟨hq, show (0 : Int) < 1 by decide⟩
  unfold priceV
  rw [e0, stepV_s, e1]
  show (if n ≤ q ∧ (1 : Int) < n then ((n, r) : Int × Int) else (1, p)).2 = _
  by_cases h : n ≤ q
  · rw [if_pos ⟨h, by omega⟩, if_pos h]
  · rw [if_neg fun x => h x.1, if_neg h]
/-- what is asked of the steps -/
def stepOK (p n r : Int) : Prop := 1 ≤ p ∧ 2 ≤ n ∧ 1 ≤ r ∧ r ≤ p
theorem price_le {t : Int → Int} {p n r q : Int} (h : stepOK p n r) (hq : 1 ≤ q) : 1 ≤ priceV (stepT t p n r) q ∧ priceV (stepT t p n r) q ≤ p := by
  obtain ⟨h1, h2, h3, h4⟩ := h
  rw [price_s hq h2]
  split <;> omega
theorem sum_le {t : Int → Int} {p n r : Int} (h : stepOK p n r) : ∀ k : Nat, 0 ≤ sumV (stepT t p n r) k ∧ sumV (stepT t p n r) k ≤ sumV (stepT t p 0 0) k
  | 0 => ⟨Int.le_refl 0, Int.le_refl 0⟩
  | k + 1 => by
    have ih := sum_le (t := t) h k
    have h1 := price_le (t := t) (q := (k : Int) + 1) h (by omega)
    have h2 := price_p (t := t) (p := p) (q := (k : Int) + 1) (by omega)
    unfold sumV
    rw [h2, if_neg (by omega), if_neg (by have := h.1; omega)]
    omega
theorem plain_le {t : Int → Int} {p n r q : Int} (h : stepOK p n r) (hq : 1 ≤ q) : 0 ≤ plainV (stepT t p n r) q ∧ plainV (stepT t p n r) q ≤ plainV (stepT t p 0 0) q := by
  have h1 := price_le (t := t) (q := q) h hq
  have h2 := price_p (t := t) (p := p) hq
  have h3 := sum_le (t := t) h q.toNat
  unfold plainV
  rw [stepT_o (by omega), stepT_o (by omega), h2]
  by_cases e : t 219 = 1
  · rw [if_pos e, if_pos e]
    exact h3
  · rw [if_neg e, if_neg e, if_neg (by omega), if_neg (by have := h.1; omega)]
    exact ⟨Int.mul_nonneg (by omega) (by omega), Int.mul_le_mul_of_nonneg_left h1.2 (by omega)⟩
theorem plain_up {t : Int → Int} {p q : Int} (hp : 1 ≤ p) (hq : 1 ≤ q) : 0 ≤ plainV (stepT t p 0 0) q ∧ plainV (stepT t p 0 0) q ≤ plainV (stepT t p 0 0) (q + 1) := by
  have h1 := price_p (t := t) (p := p) hq
  have h2 := price_p (t := t) (p := p) (q := q + 1) (by omega)
  have h3 := sum_le (t := t) (p := p) (n := 2) (r := p) ⟨hp, by omega, hp, by omega⟩ q.toNat
  have h4 := sumV_1 (t := stepT t p 0 0) (q := q + 1) (by omega)
  unfold plainV
  rw [stepT_o (by omega), h1, h2]
  by_cases e : t 219 = 1
  · rw [if_pos e, if_pos e, h4, h2, show q + 1 - 1 = q by omega, if_neg (by omega)]
    omega
  · rw [if_neg e, if_neg e, if_neg (by omega), if_neg (by omega), Int.add_mul]
    exact ⟨Int.mul_nonneg (by omega) (by omega), by omega⟩
theorem cartL_st {t c : Int → Int} {p n r q : Int} : ∀ k : Nat, cartL (stepT t p n r) c q k = cartL t c q k
  | 0 => rfl
  | k + 1 => by
    unfold cartL
    rw [cartL_st k, stepT_o (j := 238) (by omega), stepT_o (j := 234) (by omega), stepT_o (j := 238 + (k : Int)) (by omega), stepT_o (j := 234 + (k : Int)) (by omega)]
theorem cartF_st {t : Int → Int} {p n r : Int} : ∀ k : Nat, cartF (stepT t p n r) k = cartF t k
  | 0 => rfl
  | k + 1 => by
    funext j
    show (if j = (k : Int) + 1 then cartL (stepT t p n r) (cartF (stepT t p n r) k) ((k : Int) + 1) (stepT t p n r 233).toNat else cartF (stepT t p n r) k j) = _
    rw [cartF_st k, cartL_st, stepT_o (by omega)]
    rfl
theorem cartV_st {t : Int → Int} {p n r q : Int} : cartV (stepT t p n r) q = cartV t q := by
  unfold cartV
  rw [cartF_st]
theorem cartL_up {t c : Int → Int} {q : Int} (hK : TT t) (h : ∀ x, 0 ≤ x → x < q → c x ≤ c (x + 1)) (hq : 1 ≤ q) : ∀ k : Nat, (k : Int) ≤ t 233 → cartL t c q k ≤ cartL t c (q + 1) k
  | 0, _ => Int.le_refl 0
  | k + 1, hk => by
    have ih := cartL_up hK h hq k (by omega)
    have k0 := hK.2.2.2.2 0 (by omega) (by omega)
    have kn := hK.2.2.2.2 k (by omega) (by omega)
    rw [show (234 : Int) + 0 = 234 by rfl, show (238 : Int) + 0 = 238 by rfl] at k0
    have key : ∀ w, 1 ≤ w → c (max 0 (q - w)) ≤ c (max 0 (q + 1 - w)) := by
      intro w hw
      by_cases e : w ≤ q
      · have := h (q - w) (by omega) (by omega)
        rw [show max 0 (q - w) = q - w by omega, show max 0 (q + 1 - w) = q - w + 1 by omega]
        exact this
      · rw [show max 0 (q - w) = 0 by omega, show max 0 (q + 1 - w) = 0 by omega]
        exact Int.le_refl _
    have a0 := key (t 234) (by omega)
    have an := key (t (234 + (k : Int))) (by omega)
    unfold cartL
    split
    · omega
    · omega
theorem cartV_up {t : Int → Int} (hK : TT t) : ∀ n : Nat, ∀ q : Int, 0 ≤ q → q ≤ n → cartV t q ≤ cartV t (q + 1)
  | 0, q, h0, h1 => by
    rw [show q = 0 by omega]
    have := cartV_r hK 1 1 (by omega) (by omega)
    exact this.1
  | n + 1, q, h0, h1 => by
    by_cases e : q ≤ n
    · exact cartV_up hK n q h0 e
    · rw [cartV_eq hK (q := q) (by omega), cartV_eq hK (q := q + 1) (by omega)]
      have z := cartL_up (c := cartV t) hK (fun x a b => cartV_up hK n x a (by omega)) (show 1 ≤ q by omega) (t 233).toNat (by have := hK.2.2.2.1; omega)
      exact z
theorem single_le {t : Int → Int} {p n r q : Int} (hK : TT t) (h : stepOK p n r) (hq : 1 ≤ q) : nle (singleV (stepT t p n r) q) (singleV (stepT t p 0 0) q) := by
  have h1 := plain_le (t := t) h hq
  have h2 := cartV_r hK q.toNat q (by omega) (by omega)
  unfold singleV
  rw [if_neg (by omega), if_neg (by omega), cartV_st, cartV_st]
  right
  omega
theorem single_up {t : Int → Int} {p q : Int} (hK : TT t) (hp : 1 ≤ p) (hq : 1 ≤ q) : 0 ≤ singleV (stepT t p 0 0) q ∧ singleV (stepT t p 0 0) q ≤ singleV (stepT t p 0 0) (q + 1) := by
  have h1 := plain_up (t := t) hp hq
  have h2 := cartV_up hK q.toNat q (by omega) (by omega)
  have h3 := cartV_r hK q.toNat q (by omega) (by omega)
  unfold singleV
  rw [if_neg (by omega), if_neg (by omega), cartV_st, cartV_st]
  omega
theorem splitL_nle {t u f g : Int → Int} {q : Int} (h : ∀ i : Int, 1 ≤ i → nle (singleV t i) (singleV u i)) (k : ∀ j, 0 ≤ j → j < q → nle (f j) (g j)) : ∀ n : Nat, (n : Int) ≤ q → nle (splitL t f q n) (splitL u g q n)
  | 0, _ => Or.inl ⟨rfl, rfl⟩
  | n + 1, hn => omin_nle (splitL_nle h k n (by omega)) (oadd_nle (h _ (by omega)) (k _ (by omega) (by omega)))
theorem sev_le {t : Int → Int} {p n r : Int} (hK : TT t) (h : stepOK p n r) : ∀ k : Nat, ∀ q : Int, 0 ≤ q → q ≤ k → nle (sevV (stepT t p n r) q) (sevV (stepT t p 0 0) q)
  | 0, q, h0, h1 => by
    rw [show q = 0 by omega]
    exact Or.inr ⟨Int.le_refl 0, Int.le_refl 0⟩
  | k + 1, q, h0, h1 => by
    by_cases e : q ≤ k
    · exact sev_le hK h k q h0 e
    · rw [sevV_eq (t := stepT t p n r) (q := q) (by omega), sevV_eq (t := stepT t p 0 0) (q := q) (by omega)]
      exact splitL_nle (fun i a => single_le hK h a) (fun j a b => sev_le hK h k j a (by omega)) _ (by omega)
theorem splitL_or {t f : Int → Int} {q : Int} : ∀ n : Nat, splitL t f q n = -1 ∨ ∃ i : Int, 1 ≤ i ∧ i ≤ n ∧ singleV t i ≠ -1 ∧ f (q - i) ≠ -1 ∧ splitL t f q n = singleV t i + f (q - i)
  | 0 => Or.inl rfl
  | n + 1 => by
    have ih := splitL_or (t := t) (f := f) (q := q) n
    have e : splitL t f q (n + 1) = omin (splitL t f q n) (oadd (singleV t ((n : Int) + 1)) (f (q - ((n : Int) + 1)))) := rfl
    have hl : splitL t f q (n + 1) = splitL t f q n ∨ (splitL t f q (n + 1) = oadd (singleV t ((n : Int) + 1)) (f (q - ((n : Int) + 1)))) := by
      rw [e]
      unfold omin
      (repeat' split) <;> omega
    rcases hl with q1 | q1
    · rcases ih with z | ⟨i, a, b, c, d, g⟩
      · exact Or.inl (q1.trans z)
      · exact Or.inr ⟨i, a, by omega, c, d, q1.trans g⟩
    · unfold oadd at q1
      by_cases z : singleV t ((n : Int) + 1) = -1 ∨ f (q - ((n : Int) + 1)) = -1
      · rw [if_pos z] at q1
        exact Or.inl q1
      · rw [if_neg z] at q1
        exact Or.inr ⟨(n : Int) + 1, by omega, by omega, fun w => z (Or.inl w), fun w => z (Or.inr w), q1⟩
theorem splitL_le {t f : Int → Int} {q i : Int} (hs : ∀ j : Int, 1 ≤ j → j ≤ q → -1 ≤ singleV t j) (hf : ∀ j, 0 ≤ j → j < q → -1 ≤ f j) (h1 : 1 ≤ i) (h2 : singleV t i ≠ -1) (h3 : f (q - i) ≠ -1) : ∀ n : Nat, (n : Int) ≤ q → -1 ≤ splitL t f q n ∧ (i ≤ n → splitL t f q n ≠ -1 ∧ splitL t f q n ≤ singleV t i + f (q - i))
  | 0, _ => ⟨Int.le_refl _, fun h => by omega⟩
  | n + 1, hn => by
    have ih := splitL_le hs hf h1 h2 h3 n (by omega)
    have e : splitL t f q (n + 1) = omin (splitL t f q n) (oadd (singleV t ((n : Int) + 1)) (f (q - ((n : Int) + 1)))) := rfl
    have a1 := hs ((n : Int) + 1) (by omega) (by omega)
    have a2 := hf (q - ((n : Int) + 1)) (by omega) (by omega)
    rw [e]
    by_cases c : i ≤ n
    · have i2 := ih.2 c
      unfold omin oadd
      refine ⟨?_, fun _ => ?_⟩ <;> (repeat' split) <;> omega
    · refine ⟨by unfold omin oadd; (repeat' split) <;> omega, fun h => ?_⟩
      have ei : i = (n : Int) + 1 := by omega
      rw [← ei] at a1 a2 ⊢
      have i1 := ih.1
      unfold omin oadd
      (repeat' split) <;> omega
theorem sev_up {t : Int → Int} {p q : Int} (hK : TT (stepT t p 0 0)) (hT : TT t) (hp : 1 ≤ p) (hq : 0 ≤ q) : mle (sevV (stepT t p 0 0) q) (sevV (stepT t p 0 0) (q + 1)) := by
  have r0 : ∀ j, 0 ≤ j → sevV (stepT t p 0 0) j = -1 ∨ 0 ≤ sevV (stepT t p 0 0) j := fun j a => (sevV_r hK j.toNat j a (by omega)).imp id fun x => x.1
  have rs : ∀ j, 1 ≤ j → 0 ≤ singleV (stepT t p 0 0) j := fun j a => (single_up hT hp a).1
  have rq := r0 q hq
  have r1 := r0 (q + 1) (by omega)
  rcases splitL_or (t := stepT t p 0 0) (f := sevV (stepT t p 0 0)) (q := q + 1) (q + 1).toNat with z | ⟨i, a, b, c, d, g⟩
  · exact Or.inl ((sevV_eq (by omega)).trans z)
  · rw [← sevV_eq (by omega)] at g
    have ri := rs i a
    have rr := r0 (q + 1 - i) (by omega)
    by_cases i1 : i = 1
    · rw [i1, show q + 1 - 1 = q by omega] at g d
      rw [i1] at ri
      right
      omega
    · have u := single_up (t := t) (p := p) (q := i - 1) hT hp (by omega)
      rw [show i - 1 + 1 = i by omega] at u
      have z := (splitL_le (t := stepT t p 0 0) (f := sevV (stepT t p 0 0)) (q := q) (i := i - 1) (fun j x y => by have := rs j x; omega) (fun j x y => by have := r0 j x; omega) (by omega) (by omega) (by rw [show q - (i - 1) = q + 1 - i by omega]; exact d) q.toNat (by omega)).2 (by omega)
      rw [← sevV_eq (by omega), show q - (i - 1) = q + 1 - i by omega] at z
      right
      omega
theorem buys_le {t : Int → Int} {p n r q m : Int} (hK : TQ t) (h : stepOK p n r) (hq : 0 ≤ q) (hm : 0 ≤ m ∧ m < 6) : nle (buysV (stepT t p n r) q m) (buysV (stepT t p 0 0) q m) := by
  have z := sev_le (t := t) hK.1 h q.toNat q hq (by omega)
  have h0 := Int.mul_nonneg hq (hK.2.2.2.2.2.2 m hm.1 hm.2).1
  unfold buysV
  rw [stepT_o (by omega), stepT_o (by omega)]
  unfold nle at *
  (repeat' split) <;> omega
theorem buys_up {t : Int → Int} {p q m : Int} (hK : TQ t) (hp : 1 ≤ p ∧ p ≤ 99) (hq : 0 ≤ q) (hm : 0 ≤ m ∧ m < 6) : mle (buysV (stepT t p 0 0) q m) (buysV (stepT t p 0 0) (q + 1) m) := by
  have z := sev_up (t := t) (q := q) (stepT_tq hK hp (Or.inl rfl)).1 hK.1 hp.1 hq
  have h0 := Int.mul_nonneg hq (hK.2.2.2.2.2.2 m hm.1 hm.2).1
  have h1 := (hK.2.2.2.2.2.2 m hm.1 hm.2).1
  unfold buysV
  rw [stepT_o (by omega), Int.add_mul]
  unfold mle at *
  (repeat' split) <;> omega
theorem want_st {t : Int → Int} {p n r set m : Int} (hm : 0 ≤ m ∧ m < 6) : wantV (stepT t p n r) set m = wantV t set m := by
  unfold wantV
  refine sumN_congr fun i a b => ?_
  rw [stepT_o (by omega)]
theorem room_st {t : Int → Int} {p n r set : Int} : roomV (stepT t p n r) set = roomV t set := by
  unfold roomV
  refine sumN_congr fun i a b => ?_
  rw [stepT_o (by omega)]
theorem plan_le {t : Int → Int} {p n r set : Int} (hK : TQ t) (h : stepOK p n r) : ∀ k : Nat, (k : Int) ≤ t 244 → ∀ kept, nle (planV (stepT t p n r) set k kept) (planV (stepT t p 0 0) set k kept)
  | 0, _, _ => Or.inr ⟨Int.le_refl 0, Int.le_refl 0⟩
  | k + 1, hk, kept => by
    have h6 := hK.2.2.2.2.2.1
    have hkp := hK.2.2.2.2.1
    show nle (bestL (candV (stepT t p n r) set (t 244 - (k + 1)) kept (planV (stepT t p n r) set k)) (roomV (stepT t p n r) set + 1).toNat) (bestL (candV (stepT t p 0 0) set (t 244 - (k + 1)) kept (planV (stepT t p 0 0) set k)) (roomV (stepT t p 0 0) set + 1).toNat)
    rw [room_st, room_st]
    refine bestL_nle _ fun i a b => ?_
    have ih := plan_le (set := set) hK h k (by omega) i
    unfold candV
    rw [want_st (by omega), want_st (by omega), stepT_o (j := 243) (by omega), stepT_o (j := 243) (by omega)]
    by_cases c : wantV t set (t 244 - (k + 1)) + i - kept < 0
    · rw [if_pos (Or.inl c), if_pos (Or.inl c)]
      exact Or.inl ⟨rfl, rfl⟩
    · have z := buys_le (t := t) (q := wantV t set (t 244 - (k + 1)) + i - kept) (m := t 244 - (k + 1)) hK h (by omega) (by omega)
      have h0 := Int.mul_nonneg hkp.1 a
      unfold nle at *
      (repeat' split) <;> omega
theorem all_le {t : Int → Int} {p n r set : Int} (hK : TQ t) (h : stepOK p n r) : nle (allV (stepT t p n r) set) (allV (stepT t p 0 0) set) := by
  have h6 := hK.2.2.2.2.2.1
  exact plan_le hK h (t 244).toNat (by omega) 0
theorem hold_st {t : Int → Int} {p n r set : Int} : holdV (stepT t p n r) set = holdV t set ∧ barV (stepT t p n r) set = barV t set :=
  ⟨holdV_cg fun j a b => stepT_o (by omega), barV_cg fun j a b => stepT_o (by omega)⟩
theorem cost_le {t : Int → Int} {p n r set : Int} (hK : TQ t) (h : stepOK p n r) (hs : 0 < set ∧ set < 128) : nle (costV (stepT t p n r) set) (costV (stepT t p 0 0) set) := by
  have z := all_le (t := t) (set := set) hK h
  obtain ⟨h1, h2, h3, h4⟩ := h
  have e1 := hold_st (t := t) (p := p) (n := n) (r := r) (set := set)
  have e2 := hold_st (t := t) (p := p) (n := 0) (r := 0) (set := set)
  unfold costV
  rw [e1.1, e1.2, stepT_o (j := 242) (by omega), e2.1, e2.2, stepT_o (j := 242) (by omega)]
  by_cases c : barV t set = true ∨ holdV t set = -1
  · rw [if_pos (by rcases c with c | c; exact Or.inl c; exact Or.inr (Or.inl c)), if_pos (by rcases c with c | c; exact Or.inl c; exact Or.inr (Or.inl c))]
    exact Or.inl ⟨rfl, rfl⟩
  · by_cases a : allV (stepT t p n r) set = -1
    · have b : allV (stepT t p 0 0) set = -1 := by unfold nle at z; omega
      rw [if_pos (Or.inr (Or.inr a)), if_pos (Or.inr (Or.inr b))]
      exact Or.inl ⟨rfl, rfl⟩
    · have b : allV (stepT t p 0 0) set ≠ -1 := by unfold nle at z; omega
      have ca : ¬ (barV t set = true ∨ holdV t set = -1 ∨ allV (stepT t p n r) set = -1) := fun x => by
        rcases x with x | x | x
        · exact c (Or.inl x)
        · exact c (Or.inr x)
        · exact a x
      have cb : ¬ (barV t set = true ∨ holdV t set = -1 ∨ allV (stepT t p 0 0) set = -1) := fun x => by
        rcases x with x | x | x
        · exact c (Or.inl x)
        · exact c (Or.inr x)
        · exact b x
      rw [if_neg ca, if_neg cb]
      have g := hK.2.2.2.1
      have sz := size_pos hs
      have nn := Int.mul_nonneg g.1 (show 0 ≤ sumN (hb set) 7 - 1 by omega)
      unfold nle at *
      right
      omega
theorem totF_le {c d : Int → Int} (h : ∀ g, 0 < g → g < 128 → nle (c g) (d g)) : ∀ (k : Nat) (s : Int), 0 ≤ s → s < 128 → nle (totF c k s) (totF d k s)
  | 0, _, _, _ => Or.inr ⟨Int.le_refl 0, Int.le_refl 0⟩
  | k + 1, s, a, b => by
    unfold totF
    by_cases s0 : s = 0
    · rw [if_pos s0, if_pos s0]
      exact Or.inr ⟨Int.le_refl 0, Int.le_refl 0⟩
    · rw [if_neg s0, if_neg s0]
      refine bestL_nle _ fun g g0 g1 => ?_
      unfold grpC
      by_cases q : 0 < g ∧ b_and g (b_xor s (-1)) = 0 ∧ hb g (lowV s) = 1
      · have hg := h g q.1 (by omega)
        have hx := b_xor_lt (x := s) (y := g) ⟨a, b⟩ ⟨g0, by omega⟩
        have ih := totF_le h k (b_xor s g) hx.1 hx.2
        have ho := ones_0 (b_xor s g)
        by_cases e : c g ≠ -1 ∧ totF c k (b_xor s g) ≠ -1
        · have e' : d g ≠ -1 ∧ totF d k (b_xor s g) ≠ -1 := by unfold nle at hg ih; omega
          rw [if_pos ⟨q.1, q.2.1, q.2.2, e.1, e.2⟩, if_pos ⟨q.1, q.2.1, q.2.2, e'.1, e'.2⟩]
          right
          unfold nle at hg ih
          omega
        · have e' : ¬ (d g ≠ -1 ∧ totF d k (b_xor s g) ≠ -1) := by unfold nle at hg ih; omega
          rw [if_neg fun x => e ⟨x.2.2.2.1, x.2.2.2.2⟩, if_neg fun x => e' ⟨x.2.2.2.1, x.2.2.2.2⟩]
          exact Or.inl ⟨rfl, rfl⟩
      · rw [if_neg fun x => q ⟨x.1, x.2.1, x.2.2.1⟩, if_neg fun x => q ⟨x.1, x.2.1, x.2.2.1⟩]
        exact Or.inl ⟨rfl, rfl⟩
/-! by the price alone just the wants are bought; by steps as many or more -/
def needN (t : Int → Int) (set : Int) : Nat → Int
  | 0 => 0
  | k + 1 => wantV t set (t 244 - (k + 1)) + needN t set k
theorem need_st {t : Int → Int} {p n r set : Int} (hK : TQ t) : ∀ k : Nat, (k : Int) ≤ t 244 → needN (stepT t p n r) set k = needN t set k
  | 0, _ => rfl
  | k + 1, hk => by
    have h6 := hK.2.2.2.2.2.1
    show wantV (stepT t p n r) set (t 244 - (k + 1)) + needN (stepT t p n r) set k = wantV t set (t 244 - (k + 1)) + needN t set k
    rw [need_st hK k (by omega), want_st (by omega)]
theorem need_add {t : Int → Int} {s g : Int} (hK : TQ t) (hs : 0 ≤ s ∧ s < 128) (hg : 0 ≤ g ∧ g < 128) (hgs : b_and g (b_xor s (-1)) = 0) : ∀ k : Nat, (k : Int) ≤ t 244 → needN t s k = needN t g k + needN t (b_xor s g) k
  | 0, _ => rfl
  | k + 1, hk => by
    have h6 := hK.2.2.2.2.2.1
    have ih := need_add hK hs hg hgs k (by omega)
    have hw : wantV t s (t 244 - (k + 1)) = wantV t g (t 244 - (k + 1)) + wantV t (b_xor s g) (t 244 - (k + 1)) := by
      unfold wantV
      rw [← sumN_add]
      refine sumN_congr fun i a b => ?_
      have z := (sub_iff hg hs).mp hgs i a (by omega)
      have y := hb_sub hg hs hgs (h := i) ⟨a, by omega⟩
      by_cases e : hb g i = 1
      · rw [if_pos (z e), if_pos e, if_neg fun x => (y.mp x).2 e]
        omega
      · rw [if_neg e]
        by_cases f : hb s i = 1
        · rw [if_pos f, if_pos (y.mpr ⟨f, e⟩)]
          omega
        · rw [if_neg f, if_neg fun x => f (y.mp x).1]
          rfl
    unfold needN
    omega
theorem need_0 {t : Int → Int} : ∀ k : Nat, needN t 0 k = 0
  | 0 => rfl
  | k + 1 => by
    have ih := need_0 (t := t) k
    have hw : wantV t 0 (t 244 - (k + 1)) = 0 := by
      unfold wantV
      have e : sumN (fun h => if hb 0 h = 1 then t (8 + 6 * h + (t 244 - (k + 1))) else 0) 7 = sumN (fun _ => 0) 7 := sumN_congr fun i a b => if_neg ((b_zero_iff (x := 0) (by omega)).mp rfl i a (by omega))
      rw [e]
      rfl
    unfold needN
    omega
/-- what the best plan of k + 1 months is -/
theorem plan_or {t : Int → Int} {set kept : Int} {k : Nat} (hK : TQ t) (hs : 0 ≤ set ∧ set < 128) (hk : (k : Int) + 1 ≤ t 244) (hkp : 0 ≤ kept ∧ kept ≤ roomV t set) (hp : planV t set (k + 1) kept ≠ -1) : ∃ left, (0 ≤ left ∧ left ≤ roomV t set) ∧ 0 ≤ wantV t set (t 244 - (k + 1)) + left - kept ∧ buysV t (wantV t set (t 244 - (k + 1)) + left - kept) (t 244 - (k + 1)) ≠ -1 ∧ planV t set k left ≠ -1 ∧ planV t set (k + 1) kept = (buysV t (wantV t set (t 244 - (k + 1)) + left - kept) (t 244 - (k + 1)) + t 243 * left) * 512 + (wantV t set (t 244 - (k + 1)) + left - kept) + planV t set k left ∧ planV t set (k + 1) kept % 512 = (wantV t set (t 244 - (k + 1)) + left - kept) + planV t set k left % 512 := by
  have h6 := hK.2.2.2.2.2.1
  have hro := roomV_r hK hs
  rcases bestL_or (c := candV t set (t 244 - (k + 1)) kept (planV t set k)) (roomV t set + 1).toNat with ⟨z, -⟩ | ⟨left, a, b, c, d⟩
  · exact absurd z hp
  · have e : planV t set (k + 1) kept = candV t set (t 244 - (k + 1)) kept (planV t set k) left := c.symm
    have hw := wantV_r (m := t 244 - (k + 1)) hK hs (by omega)
    have hn := planV_r hK hs k (by omega) left a (by omega)
    unfold candV at d e
    by_cases q : wantV t set (t 244 - (k + 1)) + left - kept < 0 ∨ buysV t (wantV t set (t 244 - (k + 1)) + left - kept) (t 244 - (k + 1)) = -1 ∨ planV t set k left = -1
    · rw [if_pos q] at d
      exact absurd rfl d
    · rw [if_neg q] at e
      have q1 : 0 ≤ wantV t set (t 244 - (k + 1)) + left - kept := by omega
      have q2 : buysV t (wantV t set (t 244 - (k + 1)) + left - kept) (t 244 - (k + 1)) ≠ -1 := fun x => q (Or.inr (Or.inl x))
      have q3 : planV t set k left ≠ -1 := fun x => q (Or.inr (Or.inr x))
      refine ⟨left, ⟨a, by omega⟩, q1, q2, q3, e, ?_⟩
      rw [e]
      unfold okP at hn
      have hk5 : (k : Int) ≤ 5 := by omega
      omega
theorem plan_min {t : Int → Int} {set kept left : Int} {k : Nat} (hK : TQ t) (hs : 0 ≤ set ∧ set < 128) (hk : (k : Int) + 1 ≤ t 244) (hkp : 0 ≤ kept ∧ kept ≤ roomV t set) (hl : 0 ≤ left ∧ left ≤ roomV t set) (h0 : 0 ≤ wantV t set (t 244 - (k + 1)) + left - kept) (h1 : buysV t (wantV t set (t 244 - (k + 1)) + left - kept) (t 244 - (k + 1)) ≠ -1) (h2 : planV t set k left ≠ -1) : planV t set (k + 1) kept ≠ -1 ∧ planV t set (k + 1) kept ≤ (buysV t (wantV t set (t 244 - (k + 1)) + left - kept) (t 244 - (k + 1)) + t 243 * left) * 512 + (wantV t set (t 244 - (k + 1)) + left - kept) + planV t set k left := by
  have h6 := hK.2.2.2.2.2.1
  have hro := roomV_r hK hs
  have ok : ∀ i, 0 ≤ i → i ≤ roomV t set → -1 ≤ candV t set (t 244 - (k + 1)) kept (planV t set k) i := by
    intro i a b
    have hn := planV_r hK hs k (by omega) i a b
    have z := candV_r (m := t 244 - (k + 1)) (k := k) hK hs (by omega) (by omega) hkp ⟨a, b⟩ hn
    unfold okP at z
    omega
  have e : candV t set (t 244 - (k + 1)) kept (planV t set k) left = (buysV t (wantV t set (t 244 - (k + 1)) + left - kept) (t 244 - (k + 1)) + t 243 * left) * 512 + (wantV t set (t 244 - (k + 1)) + left - kept) + planV t set k left := by
    unfold candV
    exact if_neg fun x => by
      rcases x with x | x | x
      · omega
      · exact h1 x
      · exact h2 x
  have c0 := ok left hl.1 hl.2
  have hb9 := buysV_r (q := wantV t set (t 244 - (k + 1)) + left - kept) (m := t 244 - (k + 1)) hK h0 (by omega)
  have hn := planV_r hK hs k (by omega) left hl.1 hl.2
  have hkl := Int.mul_nonneg hK.2.2.2.2.1.1 hl.1
  have z := bestL_le (c := candV t set (t 244 - (k + 1)) kept (planV t set k)) (roomV t set + 1).toNat (i := left) (fun j a b => ok j a (by omega)) hl.1 (by omega) (by rw [e]; unfold okP at hn; omega)
  rw [e] at z
  exact z
theorem need_low {t : Int → Int} {set : Int} (hK : TQ t) (hs : 0 ≤ set ∧ set < 128) : ∀ k : Nat, (k : Int) ≤ t 244 → ∀ kept, 0 ≤ kept → kept ≤ roomV t set → planV t set k kept ≠ -1 → needN t set k ≤ planV t set k kept % 512 + kept
  | 0, _, kept, h0, _, _ => by
    show (0 : Int) ≤ (0 : Int) % 512 + kept
    omega
  | k + 1, hk, kept, h0, h1, hp => by
    obtain ⟨left, hl, a, b, c, d, e⟩ := plan_or hK hs (by omega) ⟨h0, h1⟩ hp
    have ih := need_low hK hs k (by omega) left hl.1 hl.2 c
    rw [e]
    unfold needN
    omega
theorem need_top {t : Int → Int} {p set : Int} (hK : TQ t) (hp : 1 ≤ p ∧ p ≤ 99) (hs : 0 ≤ set ∧ set < 128) : ∀ k : Nat, (k : Int) ≤ t 244 → ∀ kept, 0 ≤ kept → kept ≤ roomV t set → planV (stepT t p 0 0) set k kept ≠ -1 → needN t set k < planV (stepT t p 0 0) set k kept % 512 + kept → planV (stepT t p 0 0) set k kept % 512 = 0 ∧ 1 ≤ kept ∧ planV (stepT t p 0 0) set k (kept - 1) ≠ -1 ∧ planV (stepT t p 0 0) set k (kept - 1) ≤ planV (stepT t p 0 0) set k kept
  | 0, _, kept, h0, _, _, h3 => by
    have h4 : (0 : Int) < (0 : Int) % 512 + kept := h3
    refine ⟨rfl, by omega, ?_, Int.le_refl 0⟩
    show (0 : Int) ≠ -1
    decide
  | k + 1, hk, kept, h0, h1, h2, h3 => by
    have h6 := hK.2.2.2.2.2.1
    have hU : TQ (stepT t p 0 0) := stepT_tq hK hp (Or.inl rfl)
    have e4 : stepT t p 0 0 244 = t 244 := rfl
    have e3 : stepT t p 0 0 243 = t 243 := rfl
    obtain ⟨left, hl, a, b, c, d, e⟩ := plan_or (k := k) hU hs (by omega) ⟨h0, by rw [room_st]; exact h1⟩ h2
    rw [room_st] at hl
    rw [e4, want_st (by omega)] at a b d e
    rw [e3] at d
    have hn : needN t set (k + 1) = wantV t set (t 244 - (k + 1)) + needN t set k := rfl
    obtain ⟨i1, i2, i3, i4⟩ := need_top hK hp hs k (by omega) left hl.1 hl.2 c (by omega)
    have hkp := hK.2.2.2.2.1
    have hlm : t 243 * left = t 243 * (left - 1) + t 243 := by
      rw [Int.mul_sub, Int.mul_one]
      omega
    by_cases b1 : 1 ≤ wantV t set (t 244 - (k + 1)) + left - kept
    · exfalso
      have u := buys_up (t := t) (p := p) (q := wantV t set (t 244 - (k + 1)) + left - kept - 1) (m := t 244 - (k + 1)) hK hp (by omega) (by omega)
      rw [show wantV t set (t 244 - (k + 1)) + left - kept - 1 + 1 = wantV t set (t 244 - (k + 1)) + left - kept by omega] at u
      have v := plan_min (t := stepT t p 0 0) (set := set) (kept := kept) (left := left - 1) (k := k) hU hs (by omega) ⟨h0, by rw [room_st]; exact h1⟩ ⟨by omega, by rw [room_st]; omega⟩
      rw [e4, e3, want_st (by omega), show wantV t set (t 244 - (k + 1)) + (left - 1) - kept = wantV t set (t 244 - (k + 1)) + left - kept - 1 by omega] at v
      have w := v (by omega) (by unfold mle at u; omega) i3
      unfold mle at u
      omega
    · have b0 : wantV t set (t 244 - (k + 1)) + left - kept = 0 := by omega
      have hw := wantV_r (m := t 244 - (k + 1)) hK hs (by omega)
      refine ⟨by omega, by omega, ?_⟩
      have v := plan_min (t := stepT t p 0 0) (set := set) (kept := kept - 1) (left := left - 1) (k := k) hU hs (by omega) ⟨by omega, by rw [room_st]; omega⟩ ⟨by omega, by rw [room_st]; omega⟩
      rw [e4, e3, want_st (by omega), show wantV t set (t 244 - (k + 1)) + (left - 1) - (kept - 1) = wantV t set (t 244 - (k + 1)) + left - kept by omega] at v
      have w := v a b i3
      exact ⟨w.1, by omega⟩
theorem all_low {t : Int → Int} {set : Int} (hK : TQ t) (hs : 0 ≤ set ∧ set < 128) (h : allV t set ≠ -1) : needN t set (t 244).toNat ≤ allV t set % 512 := by
  have h6 := hK.2.2.2.2.2.1
  have hro := roomV_r hK hs
  have z := need_low hK hs (t 244).toNat (by omega) 0 (Int.le_refl 0) hro.1 h
  unfold allV
  omega
theorem all_top {t : Int → Int} {p set : Int} (hK : TQ t) (hp : 1 ≤ p ∧ p ≤ 99) (hs : 0 ≤ set ∧ set < 128) (h : allV (stepT t p 0 0) set ≠ -1) : allV (stepT t p 0 0) set % 512 ≤ needN t set (t 244).toNat := by
  have h6 := hK.2.2.2.2.2.1
  have hro := roomV_r hK hs
  by_cases c : allV (stepT t p 0 0) set % 512 ≤ needN t set (t 244).toNat
  · exact c
  · have z := need_top hK hp hs (t 244).toNat (by omega) 0 (Int.le_refl 0) hro.1 h (by show needN t set (t 244).toNat < allV (stepT t p 0 0) set % 512 + 0; omega)
    omega
theorem need_nn {t : Int → Int} {s : Int} {K : Nat} (hK : TQ t) (hs : 0 ≤ s ∧ s < 128) (hk : (K : Int) ≤ t 244) : 0 ≤ needN t s K := by
  have h6 := hK.2.2.2.2.2.1
  have key : ∀ k : Nat, (k : Int) ≤ t 244 → 0 ≤ needN t s k := by
    intro k
    induction k with
    | zero => intro _; exact Int.le_refl 0
    | succ k ih =>
      intro h
      have hw := wantV_r (m := t 244 - (k + 1)) hK hs (by omega)
      have := ih (by omega)
      unfold needN
      omega
  exact key K hk
theorem sack_ge {t c w : Int → Int} {K : Nat} (hK : TQ t) (hc : costs9 c) (hk : (K : Int) ≤ t 244) (hw : ∀ g, 0 < g → g < 128 → c g ≠ -1 → needN t g K ≤ w g) : ∀ (k : Nat) (s : Int), 0 ≤ s → s < 128 → sumN (hb s) 7 ≤ k → totE c s ≠ -1 → needN t s K ≤ sackF c w k s
  | 0, s, a, b, h, _ => by
    by_cases s0 : s = 0
    · rw [s0, need_0, sackF_0]
      exact Int.le_refl 0
    · have := size_pos (s := s) ⟨by omega, b⟩
      omega
  | k + 1, s, a, b, h, ht => by
    by_cases s0 : s = 0
    · rw [s0, need_0, sackF_0]
      exact Int.le_refl 0
    · have hs : 0 < s ∧ s < 128 := ⟨by omega, b⟩
      have q := first_ok hc hs ht
      have hx := b_xor_lt (x := s) (y := firstG c s) ⟨a, b⟩ ⟨by omega, q.1.2⟩
      have sz := size_xor q.1 hs q.2.1
      have ih := sack_ge hK hc hk hw k (b_xor s (firstG c s)) hx.1 hx.2 (by omega) q.2.2.2.2.1
      have h1 := hw _ q.1.1 q.1.2 q.2.2.2.1
      have h2 := need_add (g := firstG c s) hK ⟨a, b⟩ ⟨by omega, q.1.2⟩ q.2.1 K hk
      rw [sackF_1 s0]
      omega
theorem sack_le {t c w : Int → Int} {K : Nat} (hK : TQ t) (hc : costs9 c) (hk : (K : Int) ≤ t 244) (hw : ∀ g, 0 < g → g < 128 → c g ≠ -1 → w g ≤ needN t g K) : ∀ (k : Nat) (s : Int), 0 ≤ s → s < 128 → totE c s ≠ -1 → 0 ≤ needN t s K → sackF c w k s ≤ needN t s K
  | 0, s, a, b, _, h0 => h0
  | k + 1, s, a, b, ht, h0 => by
    by_cases s0 : s = 0
    · rw [s0, need_0, sackF_0]
      exact Int.le_refl 0
    · have hs : 0 < s ∧ s < 128 := ⟨by omega, b⟩
      have q := first_ok hc hs ht
      have hx := b_xor_lt (x := s) (y := firstG c s) ⟨a, b⟩ ⟨by omega, q.1.2⟩
      have hn := need_nn (K := K) hK hx hk
      have ih := sack_le hK hc hk hw k (b_xor s (firstG c s)) hx.1 hx.2 q.2.2.2.2.1 hn
      have h1 := hw _ q.1.1 q.1.2 q.2.2.2.1
      have h2 := need_add (g := firstG c s) hK ⟨a, b⟩ ⟨by omega, q.1.2⟩ q.2.1 K hk
      rw [sackF_1 s0]
      omega
theorem cost_all {t : Int → Int} {set : Int} (h : costV t set ≠ -1) : allV t set ≠ -1 := by
  intro e
  unfold costV at h
  rw [if_pos (Or.inr (Or.inr e))] at h
  exact h rfl
/-- by no step the seller gains more than by his price alone -/
theorem gain_le {t : Int → Int} {p n r s k : Int} (hK : TQ t) (hp : 2 ≤ p ∧ p ≤ 20) (hn : 2 ≤ n ∧ n ≤ 12) (hr : 1 ≤ r ∧ r < p) (hs : 0 < s ∧ s < 128) (hk : 0 ≤ k) : gainT (stepT t p n r) s k ≤ plainG t s p k := by
  have hO : stepOK p n r := ⟨by omega, by omega, by omega, by omega⟩
  have h6 := hK.2.2.2.2.2.1
  have hT : TQ (stepT t p n r) := stepT_tq hK (by omega) (Or.inr (by omega))
  have hU : TQ (stepT t p 0 0) := stepT_tq hK (by omega) (Or.inl rfl)
  have cT := costs_t hT
  have cU := costs_t hU
  have z : nle (totE (costV (stepT t p n r)) s) (totE (costV (stepT t p 0 0)) s) := totF_le (fun g a b => cost_le hK hO ⟨a, b⟩) 7 s (by omega) hs.2
  unfold plainG gainT
  by_cases e : totE (costV (stepT t p n r)) s = -1
  · have e' : totE (costV (stepT t p 0 0)) s = -1 := by unfold nle at z; omega
    rw [if_pos e, if_pos e']
    exact Int.le_refl _
  · have e' : totE (costV (stepT t p 0 0)) s ≠ -1 := by unfold nle at z; omega
    rw [if_neg e, if_neg e']
    have hv : totV (costV (stepT t p n r)) s ≤ totV (costV (stepT t p 0 0)) s := by
      unfold totV
      rw [if_neg e, if_neg e']
      unfold nle at z
      omega
    have s1 := sack_ge (t := t) (w := fun g => allV (stepT t p n r) g % 512) (K := (t 244).toNat) hK cT (by omega) (fun g a b c => by
      have := all_low hT (set := g) ⟨by omega, b⟩ (cost_all c)
      rw [stepT_244, need_st hK _ (by omega)] at this
      exact this) 7 s (by omega) hs.2 (size_r ⟨by omega, hs.2⟩).2 e
    have s2 := sack_le (t := t) (w := fun g => allV (stepT t p 0 0) g % 512) (K := (t 244).toNat) hK cU (by omega) (fun g a b c => all_top hK (by omega) ⟨by omega, b⟩ (cost_all c)) 7 s (by omega) hs.2 e' (need_nn hK ⟨by omega, hs.2⟩ (by omega))
    have m := Int.mul_le_mul_of_nonneg_left (Int.le_trans s2 s1) hk
    omega
/-! the search may end where as much is gained -/
theorem upG_stop {x : Int × Int × Int} {n r v G : Int} (h : G ≤ x.2.2) (hv : v ≤ G) : upG x n r v = x := if_neg (by omega)
theorem selR_stop {t : Int → Int} {s p k n G : Int} (hG : ∀ r, 1 ≤ r → r < p → gainT (stepT t p n r) s k ≤ G) {x : Int × Int × Int} {j : Nat} (h : G ≤ (selR t s p k n j x).2.2) : ∀ d : Nat, (j : Int) + d < p → selR t s p k n (j + d) x = selR t s p k n j x
  | 0, _ => rfl
  | d + 1, hd => by
    have ih := selR_stop hG h d (by omega)
    show upG (selR t s p k n (j + d) x) n (((j + d : Nat) : Int) + 1) (gainT (stepT t p n (((j + d : Nat) : Int) + 1)) s k) = _
    rw [ih]
    exact upG_stop h (hG _ (by omega) (by omega))
theorem selR_end {t : Int → Int} {s p k n G : Int} (hG : ∀ r, 1 ≤ r → r < p → gainT (stepT t p n r) s k ≤ G) {x : Int × Int × Int} {j : Nat} (hj : j ≤ (p - 1).toNat) (hp : 1 ≤ p) (h : G ≤ (selR t s p k n j x).2.2) : selR t s p k n (p - 1).toNat x = selR t s p k n j x := by
  have z := selR_stop hG h ((p - 1).toNat - j) (by omega)
  rw [show j + ((p - 1).toNat - j) = (p - 1).toNat by omega] at z
  exact z
theorem selN_stop {t : Int → Int} {s p k G : Int} (hp : 1 ≤ p) (hG : ∀ n r, 2 ≤ n → n ≤ 12 → 1 ≤ r → r < p → gainT (stepT t p n r) s k ≤ G) {i : Nat} (h : G ≤ (selN t s p k i).2.2) : ∀ d : Nat, i + d ≤ 11 → selN t s p k (i + d) = selN t s p k i
  | 0, _ => rfl
  | d + 1, hd => by
    have ih := selN_stop hp hG h d (by omega)
    show selR t s p k (((i + d : Nat) : Int) + 2) (p - 1).toNat (selN t s p k (i + d)) = _
    rw [ih]
    exact selR_end (j := 0) (fun r a b => hG _ r (by omega) (by omega) a b) (by omega) hp h
theorem selN_end {t : Int → Int} {s p k G : Int} (hp : 1 ≤ p) (hG : ∀ n r, 2 ≤ n → n ≤ 12 → 1 ≤ r → r < p → gainT (stepT t p n r) s k ≤ G) {i : Nat} (hi : i ≤ 11) (h : G ≤ (selN t s p k i).2.2) : selV t s p k = selN t s p k i := by
  have z := selN_stop hp hG h (11 - i) (by omega)
  rw [show i + (11 - i) = 11 by omega] at z
  exact z
