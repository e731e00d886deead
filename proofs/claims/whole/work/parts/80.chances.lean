/-! doubts: how likely so many sacks are wanted -/
def shiftV (L : Int → Int) (s c k : Int) : Int := if s ≤ k then L (k - s) * c else 0
def convV (t : Int → Int) (h : Int) (L : Int → Int) : Int → Int := fun k => if t (156 + h) = 0 then shiftV L (t (8 + 6 * h)) 1 k else sumN (fun d => shiftV L (t (163 + 4 * h + d)) (t (191 + 4 * h + d)) k) (t (156 + h)).toNat
def oddsV (t : Int → Int) (set : Int) : Nat → Int → Int
  | 0 => fun k => if k = 0 then 1 else 0
  | n + 1 => if hb set n = 1 then convV t n (oddsV t set n) else oddsV t set n
def chV (t : Int → Int) (h : Int) : Int := if t (156 + h) = 0 then 1 else sumN (fun d => t (191 + 4 * h + d)) (t (156 + h)).toNat
def allC (t : Int → Int) (set : Int) : Nat → Int
  | 0 => 1
  | n + 1 => if hb set n = 1 then allC t set n * chV t n else allC t set n
def missV (t : Int → Int) (q k : Int) : Int := if q < k then (k - q) * t 251 else (q - k) * t 243
def riskC (t : Int → Int) (set q cost : Int) : Int := allC t set 7 * cost + sumN (fun k => oddsV t set 7 k * missV t q k) 57
def p36 : Nat → Int
  | 0 => 1
  | n + 1 => 36 * p36 n
theorem p36_le : ∀ n : Nat, n ≤ 7 → 1 ≤ p36 n ∧ p36 n ≤ 78364164096 := by
  intro n hn
  rcases (show n = 0 ∨ n = 1 ∨ n = 2 ∨ n = 3 ∨ n = 4 ∨ n = 5 ∨ n = 6 ∨ n = 7 by omega) with rfl | rfl | rfl | rfl | rfl | rfl | rfl | rfl <;> decide
/-- what doubts may be -/
def TD (t : Int → Int) : Prop := (∀ i, 0 ≤ i → i < 42 → 0 ≤ t (8 + i) ∧ t (8 + i) ≤ 8) ∧ (∀ h, 0 ≤ h → h < 7 → 0 ≤ t (156 + h) ∧ t (156 + h) ≤ 4) ∧ (∀ i, 0 ≤ i → i < 28 → 0 ≤ t (163 + i) ∧ t (163 + i) ≤ 8) ∧ (∀ h n, 0 ≤ h → h < 7 → 0 ≤ n → n < t (156 + h) → 1 ≤ t (191 + 4 * h + n) ∧ t (191 + 4 * h + n) ≤ 9) ∧ (0 ≤ t 243 ∧ t 243 ≤ 99) ∧ (0 ≤ t 251 ∧ t 251 ≤ 999)
theorem TOK.td {t : Int → Int} (h : TOK t) : TD t := ⟨h.2.2.1, h.2.2.2.2.2.2.2.1, h.2.2.2.2.2.2.2.2.1, h.2.2.2.2.2.2.2.2.2.1, h.2.2.2.2.2.2.2.2.2.2.2.2.2.2.2.2.1, h.2.2.2.2.2.2.2.2.2.2.2.2.2.2.2.2.2.2.2.1⟩
theorem shiftV_r {L : Int → Int} {s c k b : Int} (hb9 : 0 ≤ b) (hs : 0 ≤ s) (hc : 0 ≤ c ∧ c ≤ 9) (hL : ∀ k, 0 ≤ k → k < 57 → 0 ≤ L k ∧ L k ≤ b) (hk : 0 ≤ k ∧ k < 57) : 0 ≤ shiftV L s c k ∧ shiftV L s c k ≤ b * c := by
  unfold shiftV
  split
  · have z := hL (k - s) (by omega) (by omega)
    exact ⟨Int.mul_nonneg z.1 hc.1, Int.mul_le_mul_of_nonneg_right z.2 hc.1⟩
  · exact ⟨Int.le_refl _, Int.mul_nonneg hb9 hc.1⟩
theorem chV_r {t : Int → Int} (hD : TD t) {h : Int} (hh : 0 ≤ h ∧ h < 7) : 1 ≤ chV t h ∧ chV t h ≤ 36 := by
  have h4 := hD.2.1 h hh.1 hh.2
  unfold chV
  split
  · omega
  · have key : ∀ n : Nat, (n : Int) ≤ t (156 + h) → (n : Int) ≤ sumN (fun d => t (191 + 4 * h + d)) n ∧ sumN (fun d => t (191 + 4 * h + d)) n ≤ 9 * n := by
      intro n
      induction n with
      | zero => intro _; exact ⟨Int.le_refl 0, Int.le_refl 0⟩
      | succ n ih =>
        intro hn
        have := ih (by omega)
        have z := hD.2.2.2.1 h n hh.1 hh.2 (by omega) (by omega)
        unfold sumN
        omega
    have := key (t (156 + h)).toNat (by omega)
    omega
/-- partial sums of doubts -/
theorem part_r {t : Int → Int} (hD : TD t) {h b : Int} {L : Int → Int} (hh : 0 ≤ h ∧ h < 7) (hb9 : 0 ≤ b) (hL : ∀ k, 0 ≤ k → k < 57 → 0 ≤ L k ∧ L k ≤ b) {k : Int} (hk : 0 ≤ k ∧ k < 57) : ∀ n : Nat, (n : Int) ≤ t (156 + h) → 0 ≤ sumN (fun d => shiftV L (t (163 + 4 * h + d)) (t (191 + 4 * h + d)) k) n ∧ sumN (fun d => shiftV L (t (163 + 4 * h + d)) (t (191 + 4 * h + d)) k) n ≤ (9 * b) * n
  | 0, _ => ⟨Int.le_refl 0, by rw [show (((0 : Nat)) : Int) = 0 by rfl, Int.mul_zero]; exact Int.le_refl 0⟩
  | n + 1, hn => by
    have ih := part_r hD hh hb9 hL hk n (by omega)
    have z := hD.2.2.2.1 h n hh.1 hh.2 (by omega) (by omega)
    have z2 := hD.2.1 h hh.1 hh.2
    have z3 := hD.2.2.1 (4 * h + n) (by omega) (by omega)
    rw [show 163 + (4 * h + (n : Int)) = 163 + 4 * h + n by omega] at z3
    have y := shiftV_r (L := L) (k := k) hb9 z3.1 ⟨by omega, z.2⟩ hL hk
    have y2 : b * t (191 + 4 * h + n) ≤ b * 9 := Int.mul_le_mul_of_nonneg_left z.2 hb9
    have e : (9 * b) * ((n + 1 : Nat) : Int) = (9 * b) * n + 9 * b := by rw [show ((n + 1 : Nat) : Int) = (n : Int) + 1 by omega, Int.mul_add, Int.mul_one]
    rw [e]
    unfold sumN
    omega
theorem convV_r {t : Int → Int} (hD : TD t) {h b : Int} {L : Int → Int} (hh : 0 ≤ h ∧ h < 7) (hb9 : 0 ≤ b) (hL : ∀ k, 0 ≤ k → k < 57 → 0 ≤ L k ∧ L k ≤ b) {k : Int} (hk : 0 ≤ k ∧ k < 57) : 0 ≤ convV t h L k ∧ convV t h L k ≤ 36 * b := by
  have h4 := hD.2.1 h hh.1 hh.2
  unfold convV
  by_cases e : t (156 + h) = 0
  · rw [if_pos e]
    have z := hD.1 (6 * h) (by omega) (by omega)
    have y := shiftV_r (L := L) (s := t (8 + 6 * h)) (c := 1) (k := k) hb9 z.1 (by omega) hL hk
    omega
  · rw [if_neg e]
    have z := part_r hD hh hb9 hL hk (t (156 + h)).toNat (by omega)
    have e2 : (9 * b) * (((t (156 + h)).toNat : Nat) : Int) ≤ (9 * b) * 4 := Int.mul_le_mul_of_nonneg_left (by omega) (by omega)
    omega
theorem oddsV_r {t : Int → Int} (hD : TD t) {set : Int} : ∀ n : Nat, n ≤ 7 → ∀ k, 0 ≤ k → k < 57 → 0 ≤ oddsV t set n k ∧ oddsV t set n k ≤ p36 n
  | 0, _, k, a, b => by
    show 0 ≤ (if k = 0 then (1 : Int) else 0) ∧ (if k = 0 then (1 : Int) else 0) ≤ 1
    split <;> omega
  | n + 1, hn, k, a, b => by
    have ih := oddsV_r hD (set := set) n (by omega)
    have hp := p36_le n (by omega)
    have e : p36 (n + 1) = 36 * p36 n := rfl
    rw [e]
    unfold oddsV
    split
    · exact convV_r hD (by omega) (by omega) ih ⟨a, b⟩
    · have := ih k a b
      omega
theorem allC_r {t : Int → Int} (hD : TD t) {set : Int} : ∀ n : Nat, n ≤ 7 → 1 ≤ allC t set n ∧ allC t set n ≤ p36 n
  | 0, _ => ⟨Int.le_refl 1, Int.le_refl 1⟩
  | n + 1, hn => by
    have ih := allC_r hD (set := set) n (by omega)
    have hc := chV_r hD (h := n) (by omega)
    have e : p36 (n + 1) = 36 * p36 n := rfl
    rw [e]
    unfold allC
    split
    · have a1 : allC t set n * 1 ≤ allC t set n * chV t n := Int.mul_le_mul_of_nonneg_left hc.1 (by omega)
      have a2 : allC t set n * chV t n ≤ allC t set n * 36 := Int.mul_le_mul_of_nonneg_left hc.2 (by omega)
      omega
    · omega
theorem missV_r {t : Int → Int} (hD : TD t) {q k : Int} (hq : 0 ≤ q ∧ q ≤ 56) (hk : 0 ≤ k ∧ k < 57) : 0 ≤ missV t q k ∧ missV t q k ≤ 55944 := by
  unfold missV
  split
  · have a1 : (k - q) * t 251 ≤ (k - q) * 999 := Int.mul_le_mul_of_nonneg_left hD.2.2.2.2.2.2 (by omega)
    have a2 : 0 ≤ (k - q) * t 251 := Int.mul_nonneg (by omega) hD.2.2.2.2.2.1
    omega
  · have a1 : (q - k) * t 243 ≤ (q - k) * 99 := Int.mul_le_mul_of_nonneg_left hD.2.2.2.2.1.2 (by omega)
    have a2 : 0 ≤ (q - k) * t 243 := Int.mul_nonneg (by omega) hD.2.2.2.2.1.1
    omega
theorem term_r {t : Int → Int} (hD : TD t) {set q k : Int} (hq : 0 ≤ q ∧ q ≤ 56) (hk : 0 ≤ k ∧ k < 57) : 0 ≤ oddsV t set 7 k * missV t q k ∧ oddsV t set 7 k * missV t q k ≤ 4384004796186624 := by
  have h1 := oddsV_r hD (set := set) 7 (by omega) k hk.1 hk.2
  have h2 := p36_le 7 (by omega)
  have h3 := missV_r hD hq hk
  have a1 : oddsV t set 7 k * missV t q k ≤ oddsV t set 7 k * 55944 := Int.mul_le_mul_of_nonneg_left h3.2 h1.1
  have a2 : 0 ≤ oddsV t set 7 k * missV t q k := Int.mul_nonneg h1.1 h3.1
  omega
theorem rsum_r {t : Int → Int} (hD : TD t) {set q : Int} (hq : 0 ≤ q ∧ q ≤ 56) (n : Nat) (hn : n ≤ 57) : 0 ≤ sumN (fun k => oddsV t set 7 k * missV t q k) n ∧ sumN (fun k => oddsV t set 7 k * missV t q k) n ≤ 249888273382637568 := by
  have z := sumN_le (f := fun k => oddsV t set 7 k * missV t q k) (c := 4384004796186624) (n := n) (fun k a b => term_r hD hq ⟨a, by omega⟩)
  omega
theorem acost_r {t : Int → Int} (hD : TD t) {set cost : Int} (hc : 0 ≤ cost ∧ cost ≤ 60000) : 0 ≤ allC t set 7 * cost ∧ allC t set 7 * cost ≤ 4701849845760000 := by
  have h1 := allC_r hD (set := set) 7 (by omega)
  have h2 := p36_le 7 (by omega)
  have a1 : allC t set 7 * cost ≤ allC t set 7 * 60000 := Int.mul_le_mul_of_nonneg_left hc.2 (by omega)
  have a2 : 0 ≤ allC t set 7 * cost := Int.mul_nonneg (by omega) hc.1
  omega
theorem riskC_r {t : Int → Int} (hD : TD t) {set q cost : Int} (hq : 0 ≤ q ∧ q ≤ 56) (hc : 0 ≤ cost ∧ cost ≤ 60000) : 0 ≤ riskC t set q cost ∧ riskC t set q cost ≤ 9223372036854775807 := by
  have h1 := acost_r hD (set := set) hc
  have h2 := rsum_r hD (set := set) hq 57 (by omega)
  unfold riskC
  omega
