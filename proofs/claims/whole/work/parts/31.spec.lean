/-! WHAT THE ANSWERS ARE, out of the row t of the reference (told) -/
def omin (a b : Int) : Int := if a = -1 then b else if b = -1 then a else min a b
def stepV (t : Int → Int) (q : Int) : Nat → Int × Int
  | 0 => (0, -1)
  | k + 1 => if t (221 + k) ≤ q ∧ (stepV t q k).1 < t (221 + k) then (t (221 + k), t (227 + k)) else stepV t q k
def priceV (t : Int → Int) (q : Int) : Int := (stepV t q (t 220).toNat).2
def cartL (t c : Int → Int) (q : Int) : Nat → Int
  | 0 => 0
  | k + 1 => if k = 0 then t 238 + c (max 0 (q - t 234)) else min (cartL t c q k) (t (238 + k) + c (max 0 (q - t (234 + k))))
def cartF (t : Int → Int) : Nat → Int → Int
  | 0 => fun _ => 0
  | q + 1 => fun j => if j = q + 1 then cartL t (cartF t q) (q + 1) (t 233).toNat else cartF t q j
def cartV (t : Int → Int) (q : Int) : Int := cartF t q.toNat q
def sumV (t : Int → Int) : Nat → Int
  | 0 => 0
  | q + 1 => if priceV t (q + 1) = -1 ∨ sumV t q = -1 then -1 else sumV t q + priceV t (q + 1)
def plainV (t : Int → Int) (q : Int) : Int := if t 219 = 1 then sumV t q.toNat else if priceV t q = -1 then -1 else q * priceV t q
def singleV (t : Int → Int) (q : Int) : Int := if plainV t q = -1 then -1 else plainV t q + cartV t q
def oadd (a b : Int) : Int := if a = -1 ∨ b = -1 then -1 else a + b
def splitL (t f : Int → Int) (q : Int) : Nat → Int
  | 0 => -1
  | n + 1 => omin (splitL t f q n) (oadd (singleV t (n + 1)) (f (q - (n + 1))))
def sevF (t : Int → Int) : Nat → Int → Int
  | 0 => fun _ => 0
  | q + 1 => fun j => if j = q + 1 then splitL t (sevF t q) (q + 1) (q + 1) else sevF t q j
def sevV (t : Int → Int) (q : Int) : Int := sevF t q.toNat q
def buysV (t : Int → Int) (q m : Int) : Int := if sevV t q = -1 then -1 else sevV t q + q * t (245 + m)
def roomV (t : Int → Int) (set : Int) : Int := sumN (fun h => if hb set h = 1 then t (1 + h) else 0) 7
def wantV (t : Int → Int) (set m : Int) : Int := sumN (fun h => if hb set h = 1 then t (8 + 6 * h + m) else 0) 7
/-- a plan from month m on, by how many sacks are left of the first: its cost times 512 and its sacks -/
def candV (t : Int → Int) (set m kept : Int) (nxt : Int → Int) (left : Int) : Int :=
  if wantV t set m + left - kept < 0 ∨ buysV t (wantV t set m + left - kept) m = -1 ∨ nxt left = -1 then -1 else (buysV t (wantV t set m + left - kept) m + t 243 * left) * 512 + (wantV t set m + left - kept) + nxt left
def bestL (c : Int → Int) : Nat → Int
  | 0 => -1
  | n + 1 => omin (bestL c n) (c n)
/-- the best plan of the last k months that count -/
def planV (t : Int → Int) (set : Int) : Nat → Int → Int
  | 0 => fun _ => 0
  | k + 1 => fun kept => bestL (candV t set (t 244 - (k + 1)) kept (planV t set k)) (roomV t set + 1).toNat
def allV (t : Int → Int) (set : Int) : Int := planV t set (t 244).toNat 0
def holdB (t : Int → Int) (set i : Int) : Bool := decide (hb set i = 1) && allB (fun k => decide (¬ hb set k = 1) || decide (k = i) || decide (t (99 + 7 * k + i) = 1)) 7
def holdV (t : Int → Int) (set : Int) : Int := firstB (holdB t set) 7
def barB (t : Int → Int) (set a : Int) : Bool := decide (hb set a = 1) && !(allB (fun b => !(decide (hb set b = 1)) || !(decide (t (50 + 7 * a + b) = 1))) a.toNat)
def barV (t : Int → Int) (set : Int) : Bool := decide (firstB (barB t set) 7 ≠ -1)
def costV (t : Int → Int) (set : Int) : Int := if barV t set = true ∨ holdV t set = -1 ∨ allV t set = -1 then -1 else allV t set / 512 + t 242 * (sumN (hb set) 7 - 1)
/-- what PRICES, PLANS, GROUPS look at -/
def core (t : Int → Int) : Int → Int := fun i => if 148 ≤ i ∧ i < 219 then 0 else t i
/-! THE ABSTRACT STATE: rows 0 told, 1 tape, 2 numbers (0 taped, 1 and 2 the fault and its place, 3 and 4 the fraction), 3, 4, 5 the trays' sorts, sizes, numbers, 6 which images there are, 7 the images -/
/-- the reference's rows are the state's -/
def RMs (M : aM) (m : Int) (A : aM) : Prop :=
  (∀ i, 0 ≤ i → i < 253 → M (m + 1) i = A 0 i) ∧ M m 6 = A 2 0 ∧ (∀ i, 0 ≤ i → i < A 2 0 → M (m + 4) i = A 1 i) ∧ (M m 14 = A 2 1 ∧ M m 15 = A 2 2 ∧ M m 34 = A 2 3 ∧ M m 35 = A 2 4) ∧ (∀ i, 0 ≤ i → i < 4 → M (m + 27) i = A 3 i ∧ M (m + 28) i = A 4 i) ∧ (∀ i, 0 ≤ i → i < 160 → M (m + 29) i = A 5 i) ∧ (∀ i, 0 ≤ i → i < 3 → M (m + 3) i = A 6 i) ∧ (∀ i, 0 ≤ i → i < 759 → M (m + 2) i = A 7 i) ∧ M m 20 = 0
def FAR2 : Int := 1000000000
def encF (F v : Int) : Int := if v = -1 then F else v
/-- what the reference keeps is right -/
def RCw (M : aM) (m : Int) (t : Int → Int) : Prop := t 0 = 0 ∨ ∀ s, 0 ≤ s → s < 128 → M (m + 15) s = -2 ∨ M (m + 15) s = costV t s
def RMc (M : aM) (m : Int) (t : Int → Int) : Prop :=
  (M m 19 = 0 ∨ M m 19 = 1 ∧ ∀ q, 0 ≤ q → q ≤ 200 → M (m + 8) q = encF FAR2 (sevV t q) ∧ (1 ≤ q → M (m + 6) q = encF FAR2 (singleV t q))) ∧ RCw M m t ∧ M (m + 7) 0 = 0 ∧ M (m + 8) 0 = 0
def RM (M : aM) (m : Int) (A : aM) : Prop := RMs M m A ∧ RMc M m (core (A 0))
/-- nothing but the reference's own has changed -/
def frM (M M' : aM) (m : Int) : Prop := ∀ a i : Int, ¬ (m ≤ a ∧ a < m + 30) → M' a i = M a i
theorem frM.rf {M : aM} {m : Int} : frM M M m := fun _ _ _ => rfl
theorem frM.tr {M M' M'' : aM} {m : Int} (h : frM M M' m) (h' : frM M' M'' m) : frM M M'' m := fun a i q => (h' a i q).trans (h a i q)
theorem frM.up {M M' : aM} {m a i v : Int} (h : frM M M' m) (ha : m ≤ a ∧ a < m + 30) : frM M (up M' a i v) m := fun b j q => by
  rw [up_a (by omega)]
  exact h b j q
theorem frM.st {M M' : aM} {m : Int} (h : frM M M' m) : frM M (stM M' m) m := fun b j q => by
  rw [stM_a (by omega) (by omega)]
  exact h b j q
theorem RMs.up3 {M A : aM} {m v : Int} (h : RMs M m A) : RMs (up M m 3 v) m A := by
  obtain ⟨h1, h2, h3, ⟨h4, h5, h6, h7⟩, h8, h9, h10, h11, h12⟩ := h
  refine ⟨fun i a b => ?_, ?_, fun i a b => ?_, ⟨?_, ?_, ?_, ?_⟩, fun i a b => ?_, fun i a b => ?_, fun i a b => ?_, fun i a b => ?_, ?_⟩
  · rw [up_a (by omega)]; exact h1 i a b
  · rw [up_i (by omega)]; exact h2
  · rw [up_a (by omega)]; exact h3 i a b
  · rw [up_i (by omega)]; exact h4
  · rw [up_i (by omega)]; exact h5
  · rw [up_i (by omega)]; exact h6
  · rw [up_i (by omega)]; exact h7
  · rw [up_a (by omega), up_a (by omega)]; exact h8 i a b
  · rw [up_a (by omega)]; exact h9 i a b
  · rw [up_a (by omega)]; exact h10 i a b
  · rw [up_a (by omega)]; exact h11 i a b
  · rw [up_i (by omega)]; exact h12
theorem RMc.up3 {M : aM} {t : Int → Int} {m v : Int} (h : RMc M m t) : RMc (up M m 3 v) m t := by
  obtain ⟨h1, h2, h3, h4⟩ := h
  refine ⟨?_, h2.imp id fun g s a b => ?_, ?_, ?_⟩
  · rw [up_i (by omega)]
    rcases h1 with h1 | ⟨h1, h1'⟩
    · exact Or.inl h1
    · exact Or.inr ⟨h1, fun q a b => by rw [up_a (by omega), up_a (by omega)]; exact h1' q a b⟩
  · rw [up_a (by omega)]; exact g s a b
  · rw [up_a (by omega)]; exact h3
  · rw [up_a (by omega)]; exact h4
theorem RM.up3 {M A : aM} {m v : Int} (h : RM M m A) : RM (up M m 3 v) m A := ⟨h.1.up3, h.2.up3⟩
theorem RMs.told {M A : aM} {m i v : Int} (h : RMs M m A) : RMs (up M (m + 1) i v) m (up A 0 i v) := by
  obtain ⟨h1, h2, h3, ⟨h4, h5, h6, h7⟩, h8, h9, h10, h11, h12⟩ := h
  refine ⟨fun j a b => ?_, ?_, fun j a b => ?_, ⟨?_, ?_, ?_, ?_⟩, fun j a b => ?_, fun j a b => ?_, fun j a b => ?_, fun j a b => ?_, ?_⟩
  · by_cases e : j = i
    · subst e; rw [up_s, up_s]
    · rw [up_i e, up_i e]; exact h1 j a b
  · rw [up_a (by omega), up_a (by omega)]; exact h2
  · rw [up_a (by omega)] at b
    rw [up_a (by omega), up_a (by omega)]; exact h3 j a b
  · rw [up_a (by omega), up_a (by omega)]; exact h4
  · rw [up_a (by omega), up_a (by omega)]; exact h5
  · rw [up_a (by omega), up_a (by omega)]; exact h6
  · rw [up_a (by omega), up_a (by omega)]; exact h7
  · rw [up_a (by omega), up_a (by omega), up_a (by omega), up_a (by omega)]; exact h8 j a b
  · rw [up_a (by omega), up_a (by omega)]; exact h9 j a b
  · rw [up_a (by omega), up_a (by omega)]; exact h10 j a b
  · rw [up_a (by omega), up_a (by omega)]; exact h11 j a b
  · rw [up_a (by omega)]; exact h12
theorem RMs.stale {M A : aM} {m : Int} (h : RMs M m A) : RMs (stM M m) m A := by
  obtain ⟨h1, h2, h3, ⟨h4, h5, h6, h7⟩, h8, h9, h10, h11, h12⟩ := h
  refine ⟨fun i a b => ?_, ?_, fun i a b => ?_, ⟨?_, ?_, ?_, ?_⟩, fun i a b => ?_, fun i a b => ?_, fun i a b => ?_, fun i a b => ?_, ?_⟩
  · rw [stM_a (by omega) (by omega)]; exact h1 i a b
  · rw [stM_a (by omega) (by omega)]; exact h2
  · rw [stM_a (by omega) (by omega)]; exact h3 i a b
  · rw [stM_a (by omega) (by omega)]; exact h4
  · rw [stM_a (by omega) (by omega)]; exact h5
  · rw [stM_a (by omega) (by omega)]; exact h6
  · rw [stM_a (by omega) (by omega)]; exact h7
  · rw [stM_a (by omega) (by omega), stM_a (by omega) (by omega)]; exact h8 i a b
  · rw [stM_a (by omega) (by omega)]; exact h9 i a b
  · rw [stM_a (by omega) (by omega)]; exact h10 i a b
  · rw [stM_a (by omega) (by omega)]; exact h11 i a b
  · rw [stM_a (by omega) (by omega)]; exact h12
/-- the two places of the reference's price rows that stay 0 -/
def z78 (M : aM) (m : Int) : Prop := M (m + 7) 0 = 0 ∧ M (m + 8) 0 = 0
theorem RM.stale {M A : aM} {m : Int} (h : RMs M m A) (hz : z78 M m) : RM (stM M m) m A := by
  refine ⟨h.stale, Or.inl ?_, Or.inr fun s a b => Or.inl ?_, ?_, ?_⟩
  · unfold stM; rw [if_pos ⟨rfl, rfl⟩]
  · unfold stM; rw [if_neg (by omega), if_pos ⟨rfl, a, b⟩]
  · rw [stM_a (by omega) (by omega)]; exact hz.1
  · rw [stM_a (by omega) (by omega)]; exact hz.2
theorem z78.up {M : aM} {m a i v : Int} (h : z78 M m) (ha : a ≠ m + 7 ∧ a ≠ m + 8) : z78 (up M a i v) m := ⟨by rw [up_a (by omega)]; exact h.1, by rw [up_a (by omega)]; exact h.2⟩
theorem RM.z {M A : aM} {m : Int} (h : RM M m A) : z78 M m := h.2.2.2
theorem core_free {t : Int → Int} {A : aM} {i v : Int} (hi : 148 ≤ i ∧ i < 219) : core (up A 0 i v 0) = core (A 0) := by
  funext j
  unfold core
  by_cases e : 148 ≤ j ∧ j < 219
  · rw [if_pos e, if_pos e]
  · rw [if_neg e, if_neg e, up_i (by omega)]
theorem RMc.other {M : aM} {t : Int → Int} {m a i v : Int} (h : RMc M m t) (ha : ¬ (a = m ∧ i = 19) ∧ a ≠ m + 6 ∧ a ≠ m + 7 ∧ a ≠ m + 8 ∧ a ≠ m + 15) : RMc (up M a i v) m t := by
  obtain ⟨h1, h2, h3, h4⟩ := h
  have e19 : up M a i v m 19 = M m 19 := if_neg (by omega)
  refine ⟨?_, h2.imp id fun g s x b => ?_, ?_, ?_⟩
  · rw [e19]
    rcases h1 with h1 | ⟨h1, h1'⟩
    · exact Or.inl h1
    · exact Or.inr ⟨h1, fun q x b => by rw [up_a (by omega), up_a (by omega)]; exact h1' q x b⟩
  · rw [up_a (by omega)]; exact g s x b
  · rw [up_a (by omega)]; exact h3
  · rw [up_a (by omega)]; exact h4
theorem RM.free {M A : aM} {m i v : Int} (h : RM M m A) (hi : 148 ≤ i ∧ i < 219) : RM (up M (m + 1) i v) m (up A 0 i v) := by
  refine ⟨h.1.told, ?_⟩
  rw [core_free (t := A 0) hi]
  exact h.2.other (by omega)
