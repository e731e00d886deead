/-! THE CLASS'S MEMORY stands for the state A -/
def ut (t : Int → Int) (k v : Int) : Int → Int := fun j => if j = k then v else t j
theorem up_0 {A : aM} {k v : Int} : up A 0 k v 0 = ut (A 0) k v := by
  funext j
  unfold up ut
  by_cases e : j = k
  · rw [if_pos ⟨rfl, e⟩, if_pos e]
  · rw [if_neg (fun q => e q.2), if_neg e]
theorem up_r {A : aM} {r k v : Int} (h : r ≠ 0) : up A r k v 0 = A 0 := by
  funext j
  exact up_a (Ne.symm h)
theorem ut_s {t : Int → Int} {k v : Int} : ut t k v k = v := if_pos rfl
theorem ut_n {t : Int → Int} {k v j : Int} (h : j ≠ k) : ut t k v j = t j := if_neg h
def eqR (M M' : aM) (a : Int) : Prop := ∀ i, M' a i = M a i
def RTar (M : aM) (u : Int) (t : Int → Int) : Prop :=
  M u 0 = t 219 ∧ M u 1 = t 220 ∧ (∀ k, 0 ≤ k → k < t 220 → M (u + 1) k = t (221 + k) ∧ M (u + 2) k = t (227 + k)) ∧ M u 4 = t 233 ∧ (∀ k, 0 ≤ k → k < t 233 → M (u + 3) k = t (234 + k) ∧ M (u + 4) k = t (238 + k)) ∧ M u 7 = t 242 ∧ M u 8 = t 243 ∧ M u 9 = t 244 ∧ (∀ i, 0 ≤ i → i < 6 → M (u + 5) i = t (245 + i)) ∧ M u 11 = t 251 ∧ M u 12 = t 252
def RHs (M : aM) (s : Int) (t : Int → Int) : Prop :=
  M s 1 = t 0 ∧ (∀ h, 0 ≤ h → h < 7 → M (s + 7) h = t (1 + h)) ∧ (∀ i, 0 ≤ i → i < 42 → M (s + 8) i = t (8 + i)) ∧ (∀ a, 0 ≤ a → a < 7 → (0 ≤ M (s + 9) a ∧ M (s + 9) a < 128) ∧ ∀ b, 0 ≤ b → b < 7 → (hb (M (s + 9) a) b = 1 ↔ t (50 + 7 * a + b) = 1)) ∧ (∀ b, 0 ≤ b → b < 7 → (0 ≤ M (s + 10) b ∧ M (s + 10) b < 128) ∧ ∀ a, 0 ≤ a → a < 7 → (hb (M (s + 10) b) a = 1 ↔ t (99 + 7 * a + b) = 1)) ∧ (∀ h, 0 ≤ h → h < 7 → M (s + 11) h = t (148 + h)) ∧ M s 7 = t 155 ∧ (∀ h, 0 ≤ h → h < 7 → M (s + 12) h = t (156 + h)) ∧ (∀ i, 0 ≤ i → i < 28 → M (s + 13) i = t (163 + i) ∧ M (s + 14) i = t (191 + i))
def RStr (M : aM) (s : Int) (t : Int → Int) : Prop := RHs M s t ∧ RTar M (s + 1) t
def RFr (M A : aM) : Prop := M 0 10 = A 2 3 ∧ M 0 11 = A 2 4
def sgn8 (x : Int) : Int := if x < 128 then x else x - 256
def RRd (M A : aM) : Prop := M 17 1 = A 2 0 ∧ (∀ i, 0 ≤ i → i < A 2 0 → M 18 i = sgn8 (A 1 i)) ∧ M 17 2 = A 2 1 ∧ M 17 3 = A 2 2
def RTy (M A : aM) : Prop := (∀ i, 0 ≤ i → i < 4 → M 105 i = (if A 3 i = -1 then -1 else A 4 i) ∧ (A 3 i ≠ -1 → M 106 i = A 3 i)) ∧ ∀ i, 0 ≤ i → i < 160 → M 107 i = A 5 i
def RIm (M : aM) (N : Nat) (S : aS) (A : aM) : Prop :=
  (∀ i, 0 ≤ i → i < 3 → (A 6 i = 0 ∧ M 16 i = -1) ∨ (A 6 i = 1 ∧ 140 ≤ M 16 i ∧ M 16 i + 15 ≤ N ∧ lyS S (M 16 i) ∧ RStr M (M 16 i) (fun j => A 7 (253 * i + j)))) ∧ ∀ i j, 0 ≤ i → i < 3 → 0 ≤ j → j < 3 → i ≠ j → M 16 i ≠ -1 → M 16 j ≠ -1 → M 16 i + 15 ≤ M 16 j ∨ M 16 j + 15 ≤ M 16 i
def FAR1 : Int := 536870912
def RPr (M : aM) (b : Int) (t : Int → Int) : Prop := (0 ≤ M b 5 ∧ M b 5 ≤ 200) ∧ (∀ q, 1 ≤ q → q ≤ M b 5 → M (b + 1) q = encF FAR1 (plainV t q) ∧ M (b + 2) q = cartV t q ∧ M (b + 3) q = encF FAR1 (singleV t q) ∧ M (b + 4) q = encF FAR1 (sevV t q)) ∧ M (b + 1) 0 = 0 ∧ M (b + 2) 0 = 0 ∧ M (b + 4) 0 = 0
def RPl (M : aM) (w : Int) (t : Int → Int) : Prop := ∀ s, 0 ≤ s → s < 128 → M w s = -1 ∨ M w s = encF FAR1 (allV t s)
def RKo (M : aM) : Prop := (∀ s, 0 ≤ s → s < 128 → M 39 s = onesV s ∧ M 103 s = onesV s) ∧ M 90 0 = 0 ∧ M 91 0 = 0 ∧ M 93 0 = 0 ∧ M 36 0 = 0 ∧ M 38 0 = 0 ∧ M 100 0 = 0 ∧ M 102 0 = 0
def RSe (M : aM) (t : Int → Int) : Prop := M 82 5 = 0 ∨ ((0 < M 82 5 ∧ M 82 5 < 128) ∧ selV t (M 82 5) (M 82 6) (M 82 7) = (M 82 8, M 82 9, M 82 10) ∧ plainG t (M 82 5) (M 82 6) (M 82 7) = M 82 11)
def RC (M : aM) (N : Nat) (S : aS) (A : aM) : Prop := RStr M 1 (A 0) ∧ RFr M A ∧ RRd M A ∧ RTy M A ∧ RIm M N S A ∧ RPr M 25 (A 0) ∧ RPl M 31 (A 0) ∧ RKo M ∧ RSe M (A 0)
/-! each part depends on its own rows -/
theorem RTar.cg {M M' : aM} {u : Int} {t : Int → Int} (h : RTar M u t) (e : ∀ a, u ≤ a → a < u + 6 → eqR M M' a) : RTar M' u t := by
  obtain ⟨h1, h2, h3, h4, h5, h6, h7, h8, h9, h10, h11⟩ := h
  have e0 := e u (by omega) (by omega)
  refine ⟨(e0 _).trans h1, (e0 _).trans h2, fun k a b => ⟨(e _ (by omega) (by omega) _).trans (h3 k a b).1, (e _ (by omega) (by omega) _).trans (h3 k a b).2⟩, (e0 _).trans h4, fun k a b => ⟨(e _ (by omega) (by omega) _).trans (h5 k a b).1, (e _ (by omega) (by omega) _).trans (h5 k a b).2⟩, (e0 _).trans h6, (e0 _).trans h7, (e0 _).trans h8, fun i a b => (e _ (by omega) (by omega) _).trans (h9 i a b), (e0 _).trans h10, (e0 _).trans h11⟩
theorem RHs.cg {M M' : aM} {s : Int} {t : Int → Int} (h : RHs M s t) (e : ∀ a, s ≤ a → a < s + 15 → eqR M M' a) : RHs M' s t := by
  obtain ⟨h1, h2, h3, h4, h5, h6, h7, h8, h9⟩ := h
  have e0 := e s (by omega) (by omega)
  have g : ∀ k, 0 ≤ k → k < 15 → eqR M M' (s + k) := fun k a b => e _ (by omega) (by omega)
  refine ⟨(e0 _).trans h1, fun i a b => (g 7 (by omega) (by omega) _).trans (h2 i a b), fun i a b => (g 8 (by omega) (by omega) _).trans (h3 i a b), fun i a b => ?_, fun i a b => ?_, fun i a b => (g 11 (by omega) (by omega) _).trans (h6 i a b), (e0 _).trans h7, fun i a b => (g 12 (by omega) (by omega) _).trans (h8 i a b), fun i a b => ⟨(g 13 (by omega) (by omega) _).trans (h9 i a b).1, (g 14 (by omega) (by omega) _).trans (h9 i a b).2⟩⟩
  · rw [g 9 (by omega) (by omega) i]; exact h4 i a b
  · rw [g 10 (by omega) (by omega) i]; exact h5 i a b
theorem RStr.cg {M M' : aM} {s : Int} {t : Int → Int} (h : RStr M s t) (e : ∀ a, s ≤ a → a < s + 15 → eqR M M' a) : RStr M' s t := ⟨h.1.cg e, h.2.cg fun a x y => e a (by omega) (by omega)⟩
theorem RFr.cg {M M' A : aM} (h : RFr M A) (e : eqR M M' 0) : RFr M' A := ⟨(e _).trans h.1, (e _).trans h.2⟩
theorem RRd.cg {M M' A : aM} (h : RRd M A) (e : eqR M M' 17) (e2 : eqR M M' 18) : RRd M' A := ⟨(e _).trans h.1, fun i a b => (e2 _).trans (h.2.1 i a b), (e _).trans h.2.2.1, (e _).trans h.2.2.2⟩
theorem RTy.cg {M M' A : aM} (h : RTy M A) (e : eqR M M' 105) (e2 : eqR M M' 106) (e3 : eqR M M' 107) : RTy M' A := ⟨fun i a b => ⟨(e _).trans (h.1 i a b).1, fun q => (e2 _).trans ((h.1 i a b).2 q)⟩, fun i a b => (e3 _).trans (h.2 i a b)⟩
theorem RIm.cg {M M' A : aM} {N : Nat} {S : aS} (h : RIm M N S A) (e : eqR M M' 16) (e2 : ∀ a, 140 ≤ a → eqR M M' a) : RIm M' N S A := by
  refine ⟨fun i a b => ?_, fun i j a b c d q => ?_⟩
  · rw [e i]
    rcases h.1 i a b with h1 | ⟨h1, h2, h3, h4, h5⟩
    · exact Or.inl h1
    · exact Or.inr ⟨h1, h2, h3, h4, h5.cg fun a x y => e2 a (by omega)⟩
  · rw [e i, e j]
    exact h.2 i j a b c d q
theorem RPr.cg {M M' : aM} {b : Int} {t : Int → Int} (h : RPr M b t) (e : ∀ a, b ≤ a → a < b + 5 → eqR M M' a) : RPr M' b t := by
  have e0 := e b (by omega) (by omega)
  obtain ⟨h1, h2, h3, h4, h5⟩ := h
  refine ⟨by rw [e0]; exact h1, fun q x y => ?_, (e _ (by omega) (by omega) _).trans h3, (e _ (by omega) (by omega) _).trans h4, (e _ (by omega) (by omega) _).trans h5⟩
  rw [e0] at y
  rw [e _ (by omega) (by omega) q, e _ (by omega) (by omega) q, e _ (by omega) (by omega) q, e _ (by omega) (by omega) q]
  exact h2 q x y
theorem RPl.cg {M M' : aM} {w : Int} {t : Int → Int} (h : RPl M w t) (e : eqR M M' w) : RPl M' w t := fun s a b => by rw [e s]; exact h s a b
theorem RKo.cg {M M' : aM} (h : RKo M) (e : ∀ a, 90 ≤ a → a < 104 → eqR M M' a) (e2 : ∀ a, 36 ≤ a → a < 40 → eqR M M' a) : RKo M' := ⟨fun s a b => ⟨(e2 39 (by omega) (by omega) _).trans (h.1 s a b).1, (e 103 (by omega) (by omega) _).trans (h.1 s a b).2⟩, (e 90 (by omega) (by omega) _).trans h.2.1, (e 91 (by omega) (by omega) _).trans h.2.2.1, (e 93 (by omega) (by omega) _).trans h.2.2.2.1, (e2 36 (by omega) (by omega) _).trans h.2.2.2.2.1, (e2 38 (by omega) (by omega) _).trans h.2.2.2.2.2.1, (e 100 (by omega) (by omega) _).trans h.2.2.2.2.2.2.1, (e 102 (by omega) (by omega) _).trans h.2.2.2.2.2.2.2⟩
theorem RSe.cg {M M' : aM} {t : Int → Int} (h : RSe M t) (e : eqR M M' 82) : RSe M' t := by
  unfold RSe
  rw [e 5, e 6, e 7, e 8, e 9, e 10, e 11]
  exact h
/-! the words that the spec's functions look at -/
theorem stepV_cg {t u : Int → Int} (h : ∀ j, 219 ≤ j → t j = u j) (q : Int) : ∀ n, stepV t q n = stepV u q n
  | 0 => rfl
  | n + 1 => by
    unfold stepV
    rw [stepV_cg h q n, h _ (by omega), h _ (by omega)]
theorem priceV_cg {t u : Int → Int} (h : ∀ j, 219 ≤ j → t j = u j) (q : Int) : priceV t q = priceV u q := by
  unfold priceV
  rw [stepV_cg h, h _ (by omega)]
theorem cartL_cg {t u : Int → Int} (h : ∀ j, 219 ≤ j → t j = u j) (c : Int → Int) (q : Int) : ∀ n, cartL t c q n = cartL u c q n
  | 0 => rfl
  | n + 1 => by
    unfold cartL
    rw [cartL_cg h c q n, h _ (by omega), h _ (by omega), h _ (by omega), h _ (by omega)]
theorem cartF_cg {t u : Int → Int} (h : ∀ j, 219 ≤ j → t j = u j) : ∀ n, cartF t n = cartF u n
  | 0 => rfl
  | n + 1 => by
    unfold cartF
    rw [cartF_cg h n, h _ (by omega)]
    funext j
    rw [cartL_cg h]
theorem sumV_cg {t u : Int → Int} (h : ∀ j, 219 ≤ j → t j = u j) : ∀ n, sumV t n = sumV u n
  | 0 => rfl
  | n + 1 => by
    unfold sumV
    rw [sumV_cg h n, priceV_cg h]
theorem plainV_cg {t u : Int → Int} (h : ∀ j, 219 ≤ j → t j = u j) (q : Int) : plainV t q = plainV u q := by
  unfold plainV
  rw [sumV_cg h, priceV_cg h, h _ (by omega)]
theorem cartV_cg {t u : Int → Int} (h : ∀ j, 219 ≤ j → t j = u j) (q : Int) : cartV t q = cartV u q := by
  unfold cartV
  rw [cartF_cg h]
theorem singleV_cg {t u : Int → Int} (h : ∀ j, 219 ≤ j → t j = u j) (q : Int) : singleV t q = singleV u q := by
  unfold singleV
  rw [plainV_cg h, cartV_cg h]
theorem splitL_cg {t u : Int → Int} (h : ∀ j, 219 ≤ j → t j = u j) (f : Int → Int) (q : Int) : ∀ n, splitL t f q n = splitL u f q n
  | 0 => rfl
  | n + 1 => by
    unfold splitL
    rw [splitL_cg h f q n, singleV_cg h]
theorem sevF_cg {t u : Int → Int} (h : ∀ j, 219 ≤ j → t j = u j) : ∀ n, sevF t n = sevF u n
  | 0 => rfl
  | n + 1 => by
    unfold sevF
    rw [sevF_cg h n]
    funext j
    rw [splitL_cg h]
theorem sevV_cg {t u : Int → Int} (h : ∀ j, 219 ≤ j → t j = u j) (q : Int) : sevV t q = sevV u q := by
  unfold sevV
  rw [sevF_cg h]
theorem buysV_cg {t u : Int → Int} (h : ∀ j, 219 ≤ j → t j = u j) (q m : Int) (hm : 0 ≤ m) : buysV t q m = buysV u q m := by
  unfold buysV
  rw [sevV_cg h, h _ (by omega)]
theorem bestL_cg {c d : Int → Int} : ∀ n : Nat, (∀ i : Int, 0 ≤ i → i < n → c i = d i) → bestL c n = bestL d n
  | 0, _ => rfl
  | n + 1, h => by
    unfold bestL
    rw [bestL_cg n fun i a b => h i a (by omega), h n (by omega) (by omega)]
/-- what PLANS of a set look at -/
def sameP (t u : Int → Int) (set : Int) : Prop := (∀ j, 219 ≤ j → t j = u j) ∧ (∀ h, 0 ≤ h → h < 7 → hb set h = 1 → t (1 + h) = u (1 + h) ∧ ∀ m, 0 ≤ m → m < 6 → t (8 + 6 * h + m) = u (8 + 6 * h + m)) ∧ t 244 ≤ 6
theorem roomV_cg {t u : Int → Int} {set : Int} (h : sameP t u set) : roomV t set = roomV u set := sumN_congr fun i a b => by
  by_cases e : hb set i = 1
  · rw [if_pos e, if_pos e]; exact (h.2.1 i a (by omega) e).1
  · rw [if_neg e, if_neg e]
theorem wantV_cg {t u : Int → Int} {set m : Int} (h : sameP t u set) (hm : 0 ≤ m ∧ m < 6) : wantV t set m = wantV u set m := sumN_congr fun i a b => by
  by_cases e : hb set i = 1
  · rw [if_pos e, if_pos e]; exact (h.2.1 i a (by omega) e).2 m hm.1 hm.2
  · rw [if_neg e, if_neg e]
theorem planV_cg {t u : Int → Int} {set : Int} (h : sameP t u set) : ∀ n : Nat, n ≤ t 244 → planV t set n = planV u set n
  | 0, _ => rfl
  | n + 1, hn => by
    unfold planV
    have e := planV_cg h n (by omega)
    have e2 := h.1 244 (by omega)
    have h6 := h.2.2
    funext kept
    rw [e, ← e2, roomV_cg h]
    refine bestL_cg _ fun i a b => ?_
    unfold candV
    rw [wantV_cg h (by omega), buysV_cg h.1 _ _ (by omega), h.1 243 (by omega)]
theorem allV_cg {t u : Int → Int} {set : Int} (h : sameP t u set) (h0 : 0 ≤ t 244) : allV t set = allV u set := by
  unfold allV
  rw [planV_cg h _ (by omega), h.1 244 (by omega)]
