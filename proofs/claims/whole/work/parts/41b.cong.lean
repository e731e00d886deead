/-! two rows alike: their answers too -/
def sameT (t u : Int → Int) : Prop := (∀ j, 1 ≤ j → j < 148 → t j = u j) ∧ ∀ j, 219 ≤ j → t j = u j
theorem sameT.p {t u : Int → Int} {set : Int} (h : sameT t u) (h6 : t 244 ≤ 6) : sameP t u set := ⟨h.2, fun i a b _ => ⟨h.1 _ (by omega) (by omega), fun m x y => h.1 _ (by omega) (by omega)⟩, h6⟩
theorem allB_cg {p q : Int → Bool} : ∀ n : Nat, (∀ i : Int, 0 ≤ i → i < n → p i = q i) → allB p n = allB q n
  | 0, _ => rfl
  | n + 1, h => by
    unfold allB
    rw [allB_cg n fun i a b => h i a (by omega), h n (by omega) (by omega)]
theorem firstB_cg {p q : Int → Bool} : ∀ n : Nat, (∀ i : Int, 0 ≤ i → i < n → p i = q i) → firstB p n = firstB q n
  | 0, _ => rfl
  | n + 1, h => by
    unfold firstB
    rw [firstB_cg n fun i a b => h i a (by omega), h n (by omega) (by omega)]
theorem holdV_cg {t u : Int → Int} {set : Int} (h : ∀ j, 1 ≤ j → j < 148 → t j = u j) : holdV t set = holdV u set := by
  unfold holdV
  refine firstB_cg 7 fun i a b => ?_
  unfold holdB
  rw [allB_cg 7 fun k x y => by rw [h _ (by omega) (by omega)]]
theorem barV_cg {t u : Int → Int} {set : Int} (h : ∀ j, 1 ≤ j → j < 148 → t j = u j) : barV t set = barV u set := by
  unfold barV
  rw [firstB_cg (q := barB u set) 7 fun a x y => by unfold barB; rw [allB_cg a.toNat fun k x y => by rw [h _ (by omega) (by omega)]]]
theorem costV_cg {t u : Int → Int} {set : Int} (h : sameT t u) (h6 : 0 ≤ t 244 ∧ t 244 ≤ 6) : costV t set = costV u set := by
  unfold costV
  rw [barV_cg h.1, holdV_cg h.1, allV_cg (h.p h6.2) h6.1, h.2 242 (by omega)]
theorem candV_cg {t u : Int → Int} {set m kept left : Int} {nxt : Int → Int} (h : sameP t u set) (hm : 0 ≤ m ∧ m < 6) : candV t set m kept nxt left = candV u set m kept nxt left := by
  unfold candV
  rw [wantV_cg h hm, buysV_cg h.1 _ _ hm.1, h.1 243 (by omega)]
theorem costV_fun {t u : Int → Int} (h : sameT t u) (h6 : 0 ≤ t 244 ∧ t 244 ≤ 6) : costV t = costV u := funext fun s => costV_cg h h6
theorem allV_fun {t u : Int → Int} (h : sameT t u) (h6 : 0 ≤ t 244 ∧ t 244 ≤ 6) : allV t = allV u := funext fun s => allV_cg (h.p h6.2) h6.1
theorem gainT_cg {t u : Int → Int} (h : sameT t u) (h6 : 0 ≤ t 244 ∧ t 244 ≤ 6) (s k : Int) : gainT t s k = gainT u s k := by
  unfold gainT
  rw [costV_fun h h6, allV_fun h h6]
theorem stepT_same {t u : Int → Int} (h : sameT t u) (p n r : Int) : sameT (stepT t p n r) (stepT u p n r) := by
  refine ⟨fun j a b => ?_, fun j a => ?_⟩
  · unfold stepT
    rw [h.1 j a b]
  · unfold stepT
    rw [h.2 j a]
theorem stepT_244 (t : Int → Int) (p n r : Int) : stepT t p n r 244 = t 244 := rfl
theorem selR_cg {t u : Int → Int} (h : sameT t u) (h6 : 0 ≤ t 244 ∧ t 244 ≤ 6) (s p k n : Int) : ∀ (j : Nat) (x : Int × Int × Int), selR t s p k n j x = selR u s p k n j x
  | 0, _ => rfl
  | j + 1, x => by
    unfold selR
    rw [selR_cg h h6 s p k n j x, gainT_cg (stepT_same h p n _) h6]
theorem selN_cg {t u : Int → Int} (h : sameT t u) (h6 : 0 ≤ t 244 ∧ t 244 ≤ 6) (s p k : Int) : ∀ i : Nat, selN t s p k i = selN u s p k i
  | 0 => rfl
  | i + 1 => by
    unfold selN
    rw [selN_cg h h6 s p k i, selR_cg h h6]
theorem RSe.ct {M : aM} {t u : Int → Int} (h : RSe M t) (e : sameT t u) (h6 : 0 ≤ t 244 ∧ t 244 ≤ 6) : RSe M u := by
  rcases h with h | ⟨h1, h2, h3⟩
  · exact Or.inl h
  · refine Or.inr ⟨h1, ?_, ?_⟩
    · rw [← h2]; exact (selN_cg e h6 _ _ _ 11).symm
    · rw [← h3]; exact (gainT_cg (stepT_same e _ _ _) h6 _ _).symm
