/-! THE FIRST STATE -/
def A0 : aM := fun r i => if r = 0 then (if i = 155 ∨ i = 244 then 1 else 0) else if r = 2 ∧ i = 2 then -1 else if r = 3 then -1 else 0
theorem A0_t {i : Int} (h : i ≠ 155 ∧ i ≠ 244) : A0 0 i = 0 := by
  unfold A0
  rw [if_pos rfl, if_neg (by omega)]
theorem A0_155 : A0 0 155 = 1 := rfl
theorem A0_244 : A0 0 244 = 1 := rfl
theorem A0_0 {r i : Int} (h : r ≠ 0 ∧ r ≠ 3 ∧ ¬ (r = 2 ∧ i = 2)) : A0 r i = 0 := by
  unfold A0
  rw [if_neg (by omega), if_neg (by omega), if_neg (by omega)]
theorem A0_22 : A0 2 2 = -1 := rfl
theorem A0_3 (i : Int) : A0 3 i = -1 := rfl
theorem A0_tok : TOK (A0 0) := by
  have z : ∀ i, i ≠ 155 ∧ i ≠ 244 → A0 0 i = 0 := fun i h => A0_t h
  refine ⟨by rw [z 0 (by omega)]; omega, fun h a b => by rw [z _ (by omega)]; omega, fun h a b => by rw [z _ (by omega)]; omega, fun a b x y u v => ?_, fun a b x y u v => Or.inl (z _ (by omega)), fun h a b => by rw [z _ (by omega)]; omega, by rw [A0_155]; omega, fun h a b => by rw [z _ (by omega)]; omega, fun h a b => by rw [z _ (by omega)]; omega, fun h n a b x y => ?_, Or.inl (z _ (by omega)), by rw [z _ (by omega)]; omega, fun k a b => ?_, by rw [z _ (by omega)]; omega, fun k a b => ?_, by rw [z _ (by omega)]; omega, by rw [z _ (by omega)]; omega, by rw [A0_244]; omega, fun i a b => by rw [z _ (by omega)]; omega, by rw [z _ (by omega)]; omega, by rw [z _ (by omega)]; omega⟩
  · rw [z (50 + 7 * a + b) (by omega), z (50 + 7 * b + a) (by omega)]
    exact ⟨Or.inl rfl, rfl⟩
  · rw [z _ (by omega)] at y
    omega
  · rw [z _ (by omega)] at b
    omega
  · rw [z _ (by omega)] at b
    omega
theorem A0_tb : TB (A0 0) := ⟨fun a b x y u v => by rw [A0_t (by omega), A0_t (by omega)], fun a x y => A0_t (by omega)⟩
theorem RC_init {M : aM} {N : Nat} {S : aS} (h0 : ∀ j, M 0 j = 0) (h : ∀ i j, 0 < i → i < 109 → M i j = vC i j) : RC M N S A0 := by
  have z : ∀ i, i ≠ 155 ∧ i ≠ 244 → A0 0 i = 0 := fun i h => A0_t h
  have v1 : ∀ j, M 1 j = if j = 7 then 1 else 0 := fun j => by
    rw [h 1 j (by omega) (by omega)]
    unfold vC
    by_cases e : j = 7
    · rw [if_pos ⟨rfl, e⟩, if_pos e]
    · rw [if_neg (fun q => e q.2), if_neg (by omega), if_neg (by omega), if_neg (by omega), if_neg (by omega), if_neg (by omega), if_neg (by omega), if_neg (by omega), if_neg (by omega), if_neg e]
  have v2 : ∀ j, M 2 j = if j = 9 then 1 else 0 := fun j => by
    rw [h 2 j (by omega) (by omega)]
    unfold vC
    rw [if_neg (by omega)]
    by_cases e : j = 9
    · rw [if_pos ⟨rfl, e⟩, if_pos e]
    · rw [if_neg (fun q => e q.2), if_neg (by omega), if_neg (by omega), if_neg (by omega), if_neg (by omega), if_neg (by omega), if_neg (by omega), if_neg (by omega), if_neg e]
  have w : ∀ i j, 2 < i → i < 109 → i ≠ 16 ∧ i ≠ 17 ∧ i ≠ 19 ∧ i ≠ 31 ∧ i ≠ 39 ∧ ¬ (82 < i ∧ i < 104) ∧ i ≠ 105 → M i j = 0 := fun i j a b c => (h i j (by omega) b).trans (vC_0 (by omega))
  have w6 : ∀ i j, 82 < i → i < 104 → M i j = vX6i 82 i j := fun i j a b => by
    rw [h i j (by omega) (by omega)]
    unfold vC
    rw [if_neg (by omega), if_neg (by omega), if_neg (by omega), if_neg (by omega), if_neg (by omega), if_neg (by omega), if_neg (by omega), if_pos ⟨a, b⟩]
  have v16 : ∀ j, M 16 j = -1 := fun j => by
    rw [h 16 j (by omega) (by omega)]
    unfold vC
    rw [if_neg (by omega), if_neg (by omega), if_pos rfl]
  have v17 : ∀ j, M 17 j = if j = 3 then -1 else 0 := fun j => by
    rw [h 17 j (by omega) (by omega)]
    unfold vC
    rw [if_neg (by omega), if_neg (by omega), if_neg (by omega)]
    by_cases e : j = 3
    · rw [if_pos ⟨rfl, e⟩, if_pos e]
    · rw [if_neg (fun q => e q.2), if_neg (by omega), if_neg (by omega), if_neg (by omega), if_neg (by omega), if_neg (by omega), if_neg e]
  refine ⟨⟨⟨?_, fun i a b => ?_, fun i a b => ?_, fun a x y => ⟨?_, fun b u v => ?_⟩, fun b x y => ⟨?_, fun a u v => ?_⟩, fun i a b => ?_, ?_, fun i a b => ?_, fun i a b => ⟨?_, ?_⟩⟩, ?_, ?_, fun k a b => ?_, ?_, fun k a b => ?_, ?_, ?_, ?_, fun i a b => ?_, ?_, ?_⟩, ⟨?_, ?_⟩, ⟨?_, fun i a b => ?_, ?_, ?_⟩, ⟨fun i a b => ⟨?_, fun q => absurd (A0_3 i) q⟩, fun i a b => ?_⟩, ⟨fun i a b => Or.inl ⟨A0_0 (by omega), v16 i⟩, fun i j a b c d e q => absurd (v16 i) q⟩, ⟨?_, fun q a b => ?_, ?_, ?_, ?_⟩, fun s a b => Or.inl ?_, ⟨fun s a b => ⟨?_, ?_⟩, ?_, ?_, ?_, ?_, ?_, ?_, ?_⟩, Or.inl ?_⟩
  · rw [v1, z 0 (by omega)]; rfl
  · rw [w _ _ (by omega) (by omega) (by omega), z _ (by omega)]
  · rw [w _ _ (by omega) (by omega) (by omega), z _ (by omega)]
  · rw [w _ _ (by omega) (by omega) (by omega)]; omega
  · rw [w _ _ (by omega) (by omega) (by omega), z _ (by omega)]
    exact ⟨fun q => absurd q (hb_0 ⟨u, v⟩), fun q => by omega⟩
  · rw [w _ _ (by omega) (by omega) (by omega)]; omega
  · rw [w _ _ (by omega) (by omega) (by omega), z _ (by omega)]
    exact ⟨fun q => absurd q (hb_0 ⟨u, v⟩), fun q => by omega⟩
  · rw [w _ _ (by omega) (by omega) (by omega), z _ (by omega)]
  · rw [v1, A0_155]; rfl
  · rw [w _ _ (by omega) (by omega) (by omega), z _ (by omega)]
  · rw [w _ _ (by omega) (by omega) (by omega), z _ (by omega)]
  · rw [w _ _ (by omega) (by omega) (by omega), z _ (by omega)]
  · show M 2 0 = _
    rw [v2, z _ (by omega)]; rfl
  · show M 2 1 = _
    rw [v2, z _ (by omega)]; rfl
  · rw [z _ (by omega)] at b; omega
  · show M 2 4 = _
    rw [v2, z _ (by omega)]; rfl
  · rw [z _ (by omega)] at b; omega
  · show M 2 7 = _
    rw [v2, z _ (by omega)]; rfl
  · show M 2 8 = _
    rw [v2, z _ (by omega)]; rfl
  · show M 2 9 = _
    rw [v2, A0_244]; rfl
  · rw [w _ _ (by omega) (by omega) (by omega), z _ (by omega)]
  · show M 2 11 = _
    rw [v2, z _ (by omega)]; rfl
  · show M 2 12 = _
    rw [v2, z _ (by omega)]; rfl
  · rw [h0, A0_0 (by omega)]
  · rw [h0, A0_0 (by omega)]
  · rw [v17, A0_0 (by omega)]; rfl
  · rw [A0_0 (by omega)] at b; omega
  · rw [v17, A0_0 (by omega)]; rfl
  · rw [v17]; rfl
  · rw [if_pos (A0_3 i), h 105 i (by omega) (by omega)]
    unfold vC
    rw [if_neg (by omega), if_neg (by omega), if_neg (by omega), if_neg (by omega), if_neg (by omega), if_neg (by omega), if_neg (by omega), if_neg (by omega), if_pos ⟨rfl, a, b⟩]
  · rw [w _ _ (by omega) (by omega) (by omega), A0_0 (by omega)]
  · rw [w _ _ (by omega) (by omega) (by omega)]; omega
  · rw [w _ _ (by omega) (by omega) (by omega)] at b; omega
  · exact w _ _ (by omega) (by omega) (by omega)
  · exact w _ _ (by omega) (by omega) (by omega)
  · exact w _ _ (by omega) (by omega) (by omega)
  · rw [h 31 s (by omega) (by omega)]
    unfold vC
    rw [if_neg (by omega), if_neg (by omega), if_neg (by omega), if_neg (by omega), if_neg (by omega), if_pos ⟨rfl, a, b⟩]
  · rw [h 39 s (by omega) (by omega)]
    unfold vC
    rw [if_neg (by omega), if_neg (by omega), if_neg (by omega), if_neg (by omega), if_neg (by omega), if_neg (by omega), if_pos ⟨rfl, a, b⟩]
  · rw [w6 103 s (by omega) (by omega)]
    unfold vX6i
    rw [if_neg (by omega), if_neg (by omega), if_pos ⟨rfl, a, b⟩]
  · rw [w6 _ _ (by omega) (by omega)]; exact vX6i_z (by omega)
  · rw [w6 _ _ (by omega) (by omega)]; exact vX6i_z (by omega)
  · rw [w6 _ _ (by omega) (by omega)]; exact vX6i_z (by omega)
  · exact w _ _ (by omega) (by omega) (by omega)
  · exact w _ _ (by omega) (by omega) (by omega)
  · rw [w6 _ _ (by omega) (by omega)]; exact vX6i_z (by omega)
  · rw [w6 _ _ (by omega) (by omega)]; exact vX6i_z (by omega)
  · exact w _ _ (by omega) (by omega) (by omega)
theorem RM_init {M : aM} {m : Int} (h0 : ∀ j, M m j = if j = 15 then -1 else 0) (h : ∀ i j, m < i → i < m + 30 → M i j = vM m i j) : RM M m A0 := by
  have w : ∀ i j, m + 1 < i → i < m + 30 → i ≠ m + 27 → M i j = 0 := fun i j a b c => by
    rw [h i j (by omega) b]
    unfold vM vM0
    rw [if_neg (by omega), if_neg (by omega)]
  refine ⟨⟨fun i a b => ?_, ?_, fun i a b => ?_, ⟨?_, ?_, ?_, ?_⟩, fun i a b => ⟨?_, ?_⟩, fun i a b => ?_, fun i a b => ?_, fun i a b => ?_, ?_⟩, Or.inl ?_, Or.inl ?_, ?_, ?_⟩
  · rw [h _ _ (by omega) (by omega)]
    unfold vM A0
    by_cases e : i = 155 ∨ i = 244
    · rw [if_pos ⟨rfl, e⟩, if_pos rfl, if_pos e]
    · rw [if_neg (fun q => e q.2), if_pos rfl, if_neg e]
      unfold vM0
      rw [if_neg (by omega)]
  · rw [h0, A0_0 (by omega)]; rfl
  · rw [A0_0 (by omega)] at b; omega
  · rw [h0, A0_0 (by omega)]; rfl
  · rw [h0]; rfl
  · rw [h0, A0_0 (by omega)]; rfl
  · rw [h0, A0_0 (by omega)]; rfl
  · rw [h _ _ (by omega) (by omega), A0_3]
    unfold vM vM0
    rw [if_neg (by omega), if_pos ⟨rfl, a, b⟩]
  · rw [w _ _ (by omega) (by omega) (by omega), A0_0 (by omega)]
  · rw [w _ _ (by omega) (by omega) (by omega), A0_0 (by omega)]
  · rw [w _ _ (by omega) (by omega) (by omega), A0_0 (by omega)]
  · rw [w _ _ (by omega) (by omega) (by omega), A0_0 (by omega)]
  · rw [h0]; rfl
  · rw [h0]; rfl
  · rfl
  · exact w _ _ (by omega) (by omega) (by omega)
  · exact w _ _ (by omega) (by omega) (by omega)
