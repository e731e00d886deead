/-! restore -/
theorem RTar.ct2 {M : aM} {u : Int} {t v : Int → Int} (h : RTar M u t) (h6 : t 220 ≤ 6) (h4 : t 233 ≤ 4) (e : ∀ j, 219 ≤ j → j < 253 → v j = t j) : RTar M u v := by
  obtain ⟨a1, a2, a3, a4, a5, a6, a7, a8, a9, a10, a11⟩ := h
  refine ⟨a1.trans (e _ (by omega) (by omega)).symm, a2.trans (e _ (by omega) (by omega)).symm, fun k a b => ?_, a4.trans (e _ (by omega) (by omega)).symm, fun k a b => ?_, a6.trans (e _ (by omega) (by omega)).symm, a7.trans (e _ (by omega) (by omega)).symm, a8.trans (e _ (by omega) (by omega)).symm, fun i a b => (a9 i a b).trans (e _ (by omega) (by omega)).symm, a10.trans (e _ (by omega) (by omega)).symm, a11.trans (e _ (by omega) (by omega)).symm⟩
  · rw [e _ (by omega) (by omega)] at b
    exact ⟨(a3 k a b).1.trans (e _ (by omega) (by omega)).symm, (a3 k a b).2.trans (e _ (by omega) (by omega)).symm⟩
  · rw [e _ (by omega) (by omega)] at b
    exact ⟨(a5 k a b).1.trans (e _ (by omega) (by omega)).symm, (a5 k a b).2.trans (e _ (by omega) (by omega)).symm⟩
theorem TOK.steps {t : Int → Int} (h : TOK t) : t 220 ≤ 6 ∧ t 233 ≤ 4 := ⟨h.2.2.2.2.2.2.2.2.2.2.2.1.2, h.2.2.2.2.2.2.2.2.2.2.2.2.2.1.2⟩
/-- a whole new street -/
theorem RC.all {M M' A A' : aM} {N : Nat} {S : aS} (h : RC M N S A) (hM : ∀ a, ¬ (1 ≤ a ∧ a < 16) → a ≠ 25 → a ≠ 31 → a ≠ 82 → eqR M M' a) (h25 : M' 25 5 = 0) (h31 : ∀ j, 0 ≤ j → j < 128 → M' 31 j = -1) (h82 : M' 82 5 = 0) (hA : ∀ r, r ≠ 0 → A' r = A r) (hH : RStr M' 1 (A' 0)) : RC M' N S A' := by
  obtain ⟨h1, h2, h3, h4, h5, h6, h7, h8, h9⟩ := h
  have g : ∀ a, ¬ (1 ≤ a ∧ a < 16) → a ≠ 25 → a ≠ 31 → a ≠ 82 → eqR M M' a := hM
  refine ⟨hH, ?_, ?_, ?_, ?_, ⟨by omega, fun q x y => by omega, (g 26 (by omega) (by omega) (by omega) (by omega) 0).trans h6.2.2.1, (g 27 (by omega) (by omega) (by omega) (by omega) 0).trans h6.2.2.2.1, (g 29 (by omega) (by omega) (by omega) (by omega) 0).trans h6.2.2.2.2⟩, fun s a b => Or.inl (h31 s a b), h8.cg (fun a x y => g a (by omega) (by omega) (by omega) (by omega)) (fun a x y => g a (by omega) (by omega) (by omega) (by omega)), Or.inl h82⟩
  · have z := h2.cg (g 0 (by omega) (by omega) (by omega) (by omega))
    unfold RFr at z ⊢
    rw [hA 2 (by omega)]; exact z
  · have z := h3.cg (g 17 (by omega) (by omega) (by omega) (by omega)) (g 18 (by omega) (by omega) (by omega) (by omega))
    unfold RRd at z ⊢
    rw [hA 2 (by omega), hA 1 (by omega)]; exact z
  · have z := h4.cg (g 105 (by omega) (by omega) (by omega) (by omega)) (g 106 (by omega) (by omega) (by omega) (by omega)) (g 107 (by omega) (by omega) (by omega) (by omega))
    unfold RTy at z ⊢
    rw [hA 3 (by omega), hA 4 (by omega), hA 5 (by omega)]; exact z
  · have z := h5.cg (g 16 (by omega) (by omega) (by omega) (by omega)) (fun a x => g a (by omega) (by omega) (by omega) (by omega))
    unfold RIm at z ⊢
    rw [hA 6 (by omega), hA 7 (by omega)]; exact z
theorem s_Crestore {l : Launch} {E : aE} {N : Nat} {S : aS} {M : aM} (hfl : l.stackTraces = false) (i : Int) (hC : lyC S) (A : aM) (hR : RC M N S A) (hA : TOK (A 0)) (hIm : ∀ i, 0 ≤ i → i < 3 → A 6 i = 1 → TOK (fun j => A 7 (253 * i + j))) : aMt l E pX11_restore [(2, 0), (0, i)] N S M (opCv M N S (spRestore A i) (fun k => if k = 1 then 2 else 1)) := by
  refine a_met hfl rfl (by decide +kernel) (Nat.le_of_ble_eq_true rfl) ?_
  have c0 : M 1 1 = A 0 0 := hR.1.1.1
  have t0 := hA.1
  have t9 := hA.2.2.2.2.2.2.2.2.2.2.2.2.2.2.2.2.2.1
  refine x_aload_n (pc := 0) dX11_restore_0 rfl rfl ?_
  refine x_iload_n (pc := 1) dX11_restore_1 rfl rfl ?_
  refine x_callV1 (pc := 2) dX11_restore_2 rfl kX11_347 (s_needImage hfl _ hC) (sC_0 hC) rfl rfl (Nat.le_of_ble_eq_true rfl) (k_N (fun h_2 => ?_)) (n_N (fun h_2 => (by have e9 : spRestore A i = (1, 0, A) := (by unfold spRestore; (repeat' split) <;> first | rfl | (exfalso; omega)); rw [e9]; exact ⟨rfl, rfl, fun _ _ _ _ => rfl, hR, Or.inr ⟨show ¬ (1 : Int) = 0 by decide, rfl⟩⟩)))
  refine x_aload_n (pc := 5) dX11_restore_5 rfl rfl ?_
  refine x_getR (jj := 1) (pc := 6) dX11_restore_6 fX11_16 (sC_0 hC) rfl (by decide) rfl rC_0_1 ?_
  refine x_iload_n (pc := 9) dX11_restore_9 rfl rfl ?_
  refine x_aaload (pc := 10) dX11_restore_10 (sC_16 hC) (by omega) ?_
  refine x_ifnonnull (tgt := 22) (pc := 11) dX11_restore_11 (by decide) (fun c_11 => ?_) (fun c_11 => ?_)
  · refine x_aload_n (pc := 22) dX11_restore_22 rfl rfl ?_
    refine x_getR (jj := 0) (pc := 23) dX11_restore_23 fX11_10 (sC_0 hC) rfl (by decide) rfl rC_0_0 ?_
    refine x_aload_n (pc := 26) dX11_restore_26 rfl rfl ?_
    refine x_getR (jj := 1) (pc := 27) dX11_restore_27 fX11_16 (sC_0 hC) rfl (by decide) rfl rC_0_1 ?_
    refine x_iload_n (pc := 30) dX11_restore_30 rfl rfl ?_
    refine x_aaload (pc := 31) dX11_restore_31 (sC_16 hC) (by omega) ?_
    obtain ⟨w1, w2, w3, w4, w5⟩ : A 6 i = 1 ∧ 140 ≤ M 16 i ∧ M 16 i + 15 ≤ N ∧ lyS S (M 16 i) ∧ RStr M (M 16 i) (fun j => A 7 (253 * i + j)) := by
      rcases hR.2.2.2.2.1.1 i (by omega) (by omega) with w | w
      · exact absurd w.2 (by omega)
      · exact w
    have hK := hIm i (by omega) (by omega) w1
    have hz := hK.2.2.2.2.2.2.2.2.2.2.1
    have hs := hK.steps
    refine x_callV1 (pc := 32) dX11_restore_32 rfl kX11_350 (s_X7copy hfl 1 (M 16 i) hC.2.1 w4 (by omega) (by rw [w5.2.1]; exact hz)) (hC.2.1).2.1 rfl rfl (Nat.le_of_ble_eq_true rfl) (k_U (fun M9 hM9 => ?_)) n_U
    obtain ⟨f9, g9⟩ := hM9
    refine x_aload_n (pc := 35) dX11_restore_35 rfl rfl ?_
    refine x_callV0 (pc := 36) dX11_restore_36 rfl kX11_163 (s_forgetAll hfl hC) (sC_0 hC) rfl rfl (Nat.le_of_ble_eq_true rfl) (k_U (fun M8 hM9 => ?_)) n_U
    subst hM9
    refine x_return (pc := 39) dX11_restore_39 rfl (by decide) ?_
    have e9 : spRestore A i = (0, 0, resA A i 253) := by
      unfold spRestore
      rw [if_neg (by omega), if_neg (by omega)]
    rw [e9]
    have hq : ∀ a, ¬ (1 ≤ a ∧ a < 16) → a ≠ 25 → a ≠ 31 → a ≠ 82 → eqR M (up (flM (up M9 25 5 0) 31 (-1) 128) 82 5 0) a := fun a x y z w j => by
      rw [up_a w, flM_a z, up_a y]
      exact f9 a (by omega) j
    have hst : RStr M9 1 (resA A i 253 0) := by
      have z := g9 (fun j => A 7 (253 * i + j)) hs.1 hs.2 w5
      have e : ∀ j, 0 ≤ j → j < 253 → resA A i 253 0 j = A 7 (253 * i + j) := fun j a b => by
        unfold resA
        rw [if_pos ⟨rfl, a, b⟩]
      exact ⟨z.1.ct fun j a b => e j a (by omega), z.2.ct2 hs.1 hs.2 fun j a b => e j (by omega) b⟩
    refine ⟨rfl, rfl, fun a j x y => hq a (by omega) (by omega) (by omega) (by omega) j, RC.all hR hq ?_ (fun j a b => ?_) up_s (fun r hr => funext fun j => ?_) (hst.cg fun a x y j => ?_), Or.inl ⟨rfl, rfl⟩⟩
    · rw [up_a (by omega), flM_a (by omega), up_s]
    · rw [up_a (by omega), flM_s ⟨a, b⟩]
    · show resA A i 253 r j = A r j
      unfold resA
      rw [if_neg (by omega)]
    · rw [up_a (by omega), flM_a (by omega), up_a (by omega)]
  · refine x_throw (pc := 14) thX11_352_354 rfl trivial dX11_restore_14 dX11_restore_17 dX11_restore_18 dX11_restore_21 (by decide) ?_
    rcases hR.2.2.2.2.1.1 i (by omega) (by omega) with w | w
    · have e9 : spRestore A i = (2, 0, A) := by
        unfold spRestore
        rw [if_neg (by omega), if_pos w.1]
      rw [e9]
      exact ⟨rfl, rfl, fun _ _ _ _ => rfl, hR, Or.inr ⟨show ¬ (2 : Int) = 0 by decide, rfl⟩⟩
    · have := w.2.1
      exfalso
      omega
