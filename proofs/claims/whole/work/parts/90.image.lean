/-! image (class) -/
theorem x_aastore {l : Launch} {E : aE} {P : aP} {Q : aQ} {kc ks N : Nat} {S : aS} {M : aM} {pc : Nat} {lo : List (Nat × aV)} {st : List aV} {a n i v n9 : Int} {r r9 : Int → Int} (hd : decode P.2.1 pc = .ok (.aastore, 1)) (hS : S a = (16, n, r)) (h : 0 ≤ i ∧ i < n) (hv : S v = (7, n9, r9)) (hvb : v ≤ 2147483647)
    (k : aX l E P Q kc ks N S (up M a i v) (pc + 1) lo st) : aX l E P Q kc ks N S M pc lo ((2, v) :: (0, i) :: (2, a) :: st) := by
  intro p e s m args below meth c H locs ls ad0 ad N0 S0 B w x hS9 hl h1 h2
  obtain ⟨a1, a3⟩ := a_arr_at w hS (by decide) (by decide)
  obtain ⟨v1, v2, v3⟩ := a_in w hv (by decide)
  obtain ⟨hi, hj⟩ := a_idx h (a_hd (a_tl h1))
  show W _ _ _ _ _ _ _ _ _ _ _ _ _ _ _ (F0 m pc ls (a_cv E ad (2, v) :: .int (Int32.ofInt i) :: a_cv E ad (2, a) :: st.map (a_cv E ad)))
  rw [a_cv_in a1, a_cv_in v1]
  have v4 : (a_ws E ad N S M)[v.toNat]? = some (ad v.toNat, .inr (7, a_fs E ad 7 n9 r9 (M v))) := v3
  refine va_astq B.1 B.2.1 B.2.2.2.2.2.2.2.1 w.1 w.2.1 hS9 a.toNat 4 v.toNat 7 a3 rfl v4 rfl hi hd (fun H1 locs1 hP hD hS1 => ?_)
  have hset : (a_ws E ad N S M).set a.toNat (ad a.toNat, .inl (E.2.1 16, n.toNat, .inr (.inr (.inr (.inr (va_up (fun j : Nat => a_ro E ad (M a j)) (Int32.ofInt i).toNatClampNeg (some (ad v.toNat)))))))) = a_ws E ad N S (up M a i v) := by
    refine a_ws_up a1 ?_
    rw [hS, hj]
    have e : va_up (fun j : Nat => a_ro E ad (M a j)) i.toNat (some (ad v.toNat)) = fun j : Nat => a_ro E ad (up M a i v a j) := by
      funext j
      unfold va_up
      by_cases e : j = i.toNat
      · rw [if_pos e, show ((j : Nat) : Int) = i by omega, up_s, a_ro_in v1]
      · rw [if_neg e, up_i (by omega)]
    rw [e]
    rfl
  have hP := hset ▸ hP
  have hD := hset ▸ hD
  have hm : ∀ b j : Int, (S b).1 = 16 → up M a i v b j < N := fun b j hb => by
    by_cases e : b = a ∧ j = i
    · rw [e.1, e.2, up_s]; exact v2
    · rw [show up M a i v b j = M b j from if_neg e]; exact w.2.2.2.2.2 b j hb
  have hg : a_rg S (up M a i v) := a_rg_up w.2.2.1 (by
    rw [hS]
    have e : a_lg 16 i = false := rfl
    rw [if_neg (by rw [e]; decide)]
    omega)
  exact k p e s m args below meth c H1 locs1 ls ad0 ad N0 S0 B ⟨hP, hD, hg, w.2.2.2.1, w.2.2.2.2.1, hm⟩ x hS1 hl (a_tl (a_tl (a_tl h1))) h2
theorem lyS.cg {S S' : aS} {s : Int} (h : lyS S s) (e : ∀ i, s ≤ i → i < s + 15 → S' i = S i) : lyS S' s := by
  obtain ⟨h0, h1, h2, h3, h4, h5, h6, h7, h8, h9⟩ := h
  exact ⟨h0.cg fun i a b => e i (by omega) (by omega), (e _ (by omega) (by omega)).trans h1, (e _ (by omega) (by omega)).trans h2, (e _ (by omega) (by omega)).trans h3, (e _ (by omega) (by omega)).trans h4, (e _ (by omega) (by omega)).trans h5, (e _ (by omega) (by omega)).trans h6, (e _ (by omega) (by omega)).trans h7, (e _ (by omega) (by omega)).trans h8, (e _ (by omega) (by omega)).trans h9⟩
theorem RC.img {M M' A : aM} {N N' : Nat} {S S' : aS} {i s : Int} (h : RC M N S A) (hA : TOK (A 0)) (hIm : ∀ i, 0 ≤ i → i < 3 → A 6 i = 1 → TOK (fun j => A 7 (253 * i + j))) (hi : 0 ≤ i ∧ i < 3) (hN : N ≤ N') (h140 : 140 ≤ N) (hS' : ∀ k : Int, k < N → S' k = S k) (hs : 140 ≤ s ∧ s + 15 ≤ N') (hly : lyS S' s) (hM : ∀ a : Int, a < N → a ≠ 16 → ¬ (s ≤ a ∧ a < s + 15) → eqR M M' a) (h16 : M' 16 i = s) (h17 : ∀ k, k ≠ i → M' 16 k = M 16 k) (hd : ∀ k, 0 ≤ k → k < 3 → k ≠ i → M 16 k ≠ -1 → s + 15 ≤ M 16 k ∨ M 16 k + 15 ≤ s) (hst : RStr M' s (A 0)) : RC M' N' S' (imgA A i 253) := by
  obtain ⟨h1, h2, h3, h4, h5, h6, h7, h8, h9⟩ := h
  have g : ∀ a : Int, a < 140 → a ≠ 16 → eqR M M' a := fun a x y => hM a (by omega) y (by omega)
  have hr : ∀ r, r ≠ 6 → r ≠ 7 → imgA A i 253 r = A r := fun r x y => funext fun j => by
    unfold imgA
    rw [if_neg (by omega), up_a (by omega)]
  have e7 : ∀ j, 0 ≤ j → j < 253 → imgA A i 253 7 (253 * i + j) = A 0 j := fun j a b => by
    unfold imgA
    rw [if_pos ⟨rfl, by omega, by omega⟩, show 253 * i + j - 253 * i = j by omega]
  have e8 : ∀ k j, k ≠ i → 0 ≤ j → j < 253 → imgA A i 253 7 (253 * k + j) = A 7 (253 * k + j) := fun k j z a b => by
    unfold imgA
    rw [if_neg (by omega), up_a (by omega)]
  have e6 : ∀ k, k ≠ i → imgA A i 253 6 k = A 6 k := fun k z => by
    unfold imgA
    rw [if_neg (by omega), up_i z]
  have e60 : imgA A i 253 6 i = 1 := by
    unfold imgA
    rw [if_neg (by omega), up_s]
  refine ⟨?_, ?_, ?_, ?_, ⟨fun k a b => ?_, fun k j a b c d q u1 u2 => ?_⟩, ?_, ?_, h8.cg (fun a x y => g a (by omega) (by omega)) (fun a x y => g a (by omega) (by omega)), ?_⟩
  · rw [hr 0 (by omega) (by omega)]; exact h1.cg fun a x y => g a (by omega) (by omega)
  · have z := h2.cg (g 0 (by omega) (by omega))
    unfold RFr at z ⊢
    rw [hr 2 (by omega) (by omega)]; exact z
  · have z := h3.cg (g 17 (by omega) (by omega)) (g 18 (by omega) (by omega))
    unfold RRd at z ⊢
    rw [hr 2 (by omega) (by omega), hr 1 (by omega) (by omega)]; exact z
  · have z := h4.cg (g 105 (by omega) (by omega)) (g 106 (by omega) (by omega)) (g 107 (by omega) (by omega))
    unfold RTy at z ⊢
    rw [hr 3 (by omega) (by omega), hr 4 (by omega) (by omega), hr 5 (by omega) (by omega)]; exact z
  · by_cases e : k = i
    · subst e
      have st := hA.steps
      rw [h16]
      exact Or.inr ⟨e60, hs.1, hs.2, hly, hst.1.ct fun j a b => e7 j a (by omega), hst.2.ct2 st.1 st.2 fun j a b => e7 j (by omega) b⟩
    · rw [h17 k e, e6 k e]
      rcases h5.1 k a b with z | ⟨z1, z2, z3, z4, z5⟩
      · exact Or.inl z
      · have st := (hIm k a b z1).steps
        have dd := hd k a b e (by omega)
        have y5 : RStr M' (M 16 k) (fun j => A 7 (253 * k + j)) := z5.cg fun a x y => hM a (by omega) (by omega) (by omega)
        exact Or.inr ⟨z1, z2, by omega, z4.cg fun q x y => hS' q (by omega), y5.1.ct fun j a b => e8 k j e a (by omega), y5.2.ct2 st.1 st.2 fun j a b => e8 k j e (by omega) b⟩
  · by_cases e : k = i
    · subst e
      rw [h17 j (by omega)] at u2 ⊢
      rw [h16]
      have := hd j c d (by omega) u2
      omega
    · rw [h17 k e] at u1 ⊢
      by_cases e2 : j = i
      · subst e2
        rw [h16]
        have := hd k a b e u1
        omega
      · rw [h17 j e2] at u2 ⊢
        exact h5.2 k j a b c d q u1 u2
  · rw [hr 0 (by omega) (by omega)]; exact h6.cg fun a x y => g a (by omega) (by omega)
  · rw [hr 0 (by omega) (by omega)]; exact h7.cg (g _ (by omega) (by omega))
  · rw [hr 0 (by omega) (by omega)]; exact h9.cg (g 82 (by omega) (by omega))
def opCi (M : aM) (N : Nat) (S : aS) (sp : Int × Int × aM) (xs : Int → Nat) : aQ := fun o N' S' M' => N ≤ N' ∧ N' ≤ N + 15 ∧ (∀ k : Int, k < N → S' k = S k) ∧ frC M M' ∧ RC M' N' S' sp.2.2 ∧ ((sp.1 = 0 ∧ o = .inl none) ∨ (sp.1 ≠ 0 ∧ o = .inr (xs sp.1)))
theorem s_Cimage {l : Launch} {E : aE} {N : Nat} {S : aS} {M : aM} (hfl : l.stackTraces = false) (i : Int) (hC : lyC S) (A : aM) (hR : RC M N S A) (hA : TOK (A 0)) (hIm : ∀ i, 0 ≤ i → i < 3 → A 6 i = 1 → TOK (fun j => A 7 (253 * i + j))) (hN : 140 ≤ N ∧ N ≤ 2000000000) : aMt l E pX11_image [(2, 0), (0, i)] N S M (opCi M N S (spImage A i) (fun k => if k = 1 then 2 else 1)) := by
  refine a_met hfl rfl (by decide +kernel) (Nat.le_of_ble_eq_true rfl) ?_
  have c0 : M 1 1 = A 0 0 := hR.1.1.1
  have t0 := hA.1
  have t9 := hA.2.2.2.2.2.2.2.2.2.2.2.2.2.2.2.2.2.1
  refine x_aload_n (pc := 0) dX11_image_0 rfl rfl ?_
  refine x_iload_n (pc := 1) dX11_image_1 rfl rfl ?_
  refine x_callV1 (pc := 2) dX11_image_2 rfl kX11_347 (s_needImage hfl _ hC) (sC_0 hC) rfl rfl (Nat.le_of_ble_eq_true rfl) (k_N (fun h_2 => ?_)) (n_N (fun h_2 => (by have e9 : spImage A i = (1, 0, A) := (by unfold spImage; (repeat' split) <;> first | rfl | (exfalso; omega)); rw [e9]; exact ⟨Nat.le_refl _, by omega, fun _ _ => rfl, fun _ _ _ _ => rfl, hR, Or.inr ⟨show ¬ (1 : Int) = 0 by decide, rfl⟩⟩)))
  refine x_aload_n (pc := 5) dX11_image_5 rfl rfl ?_
  refine x_getR (jj := 1) (pc := 6) dX11_image_6 fX11_16 (sC_0 hC) rfl (by decide) rfl rC_0_1 ?_
  refine x_iload_n (pc := 9) dX11_image_9 rfl rfl ?_
  refine x_aaload (pc := 10) dX11_image_10 (sC_16 hC) (by omega) ?_
  refine x_ifnonnull (tgt := 27) (pc := 11) dX11_image_11 (by decide) (fun c_11 => ?_) (fun c_11 => ?_)
  · refine x_aload_n (pc := 27) dX11_image_27 rfl rfl ?_
    refine x_getR (jj := 1) (pc := 28) dX11_image_28 fX11_16 (sC_0 hC) rfl (by decide) rfl rC_0_1 ?_
    refine x_iload_n (pc := 31) dX11_image_31 rfl rfl ?_
    refine x_aaload (pc := 32) dX11_image_32 (sC_16 hC) (by omega) ?_
    refine x_aload_n (pc := 33) dX11_image_33 rfl rfl ?_
    refine x_getR (jj := 0) (pc := 34) dX11_image_34 fX11_10 (sC_0 hC) rfl (by decide) rfl rC_0_0 ?_
    have hz := hA.2.2.2.2.2.2.2.2.2.2.1
    have hst := hA.steps
    obtain ⟨w1, w2, w3, w4, w5⟩ : A 6 i = 1 ∧ 140 ≤ M 16 i ∧ M 16 i + 15 ≤ N ∧ lyS S (M 16 i) ∧ RStr M (M 16 i) (fun j => A 7 (253 * i + j)) := by
      rcases hR.2.2.2.2.1.1 i (by omega) (by omega) with w | w
      · exact absurd w.2 (by omega)
      · exact w
    have w42 := w4.2.1
    refine x_callV1 (pc := 37) dX11_image_37 rfl kX11_350 (s_X7copy hfl (M 16 i) 1 w4 hC.2.1 (by omega) (by rw [hR.1.2.1]; exact hz)) (by assumption) rfl rfl (Nat.le_of_ble_eq_true rfl) (k_U (fun M9 hM9 => ?_)) n_U
    obtain ⟨f9, g9⟩ := hM9
    refine x_return (pc := 40) dX11_image_40 rfl (by decide) ?_
    have e9 : spImage A i = (0, 0, imgA A i 253) := by
      unfold spImage
      rw [if_neg (by omega)]
    rw [e9]
    refine ⟨Nat.le_refl _, by omega, fun _ _ => rfl, fun a j x y => f9 a (by omega) j, hR.img hA hIm (by omega) (Nat.le_refl _) hN.1 (fun _ _ => rfl) ⟨w2, w3⟩ w4 (fun a x y z => f9 a z) (f9 16 (by omega) i) (fun k z => f9 16 (by omega) k) (fun k a b z u => ?_) (g9 (A 0) hst.1 hst.2 hR.1), Or.inl ⟨rfl, rfl⟩⟩
    have := hR.2.2.2.2.1.2 i k (by omega) (by omega) a b (by omega) (by omega) u
    omega
  · refine x_aload_n (pc := 14) dX11_image_14 rfl rfl ?_
    refine x_getR (jj := 1) (pc := 15) dX11_image_15 fX11_16 (sC_0 hC) rfl (by decide) rfl rC_0_1 ?_
    refine x_iload_n (pc := 18) dX11_image_18 rfl rfl ?_
    refine x_newO (pc := 19) dX11_image_19 nwX11_7 (by decide) ?_
    refine x_dup (pc := 22) dX11_image_22 rfl ?_
    refine x_callIN0 (pc := 23) dX11_image_23 rfl kX11_9 (s_X7init hfl (N : Int) (by omega) (by omega) (sAdd_e rfl)) (by omega) rfl (Nat.le_of_ble_eq_true rfl) (k_C (fun N9 S9 M9 hQ => ?_)) n_C
    obtain ⟨rfl, y1, y2, y3, y4, y5⟩ := hQ
    have yS : ∀ k : Int, k < N → S9 k = S k := fun k x => (y2 k x).trans (sAdd_o (by omega))
    have yM : ∀ k j : Int, k < N → M9 k j = M k j := fun k j x => (y3 k j x).trans (mAdd_o (by omega))
    have hh00 := rC_0_0
    have hh01 := rC_0_1
    have y12 := y1.2.1
    have y16 := (yS 16 (by omega)).trans (sC_16 hC)
    refine x_aastore (pc := 26) dX11_image_26 y16 (by omega) y1.2.1 (by omega) ?_
    refine x_aload_n (pc := 27) dX11_image_27 rfl rfl ?_
    refine x_getR (jj := 1) (pc := 28) dX11_image_28 fX11_16 ((yS 0 (by omega)).trans (sC_0 hC)) rfl (by decide) rfl (by first | assumption | rfl) ?_
    refine x_iload_n (pc := 31) dX11_image_31 rfl rfl ?_
    refine x_aaload (pc := 32) dX11_image_32 (by assumption) (by omega) ?_
    rewrite [up_s]
    refine x_aload_n (pc := 33) dX11_image_33 rfl rfl ?_
    refine x_getR (jj := 0) (pc := 34) dX11_image_34 fX11_10 ((yS 0 (by omega)).trans (sC_0 hC)) rfl (by decide) rfl (by first | assumption | rfl) ?_
    have hz := hA.2.2.2.2.2.2.2.2.2.2.1
    have hst := hA.steps
    refine x_callV1 (pc := 37) dX11_image_37 rfl kX11_350 (s_X7copy hfl (N : Int) 1 y1 (hC.2.1.cg fun k a b => yS k (by omega)) (by omega) (by rw [up_a (by omega), yM _ _ (by omega), hR.1.2.1]; exact hz)) (by assumption) rfl rfl (Nat.le_of_ble_eq_true rfl) (k_U (fun M8 hM8 => ?_)) n_U
    obtain ⟨f9, g9⟩ := hM8
    refine x_return (pc := 40) dX11_image_40 rfl (by decide) ?_
    have e9 : spImage A i = (0, 0, imgA A i 253) := by
      unfold spImage
      rw [if_neg (by omega)]
    rw [e9]
    have fr : ∀ a : Int, a < N → a ≠ 16 → eqR M M8 a := fun a x y j => (f9 a (by omega) j).trans ((up_a y).trans (yM a j x))
    refine ⟨by omega, by omega, yS, fun a j x y => fr a (by omega) (by omega) j, hR.img hA hIm (s := (N : Int)) (by omega) (by omega) hN.1 yS (by omega) y1 (fun a x y z => fr a x y) ((f9 16 (by omega) i).trans up_s) (fun k z => (f9 16 (by omega) k).trans ((up_i z).trans (yM 16 k (by omega)))) (fun k a b z u => ?_) (g9 (A 0) hst.1 hst.2 (hR.1.cg fun a x y j => (up_a (by omega)).trans (yM a j (by omega)))), Or.inl ⟨rfl, rfl⟩⟩
    rcases hR.2.2.2.2.1.1 k a b with w | w
    · exact absurd w.2 u
    · have := w.2.2.1
      omega
