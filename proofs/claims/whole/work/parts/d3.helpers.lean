/-! THE LAW: its helpers -/
abbrev pL_house : aP := (yL_house, cL_house, 4, (some .int), { frames := 12, cells := 1, slots := 6, locals := 196 }, [(0, 9, 12, 13)])
theorem dL_house_0 : decode cL_house 0 = .ok (.aload_n 2, 1) := by decide +kernel
theorem dL_house_1 : decode cL_house 1 = .ok (.iconst 0, 1) := by decide +kernel
theorem dL_house_2 : decode cL_house 2 = .ok (.aload_n 0, 1) := by decide +kernel
theorem dL_house_3 : decode cL_house 3 = .ok (.iload_n 1, 1) := by decide +kernel
theorem dL_house_4 : decode cL_house 4 = .ok (.invokevirtual 7, 3) := by decide +kernel
theorem dL_house_7 : decode cL_house 7 = .ok (.i2l, 1) := by decide +kernel
theorem dL_house_8 : decode cL_house 8 = .ok (.lastore, 1) := by decide +kernel
theorem dL_house_9 : decode cL_house 9 = .ok (.goto 6, 3) := by decide +kernel
theorem dL_house_12 : decode cL_house 12 = .ok (.astore_n 3, 1) := by decide +kernel
theorem dL_house_13 : decode cL_house 13 = .ok (.iconst 1, 1) := by decide +kernel
theorem dL_house_14 : decode cL_house 14 = .ok (.ireturn, 1) := by decide +kernel
theorem dL_house_15 : decode cL_house 15 = .ok (.iconst 0, 1) := by decide +kernel
theorem dL_house_16 : decode cL_house 16 = .ok (.ireturn, 1) := by decide +kernel
theorem kL_7 : a_kV RL 7 pX11_house 1 := ⟨cbX11_house, (lw_ok_in (List.mem_of_getElem? (i := 636) (by decide +kernel)) rfl), (lw_ok_in (List.mem_of_getElem? (i := 637) (by decide +kernel)) rfl), (lw_ok_in (List.mem_of_getElem? (i := 638) (by decide +kernel)) rfl)⟩
theorem cd_house (A : aM) (c : Int) : (spHouse A c).1 = 0 ∨ (spHouse A c).1 = 1 := by
  unfold spHouse
  (repeat' split) <;> first | exact Or.inl rfl | exact Or.inr (rfl)
theorem hn_house_1 : a_hnd pL_house 4 0 1 := ⟨12, 3, 1, rfl, Or.inr ⟨3, dL_house_12, rfl, rfl⟩, by decide, by decide, dL_house_13, dL_house_14⟩
theorem h_house {l : Launch} {E : aE} {N : Nat} {S : aS} {M : aM} (hfl : l.stackTraces = false) (c : Int)  (A : aM) (hW : LWI N S M A) : aMtH l E pL_house [(2, 0), (0, c), (2, 139)] N S M (hQ M N S (spHouse A c)) := by
  obtain ⟨hN, hC, hS9, hO, hR, hRM, hI⟩ := hW
  refine a_metH hfl (by decide +kernel) (Nat.le_of_ble_eq_true rfl) ?_
  refine x_aload_n (pc := 0) dL_house_0 rfl rfl ?_
  refine x_iconst (pc := 1) dL_house_1 (by decide) ?_
  refine x_aload_n (pc := 2) dL_house_2 rfl rfl ?_
  refine x_iload_n (pc := 3) dL_house_3 rfl rfl ?_
  have hnd : ∀ w0 : (spHouse A c).1 ≠ 0, a_hnd pL_house 4 ((fun _ => 0) ((spHouse A c).1)) (spHouse A c).1 := fun hz => by
    rcases cd_house A c with w | w
    · exact absurd w hz
    · rw [w]; exact hn_house_1
  refine x_callV1C (pc := 4) dL_house_4 rfl rfl rfl kL_7 (s_Chouse hfl c hC A hR hI.1) (sC_0 hC) rfl rfl (Nat.le_of_ble_eq_true rfl) (k_op (fun M9 hz hf hR9 => ?_)) (n_op (fun M9 hz hf hR9 => ⟨hnd hz, rfl, rfl, fun a i p q => hf a i p (by omega), hR9, fun q => absurd q hz, rfl⟩))
  refine x_i2l (pc := 7) dL_house_7 ?_
  refine x_lastore (pc := 8) dL_house_8 hO (by omega) ?_
  refine x_goto (tgt := 15) (pc := 9) dL_house_9 (by decide) ?_
  refine x_iconst (pc := 15) dL_house_15 (by decide) ?_
  refine x_ireturn (pc := 16) dL_house_16 rfl (by decide) ?_
  exact ⟨rfl, rfl, fun a i p q => (up_a (by omega)).trans (hf a i p (by omega)), hR9.out, fun _ => up_s, by rw [hz]⟩
abbrev pL_want : aP := (yL_want, cL_want, 6, (some .int), { frames := 12, cells := 3, slots := 18, locals := 199 }, [(0, 12, 15, 19), (0, 12, 19, 13)])
theorem dL_want_0 : decode cL_want 0 = .ok (.aload 4, 2) := by decide +kernel
theorem dL_want_2 : decode cL_want 2 = .ok (.iconst 0, 1) := by decide +kernel
theorem dL_want_3 : decode cL_want 3 = .ok (.aload_n 0, 1) := by decide +kernel
theorem dL_want_4 : decode cL_want 4 = .ok (.iload_n 1, 1) := by decide +kernel
theorem dL_want_5 : decode cL_want 5 = .ok (.iload_n 2, 1) := by decide +kernel
theorem dL_want_6 : decode cL_want 6 = .ok (.iload_n 3, 1) := by decide +kernel
theorem dL_want_7 : decode cL_want 7 = .ok (.invokevirtual 15, 3) := by decide +kernel
theorem dL_want_10 : decode cL_want 10 = .ok (.i2l, 1) := by decide +kernel
theorem dL_want_11 : decode cL_want 11 = .ok (.lastore, 1) := by decide +kernel
theorem dL_want_12 : decode cL_want 12 = .ok (.goto 11, 3) := by decide +kernel
theorem dL_want_15 : decode cL_want 15 = .ok (.astore 5, 2) := by decide +kernel
theorem dL_want_17 : decode cL_want 17 = .ok (.iconst 1, 1) := by decide +kernel
theorem dL_want_18 : decode cL_want 18 = .ok (.ireturn, 1) := by decide +kernel
theorem dL_want_19 : decode cL_want 19 = .ok (.astore 5, 2) := by decide +kernel
theorem dL_want_21 : decode cL_want 21 = .ok (.iconst 2, 1) := by decide +kernel
theorem dL_want_22 : decode cL_want 22 = .ok (.ireturn, 1) := by decide +kernel
theorem dL_want_23 : decode cL_want 23 = .ok (.iconst 0, 1) := by decide +kernel
theorem dL_want_24 : decode cL_want 24 = .ok (.ireturn, 1) := by decide +kernel
theorem kL_15 : a_kV RL 15 pX11_want 3 := ⟨cbX11_want, (lw_ok_in (List.mem_of_getElem? (i := 735) (by decide +kernel)) rfl), (lw_ok_in (List.mem_of_getElem? (i := 736) (by decide +kernel)) rfl), (lw_ok_in (List.mem_of_getElem? (i := 737) (by decide +kernel)) rfl)⟩
theorem cd_want (A : aM) (h i s : Int) : (spWant A h i s).1 = 0 ∨ (spWant A h i s).1 = 1 ∨ (spWant A h i s).1 = 2 := by
  unfold spWant
  (repeat' split) <;> first | exact Or.inl rfl | exact Or.inr (Or.inl rfl) | exact Or.inr (Or.inr (rfl))
theorem hn_want_1 : a_hnd pL_want 7 2 1 := ⟨15, 5, 2, rfl, Or.inl ⟨dL_want_15, rfl⟩, by decide, by decide, dL_want_17, dL_want_18⟩
theorem hn_want_2 : a_hnd pL_want 7 0 2 := ⟨19, 5, 2, rfl, Or.inl ⟨dL_want_19, rfl⟩, by decide, by decide, dL_want_21, dL_want_22⟩
theorem h_want {l : Launch} {E : aE} {N : Nat} {S : aS} {M : aM} (hfl : l.stackTraces = false) (h i s : Int)  (A : aM) (hW : LWI N S M A) : aMtH l E pL_want [(2, 0), (0, h), (0, i), (0, s), (2, 139)] N S M (hQ M N S (spWant A h i s)) := by
  obtain ⟨hN, hC, hS9, hO, hR, hRM, hI⟩ := hW
  refine a_metH hfl (by decide +kernel) (Nat.le_of_ble_eq_true rfl) ?_
  refine x_aload (pc := 0) dL_want_0 rfl ?_
  refine x_iconst (pc := 2) dL_want_2 (by decide) ?_
  refine x_aload_n (pc := 3) dL_want_3 rfl rfl ?_
  refine x_iload_n (pc := 4) dL_want_4 rfl rfl ?_
  refine x_iload_n (pc := 5) dL_want_5 rfl rfl ?_
  refine x_iload_n (pc := 6) dL_want_6 rfl rfl ?_
  have hnd : ∀ w0 : (spWant A h i s).1 ≠ 0, a_hnd pL_want 7 ((fun k => if k = 1 then 2 else 0) ((spWant A h i s).1)) (spWant A h i s).1 := fun hz => by
    rcases cd_want A h i s with w | w | w
    · exact absurd w hz
    · rw [w]; exact hn_want_1
    · rw [w]; exact hn_want_2
  refine x_callV3C (pc := 7) dL_want_7 rfl rfl rfl kL_15 (s_Cwant hfl h i s hC A hR hI.1) (sC_0 hC) rfl rfl (Nat.le_of_ble_eq_true rfl) (k_op (fun M9 hz hf hR9 => ?_)) (n_op (fun M9 hz hf hR9 => ⟨hnd hz, rfl, rfl, fun a i p q => hf a i p (by omega), hR9, fun q => absurd q hz, rfl⟩))
  refine x_i2l (pc := 10) dL_want_10 ?_
  refine x_lastore (pc := 11) dL_want_11 hO (by omega) ?_
  refine x_goto (tgt := 23) (pc := 12) dL_want_12 (by decide) ?_
  refine x_iconst (pc := 23) dL_want_23 (by decide) ?_
  refine x_ireturn (pc := 24) dL_want_24 rfl (by decide) ?_
  exact ⟨rfl, rfl, fun a i p q => (up_a (by omega)).trans (hf a i p (by omega)), hR9.out, fun _ => up_s, by rw [hz]⟩
abbrev pL_cellar : aP := (yL_cellar, cL_cellar, 5, (some .int), { frames := 12, cells := 2, slots := 12, locals := 197 }, [(0, 10, 13, 19), (0, 10, 17, 13)])
theorem dL_cellar_0 : decode cL_cellar 0 = .ok (.aload_n 3, 1) := by decide +kernel
theorem dL_cellar_1 : decode cL_cellar 1 = .ok (.iconst 0, 1) := by decide +kernel
theorem dL_cellar_2 : decode cL_cellar 2 = .ok (.aload_n 0, 1) := by decide +kernel
theorem dL_cellar_3 : decode cL_cellar 3 = .ok (.iload_n 1, 1) := by decide +kernel
theorem dL_cellar_4 : decode cL_cellar 4 = .ok (.iload_n 2, 1) := by decide +kernel
theorem dL_cellar_5 : decode cL_cellar 5 = .ok (.invokevirtual 21, 3) := by decide +kernel
theorem dL_cellar_8 : decode cL_cellar 8 = .ok (.i2l, 1) := by decide +kernel
theorem dL_cellar_9 : decode cL_cellar 9 = .ok (.lastore, 1) := by decide +kernel
theorem dL_cellar_10 : decode cL_cellar 10 = .ok (.goto 11, 3) := by decide +kernel
theorem dL_cellar_13 : decode cL_cellar 13 = .ok (.astore 4, 2) := by decide +kernel
theorem dL_cellar_15 : decode cL_cellar 15 = .ok (.iconst 1, 1) := by decide +kernel
theorem dL_cellar_16 : decode cL_cellar 16 = .ok (.ireturn, 1) := by decide +kernel
theorem dL_cellar_17 : decode cL_cellar 17 = .ok (.astore 4, 2) := by decide +kernel
theorem dL_cellar_19 : decode cL_cellar 19 = .ok (.iconst 2, 1) := by decide +kernel
theorem dL_cellar_20 : decode cL_cellar 20 = .ok (.ireturn, 1) := by decide +kernel
theorem dL_cellar_21 : decode cL_cellar 21 = .ok (.iconst 0, 1) := by decide +kernel
theorem dL_cellar_22 : decode cL_cellar 22 = .ok (.ireturn, 1) := by decide +kernel
theorem kL_21 : a_kV RL 21 pX11_cellar 2 := ⟨cbX11_cellar, (lw_ok_in (List.mem_of_getElem? (i := 769) (by decide +kernel)) rfl), (lw_ok_in (List.mem_of_getElem? (i := 770) (by decide +kernel)) rfl), (lw_ok_in (List.mem_of_getElem? (i := 771) (by decide +kernel)) rfl)⟩
theorem cd_cellar (A : aM) (h s : Int) : (spCellar A h s).1 = 0 ∨ (spCellar A h s).1 = 1 ∨ (spCellar A h s).1 = 2 := by
  unfold spCellar
  (repeat' split) <;> first | exact Or.inl rfl | exact Or.inr (Or.inl rfl) | exact Or.inr (Or.inr (rfl))
theorem hn_cellar_1 : a_hnd pL_cellar 5 2 1 := ⟨13, 4, 2, rfl, Or.inl ⟨dL_cellar_13, rfl⟩, by decide, by decide, dL_cellar_15, dL_cellar_16⟩
theorem hn_cellar_2 : a_hnd pL_cellar 5 0 2 := ⟨17, 4, 2, rfl, Or.inl ⟨dL_cellar_17, rfl⟩, by decide, by decide, dL_cellar_19, dL_cellar_20⟩
theorem h_cellar {l : Launch} {E : aE} {N : Nat} {S : aS} {M : aM} (hfl : l.stackTraces = false) (h s : Int)  (A : aM) (hW : LWI N S M A) : aMtH l E pL_cellar [(2, 0), (0, h), (0, s), (2, 139)] N S M (hQ M N S (spCellar A h s)) := by
  obtain ⟨hN, hC, hS9, hO, hR, hRM, hI⟩ := hW
  refine a_metH hfl (by decide +kernel) (Nat.le_of_ble_eq_true rfl) ?_
  refine x_aload_n (pc := 0) dL_cellar_0 rfl rfl ?_
  refine x_iconst (pc := 1) dL_cellar_1 (by decide) ?_
  refine x_aload_n (pc := 2) dL_cellar_2 rfl rfl ?_
  refine x_iload_n (pc := 3) dL_cellar_3 rfl rfl ?_
  refine x_iload_n (pc := 4) dL_cellar_4 rfl rfl ?_
  have hnd : ∀ w0 : (spCellar A h s).1 ≠ 0, a_hnd pL_cellar 5 ((fun k => if k = 1 then 2 else 0) ((spCellar A h s).1)) (spCellar A h s).1 := fun hz => by
    rcases cd_cellar A h s with w | w | w
    · exact absurd w hz
    · rw [w]; exact hn_cellar_1
    · rw [w]; exact hn_cellar_2
  refine x_callV2C (pc := 5) dL_cellar_5 rfl rfl rfl kL_21 (s_Ccellar hfl h s hC A hR hI.1) (sC_0 hC) rfl rfl (Nat.le_of_ble_eq_true rfl) (k_op (fun M9 hz hf hR9 => ?_)) (n_op (fun M9 hz hf hR9 => ⟨hnd hz, rfl, rfl, fun a i p q => hf a i p (by omega), hR9, fun q => absurd q hz, rfl⟩))
  refine x_i2l (pc := 8) dL_cellar_8 ?_
  refine x_lastore (pc := 9) dL_cellar_9 hO (by omega) ?_
  refine x_goto (tgt := 21) (pc := 10) dL_cellar_10 (by decide) ?_
  refine x_iconst (pc := 21) dL_cellar_21 (by decide) ?_
  refine x_ireturn (pc := 22) dL_cellar_22 rfl (by decide) ?_
  exact ⟨rfl, rfl, fun a i p q => (up_a (by omega)).trans (hf a i p (by omega)), hR9.out, fun _ => up_s, by rw [hz]⟩
abbrev pL_bar : aP := (yL_bar, cL_bar, 5, (some .int), { frames := 12, cells := 3, slots := 18, locals := 197 }, [(0, 17, 20, 19), (0, 17, 24, 13)])
theorem dL_bar_0 : decode cL_bar 0 = .ok (.aload_n 3, 1) := by decide +kernel
theorem dL_bar_1 : decode cL_bar 1 = .ok (.iconst 0, 1) := by decide +kernel
theorem dL_bar_2 : decode cL_bar 2 = .ok (.aload_n 0, 1) := by decide +kernel
theorem dL_bar_3 : decode cL_bar 3 = .ok (.iload_n 1, 1) := by decide +kernel
theorem dL_bar_4 : decode cL_bar 4 = .ok (.iload_n 2, 1) := by decide +kernel
theorem dL_bar_5 : decode cL_bar 5 = .ok (.invokevirtual 25, 3) := by decide +kernel
theorem dL_bar_8 : decode cL_bar 8 = .ok (.ifCond .eq 7, 3) := by decide +kernel
theorem dL_bar_11 : decode cL_bar 11 = .ok (.lconst 1, 1) := by decide +kernel
theorem dL_bar_12 : decode cL_bar 12 = .ok (.goto 4, 3) := by decide +kernel
theorem dL_bar_15 : decode cL_bar 15 = .ok (.lconst 0, 1) := by decide +kernel
theorem dL_bar_16 : decode cL_bar 16 = .ok (.lastore, 1) := by decide +kernel
theorem dL_bar_17 : decode cL_bar 17 = .ok (.goto 11, 3) := by decide +kernel
theorem dL_bar_20 : decode cL_bar 20 = .ok (.astore 4, 2) := by decide +kernel
theorem dL_bar_22 : decode cL_bar 22 = .ok (.iconst 1, 1) := by decide +kernel
theorem dL_bar_23 : decode cL_bar 23 = .ok (.ireturn, 1) := by decide +kernel
theorem dL_bar_24 : decode cL_bar 24 = .ok (.astore 4, 2) := by decide +kernel
theorem dL_bar_26 : decode cL_bar 26 = .ok (.iconst 2, 1) := by decide +kernel
theorem dL_bar_27 : decode cL_bar 27 = .ok (.ireturn, 1) := by decide +kernel
theorem dL_bar_28 : decode cL_bar 28 = .ok (.iconst 0, 1) := by decide +kernel
theorem dL_bar_29 : decode cL_bar 29 = .ok (.ireturn, 1) := by decide +kernel
theorem kL_25 : a_kV RL 25 pX11_bar 2 := ⟨cbX11_bar, (lw_ok_in (List.mem_of_getElem? (i := 776) (by decide +kernel)) rfl), (lw_ok_in (List.mem_of_getElem? (i := 777) (by decide +kernel)) rfl), (lw_ok_in (List.mem_of_getElem? (i := 778) (by decide +kernel)) rfl)⟩
theorem cd_bar (A : aM) (a b : Int) : (spBar A a b).1 = 0 ∨ (spBar A a b).1 = 1 ∨ (spBar A a b).1 = 2 := by
  unfold spBar
  (repeat' split) <;> first | exact Or.inl rfl | exact Or.inr (Or.inl rfl) | exact Or.inr (Or.inr (rfl))
theorem bb_bar (A : aM) (a b : Int) : (spBar A a b).1 = 0 → (spBar A a b).2.1 = 0 ∨ (spBar A a b).2.1 = 1 := by
  unfold spBar
  (repeat' split) <;> intro h <;> first | exact Or.inl rfl | exact Or.inr rfl | exact absurd h (by decide)
theorem hn_bar_1 : a_hnd pL_bar 5 2 1 := ⟨20, 4, 2, rfl, Or.inl ⟨dL_bar_20, rfl⟩, by decide, by decide, dL_bar_22, dL_bar_23⟩
theorem hn_bar_2 : a_hnd pL_bar 5 0 2 := ⟨24, 4, 2, rfl, Or.inl ⟨dL_bar_24, rfl⟩, by decide, by decide, dL_bar_26, dL_bar_27⟩
theorem h_bar {l : Launch} {E : aE} {N : Nat} {S : aS} {M : aM} (hfl : l.stackTraces = false) (a b : Int)  (A : aM) (hW : LWI N S M A) : aMtH l E pL_bar [(2, 0), (0, a), (0, b), (2, 139)] N S M (hQ M N S (spBar A a b)) := by
  obtain ⟨hN, hC, hS9, hO, hR, hRM, hI⟩ := hW
  refine a_metH hfl (by decide +kernel) (Nat.le_of_ble_eq_true rfl) ?_
  refine x_aload_n (pc := 0) dL_bar_0 rfl rfl ?_
  refine x_iconst (pc := 1) dL_bar_1 (by decide) ?_
  refine x_aload_n (pc := 2) dL_bar_2 rfl rfl ?_
  refine x_iload_n (pc := 3) dL_bar_3 rfl rfl ?_
  refine x_iload_n (pc := 4) dL_bar_4 rfl rfl ?_
  have hnd : ∀ w0 : (spBar A a b).1 ≠ 0, a_hnd pL_bar 5 ((fun k => if k = 1 then 2 else 0) ((spBar A a b).1)) (spBar A a b).1 := fun hz => by
    rcases cd_bar A a b with w | w | w
    · exact absurd w hz
    · rw [w]; exact hn_bar_1
    · rw [w]; exact hn_bar_2
  refine x_callV2C (pc := 5) dL_bar_5 rfl rfl rfl kL_25 (s_Cbar hfl a b hC A hR hI.1) (sC_0 hC) rfl rfl (Nat.le_of_ble_eq_true rfl) (k_op (fun M9 hz hf hR9 => ?_)) (n_op (fun M9 hz hf hR9 => ⟨hnd hz, rfl, rfl, fun a i p q => hf a i p (by omega), hR9, fun q => absurd q hz, rfl⟩))
  refine x_if_eq (tgt := 15) (pc := 8) dL_bar_8 (by decide) (fun c_8 => ?_) (fun c_8 => ?_)
  · refine x_lconst0 (pc := 15) dL_bar_15 ?_
    refine x_lastore (pc := 16) dL_bar_16 hO (by omega) ?_
    refine x_goto (tgt := 28) (pc := 17) dL_bar_17 (by decide) ?_
    refine x_iconst (pc := 28) dL_bar_28 (by decide) ?_
    refine x_ireturn (pc := 29) dL_bar_29 rfl (by decide) ?_
    have hb9 := bb_bar A a b hz
    exact ⟨rfl, rfl, fun a i p q => (up_a (by omega)).trans (hf a i p (by omega)), hR9.out, fun _ => up_s.trans (by omega), by rw [hz]⟩
  · refine x_lconst1 (pc := 11) dL_bar_11 ?_
    refine x_goto (tgt := 16) (pc := 12) dL_bar_12 (by decide) ?_
    refine x_lastore (pc := 16) dL_bar_16 hO (by omega) ?_
    refine x_goto (tgt := 28) (pc := 17) dL_bar_17 (by decide) ?_
    refine x_iconst (pc := 28) dL_bar_28 (by decide) ?_
    refine x_ireturn (pc := 29) dL_bar_29 rfl (by decide) ?_
    have hb9 := bb_bar A a b hz
    exact ⟨rfl, rfl, fun a i p q => (up_a (by omega)).trans (hf a i p (by omega)), hR9.out, fun _ => up_s.trans (by omega), by rw [hz]⟩
abbrev pL_trust : aP := (yL_trust, cL_trust, 6, (some .int), { frames := 12, cells := 3, slots := 18, locals := 198 }, [(0, 19, 22, 19), (0, 19, 26, 13)])
theorem dL_trust_0 : decode cL_trust 0 = .ok (.aload 4, 2) := by decide +kernel
theorem dL_trust_2 : decode cL_trust 2 = .ok (.iconst 0, 1) := by decide +kernel
theorem dL_trust_3 : decode cL_trust 3 = .ok (.aload_n 0, 1) := by decide +kernel
theorem dL_trust_4 : decode cL_trust 4 = .ok (.iload_n 1, 1) := by decide +kernel
theorem dL_trust_5 : decode cL_trust 5 = .ok (.iload_n 2, 1) := by decide +kernel
theorem dL_trust_6 : decode cL_trust 6 = .ok (.iload_n 3, 1) := by decide +kernel
theorem dL_trust_7 : decode cL_trust 7 = .ok (.invokevirtual 29, 3) := by decide +kernel
theorem dL_trust_10 : decode cL_trust 10 = .ok (.ifCond .eq 7, 3) := by decide +kernel
theorem dL_trust_13 : decode cL_trust 13 = .ok (.lconst 1, 1) := by decide +kernel
theorem dL_trust_14 : decode cL_trust 14 = .ok (.goto 4, 3) := by decide +kernel
theorem dL_trust_17 : decode cL_trust 17 = .ok (.lconst 0, 1) := by decide +kernel
theorem dL_trust_18 : decode cL_trust 18 = .ok (.lastore, 1) := by decide +kernel
theorem dL_trust_19 : decode cL_trust 19 = .ok (.goto 11, 3) := by decide +kernel
theorem dL_trust_22 : decode cL_trust 22 = .ok (.astore 5, 2) := by decide +kernel
theorem dL_trust_24 : decode cL_trust 24 = .ok (.iconst 1, 1) := by decide +kernel
theorem dL_trust_25 : decode cL_trust 25 = .ok (.ireturn, 1) := by decide +kernel
theorem dL_trust_26 : decode cL_trust 26 = .ok (.astore 5, 2) := by decide +kernel
theorem dL_trust_28 : decode cL_trust 28 = .ok (.iconst 2, 1) := by decide +kernel
theorem dL_trust_29 : decode cL_trust 29 = .ok (.ireturn, 1) := by decide +kernel
theorem dL_trust_30 : decode cL_trust 30 = .ok (.iconst 0, 1) := by decide +kernel
theorem dL_trust_31 : decode cL_trust 31 = .ok (.ireturn, 1) := by decide +kernel
theorem kL_29 : a_kV RL 29 pX11_trust 3 := ⟨cbX11_trust, (lw_ok_in (List.mem_of_getElem? (i := 788) (by decide +kernel)) rfl), (lw_ok_in (List.mem_of_getElem? (i := 789) (by decide +kernel)) rfl), (lw_ok_in (List.mem_of_getElem? (i := 790) (by decide +kernel)) rfl)⟩
theorem cd_trust (A : aM) (a b x : Int) : (spTrust A a b x).1 = 0 ∨ (spTrust A a b x).1 = 1 ∨ (spTrust A a b x).1 = 2 := by
  unfold spTrust
  (repeat' split) <;> first | exact Or.inl rfl | exact Or.inr (Or.inl rfl) | exact Or.inr (Or.inr (rfl))
theorem bb_trust (A : aM) (a b x : Int) : (spTrust A a b x).1 = 0 → (spTrust A a b x).2.1 = 0 ∨ (spTrust A a b x).2.1 = 1 := by
  unfold spTrust
  (repeat' split) <;> intro h <;> first | exact Or.inl rfl | exact Or.inr rfl | exact absurd h (by decide)
theorem hn_trust_1 : a_hnd pL_trust 7 2 1 := ⟨22, 5, 2, rfl, Or.inl ⟨dL_trust_22, rfl⟩, by decide, by decide, dL_trust_24, dL_trust_25⟩
theorem hn_trust_2 : a_hnd pL_trust 7 0 2 := ⟨26, 5, 2, rfl, Or.inl ⟨dL_trust_26, rfl⟩, by decide, by decide, dL_trust_28, dL_trust_29⟩
theorem h_trust {l : Launch} {E : aE} {N : Nat} {S : aS} {M : aM} (hfl : l.stackTraces = false) (a b x : Int) (hx : x = 0 ∨ x = 1) (A : aM) (hW : LWI N S M A) : aMtH l E pL_trust [(2, 0), (0, a), (0, b), (0, x), (2, 139)] N S M (hQ M N S (spTrust A a b x)) := by
  obtain ⟨hN, hC, hS9, hO, hR, hRM, hI⟩ := hW
  refine a_metH hfl (by decide +kernel) (Nat.le_of_ble_eq_true rfl) ?_
  refine x_aload (pc := 0) dL_trust_0 rfl ?_
  refine x_iconst (pc := 2) dL_trust_2 (by decide) ?_
  refine x_aload_n (pc := 3) dL_trust_3 rfl rfl ?_
  refine x_iload_n (pc := 4) dL_trust_4 rfl rfl ?_
  refine x_iload_n (pc := 5) dL_trust_5 rfl rfl ?_
  refine x_iload_n (pc := 6) dL_trust_6 rfl rfl ?_
  have hnd : ∀ w0 : (spTrust A a b x).1 ≠ 0, a_hnd pL_trust 7 ((fun k => if k = 1 then 2 else 0) ((spTrust A a b x).1)) (spTrust A a b x).1 := fun hz => by
    rcases cd_trust A a b x with w | w | w
    · exact absurd w hz
    · rw [w]; exact hn_trust_1
    · rw [w]; exact hn_trust_2
  refine x_callV3C (pc := 7) dL_trust_7 rfl rfl rfl kL_29 (s_Ctrust hfl a b x hx hC A hR hI.1) (sC_0 hC) rfl rfl (Nat.le_of_ble_eq_true rfl) (k_op (fun M9 hz hf hR9 => ?_)) (n_op (fun M9 hz hf hR9 => ⟨hnd hz, rfl, rfl, fun a i p q => hf a i p (by omega), hR9, fun q => absurd q hz, rfl⟩))
  refine x_if_eq (tgt := 17) (pc := 10) dL_trust_10 (by decide) (fun c_10 => ?_) (fun c_10 => ?_)
  · refine x_lconst0 (pc := 17) dL_trust_17 ?_
    refine x_lastore (pc := 18) dL_trust_18 hO (by omega) ?_
    refine x_goto (tgt := 30) (pc := 19) dL_trust_19 (by decide) ?_
    refine x_iconst (pc := 30) dL_trust_30 (by decide) ?_
    refine x_ireturn (pc := 31) dL_trust_31 rfl (by decide) ?_
    have hb9 := bb_trust A a b x hz
    exact ⟨rfl, rfl, fun a i p q => (up_a (by omega)).trans (hf a i p (by omega)), hR9.out, fun _ => up_s.trans (by omega), by rw [hz]⟩
  · refine x_lconst1 (pc := 13) dL_trust_13 ?_
    refine x_goto (tgt := 18) (pc := 14) dL_trust_14 (by decide) ?_
    refine x_lastore (pc := 18) dL_trust_18 hO (by omega) ?_
    refine x_goto (tgt := 30) (pc := 19) dL_trust_19 (by decide) ?_
    refine x_iconst (pc := 30) dL_trust_30 (by decide) ?_
    refine x_ireturn (pc := 31) dL_trust_31 rfl (by decide) ?_
    have hb9 := bb_trust A a b x hz
    exact ⟨rfl, rfl, fun a i p q => (up_a (by omega)).trans (hf a i p (by omega)), hR9.out, fun _ => up_s.trans (by omega), by rw [hz]⟩
abbrev pL_holder : aP := (yL_holder, cL_holder, 4, (some .int), { frames := 11, cells := 1, slots := 6, locals := 175 }, [(0, 9, 12, 13)])
theorem dL_holder_0 : decode cL_holder 0 = .ok (.aload_n 2, 1) := by decide +kernel
theorem dL_holder_1 : decode cL_holder 1 = .ok (.iconst 0, 1) := by decide +kernel
theorem dL_holder_2 : decode cL_holder 2 = .ok (.aload_n 0, 1) := by decide +kernel
theorem dL_holder_3 : decode cL_holder 3 = .ok (.iload_n 1, 1) := by decide +kernel
theorem dL_holder_4 : decode cL_holder 4 = .ok (.invokevirtual 33, 3) := by decide +kernel
theorem dL_holder_7 : decode cL_holder 7 = .ok (.i2l, 1) := by decide +kernel
theorem dL_holder_8 : decode cL_holder 8 = .ok (.lastore, 1) := by decide +kernel
theorem dL_holder_9 : decode cL_holder 9 = .ok (.goto 6, 3) := by decide +kernel
theorem dL_holder_12 : decode cL_holder 12 = .ok (.astore_n 3, 1) := by decide +kernel
theorem dL_holder_13 : decode cL_holder 13 = .ok (.iconst 1, 1) := by decide +kernel
theorem dL_holder_14 : decode cL_holder 14 = .ok (.ireturn, 1) := by decide +kernel
theorem dL_holder_15 : decode cL_holder 15 = .ok (.iconst 0, 1) := by decide +kernel
theorem dL_holder_16 : decode cL_holder 16 = .ok (.ireturn, 1) := by decide +kernel
theorem kL_33 : a_kV RL 33 pX11_holder 1 := ⟨cbX11_holder, (lw_ok_in (List.mem_of_getElem? (i := 795) (by decide +kernel)) rfl), (lw_ok_in (List.mem_of_getElem? (i := 796) (by decide +kernel)) rfl), (lw_ok_in (List.mem_of_getElem? (i := 797) (by decide +kernel)) rfl)⟩
theorem cd_holder (A : aM) (s : Int) : (spHolder A s).1 = 0 ∨ (spHolder A s).1 = 1 := by
  unfold spHolder
  (repeat' split) <;> first | exact Or.inl rfl | exact Or.inr (rfl)
theorem hn_holder_1 : a_hnd pL_holder 4 0 1 := ⟨12, 3, 1, rfl, Or.inr ⟨3, dL_holder_12, rfl, rfl⟩, by decide, by decide, dL_holder_13, dL_holder_14⟩
theorem h_holder {l : Launch} {E : aE} {N : Nat} {S : aS} {M : aM} (hfl : l.stackTraces = false) (s : Int)  (A : aM) (hW : LWI N S M A) : aMtH l E pL_holder [(2, 0), (0, s), (2, 139)] N S M (hQ M N S (spHolder A s)) := by
  obtain ⟨hN, hC, hS9, hO, hR, hRM, hI⟩ := hW
  refine a_metH hfl (by decide +kernel) (Nat.le_of_ble_eq_true rfl) ?_
  refine x_aload_n (pc := 0) dL_holder_0 rfl rfl ?_
  refine x_iconst (pc := 1) dL_holder_1 (by decide) ?_
  refine x_aload_n (pc := 2) dL_holder_2 rfl rfl ?_
  refine x_iload_n (pc := 3) dL_holder_3 rfl rfl ?_
  have hnd : ∀ w0 : (spHolder A s).1 ≠ 0, a_hnd pL_holder 4 ((fun _ => 0) ((spHolder A s).1)) (spHolder A s).1 := fun hz => by
    rcases cd_holder A s with w | w
    · exact absurd w hz
    · rw [w]; exact hn_holder_1
  refine x_callV1C (pc := 4) dL_holder_4 rfl rfl rfl kL_33 (s_Cholder hfl s hC A hR hI.1) (sC_0 hC) rfl rfl (Nat.le_of_ble_eq_true rfl) (k_op (fun M9 hz hf hR9 => ?_)) (n_op (fun M9 hz hf hR9 => ⟨hnd hz, rfl, rfl, fun a i p q => hf a i p (by omega), hR9, fun q => absurd q hz, rfl⟩))
  refine x_i2l (pc := 7) dL_holder_7 ?_
  refine x_lastore (pc := 8) dL_holder_8 hO (by omega) ?_
  refine x_goto (tgt := 15) (pc := 9) dL_holder_9 (by decide) ?_
  refine x_iconst (pc := 15) dL_holder_15 (by decide) ?_
  refine x_ireturn (pc := 16) dL_holder_16 rfl (by decide) ?_
  exact ⟨rfl, rfl, fun a i p q => (up_a (by omega)).trans (hf a i p (by omega)), hR9.out, fun _ => up_s, by rw [hz]⟩
abbrev pL_chain : aP := (yL_chain, cL_chain, 5, (some .int), { frames := 11, cells := 2, slots := 12, locals := 179 }, [(0, 10, 13, 19)])
theorem dL_chain_0 : decode cL_chain 0 = .ok (.aload_n 3, 1) := by decide +kernel
theorem dL_chain_1 : decode cL_chain 1 = .ok (.iconst 0, 1) := by decide +kernel
theorem dL_chain_2 : decode cL_chain 2 = .ok (.aload_n 0, 1) := by decide +kernel
theorem dL_chain_3 : decode cL_chain 3 = .ok (.iload_n 1, 1) := by decide +kernel
theorem dL_chain_4 : decode cL_chain 4 = .ok (.iload_n 2, 1) := by decide +kernel
theorem dL_chain_5 : decode cL_chain 5 = .ok (.invokevirtual 36, 3) := by decide +kernel
theorem dL_chain_8 : decode cL_chain 8 = .ok (.i2l, 1) := by decide +kernel
theorem dL_chain_9 : decode cL_chain 9 = .ok (.lastore, 1) := by decide +kernel
theorem dL_chain_10 : decode cL_chain 10 = .ok (.goto 7, 3) := by decide +kernel
theorem dL_chain_13 : decode cL_chain 13 = .ok (.astore 4, 2) := by decide +kernel
theorem dL_chain_15 : decode cL_chain 15 = .ok (.iconst 1, 1) := by decide +kernel
theorem dL_chain_16 : decode cL_chain 16 = .ok (.ireturn, 1) := by decide +kernel
theorem dL_chain_17 : decode cL_chain 17 = .ok (.iconst 0, 1) := by decide +kernel
theorem dL_chain_18 : decode cL_chain 18 = .ok (.ireturn, 1) := by decide +kernel
theorem kL_36 : a_kV RL 36 pX11_chain 2 := ⟨cbX11_chain, (lw_ok_in (List.mem_of_getElem? (i := 811) (by decide +kernel)) rfl), (lw_ok_in (List.mem_of_getElem? (i := 812) (by decide +kernel)) rfl), (lw_ok_in (List.mem_of_getElem? (i := 813) (by decide +kernel)) rfl)⟩
theorem cd_chain (A : aM) (p q : Int) : (spChain A p q).1 = 0 ∨ (spChain A p q).1 = 1 := by
  unfold spChain
  (repeat' split) <;> first | exact Or.inl rfl | exact Or.inr (rfl)
theorem hn_chain_1 : a_hnd pL_chain 5 2 1 := ⟨13, 4, 2, rfl, Or.inl ⟨dL_chain_13, rfl⟩, by decide, by decide, dL_chain_15, dL_chain_16⟩
theorem h_chain {l : Launch} {E : aE} {N : Nat} {S : aS} {M : aM} (hfl : l.stackTraces = false) (p q : Int)  (A : aM) (hW : LWI N S M A) : aMtH l E pL_chain [(2, 0), (0, p), (0, q), (2, 139)] N S M (hQ M N S (spChain A p q)) := by
  obtain ⟨hN, hC, hS9, hO, hR, hRM, hI⟩ := hW
  refine a_metH hfl (by decide +kernel) (Nat.le_of_ble_eq_true rfl) ?_
  refine x_aload_n (pc := 0) dL_chain_0 rfl rfl ?_
  refine x_iconst (pc := 1) dL_chain_1 (by decide) ?_
  refine x_aload_n (pc := 2) dL_chain_2 rfl rfl ?_
  refine x_iload_n (pc := 3) dL_chain_3 rfl rfl ?_
  refine x_iload_n (pc := 4) dL_chain_4 rfl rfl ?_
  have hnd : ∀ w0 : (spChain A p q).1 ≠ 0, a_hnd pL_chain 5 ((fun _ => 2) ((spChain A p q).1)) (spChain A p q).1 := fun hz => by
    rcases cd_chain A p q with w | w
    · exact absurd w hz
    · rw [w]; exact hn_chain_1
  refine x_callV2C (pc := 5) dL_chain_5 rfl rfl rfl kL_36 (s_Cchain hfl p q hC A hR hI.1) (sC_0 hC) rfl rfl (Nat.le_of_ble_eq_true rfl) (k_op (fun M9 hz hf hR9 => ?_)) (n_op (fun M9 hz hf hR9 => ⟨hnd hz, rfl, rfl, fun a i p q => hf a i p (by omega), hR9, fun q => absurd q hz, rfl⟩))
  refine x_i2l (pc := 8) dL_chain_8 ?_
  refine x_lastore (pc := 9) dL_chain_9 hO (by omega) ?_
  refine x_goto (tgt := 17) (pc := 10) dL_chain_10 (by decide) ?_
  refine x_iconst (pc := 17) dL_chain_17 (by decide) ?_
  refine x_ireturn (pc := 18) dL_chain_18 rfl (by decide) ?_
  exact ⟨rfl, rfl, fun a i p q => (up_a (by omega)).trans (hf a i p (by omega)), hR9.out, fun _ => up_s, by rw [hz]⟩
abbrev pL_text : aP := (yL_text, cL_text, 4, (some .int), { frames := 19, cells := 1, slots := 6, locals := 344 }, [(0, 9, 12, 13)])
theorem dL_text_0 : decode cL_text 0 = .ok (.aload_n 2, 1) := by decide +kernel
theorem dL_text_1 : decode cL_text 1 = .ok (.iconst 0, 1) := by decide +kernel
theorem dL_text_2 : decode cL_text 2 = .ok (.aload_n 0, 1) := by decide +kernel
theorem dL_text_3 : decode cL_text 3 = .ok (.iload_n 1, 1) := by decide +kernel
theorem dL_text_4 : decode cL_text 4 = .ok (.invokevirtual 39, 3) := by decide +kernel
theorem dL_text_7 : decode cL_text 7 = .ok (.i2l, 1) := by decide +kernel
theorem dL_text_8 : decode cL_text 8 = .ok (.lastore, 1) := by decide +kernel
theorem dL_text_9 : decode cL_text 9 = .ok (.goto 6, 3) := by decide +kernel
theorem dL_text_12 : decode cL_text 12 = .ok (.astore_n 3, 1) := by decide +kernel
theorem dL_text_13 : decode cL_text 13 = .ok (.iconst 1, 1) := by decide +kernel
theorem dL_text_14 : decode cL_text 14 = .ok (.ireturn, 1) := by decide +kernel
theorem dL_text_15 : decode cL_text 15 = .ok (.iconst 0, 1) := by decide +kernel
theorem dL_text_16 : decode cL_text 16 = .ok (.ireturn, 1) := by decide +kernel
theorem kL_39 : a_kV RL 39 pX11_text 1 := ⟨cbX11_text, (lw_ok_in (List.mem_of_getElem? (i := 826) (by decide +kernel)) rfl), (lw_ok_in (List.mem_of_getElem? (i := 827) (by decide +kernel)) rfl), (lw_ok_in (List.mem_of_getElem? (i := 828) (by decide +kernel)) rfl)⟩
theorem cd_text (A : aM) (x : Int) : (spText A x).1 = 0 ∨ (spText A x).1 = 1 := by
  unfold spText
  (repeat' split) <;> first | exact Or.inl rfl | exact Or.inr (rfl)
theorem hn_text_1 : a_hnd pL_text 4 0 1 := ⟨12, 3, 1, rfl, Or.inr ⟨3, dL_text_12, rfl, rfl⟩, by decide, by decide, dL_text_13, dL_text_14⟩
theorem h_text {l : Launch} {E : aE} {N : Nat} {S : aS} {M : aM} (hfl : l.stackTraces = false) (x : Int)  (A : aM) (hW : LWI N S M A) : aMtH l E pL_text [(2, 0), (0, x), (2, 139)] N S M (hQ M N S (spText A x)) := by
  obtain ⟨hN, hC, hS9, hO, hR, hRM, hI⟩ := hW
  refine a_metH hfl (by decide +kernel) (Nat.le_of_ble_eq_true rfl) ?_
  refine x_aload_n (pc := 0) dL_text_0 rfl rfl ?_
  refine x_iconst (pc := 1) dL_text_1 (by decide) ?_
  refine x_aload_n (pc := 2) dL_text_2 rfl rfl ?_
  refine x_iload_n (pc := 3) dL_text_3 rfl rfl ?_
  have hnd : ∀ w0 : (spText A x).1 ≠ 0, a_hnd pL_text 4 ((fun _ => 0) ((spText A x).1)) (spText A x).1 := fun hz => by
    rcases cd_text A x with w | w
    · exact absurd w hz
    · rw [w]; exact hn_text_1
  refine x_callV1C (pc := 4) dL_text_4 rfl rfl rfl kL_39 (s_Ctext hfl x hC A hR hI.1 hI.2.2.1 hI.2.2.2.1) (sC_0 hC) rfl rfl (Nat.le_of_ble_eq_true rfl) (k_op (fun M9 hz hf hR9 => ?_)) (n_op (fun M9 hz hf hR9 => ⟨hnd hz, rfl, rfl, fun a i p q => hf a i p (by omega), hR9, fun q => absurd q hz, rfl⟩))
  refine x_i2l (pc := 7) dL_text_7 ?_
  refine x_lastore (pc := 8) dL_text_8 hO (by omega) ?_
  refine x_goto (tgt := 15) (pc := 9) dL_text_9 (by decide) ?_
  refine x_iconst (pc := 15) dL_text_15 (by decide) ?_
  refine x_ireturn (pc := 16) dL_text_16 rfl (by decide) ?_
  exact ⟨rfl, rfl, fun a i p q => (up_a (by omega)).trans (hf a i p (by omega)), hR9.out, fun _ => up_s, by rw [hz]⟩
abbrev pL_price : aP := (yL_price, cL_price, 4, (some .int), { frames := 12, cells := 1, slots := 6, locals := 199 }, [(0, 9, 12, 13)])
theorem dL_price_0 : decode cL_price 0 = .ok (.aload_n 2, 1) := by decide +kernel
theorem dL_price_1 : decode cL_price 1 = .ok (.iconst 0, 1) := by decide +kernel
theorem dL_price_2 : decode cL_price 2 = .ok (.aload_n 0, 1) := by decide +kernel
theorem dL_price_3 : decode cL_price 3 = .ok (.iload_n 1, 1) := by decide +kernel
theorem dL_price_4 : decode cL_price 4 = .ok (.invokevirtual 42, 3) := by decide +kernel
theorem dL_price_7 : decode cL_price 7 = .ok (.i2l, 1) := by decide +kernel
theorem dL_price_8 : decode cL_price 8 = .ok (.lastore, 1) := by decide +kernel
theorem dL_price_9 : decode cL_price 9 = .ok (.goto 6, 3) := by decide +kernel
theorem dL_price_12 : decode cL_price 12 = .ok (.astore_n 3, 1) := by decide +kernel
theorem dL_price_13 : decode cL_price 13 = .ok (.iconst 1, 1) := by decide +kernel
theorem dL_price_14 : decode cL_price 14 = .ok (.ireturn, 1) := by decide +kernel
theorem dL_price_15 : decode cL_price 15 = .ok (.iconst 0, 1) := by decide +kernel
theorem dL_price_16 : decode cL_price 16 = .ok (.ireturn, 1) := by decide +kernel
theorem kL_42 : a_kV RL 42 pX11_price 1 := ⟨cbX11_price, (lw_ok_in (List.mem_of_getElem? (i := 999) (by decide +kernel)) rfl), (lw_ok_in (List.mem_of_getElem? (i := 1000) (by decide +kernel)) rfl), (lw_ok_in (List.mem_of_getElem? (i := 1001) (by decide +kernel)) rfl)⟩
theorem cd_price (A : aM) (q : Int) : (spPrice A q).1 = 0 ∨ (spPrice A q).1 = 1 := by
  unfold spPrice
  (repeat' split) <;> first | exact Or.inl rfl | exact Or.inr (rfl)
theorem hn_price_1 : a_hnd pL_price 4 0 1 := ⟨12, 3, 1, rfl, Or.inr ⟨3, dL_price_12, rfl, rfl⟩, by decide, by decide, dL_price_13, dL_price_14⟩
theorem h_price {l : Launch} {E : aE} {N : Nat} {S : aS} {M : aM} (hfl : l.stackTraces = false) (q : Int)  (A : aM) (hW : LWI N S M A) : aMtH l E pL_price [(2, 0), (0, q), (2, 139)] N S M (hQ M N S (spPrice A q)) := by
  obtain ⟨hN, hC, hS9, hO, hR, hRM, hI⟩ := hW
  refine a_metH hfl (by decide +kernel) (Nat.le_of_ble_eq_true rfl) ?_
  refine x_aload_n (pc := 0) dL_price_0 rfl rfl ?_
  refine x_iconst (pc := 1) dL_price_1 (by decide) ?_
  refine x_aload_n (pc := 2) dL_price_2 rfl rfl ?_
  refine x_iload_n (pc := 3) dL_price_3 rfl rfl ?_
  have hnd : ∀ w0 : (spPrice A q).1 ≠ 0, a_hnd pL_price 4 ((fun _ => 0) ((spPrice A q).1)) (spPrice A q).1 := fun hz => by
    rcases cd_price A q with w | w
    · exact absurd w hz
    · rw [w]; exact hn_price_1
  refine x_callV1C (pc := 4) dL_price_4 rfl rfl rfl kL_42 (s_Cprice hfl q hC A hR hI.1) (sC_0 hC) rfl rfl (Nat.le_of_ble_eq_true rfl) (k_op (fun M9 hz hf hR9 => ?_)) (n_op (fun M9 hz hf hR9 => ⟨hnd hz, rfl, rfl, fun a i p q => hf a i p (by omega), hR9, fun q => absurd q hz, rfl⟩))
  refine x_i2l (pc := 7) dL_price_7 ?_
  refine x_lastore (pc := 8) dL_price_8 hO (by omega) ?_
  refine x_goto (tgt := 15) (pc := 9) dL_price_9 (by decide) ?_
  refine x_iconst (pc := 15) dL_price_15 (by decide) ?_
  refine x_ireturn (pc := 16) dL_price_16 rfl (by decide) ?_
  exact ⟨rfl, rfl, fun a i p q => (up_a (by omega)).trans (hf a i p (by omega)), hR9.out, fun _ => up_s, by rw [hz]⟩
abbrev pL_buys : aP := (yL_buys, cL_buys, 5, (some .int), { frames := 13, cells := 2, slots := 12, locals := 223 }, [(0, 10, 13, 19), (0, 10, 17, 13)])
theorem dL_buys_0 : decode cL_buys 0 = .ok (.aload_n 3, 1) := by decide +kernel
theorem dL_buys_1 : decode cL_buys 1 = .ok (.iconst 0, 1) := by decide +kernel
theorem dL_buys_2 : decode cL_buys 2 = .ok (.aload_n 0, 1) := by decide +kernel
theorem dL_buys_3 : decode cL_buys 3 = .ok (.iload_n 1, 1) := by decide +kernel
theorem dL_buys_4 : decode cL_buys 4 = .ok (.iload_n 2, 1) := by decide +kernel
theorem dL_buys_5 : decode cL_buys 5 = .ok (.invokevirtual 45, 3) := by decide +kernel
theorem dL_buys_8 : decode cL_buys 8 = .ok (.i2l, 1) := by decide +kernel
theorem dL_buys_9 : decode cL_buys 9 = .ok (.lastore, 1) := by decide +kernel
theorem dL_buys_10 : decode cL_buys 10 = .ok (.goto 11, 3) := by decide +kernel
theorem dL_buys_13 : decode cL_buys 13 = .ok (.astore 4, 2) := by decide +kernel
theorem dL_buys_15 : decode cL_buys 15 = .ok (.iconst 1, 1) := by decide +kernel
theorem dL_buys_16 : decode cL_buys 16 = .ok (.ireturn, 1) := by decide +kernel
theorem dL_buys_17 : decode cL_buys 17 = .ok (.astore 4, 2) := by decide +kernel
theorem dL_buys_19 : decode cL_buys 19 = .ok (.iconst 2, 1) := by decide +kernel
theorem dL_buys_20 : decode cL_buys 20 = .ok (.ireturn, 1) := by decide +kernel
theorem dL_buys_21 : decode cL_buys 21 = .ok (.iconst 0, 1) := by decide +kernel
theorem dL_buys_22 : decode cL_buys 22 = .ok (.ireturn, 1) := by decide +kernel
theorem kL_45 : a_kV RL 45 pX11_buys 2 := ⟨cbX11_buys, (lw_ok_in (List.mem_of_getElem? (i := 1036) (by decide +kernel)) rfl), (lw_ok_in (List.mem_of_getElem? (i := 1037) (by decide +kernel)) rfl), (lw_ok_in (List.mem_of_getElem? (i := 1038) (by decide +kernel)) rfl)⟩
theorem cd_buys (A : aM) (q m : Int) : (spBuys A q m).1 = 0 ∨ (spBuys A q m).1 = 1 ∨ (spBuys A q m).1 = 2 := by
  unfold spBuys
  (repeat' split) <;> first | exact Or.inl rfl | exact Or.inr (Or.inl rfl) | exact Or.inr (Or.inr (rfl))
theorem hn_buys_1 : a_hnd pL_buys 5 2 1 := ⟨13, 4, 2, rfl, Or.inl ⟨dL_buys_13, rfl⟩, by decide, by decide, dL_buys_15, dL_buys_16⟩
theorem hn_buys_2 : a_hnd pL_buys 5 0 2 := ⟨17, 4, 2, rfl, Or.inl ⟨dL_buys_17, rfl⟩, by decide, by decide, dL_buys_19, dL_buys_20⟩
theorem h_buys {l : Launch} {E : aE} {N : Nat} {S : aS} {M : aM} (hfl : l.stackTraces = false) (q m : Int)  (A : aM) (hW : LWI N S M A) : aMtH l E pL_buys [(2, 0), (0, q), (0, m), (2, 139)] N S M (hQ M N S (spBuys A q m)) := by
  obtain ⟨hN, hC, hS9, hO, hR, hRM, hI⟩ := hW
  refine a_metH hfl (by decide +kernel) (Nat.le_of_ble_eq_true rfl) ?_
  refine x_aload_n (pc := 0) dL_buys_0 rfl rfl ?_
  refine x_iconst (pc := 1) dL_buys_1 (by decide) ?_
  refine x_aload_n (pc := 2) dL_buys_2 rfl rfl ?_
  refine x_iload_n (pc := 3) dL_buys_3 rfl rfl ?_
  refine x_iload_n (pc := 4) dL_buys_4 rfl rfl ?_
  have hnd : ∀ w0 : (spBuys A q m).1 ≠ 0, a_hnd pL_buys 5 ((fun k => if k = 1 then 2 else 0) ((spBuys A q m).1)) (spBuys A q m).1 := fun hz => by
    rcases cd_buys A q m with w | w | w
    · exact absurd w hz
    · rw [w]; exact hn_buys_1
    · rw [w]; exact hn_buys_2
  refine x_callV2C (pc := 5) dL_buys_5 rfl rfl rfl kL_45 (s_Cbuys hfl q m hC A hR hI.1) (sC_0 hC) rfl rfl (Nat.le_of_ble_eq_true rfl) (k_op (fun M9 hz hf hR9 => ?_)) (n_op (fun M9 hz hf hR9 => ⟨hnd hz, rfl, rfl, fun a i p q => hf a i p (by omega), hR9, fun q => absurd q hz, rfl⟩))
  refine x_i2l (pc := 8) dL_buys_8 ?_
  refine x_lastore (pc := 9) dL_buys_9 hO (by omega) ?_
  refine x_goto (tgt := 21) (pc := 10) dL_buys_10 (by decide) ?_
  refine x_iconst (pc := 21) dL_buys_21 (by decide) ?_
  refine x_ireturn (pc := 22) dL_buys_22 rfl (by decide) ?_
  exact ⟨rfl, rfl, fun a i p q => (up_a (by omega)).trans (hf a i p (by omega)), hR9.out, fun _ => up_s, by rw [hz]⟩
abbrev pL_cost : aP := (yL_cost, cL_cost, 4, (some .int), { frames := 13, cells := 1, slots := 6, locals := 231 }, [(0, 9, 12, 13)])
theorem dL_cost_0 : decode cL_cost 0 = .ok (.aload_n 2, 1) := by decide +kernel
theorem dL_cost_1 : decode cL_cost 1 = .ok (.iconst 0, 1) := by decide +kernel
theorem dL_cost_2 : decode cL_cost 2 = .ok (.aload_n 0, 1) := by decide +kernel
theorem dL_cost_3 : decode cL_cost 3 = .ok (.iload_n 1, 1) := by decide +kernel
theorem dL_cost_4 : decode cL_cost 4 = .ok (.invokevirtual 48, 3) := by decide +kernel
theorem dL_cost_7 : decode cL_cost 7 = .ok (.i2l, 1) := by decide +kernel
theorem dL_cost_8 : decode cL_cost 8 = .ok (.lastore, 1) := by decide +kernel
theorem dL_cost_9 : decode cL_cost 9 = .ok (.goto 6, 3) := by decide +kernel
theorem dL_cost_12 : decode cL_cost 12 = .ok (.astore_n 3, 1) := by decide +kernel
theorem dL_cost_13 : decode cL_cost 13 = .ok (.iconst 1, 1) := by decide +kernel
theorem dL_cost_14 : decode cL_cost 14 = .ok (.ireturn, 1) := by decide +kernel
theorem dL_cost_15 : decode cL_cost 15 = .ok (.iconst 0, 1) := by decide +kernel
theorem dL_cost_16 : decode cL_cost 16 = .ok (.ireturn, 1) := by decide +kernel
theorem kL_48 : a_kV RL 48 pX11_cost 1 := ⟨cbX11_cost, (lw_ok_in (List.mem_of_getElem? (i := 1047) (by decide +kernel)) rfl), (lw_ok_in (List.mem_of_getElem? (i := 1048) (by decide +kernel)) rfl), (lw_ok_in (List.mem_of_getElem? (i := 1049) (by decide +kernel)) rfl)⟩
theorem cd_cost (A : aM) (s : Int) : (spCost A s).1 = 0 ∨ (spCost A s).1 = 1 := by
  unfold spCost
  (repeat' split) <;> first | exact Or.inl rfl | exact Or.inr (rfl)
theorem hn_cost_1 : a_hnd pL_cost 4 0 1 := ⟨12, 3, 1, rfl, Or.inr ⟨3, dL_cost_12, rfl, rfl⟩, by decide, by decide, dL_cost_13, dL_cost_14⟩
theorem h_cost {l : Launch} {E : aE} {N : Nat} {S : aS} {M : aM} (hfl : l.stackTraces = false) (s : Int)  (A : aM) (hW : LWI N S M A) : aMtH l E pL_cost [(2, 0), (0, s), (2, 139)] N S M (hQ M N S (spCost A s)) := by
  obtain ⟨hN, hC, hS9, hO, hR, hRM, hI⟩ := hW
  refine a_metH hfl (by decide +kernel) (Nat.le_of_ble_eq_true rfl) ?_
  refine x_aload_n (pc := 0) dL_cost_0 rfl rfl ?_
  refine x_iconst (pc := 1) dL_cost_1 (by decide) ?_
  refine x_aload_n (pc := 2) dL_cost_2 rfl rfl ?_
  refine x_iload_n (pc := 3) dL_cost_3 rfl rfl ?_
  have hnd : ∀ w0 : (spCost A s).1 ≠ 0, a_hnd pL_cost 4 ((fun _ => 0) ((spCost A s).1)) (spCost A s).1 := fun hz => by
    rcases cd_cost A s with w | w
    · exact absurd w hz
    · rw [w]; exact hn_cost_1
  refine x_callV1C (pc := 4) dL_cost_4 rfl rfl rfl kL_48 (s_Ccost hfl s hC A hR hI.1 hI.2.1) (sC_0 hC) rfl rfl (Nat.le_of_ble_eq_true rfl) (k_op (fun M9 hz hf hR9 => ?_)) (n_op (fun M9 hz hf hR9 => ⟨hnd hz, rfl, rfl, fun a i p q => hf a i p (by omega), hR9, fun q => absurd q hz, rfl⟩))
  refine x_i2l (pc := 7) dL_cost_7 ?_
  refine x_lastore (pc := 8) dL_cost_8 hO (by omega) ?_
  refine x_goto (tgt := 15) (pc := 9) dL_cost_9 (by decide) ?_
  refine x_iconst (pc := 15) dL_cost_15 (by decide) ?_
  refine x_ireturn (pc := 16) dL_cost_16 rfl (by decide) ?_
  exact ⟨rfl, rfl, fun a i p q => (up_a (by omega)).trans (hf a i p (by omega)), hR9.out, fun _ => up_s, by rw [hz]⟩
abbrev pL_bought : aP := (yL_bought, cL_bought, 5, (some .int), { frames := 13, cells := 2, slots := 12, locals := 238 }, [(0, 10, 13, 19), (0, 10, 17, 13)])
theorem dL_bought_0 : decode cL_bought 0 = .ok (.aload_n 3, 1) := by decide +kernel
theorem dL_bought_1 : decode cL_bought 1 = .ok (.iconst 0, 1) := by decide +kernel
theorem dL_bought_2 : decode cL_bought 2 = .ok (.aload_n 0, 1) := by decide +kernel
theorem dL_bought_3 : decode cL_bought 3 = .ok (.iload_n 1, 1) := by decide +kernel
theorem dL_bought_4 : decode cL_bought 4 = .ok (.iload_n 2, 1) := by decide +kernel
theorem dL_bought_5 : decode cL_bought 5 = .ok (.invokevirtual 51, 3) := by decide +kernel
theorem dL_bought_8 : decode cL_bought 8 = .ok (.i2l, 1) := by decide +kernel
theorem dL_bought_9 : decode cL_bought 9 = .ok (.lastore, 1) := by decide +kernel
theorem dL_bought_10 : decode cL_bought 10 = .ok (.goto 11, 3) := by decide +kernel
theorem dL_bought_13 : decode cL_bought 13 = .ok (.astore 4, 2) := by decide +kernel
theorem dL_bought_15 : decode cL_bought 15 = .ok (.iconst 1, 1) := by decide +kernel
theorem dL_bought_16 : decode cL_bought 16 = .ok (.ireturn, 1) := by decide +kernel
theorem dL_bought_17 : decode cL_bought 17 = .ok (.astore 4, 2) := by decide +kernel
theorem dL_bought_19 : decode cL_bought 19 = .ok (.iconst 2, 1) := by decide +kernel
theorem dL_bought_20 : decode cL_bought 20 = .ok (.ireturn, 1) := by decide +kernel
theorem dL_bought_21 : decode cL_bought 21 = .ok (.iconst 0, 1) := by decide +kernel
theorem dL_bought_22 : decode cL_bought 22 = .ok (.ireturn, 1) := by decide +kernel
theorem kL_51 : a_kV RL 51 pX11_bought 2 := ⟨cbX11_bought, (lw_ok_in (List.mem_of_getElem? (i := 1093) (by decide +kernel)) rfl), (lw_ok_in (List.mem_of_getElem? (i := 1094) (by decide +kernel)) rfl), (lw_ok_in (List.mem_of_getElem? (i := 1095) (by decide +kernel)) rfl)⟩
theorem cd_bought (A : aM) (s k : Int) : (spBought A s k).1 = 0 ∨ (spBought A s k).1 = 1 ∨ (spBought A s k).1 = 2 := by
  unfold spBought
  (repeat' split) <;> first | exact Or.inl rfl | exact Or.inr (Or.inl rfl) | exact Or.inr (Or.inr (rfl))
theorem hn_bought_1 : a_hnd pL_bought 5 2 1 := ⟨13, 4, 2, rfl, Or.inl ⟨dL_bought_13, rfl⟩, by decide, by decide, dL_bought_15, dL_bought_16⟩
theorem hn_bought_2 : a_hnd pL_bought 5 0 2 := ⟨17, 4, 2, rfl, Or.inl ⟨dL_bought_17, rfl⟩, by decide, by decide, dL_bought_19, dL_bought_20⟩
theorem h_bought {l : Launch} {E : aE} {N : Nat} {S : aS} {M : aM} (hfl : l.stackTraces = false) (s k : Int)  (A : aM) (hW : LWI N S M A) : aMtH l E pL_bought [(2, 0), (0, s), (0, k), (2, 139)] N S M (hQ M N S (spBought A s k)) := by
  obtain ⟨hN, hC, hS9, hO, hR, hRM, hI⟩ := hW
  refine a_metH hfl (by decide +kernel) (Nat.le_of_ble_eq_true rfl) ?_
  refine x_aload_n (pc := 0) dL_bought_0 rfl rfl ?_
  refine x_iconst (pc := 1) dL_bought_1 (by decide) ?_
  refine x_aload_n (pc := 2) dL_bought_2 rfl rfl ?_
  refine x_iload_n (pc := 3) dL_bought_3 rfl rfl ?_
  refine x_iload_n (pc := 4) dL_bought_4 rfl rfl ?_
  have hnd : ∀ w0 : (spBought A s k).1 ≠ 0, a_hnd pL_bought 5 ((fun k => if k = 1 then 2 else 0) ((spBought A s k).1)) (spBought A s k).1 := fun hz => by
    rcases cd_bought A s k with w | w | w
    · exact absurd w hz
    · rw [w]; exact hn_bought_1
    · rw [w]; exact hn_bought_2
  refine x_callV2C (pc := 5) dL_bought_5 rfl rfl rfl kL_51 (s_Cbought hfl s k hC A hR hI.1 hI.2.1) (sC_0 hC) rfl rfl (Nat.le_of_ble_eq_true rfl) (k_op (fun M9 hz hf hR9 => ?_)) (n_op (fun M9 hz hf hR9 => ⟨hnd hz, rfl, rfl, fun a i p q => hf a i p (by omega), hR9, fun q => absurd q hz, rfl⟩))
  refine x_i2l (pc := 8) dL_bought_8 ?_
  refine x_lastore (pc := 9) dL_bought_9 hO (by omega) ?_
  refine x_goto (tgt := 21) (pc := 10) dL_bought_10 (by decide) ?_
  refine x_iconst (pc := 21) dL_bought_21 (by decide) ?_
  refine x_ireturn (pc := 22) dL_bought_22 rfl (by decide) ?_
  exact ⟨rfl, rfl, fun a i p q => (up_a (by omega)).trans (hf a i p (by omega)), hR9.out, fun _ => up_s, by rw [hz]⟩
abbrev pL_least : aP := (yL_least, cL_least, 4, (some .int), { frames := 14, cells := 1, slots := 6, locals := 253 }, [(0, 9, 12, 13)])
theorem dL_least_0 : decode cL_least 0 = .ok (.aload_n 2, 1) := by decide +kernel
theorem dL_least_1 : decode cL_least 1 = .ok (.iconst 0, 1) := by decide +kernel
theorem dL_least_2 : decode cL_least 2 = .ok (.aload_n 0, 1) := by decide +kernel
theorem dL_least_3 : decode cL_least 3 = .ok (.iload_n 1, 1) := by decide +kernel
theorem dL_least_4 : decode cL_least 4 = .ok (.invokevirtual 54, 3) := by decide +kernel
theorem dL_least_7 : decode cL_least 7 = .ok (.i2l, 1) := by decide +kernel
theorem dL_least_8 : decode cL_least 8 = .ok (.lastore, 1) := by decide +kernel
theorem dL_least_9 : decode cL_least 9 = .ok (.goto 6, 3) := by decide +kernel
theorem dL_least_12 : decode cL_least 12 = .ok (.astore_n 3, 1) := by decide +kernel
theorem dL_least_13 : decode cL_least 13 = .ok (.iconst 1, 1) := by decide +kernel
theorem dL_least_14 : decode cL_least 14 = .ok (.ireturn, 1) := by decide +kernel
theorem dL_least_15 : decode cL_least 15 = .ok (.iconst 0, 1) := by decide +kernel
theorem dL_least_16 : decode cL_least 16 = .ok (.ireturn, 1) := by decide +kernel
theorem kL_54 : a_kV RL 54 pX11_least 1 := ⟨cbX11_least, (lw_ok_in (List.mem_of_getElem? (i := 1112) (by decide +kernel)) rfl), (lw_ok_in (List.mem_of_getElem? (i := 1113) (by decide +kernel)) rfl), (lw_ok_in (List.mem_of_getElem? (i := 1114) (by decide +kernel)) rfl)⟩
theorem cd_least (A : aM) (s : Int) : (spLeast A s).1 = 0 ∨ (spLeast A s).1 = 1 := by
  unfold spLeast
  (repeat' split) <;> first | exact Or.inl rfl | exact Or.inr (rfl)
theorem hn_least_1 : a_hnd pL_least 4 0 1 := ⟨12, 3, 1, rfl, Or.inr ⟨3, dL_least_12, rfl, rfl⟩, by decide, by decide, dL_least_13, dL_least_14⟩
theorem h_least {l : Launch} {E : aE} {N : Nat} {S : aS} {M : aM} (hfl : l.stackTraces = false) (s : Int)  (A : aM) (hW : LWI N S M A) : aMtH l E pL_least [(2, 0), (0, s), (2, 139)] N S M (hQ M N S (spLeast A s)) := by
  obtain ⟨hN, hC, hS9, hO, hR, hRM, hI⟩ := hW
  refine a_metH hfl (by decide +kernel) (Nat.le_of_ble_eq_true rfl) ?_
  refine x_aload_n (pc := 0) dL_least_0 rfl rfl ?_
  refine x_iconst (pc := 1) dL_least_1 (by decide) ?_
  refine x_aload_n (pc := 2) dL_least_2 rfl rfl ?_
  refine x_iload_n (pc := 3) dL_least_3 rfl rfl ?_
  have hnd : ∀ w0 : (spLeast A s).1 ≠ 0, a_hnd pL_least 4 ((fun _ => 0) ((spLeast A s).1)) (spLeast A s).1 := fun hz => by
    rcases cd_least A s with w | w
    · exact absurd w hz
    · rw [w]; exact hn_least_1
  refine x_callV1C (pc := 4) dL_least_4 rfl rfl rfl kL_54 (s_Cleast hfl s hC A hR hI.1 hI.2.1) (sC_0 hC) rfl rfl (Nat.le_of_ble_eq_true rfl) (k_op (fun M9 hz hf hR9 => ?_)) (n_op (fun M9 hz hf hR9 => ⟨hnd hz, rfl, rfl, fun a i p q => hf a i p (by omega), hR9, fun q => absurd q hz, rfl⟩))
  refine x_i2l (pc := 7) dL_least_7 ?_
  refine x_lastore (pc := 8) dL_least_8 hO (by omega) ?_
  refine x_goto (tgt := 15) (pc := 9) dL_least_9 (by decide) ?_
  refine x_iconst (pc := 15) dL_least_15 (by decide) ?_
  refine x_ireturn (pc := 16) dL_least_16 rfl (by decide) ?_
  exact ⟨rfl, rfl, fun a i p q => (up_a (by omega)).trans (hf a i p (by omega)), hR9.out, fun _ => up_s, by rw [hz]⟩
abbrev pL_group : aP := (yL_group, cL_group, 5, (some .int), { frames := 14, cells := 1, slots := 6, locals := 254 }, [(0, 10, 13, 13)])
theorem dL_group_0 : decode cL_group 0 = .ok (.aload_n 3, 1) := by decide +kernel
theorem dL_group_1 : decode cL_group 1 = .ok (.iconst 0, 1) := by decide +kernel
theorem dL_group_2 : decode cL_group 2 = .ok (.aload_n 0, 1) := by decide +kernel
theorem dL_group_3 : decode cL_group 3 = .ok (.iload_n 1, 1) := by decide +kernel
theorem dL_group_4 : decode cL_group 4 = .ok (.iload_n 2, 1) := by decide +kernel
theorem dL_group_5 : decode cL_group 5 = .ok (.invokevirtual 57, 3) := by decide +kernel
theorem dL_group_8 : decode cL_group 8 = .ok (.i2l, 1) := by decide +kernel
theorem dL_group_9 : decode cL_group 9 = .ok (.lastore, 1) := by decide +kernel
theorem dL_group_10 : decode cL_group 10 = .ok (.goto 7, 3) := by decide +kernel
theorem dL_group_13 : decode cL_group 13 = .ok (.astore 4, 2) := by decide +kernel
theorem dL_group_15 : decode cL_group 15 = .ok (.iconst 1, 1) := by decide +kernel
theorem dL_group_16 : decode cL_group 16 = .ok (.ireturn, 1) := by decide +kernel
theorem dL_group_17 : decode cL_group 17 = .ok (.iconst 0, 1) := by decide +kernel
theorem dL_group_18 : decode cL_group 18 = .ok (.ireturn, 1) := by decide +kernel
theorem kL_57 : a_kV RL 57 pX11_group 2 := ⟨cbX11_group, (lw_ok_in (List.mem_of_getElem? (i := 1133) (by decide +kernel)) rfl), (lw_ok_in (List.mem_of_getElem? (i := 1134) (by decide +kernel)) rfl), (lw_ok_in (List.mem_of_getElem? (i := 1135) (by decide +kernel)) rfl)⟩
theorem cd_group (A : aM) (s h : Int) : (spGroup A s h).1 = 0 ∨ (spGroup A s h).1 = 1 := by
  unfold spGroup
  (repeat' split) <;> first | exact Or.inl rfl | exact Or.inr (rfl)
theorem hn_group_1 : a_hnd pL_group 5 0 1 := ⟨13, 4, 2, rfl, Or.inl ⟨dL_group_13, rfl⟩, by decide, by decide, dL_group_15, dL_group_16⟩
theorem h_group {l : Launch} {E : aE} {N : Nat} {S : aS} {M : aM} (hfl : l.stackTraces = false) (s h : Int)  (A : aM) (hW : LWI N S M A) : aMtH l E pL_group [(2, 0), (0, s), (0, h), (2, 139)] N S M (hQ M N S (spGroup A s h)) := by
  obtain ⟨hN, hC, hS9, hO, hR, hRM, hI⟩ := hW
  refine a_metH hfl (by decide +kernel) (Nat.le_of_ble_eq_true rfl) ?_
  refine x_aload_n (pc := 0) dL_group_0 rfl rfl ?_
  refine x_iconst (pc := 1) dL_group_1 (by decide) ?_
  refine x_aload_n (pc := 2) dL_group_2 rfl rfl ?_
  refine x_iload_n (pc := 3) dL_group_3 rfl rfl ?_
  refine x_iload_n (pc := 4) dL_group_4 rfl rfl ?_
  have hnd : ∀ w0 : (spGroup A s h).1 ≠ 0, a_hnd pL_group 5 ((fun _ => 0) ((spGroup A s h).1)) (spGroup A s h).1 := fun hz => by
    rcases cd_group A s h with w | w
    · exact absurd w hz
    · rw [w]; exact hn_group_1
  refine x_callV2C (pc := 5) dL_group_5 rfl rfl rfl kL_57 (s_Cgroup hfl s h hC A hR hI.1 hI.2.1) (sC_0 hC) rfl rfl (Nat.le_of_ble_eq_true rfl) (k_op (fun M9 hz hf hR9 => ?_)) (n_op (fun M9 hz hf hR9 => ⟨hnd hz, rfl, rfl, fun a i p q => hf a i p (by omega), hR9, fun q => absurd q hz, rfl⟩))
  refine x_i2l (pc := 8) dL_group_8 ?_
  refine x_lastore (pc := 9) dL_group_9 hO (by omega) ?_
  refine x_goto (tgt := 17) (pc := 10) dL_group_10 (by decide) ?_
  refine x_iconst (pc := 17) dL_group_17 (by decide) ?_
  refine x_ireturn (pc := 18) dL_group_18 rfl (by decide) ?_
  exact ⟨rfl, rfl, fun a i p q => (up_a (by omega)).trans (hf a i p (by omega)), hR9.out, fun _ => up_s, by rw [hz]⟩
abbrev pL_come : aP := (yL_come, cL_come, 5, (some .int), { frames := 14, cells := 3, slots := 18, locals := 261 }, [(0, 10, 13, 19), (0, 10, 17, 13)])
theorem dL_come_0 : decode cL_come 0 = .ok (.aload_n 3, 1) := by decide +kernel
theorem dL_come_1 : decode cL_come 1 = .ok (.iconst 0, 1) := by decide +kernel
theorem dL_come_2 : decode cL_come 2 = .ok (.aload_n 0, 1) := by decide +kernel
theorem dL_come_3 : decode cL_come 3 = .ok (.iload_n 1, 1) := by decide +kernel
theorem dL_come_4 : decode cL_come 4 = .ok (.iload_n 2, 1) := by decide +kernel
theorem dL_come_5 : decode cL_come 5 = .ok (.invokevirtual 60, 3) := by decide +kernel
theorem dL_come_8 : decode cL_come 8 = .ok (.i2l, 1) := by decide +kernel
theorem dL_come_9 : decode cL_come 9 = .ok (.lastore, 1) := by decide +kernel
theorem dL_come_10 : decode cL_come 10 = .ok (.goto 11, 3) := by decide +kernel
theorem dL_come_13 : decode cL_come 13 = .ok (.astore 4, 2) := by decide +kernel
theorem dL_come_15 : decode cL_come 15 = .ok (.iconst 1, 1) := by decide +kernel
theorem dL_come_16 : decode cL_come 16 = .ok (.ireturn, 1) := by decide +kernel
theorem dL_come_17 : decode cL_come 17 = .ok (.astore 4, 2) := by decide +kernel
theorem dL_come_19 : decode cL_come 19 = .ok (.iconst 2, 1) := by decide +kernel
theorem dL_come_20 : decode cL_come 20 = .ok (.ireturn, 1) := by decide +kernel
theorem dL_come_21 : decode cL_come 21 = .ok (.iconst 0, 1) := by decide +kernel
theorem dL_come_22 : decode cL_come 22 = .ok (.ireturn, 1) := by decide +kernel
theorem kL_60 : a_kV RL 60 pX11_come 2 := ⟨cbX11_come, (lw_ok_in (List.mem_of_getElem? (i := 1149) (by decide +kernel)) rfl), (lw_ok_in (List.mem_of_getElem? (i := 1150) (by decide +kernel)) rfl), (lw_ok_in (List.mem_of_getElem? (i := 1151) (by decide +kernel)) rfl)⟩
theorem cd_come (A : aM) (s h : Int) : (spCome A s h).1 = 0 ∨ (spCome A s h).1 = 1 ∨ (spCome A s h).1 = 2 := by
  unfold spCome
  (repeat' split) <;> first | exact Or.inl rfl | exact Or.inr (Or.inl rfl) | exact Or.inr (Or.inr (rfl))
theorem hn_come_1 : a_hnd pL_come 5 2 1 := ⟨13, 4, 2, rfl, Or.inl ⟨dL_come_13, rfl⟩, by decide, by decide, dL_come_15, dL_come_16⟩
theorem hn_come_2 : a_hnd pL_come 5 0 2 := ⟨17, 4, 2, rfl, Or.inl ⟨dL_come_17, rfl⟩, by decide, by decide, dL_come_19, dL_come_20⟩
theorem h_come {l : Launch} {E : aE} {N : Nat} {S : aS} {M : aM} (hfl : l.stackTraces = false) (s h : Int)  (A : aM) (hW : LWI N S M A) : aMtH l E pL_come [(2, 0), (0, s), (0, h), (2, 139)] N S M (hQ M N S (spCome A s h)) := by
  obtain ⟨hN, hC, hS9, hO, hR, hRM, hI⟩ := hW
  refine a_metH hfl (by decide +kernel) (Nat.le_of_ble_eq_true rfl) ?_
  refine x_aload_n (pc := 0) dL_come_0 rfl rfl ?_
  refine x_iconst (pc := 1) dL_come_1 (by decide) ?_
  refine x_aload_n (pc := 2) dL_come_2 rfl rfl ?_
  refine x_iload_n (pc := 3) dL_come_3 rfl rfl ?_
  refine x_iload_n (pc := 4) dL_come_4 rfl rfl ?_
  have hnd : ∀ w0 : (spCome A s h).1 ≠ 0, a_hnd pL_come 5 ((fun k => if k = 1 then 2 else 0) ((spCome A s h).1)) (spCome A s h).1 := fun hz => by
    rcases cd_come A s h with w | w | w
    · exact absurd w hz
    · rw [w]; exact hn_come_1
    · rw [w]; exact hn_come_2
  refine x_callV2C (pc := 5) dL_come_5 rfl rfl rfl kL_60 (s_Ccome hfl s h hC A hR hI.1 hI.2.1) (sC_0 hC) rfl rfl (Nat.le_of_ble_eq_true rfl) (k_op (fun M9 hz hf hR9 => ?_)) (n_op (fun M9 hz hf hR9 => ⟨hnd hz, rfl, rfl, fun a i p q => hf a i p (by omega), hR9, fun q => absurd q hz, rfl⟩))
  refine x_i2l (pc := 8) dL_come_8 ?_
  refine x_lastore (pc := 9) dL_come_9 hO (by omega) ?_
  refine x_goto (tgt := 21) (pc := 10) dL_come_10 (by decide) ?_
  refine x_iconst (pc := 21) dL_come_21 (by decide) ?_
  refine x_ireturn (pc := 22) dL_come_22 rfl (by decide) ?_
  exact ⟨rfl, rfl, fun a i p q => (up_a (by omega)).trans (hf a i p (by omega)), hR9.out, fun _ => up_s, by rw [hz]⟩
abbrev pL_join : aP := (yL_join, cL_join, 6, (some .int), { frames := 14, cells := 4, slots := 24, locals := 256 }, [(0, 12, 15, 13)])
theorem dL_join_0 : decode cL_join 0 = .ok (.aload 4, 2) := by decide +kernel
theorem dL_join_2 : decode cL_join 2 = .ok (.iconst 0, 1) := by decide +kernel
theorem dL_join_3 : decode cL_join 3 = .ok (.aload_n 0, 1) := by decide +kernel
theorem dL_join_4 : decode cL_join 4 = .ok (.iload_n 1, 1) := by decide +kernel
theorem dL_join_5 : decode cL_join 5 = .ok (.iload_n 2, 1) := by decide +kernel
theorem dL_join_6 : decode cL_join 6 = .ok (.iload_n 3, 1) := by decide +kernel
theorem dL_join_7 : decode cL_join 7 = .ok (.invokevirtual 63, 3) := by decide +kernel
theorem dL_join_10 : decode cL_join 10 = .ok (.i2l, 1) := by decide +kernel
theorem dL_join_11 : decode cL_join 11 = .ok (.lastore, 1) := by decide +kernel
theorem dL_join_12 : decode cL_join 12 = .ok (.goto 7, 3) := by decide +kernel
theorem dL_join_15 : decode cL_join 15 = .ok (.astore 5, 2) := by decide +kernel
theorem dL_join_17 : decode cL_join 17 = .ok (.iconst 1, 1) := by decide +kernel
theorem dL_join_18 : decode cL_join 18 = .ok (.ireturn, 1) := by decide +kernel
theorem dL_join_19 : decode cL_join 19 = .ok (.iconst 0, 1) := by decide +kernel
theorem dL_join_20 : decode cL_join 20 = .ok (.ireturn, 1) := by decide +kernel
theorem kL_63 : a_kV RL 63 pX11_join 3 := ⟨cbX11_join, (lw_ok_in (List.mem_of_getElem? (i := 1160) (by decide +kernel)) rfl), (lw_ok_in (List.mem_of_getElem? (i := 1161) (by decide +kernel)) rfl), (lw_ok_in (List.mem_of_getElem? (i := 1162) (by decide +kernel)) rfl)⟩
theorem cd_join (A : aM) (x y n : Int) : (spJoin A x y n).1 = 0 ∨ (spJoin A x y n).1 = 1 := by
  unfold spJoin
  (repeat' split) <;> first | exact Or.inl rfl | exact Or.inr (rfl)
theorem hn_join_1 : a_hnd pL_join 7 0 1 := ⟨15, 5, 2, rfl, Or.inl ⟨dL_join_15, rfl⟩, by decide, by decide, dL_join_17, dL_join_18⟩
theorem h_join {l : Launch} {E : aE} {N : Nat} {S : aS} {M : aM} (hfl : l.stackTraces = false) (x y n : Int)  (A : aM) (hW : LWI N S M A) : aMtH l E pL_join [(2, 0), (0, x), (0, y), (0, n), (2, 139)] N S M (hQ M N S (spJoin A x y n)) := by
  obtain ⟨hN, hC, hS9, hO, hR, hRM, hI⟩ := hW
  refine a_metH hfl (by decide +kernel) (Nat.le_of_ble_eq_true rfl) ?_
  refine x_aload (pc := 0) dL_join_0 rfl ?_
  refine x_iconst (pc := 2) dL_join_2 (by decide) ?_
  refine x_aload_n (pc := 3) dL_join_3 rfl rfl ?_
  refine x_iload_n (pc := 4) dL_join_4 rfl rfl ?_
  refine x_iload_n (pc := 5) dL_join_5 rfl rfl ?_
  refine x_iload_n (pc := 6) dL_join_6 rfl rfl ?_
  have hnd : ∀ w0 : (spJoin A x y n).1 ≠ 0, a_hnd pL_join 7 ((fun _ => 0) ((spJoin A x y n).1)) (spJoin A x y n).1 := fun hz => by
    rcases cd_join A x y n with w | w
    · exact absurd w hz
    · rw [w]; exact hn_join_1
  refine x_callV3C (pc := 7) dL_join_7 rfl rfl rfl kL_63 (s_Cjoin hfl x y n hC A hR hI.1 hI.2.1) (sC_0 hC) rfl rfl (Nat.le_of_ble_eq_true rfl) (k_op (fun M9 hz hf hR9 => ?_)) (n_op (fun M9 hz hf hR9 => ⟨hnd hz, rfl, rfl, fun a i p q => hf a i p (by omega), hR9, fun q => absurd q hz, rfl⟩))
  refine x_i2l (pc := 10) dL_join_10 ?_
  refine x_lastore (pc := 11) dL_join_11 hO (by omega) ?_
  refine x_goto (tgt := 19) (pc := 12) dL_join_12 (by decide) ?_
  refine x_iconst (pc := 19) dL_join_19 (by decide) ?_
  refine x_ireturn (pc := 20) dL_join_20 rfl (by decide) ?_
  exact ⟨rfl, rfl, fun a i p q => (up_a (by omega)).trans (hf a i p (by omega)), hR9.out, fun _ => up_s, by rw [hz]⟩
abbrev pL_pay : aP := (yL_pay, cL_pay, 5, (some .int), { frames := 11, cells := 2, slots := 12, locals := 175 }, [(0, 10, 13, 19), (0, 10, 17, 13)])
theorem dL_pay_0 : decode cL_pay 0 = .ok (.aload_n 3, 1) := by decide +kernel
theorem dL_pay_1 : decode cL_pay 1 = .ok (.iconst 0, 1) := by decide +kernel
theorem dL_pay_2 : decode cL_pay 2 = .ok (.aload_n 0, 1) := by decide +kernel
theorem dL_pay_3 : decode cL_pay 3 = .ok (.iload_n 1, 1) := by decide +kernel
theorem dL_pay_4 : decode cL_pay 4 = .ok (.iload_n 2, 1) := by decide +kernel
theorem dL_pay_5 : decode cL_pay 5 = .ok (.invokevirtual 66, 3) := by decide +kernel
theorem dL_pay_8 : decode cL_pay 8 = .ok (.i2l, 1) := by decide +kernel
theorem dL_pay_9 : decode cL_pay 9 = .ok (.lastore, 1) := by decide +kernel
theorem dL_pay_10 : decode cL_pay 10 = .ok (.goto 11, 3) := by decide +kernel
theorem dL_pay_13 : decode cL_pay 13 = .ok (.astore 4, 2) := by decide +kernel
theorem dL_pay_15 : decode cL_pay 15 = .ok (.iconst 1, 1) := by decide +kernel
theorem dL_pay_16 : decode cL_pay 16 = .ok (.ireturn, 1) := by decide +kernel
theorem dL_pay_17 : decode cL_pay 17 = .ok (.astore 4, 2) := by decide +kernel
theorem dL_pay_19 : decode cL_pay 19 = .ok (.iconst 2, 1) := by decide +kernel
theorem dL_pay_20 : decode cL_pay 20 = .ok (.ireturn, 1) := by decide +kernel
theorem dL_pay_21 : decode cL_pay 21 = .ok (.iconst 0, 1) := by decide +kernel
theorem dL_pay_22 : decode cL_pay 22 = .ok (.ireturn, 1) := by decide +kernel
theorem kL_66 : a_kV RL 66 pX11_pay 2 := ⟨cbX11_pay, (lw_ok_in (List.mem_of_getElem? (i := 1169) (by decide +kernel)) rfl), (lw_ok_in (List.mem_of_getElem? (i := 1170) (by decide +kernel)) rfl), (lw_ok_in (List.mem_of_getElem? (i := 1171) (by decide +kernel)) rfl)⟩
theorem cd_pay (A : aM) (h v : Int) : (spPay A h v).1 = 0 ∨ (spPay A h v).1 = 1 ∨ (spPay A h v).1 = 2 := by
  unfold spPay
  (repeat' split) <;> first | exact Or.inl rfl | exact Or.inr (Or.inl rfl) | exact Or.inr (Or.inr (rfl))
theorem hn_pay_1 : a_hnd pL_pay 5 2 1 := ⟨13, 4, 2, rfl, Or.inl ⟨dL_pay_13, rfl⟩, by decide, by decide, dL_pay_15, dL_pay_16⟩
theorem hn_pay_2 : a_hnd pL_pay 5 0 2 := ⟨17, 4, 2, rfl, Or.inl ⟨dL_pay_17, rfl⟩, by decide, by decide, dL_pay_19, dL_pay_20⟩
theorem h_pay {l : Launch} {E : aE} {N : Nat} {S : aS} {M : aM} (hfl : l.stackTraces = false) (h v : Int)  (A : aM) (hW : LWI N S M A) : aMtH l E pL_pay [(2, 0), (0, h), (0, v), (2, 139)] N S M (hQ M N S (spPay A h v)) := by
  obtain ⟨hN, hC, hS9, hO, hR, hRM, hI⟩ := hW
  refine a_metH hfl (by decide +kernel) (Nat.le_of_ble_eq_true rfl) ?_
  refine x_aload_n (pc := 0) dL_pay_0 rfl rfl ?_
  refine x_iconst (pc := 1) dL_pay_1 (by decide) ?_
  refine x_aload_n (pc := 2) dL_pay_2 rfl rfl ?_
  refine x_iload_n (pc := 3) dL_pay_3 rfl rfl ?_
  refine x_iload_n (pc := 4) dL_pay_4 rfl rfl ?_
  have hnd : ∀ w0 : (spPay A h v).1 ≠ 0, a_hnd pL_pay 5 ((fun k => if k = 1 then 2 else 0) ((spPay A h v).1)) (spPay A h v).1 := fun hz => by
    rcases cd_pay A h v with w | w | w
    · exact absurd w hz
    · rw [w]; exact hn_pay_1
    · rw [w]; exact hn_pay_2
  refine x_callV2C (pc := 5) dL_pay_5 rfl rfl rfl kL_66 (s_Cpay hfl h v hC A hR hI.1) (sC_0 hC) rfl rfl (Nat.le_of_ble_eq_true rfl) (k_op (fun M9 hz hf hR9 => ?_)) (n_op (fun M9 hz hf hR9 => ⟨hnd hz, rfl, rfl, fun a i p q => hf a i p (by omega), hR9, fun q => absurd q hz, rfl⟩))
  refine x_i2l (pc := 8) dL_pay_8 ?_
  refine x_lastore (pc := 9) dL_pay_9 hO (by omega) ?_
  refine x_goto (tgt := 21) (pc := 10) dL_pay_10 (by decide) ?_
  refine x_iconst (pc := 21) dL_pay_21 (by decide) ?_
  refine x_ireturn (pc := 22) dL_pay_22 rfl (by decide) ?_
  exact ⟨rfl, rfl, fun a i p q => (up_a (by omega)).trans (hf a i p (by omega)), hR9.out, fun _ => up_s, by rw [hz]⟩
abbrev pL_by : aP := (yL_by, cL_by, 4, (some .int), { frames := 10, cells := 1, slots := 6, locals := 155 }, [(0, 9, 12, 13)])
theorem dL_by_0 : decode cL_by 0 = .ok (.aload_n 2, 1) := by decide +kernel
theorem dL_by_1 : decode cL_by 1 = .ok (.iconst 0, 1) := by decide +kernel
theorem dL_by_2 : decode cL_by 2 = .ok (.aload_n 0, 1) := by decide +kernel
theorem dL_by_3 : decode cL_by 3 = .ok (.iload_n 1, 1) := by decide +kernel
theorem dL_by_4 : decode cL_by 4 = .ok (.invokevirtual 69, 3) := by decide +kernel
theorem dL_by_7 : decode cL_by 7 = .ok (.i2l, 1) := by decide +kernel
theorem dL_by_8 : decode cL_by 8 = .ok (.lastore, 1) := by decide +kernel
theorem dL_by_9 : decode cL_by 9 = .ok (.goto 6, 3) := by decide +kernel
theorem dL_by_12 : decode cL_by 12 = .ok (.astore_n 3, 1) := by decide +kernel
theorem dL_by_13 : decode cL_by 13 = .ok (.iconst 1, 1) := by decide +kernel
theorem dL_by_14 : decode cL_by 14 = .ok (.ireturn, 1) := by decide +kernel
theorem dL_by_15 : decode cL_by 15 = .ok (.iconst 0, 1) := by decide +kernel
theorem dL_by_16 : decode cL_by 16 = .ok (.ireturn, 1) := by decide +kernel
theorem kL_69 : a_kV RL 69 pX11_by 1 := ⟨cbX11_by, (lw_ok_in (List.mem_of_getElem? (i := 1176) (by decide +kernel)) rfl), (lw_ok_in (List.mem_of_getElem? (i := 1177) (by decide +kernel)) rfl), (lw_ok_in (List.mem_of_getElem? (i := 1178) (by decide +kernel)) rfl)⟩
theorem cd_by (A : aM) (v : Int) : (spBy A v).1 = 0 ∨ (spBy A v).1 = 1 := by
  unfold spBy
  (repeat' split) <;> first | exact Or.inl rfl | exact Or.inr (rfl)
theorem hn_by_1 : a_hnd pL_by 4 0 1 := ⟨12, 3, 1, rfl, Or.inr ⟨3, dL_by_12, rfl, rfl⟩, by decide, by decide, dL_by_13, dL_by_14⟩
theorem h_by {l : Launch} {E : aE} {N : Nat} {S : aS} {M : aM} (hfl : l.stackTraces = false) (v : Int)  (A : aM) (hW : LWI N S M A) : aMtH l E pL_by [(2, 0), (0, v), (2, 139)] N S M (hQ M N S (spBy A v)) := by
  obtain ⟨hN, hC, hS9, hO, hR, hRM, hI⟩ := hW
  refine a_metH hfl (by decide +kernel) (Nat.le_of_ble_eq_true rfl) ?_
  refine x_aload_n (pc := 0) dL_by_0 rfl rfl ?_
  refine x_iconst (pc := 1) dL_by_1 (by decide) ?_
  refine x_aload_n (pc := 2) dL_by_2 rfl rfl ?_
  refine x_iload_n (pc := 3) dL_by_3 rfl rfl ?_
  have hnd : ∀ w0 : (spBy A v).1 ≠ 0, a_hnd pL_by 4 ((fun _ => 0) ((spBy A v).1)) (spBy A v).1 := fun hz => by
    rcases cd_by A v with w | w
    · exact absurd w hz
    · rw [w]; exact hn_by_1
  refine x_callV1C (pc := 4) dL_by_4 rfl rfl rfl kL_69 (s_Cby hfl v hC A hR hI.1) (sC_0 hC) rfl rfl (Nat.le_of_ble_eq_true rfl) (k_op (fun M9 hz hf hR9 => ?_)) (n_op (fun M9 hz hf hR9 => ⟨hnd hz, rfl, rfl, fun a i p q => hf a i p (by omega), hR9, fun q => absurd q hz, rfl⟩))
  refine x_i2l (pc := 7) dL_by_7 ?_
  refine x_lastore (pc := 8) dL_by_8 hO (by omega) ?_
  refine x_goto (tgt := 15) (pc := 9) dL_by_9 (by decide) ?_
  refine x_iconst (pc := 15) dL_by_15 (by decide) ?_
  refine x_ireturn (pc := 16) dL_by_16 rfl (by decide) ?_
  exact ⟨rfl, rfl, fun a i p q => (up_a (by omega)).trans (hf a i p (by omega)), hR9.out, fun _ => up_s, by rw [hz]⟩
abbrev pL_judge : aP := (yL_judge, cL_judge, 4, (some .int), { frames := 15, cells := 2, slots := 12, locals := 274 }, [(0, 9, 12, 13), (0, 9, 15, 75)])
theorem dL_judge_0 : decode cL_judge 0 = .ok (.aload_n 2, 1) := by decide +kernel
theorem dL_judge_1 : decode cL_judge 1 = .ok (.iconst 0, 1) := by decide +kernel
theorem dL_judge_2 : decode cL_judge 2 = .ok (.aload_n 0, 1) := by decide +kernel
theorem dL_judge_3 : decode cL_judge 3 = .ok (.iload_n 1, 1) := by decide +kernel
theorem dL_judge_4 : decode cL_judge 4 = .ok (.invokevirtual 72, 3) := by decide +kernel
theorem dL_judge_7 : decode cL_judge 7 = .ok (.i2l, 1) := by decide +kernel
theorem dL_judge_8 : decode cL_judge 8 = .ok (.lastore, 1) := by decide +kernel
theorem dL_judge_9 : decode cL_judge 9 = .ok (.goto 9, 3) := by decide +kernel
theorem dL_judge_12 : decode cL_judge 12 = .ok (.astore_n 3, 1) := by decide +kernel
theorem dL_judge_13 : decode cL_judge 13 = .ok (.iconst 1, 1) := by decide +kernel
theorem dL_judge_14 : decode cL_judge 14 = .ok (.ireturn, 1) := by decide +kernel
theorem dL_judge_15 : decode cL_judge 15 = .ok (.astore_n 3, 1) := by decide +kernel
theorem dL_judge_16 : decode cL_judge 16 = .ok (.iconst 2, 1) := by decide +kernel
theorem dL_judge_17 : decode cL_judge 17 = .ok (.ireturn, 1) := by decide +kernel
theorem dL_judge_18 : decode cL_judge 18 = .ok (.iconst 0, 1) := by decide +kernel
theorem dL_judge_19 : decode cL_judge 19 = .ok (.ireturn, 1) := by decide +kernel
theorem kL_72 : a_kV RL 72 pX11_judge 1 := ⟨cbX11_judge, (lw_ok_in (List.mem_of_getElem? (i := 1184) (by decide +kernel)) rfl), (lw_ok_in (List.mem_of_getElem? (i := 1185) (by decide +kernel)) rfl), (lw_ok_in (List.mem_of_getElem? (i := 1186) (by decide +kernel)) rfl)⟩
theorem cd_judge (A : aM) (s : Int) : (spJudge A s).1 = 0 ∨ (spJudge A s).1 = 1 ∨ (spJudge A s).1 = 2 := by
  unfold spJudge
  (repeat' split) <;> first | exact Or.inl rfl | exact Or.inr (Or.inl rfl) | exact Or.inr (Or.inr (rfl))
theorem hn_judge_1 : a_hnd pL_judge 4 0 1 := ⟨12, 3, 1, rfl, Or.inr ⟨3, dL_judge_12, rfl, rfl⟩, by decide, by decide, dL_judge_13, dL_judge_14⟩
theorem hn_judge_2 : a_hnd pL_judge 4 1 2 := ⟨15, 3, 1, rfl, Or.inr ⟨3, dL_judge_15, rfl, rfl⟩, by decide, by decide, dL_judge_16, dL_judge_17⟩
theorem h_judge {l : Launch} {E : aE} {N : Nat} {S : aS} {M : aM} (hfl : l.stackTraces = false) (s : Int)  (A : aM) (hW : LWI N S M A) : aMtH l E pL_judge [(2, 0), (0, s), (2, 139)] N S M (hQ M N S (spJudge A s)) := by
  obtain ⟨hN, hC, hS9, hO, hR, hRM, hI⟩ := hW
  refine a_metH hfl (by decide +kernel) (Nat.le_of_ble_eq_true rfl) ?_
  refine x_aload_n (pc := 0) dL_judge_0 rfl rfl ?_
  refine x_iconst (pc := 1) dL_judge_1 (by decide) ?_
  refine x_aload_n (pc := 2) dL_judge_2 rfl rfl ?_
  refine x_iload_n (pc := 3) dL_judge_3 rfl rfl ?_
  have hnd : ∀ w0 : (spJudge A s).1 ≠ 0, a_hnd pL_judge 4 ((fun k => if k = 1 then 0 else 1) ((spJudge A s).1)) (spJudge A s).1 := fun hz => by
    rcases cd_judge A s with w | w | w
    · exact absurd w hz
    · rw [w]; exact hn_judge_1
    · rw [w]; exact hn_judge_2
  refine x_callV1C (pc := 4) dL_judge_4 rfl rfl rfl kL_72 (s_Cjudge hfl s hC A hR hI.1 hI.2.1) (sC_0 hC) rfl rfl (Nat.le_of_ble_eq_true rfl) (k_op (fun M9 hz hf hR9 => ?_)) (n_op (fun M9 hz hf hR9 => ⟨hnd hz, rfl, rfl, fun a i p q => hf a i p (by omega), hR9, fun q => absurd q hz, rfl⟩))
  refine x_i2l (pc := 7) dL_judge_7 ?_
  refine x_lastore (pc := 8) dL_judge_8 hO (by omega) ?_
  refine x_goto (tgt := 18) (pc := 9) dL_judge_9 (by decide) ?_
  refine x_iconst (pc := 18) dL_judge_18 (by decide) ?_
  refine x_ireturn (pc := 19) dL_judge_19 rfl (by decide) ?_
  exact ⟨rfl, rfl, fun a i p q => (up_a (by omega)).trans (hf a i p (by omega)), hR9.out, fun _ => up_s, by rw [hz]⟩
abbrev pL_can : aP := (yL_can, cL_can, 4, (some .int), { frames := 15, cells := 3, slots := 18, locals := 275 }, [(0, 16, 19, 13), (0, 16, 22, 75)])
theorem dL_can_0 : decode cL_can 0 = .ok (.aload_n 2, 1) := by decide +kernel
theorem dL_can_1 : decode cL_can 1 = .ok (.iconst 0, 1) := by decide +kernel
theorem dL_can_2 : decode cL_can 2 = .ok (.aload_n 0, 1) := by decide +kernel
theorem dL_can_3 : decode cL_can 3 = .ok (.iload_n 1, 1) := by decide +kernel
theorem dL_can_4 : decode cL_can 4 = .ok (.invokevirtual 77, 3) := by decide +kernel
theorem dL_can_7 : decode cL_can 7 = .ok (.ifCond .eq 7, 3) := by decide +kernel
theorem dL_can_10 : decode cL_can 10 = .ok (.lconst 1, 1) := by decide +kernel
theorem dL_can_11 : decode cL_can 11 = .ok (.goto 4, 3) := by decide +kernel
theorem dL_can_14 : decode cL_can 14 = .ok (.lconst 0, 1) := by decide +kernel
theorem dL_can_15 : decode cL_can 15 = .ok (.lastore, 1) := by decide +kernel
theorem dL_can_16 : decode cL_can 16 = .ok (.goto 9, 3) := by decide +kernel
theorem dL_can_19 : decode cL_can 19 = .ok (.astore_n 3, 1) := by decide +kernel
theorem dL_can_20 : decode cL_can 20 = .ok (.iconst 1, 1) := by decide +kernel
theorem dL_can_21 : decode cL_can 21 = .ok (.ireturn, 1) := by decide +kernel
theorem dL_can_22 : decode cL_can 22 = .ok (.astore_n 3, 1) := by decide +kernel
theorem dL_can_23 : decode cL_can 23 = .ok (.iconst 2, 1) := by decide +kernel
theorem dL_can_24 : decode cL_can 24 = .ok (.ireturn, 1) := by decide +kernel
theorem dL_can_25 : decode cL_can 25 = .ok (.iconst 0, 1) := by decide +kernel
theorem dL_can_26 : decode cL_can 26 = .ok (.ireturn, 1) := by decide +kernel
theorem kL_77 : a_kV RL 77 pX11_can 1 := ⟨cbX11_can, (lw_ok_in (List.mem_of_getElem? (i := 1218) (by decide +kernel)) rfl), (lw_ok_in (List.mem_of_getElem? (i := 1219) (by decide +kernel)) rfl), (lw_ok_in (List.mem_of_getElem? (i := 1220) (by decide +kernel)) rfl)⟩
theorem cd_can (A : aM) (s : Int) : (spCan A s).1 = 0 ∨ (spCan A s).1 = 1 ∨ (spCan A s).1 = 2 := by
  unfold spCan
  (repeat' split) <;> first | exact Or.inl rfl | exact Or.inr (Or.inl rfl) | exact Or.inr (Or.inr (rfl))
theorem bb_can (A : aM) (s : Int) : (spCan A s).1 = 0 → (spCan A s).2.1 = 0 ∨ (spCan A s).2.1 = 1 := by
  unfold spCan
  (repeat' split) <;> intro h <;> first | exact Or.inl rfl | exact Or.inr rfl | exact absurd h (by decide)
theorem hn_can_1 : a_hnd pL_can 4 0 1 := ⟨19, 3, 1, rfl, Or.inr ⟨3, dL_can_19, rfl, rfl⟩, by decide, by decide, dL_can_20, dL_can_21⟩
theorem hn_can_2 : a_hnd pL_can 4 1 2 := ⟨22, 3, 1, rfl, Or.inr ⟨3, dL_can_22, rfl, rfl⟩, by decide, by decide, dL_can_23, dL_can_24⟩
theorem h_can {l : Launch} {E : aE} {N : Nat} {S : aS} {M : aM} (hfl : l.stackTraces = false) (s : Int)  (A : aM) (hW : LWI N S M A) : aMtH l E pL_can [(2, 0), (0, s), (2, 139)] N S M (hQ M N S (spCan A s)) := by
  obtain ⟨hN, hC, hS9, hO, hR, hRM, hI⟩ := hW
  refine a_metH hfl (by decide +kernel) (Nat.le_of_ble_eq_true rfl) ?_
  refine x_aload_n (pc := 0) dL_can_0 rfl rfl ?_
  refine x_iconst (pc := 1) dL_can_1 (by decide) ?_
  refine x_aload_n (pc := 2) dL_can_2 rfl rfl ?_
  refine x_iload_n (pc := 3) dL_can_3 rfl rfl ?_
  have hnd : ∀ w0 : (spCan A s).1 ≠ 0, a_hnd pL_can 4 ((fun k => if k = 1 then 0 else 1) ((spCan A s).1)) (spCan A s).1 := fun hz => by
    rcases cd_can A s with w | w | w
    · exact absurd w hz
    · rw [w]; exact hn_can_1
    · rw [w]; exact hn_can_2
  refine x_callV1C (pc := 4) dL_can_4 rfl rfl rfl kL_77 (s_Ccan hfl s hC A hR hI.1 hI.2.1) (sC_0 hC) rfl rfl (Nat.le_of_ble_eq_true rfl) (k_op (fun M9 hz hf hR9 => ?_)) (n_op (fun M9 hz hf hR9 => ⟨hnd hz, rfl, rfl, fun a i p q => hf a i p (by omega), hR9, fun q => absurd q hz, rfl⟩))
  refine x_if_eq (tgt := 14) (pc := 7) dL_can_7 (by decide) (fun c_7 => ?_) (fun c_7 => ?_)
  · refine x_lconst0 (pc := 14) dL_can_14 ?_
    refine x_lastore (pc := 15) dL_can_15 hO (by omega) ?_
    refine x_goto (tgt := 25) (pc := 16) dL_can_16 (by decide) ?_
    refine x_iconst (pc := 25) dL_can_25 (by decide) ?_
    refine x_ireturn (pc := 26) dL_can_26 rfl (by decide) ?_
    have hb9 := bb_can A s hz
    exact ⟨rfl, rfl, fun a i p q => (up_a (by omega)).trans (hf a i p (by omega)), hR9.out, fun _ => up_s.trans (by omega), by rw [hz]⟩
  · refine x_lconst1 (pc := 10) dL_can_10 ?_
    refine x_goto (tgt := 15) (pc := 11) dL_can_11 (by decide) ?_
    refine x_lastore (pc := 15) dL_can_15 hO (by omega) ?_
    refine x_goto (tgt := 25) (pc := 16) dL_can_16 (by decide) ?_
    refine x_iconst (pc := 25) dL_can_25 (by decide) ?_
    refine x_ireturn (pc := 26) dL_can_26 rfl (by decide) ?_
    have hb9 := bb_can A s hz
    exact ⟨rfl, rfl, fun a i p q => (up_a (by omega)).trans (hf a i p (by omega)), hR9.out, fun _ => up_s.trans (by omega), by rw [hz]⟩
abbrev pL_share : aP := (yL_share, cL_share, 5, (some .int), { frames := 16, cells := 5, slots := 30, locals := 298 }, [(0, 7, 10, 13), (0, 7, 14, 75)])
theorem dL_share_0 : decode cL_share 0 = .ok (.aload_n 0, 1) := by decide +kernel
theorem dL_share_1 : decode cL_share 1 = .ok (.iload_n 1, 1) := by decide +kernel
theorem dL_share_2 : decode cL_share 2 = .ok (.iload_n 2, 1) := by decide +kernel
theorem dL_share_3 : decode cL_share 3 = .ok (.iload_n 3, 1) := by decide +kernel
theorem dL_share_4 : decode cL_share 4 = .ok (.invokevirtual 81, 3) := by decide +kernel
theorem dL_share_7 : decode cL_share 7 = .ok (.goto 11, 3) := by decide +kernel
theorem dL_share_10 : decode cL_share 10 = .ok (.astore 4, 2) := by decide +kernel
theorem dL_share_12 : decode cL_share 12 = .ok (.iconst 1, 1) := by decide +kernel
theorem dL_share_13 : decode cL_share 13 = .ok (.ireturn, 1) := by decide +kernel
theorem dL_share_14 : decode cL_share 14 = .ok (.astore 4, 2) := by decide +kernel
theorem dL_share_16 : decode cL_share 16 = .ok (.iconst 2, 1) := by decide +kernel
theorem dL_share_17 : decode cL_share 17 = .ok (.ireturn, 1) := by decide +kernel
theorem dL_share_18 : decode cL_share 18 = .ok (.iconst 0, 1) := by decide +kernel
theorem dL_share_19 : decode cL_share 19 = .ok (.ireturn, 1) := by decide +kernel
theorem kL_81 : a_kV RL 81 pX11_share 3 := ⟨cbX11_share, (lw_ok_in (List.mem_of_getElem? (i := 1280) (by decide +kernel)) rfl), (lw_ok_in (List.mem_of_getElem? (i := 1281) (by decide +kernel)) rfl), (lw_ok_in (List.mem_of_getElem? (i := 1282) (by decide +kernel)) rfl)⟩
theorem cd_share (A : aM) (s h most : Int) : (spShare A s h most).1 = 0 ∨ (spShare A s h most).1 = 1 ∨ (spShare A s h most).1 = 2 := by
  unfold spShare
  (repeat' split) <;> first | exact Or.inl rfl | exact Or.inr (Or.inl rfl) | exact Or.inr (Or.inr (rfl))
theorem hn_share_1 : a_hnd pL_share 4 0 1 := ⟨10, 4, 2, rfl, Or.inl ⟨dL_share_10, rfl⟩, by decide, by decide, dL_share_12, dL_share_13⟩
theorem hn_share_2 : a_hnd pL_share 4 1 2 := ⟨14, 4, 2, rfl, Or.inl ⟨dL_share_14, rfl⟩, by decide, by decide, dL_share_16, dL_share_17⟩
theorem h_share {l : Launch} {E : aE} {N : Nat} {S : aS} {M : aM} (hfl : l.stackTraces = false) (s h most : Int) (hm : most = 0 ∨ most = 1) (A : aM) (hW : LWI N S M A) : aMtH l E pL_share [(2, 0), (0, s), (0, h), (0, most)] N S M (hQv M N S (spShare A s h most)) := by
  obtain ⟨hN, hC, hS9, hO, hR, hRM, hI⟩ := hW
  refine a_metH hfl (by decide +kernel) (Nat.le_of_ble_eq_true rfl) ?_
  refine x_aload_n (pc := 0) dL_share_0 rfl rfl ?_
  refine x_iload_n (pc := 1) dL_share_1 rfl rfl ?_
  refine x_iload_n (pc := 2) dL_share_2 rfl rfl ?_
  refine x_iload_n (pc := 3) dL_share_3 rfl rfl ?_
  have hnd : ∀ w0 : (spShare A s h most).1 ≠ 0, a_hnd pL_share 4 ((fun k => if k = 1 then 0 else 1) ((spShare A s h most).1)) (spShare A s h most).1 := fun hz => by
    rcases cd_share A s h most with w | w | w
    · exact absurd w hz
    · rw [w]; exact hn_share_1
    · rw [w]; exact hn_share_2
  refine x_callV3C (pc := 4) dL_share_4 rfl rfl rfl kL_81 (s_Cshare hfl s h most hm hC A hR hI.1 hI.2.1) (sC_0 hC) rfl rfl (Nat.le_of_ble_eq_true rfl) (k_opv (fun M9 hz hf hR9 => ?_)) (n_opv (fun M9 hz hf hR9 => ⟨hnd hz, Nat.le_refl _, by omega, fun _ _ => rfl, fun a i p q => hf a i p (by omega), hR9, rfl⟩))
  refine x_goto (tgt := 18) (pc := 7) dL_share_7 (by decide) ?_
  refine x_iconst (pc := 18) dL_share_18 (by decide) ?_
  refine x_ireturn (pc := 19) dL_share_19 rfl (by decide) ?_
  exact ⟨Nat.le_refl _, by omega, fun _ _ => rfl, fun a i p q => hf a i p (by omega), hR9, by rw [hz]⟩
abbrev pL_row : aP := (yL_row, cL_row, 4, (some .int), { frames := 16, cells := 5, slots := 30, locals := 298 }, [(0, 6, 9, 13), (0, 6, 12, 75)])
theorem dL_row_0 : decode cL_row 0 = .ok (.aload_n 0, 1) := by decide +kernel
theorem dL_row_1 : decode cL_row 1 = .ok (.iload_n 1, 1) := by decide +kernel
theorem dL_row_2 : decode cL_row 2 = .ok (.iload_n 2, 1) := by decide +kernel
theorem dL_row_3 : decode cL_row 3 = .ok (.invokevirtual 85, 3) := by decide +kernel
theorem dL_row_6 : decode cL_row 6 = .ok (.goto 9, 3) := by decide +kernel
theorem dL_row_9 : decode cL_row 9 = .ok (.astore_n 3, 1) := by decide +kernel
theorem dL_row_10 : decode cL_row 10 = .ok (.iconst 1, 1) := by decide +kernel
theorem dL_row_11 : decode cL_row 11 = .ok (.ireturn, 1) := by decide +kernel
theorem dL_row_12 : decode cL_row 12 = .ok (.astore_n 3, 1) := by decide +kernel
theorem dL_row_13 : decode cL_row 13 = .ok (.iconst 2, 1) := by decide +kernel
theorem dL_row_14 : decode cL_row 14 = .ok (.ireturn, 1) := by decide +kernel
theorem dL_row_15 : decode cL_row 15 = .ok (.iconst 0, 1) := by decide +kernel
theorem dL_row_16 : decode cL_row 16 = .ok (.ireturn, 1) := by decide +kernel
theorem kL_85 : a_kV RL 85 pX11_row 2 := ⟨cbX11_row, (lw_ok_in (List.mem_of_getElem? (i := 1311) (by decide +kernel)) rfl), (lw_ok_in (List.mem_of_getElem? (i := 1312) (by decide +kernel)) rfl), (lw_ok_in (List.mem_of_getElem? (i := 1313) (by decide +kernel)) rfl)⟩
theorem cd_row (A : aM) (s h : Int) : (spRow A s h).1 = 0 ∨ (spRow A s h).1 = 1 ∨ (spRow A s h).1 = 2 := by
  unfold spRow
  (repeat' split) <;> first | exact Or.inl rfl | exact Or.inr (Or.inl rfl) | exact Or.inr (Or.inr (rfl))
theorem hn_row_1 : a_hnd pL_row 3 0 1 := ⟨9, 3, 1, rfl, Or.inr ⟨3, dL_row_9, rfl, rfl⟩, by decide, by decide, dL_row_10, dL_row_11⟩
theorem hn_row_2 : a_hnd pL_row 3 1 2 := ⟨12, 3, 1, rfl, Or.inr ⟨3, dL_row_12, rfl, rfl⟩, by decide, by decide, dL_row_13, dL_row_14⟩
theorem h_row {l : Launch} {E : aE} {N : Nat} {S : aS} {M : aM} (hfl : l.stackTraces = false) (s h : Int)  (A : aM) (hW : LWI N S M A) : aMtH l E pL_row [(2, 0), (0, s), (0, h)] N S M (hQv M N S (spRow A s h)) := by
  obtain ⟨hN, hC, hS9, hO, hR, hRM, hI⟩ := hW
  refine a_metH hfl (by decide +kernel) (Nat.le_of_ble_eq_true rfl) ?_
  refine x_aload_n (pc := 0) dL_row_0 rfl rfl ?_
  refine x_iload_n (pc := 1) dL_row_1 rfl rfl ?_
  refine x_iload_n (pc := 2) dL_row_2 rfl rfl ?_
  have hnd : ∀ w0 : (spRow A s h).1 ≠ 0, a_hnd pL_row 3 ((fun k => if k = 1 then 0 else 1) ((spRow A s h).1)) (spRow A s h).1 := fun hz => by
    rcases cd_row A s h with w | w | w
    · exact absurd w hz
    · rw [w]; exact hn_row_1
    · rw [w]; exact hn_row_2
  refine x_callV2C (pc := 3) dL_row_3 rfl rfl rfl kL_85 (s_Crow hfl s h hC A hR hI.1 hI.2.1) (sC_0 hC) rfl rfl (Nat.le_of_ble_eq_true rfl) (k_opv (fun M9 hz hf hR9 => ?_)) (n_opv (fun M9 hz hf hR9 => ⟨hnd hz, Nat.le_refl _, by omega, fun _ _ => rfl, fun a i p q => hf a i p (by omega), hR9, rfl⟩))
  refine x_goto (tgt := 15) (pc := 6) dL_row_6 (by decide) ?_
  refine x_iconst (pc := 15) dL_row_15 (by decide) ?_
  refine x_ireturn (pc := 16) dL_row_16 rfl (by decide) ?_
  exact ⟨Nat.le_refl _, by omega, fun _ _ => rfl, fun a i p q => hf a i p (by omega), hR9, by rw [hz]⟩
abbrev pL_proof : aP := (yL_proof, cL_proof, 6, (some .int), { frames := 15, cells := 5, slots := 30, locals := 276 }, [(0, 19, 22, 19), (0, 19, 26, 13), (0, 19, 30, 75)])
theorem dL_proof_0 : decode cL_proof 0 = .ok (.aload 4, 2) := by decide +kernel
theorem dL_proof_2 : decode cL_proof 2 = .ok (.iconst 0, 1) := by decide +kernel
theorem dL_proof_3 : decode cL_proof 3 = .ok (.aload_n 0, 1) := by decide +kernel
theorem dL_proof_4 : decode cL_proof 4 = .ok (.iload_n 1, 1) := by decide +kernel
theorem dL_proof_5 : decode cL_proof 5 = .ok (.iload_n 2, 1) := by decide +kernel
theorem dL_proof_6 : decode cL_proof 6 = .ok (.iload_n 3, 1) := by decide +kernel
theorem dL_proof_7 : decode cL_proof 7 = .ok (.invokevirtual 89, 3) := by decide +kernel
theorem dL_proof_10 : decode cL_proof 10 = .ok (.ifCond .eq 7, 3) := by decide +kernel
theorem dL_proof_13 : decode cL_proof 13 = .ok (.lconst 1, 1) := by decide +kernel
theorem dL_proof_14 : decode cL_proof 14 = .ok (.goto 4, 3) := by decide +kernel
theorem dL_proof_17 : decode cL_proof 17 = .ok (.lconst 0, 1) := by decide +kernel
theorem dL_proof_18 : decode cL_proof 18 = .ok (.lastore, 1) := by decide +kernel
theorem dL_proof_19 : decode cL_proof 19 = .ok (.goto 15, 3) := by decide +kernel
theorem dL_proof_22 : decode cL_proof 22 = .ok (.astore 5, 2) := by decide +kernel
theorem dL_proof_24 : decode cL_proof 24 = .ok (.iconst 1, 1) := by decide +kernel
theorem dL_proof_25 : decode cL_proof 25 = .ok (.ireturn, 1) := by decide +kernel
theorem dL_proof_26 : decode cL_proof 26 = .ok (.astore 5, 2) := by decide +kernel
theorem dL_proof_28 : decode cL_proof 28 = .ok (.iconst 2, 1) := by decide +kernel
theorem dL_proof_29 : decode cL_proof 29 = .ok (.ireturn, 1) := by decide +kernel
theorem dL_proof_30 : decode cL_proof 30 = .ok (.astore 5, 2) := by decide +kernel
theorem dL_proof_32 : decode cL_proof 32 = .ok (.iconst 3, 1) := by decide +kernel
theorem dL_proof_33 : decode cL_proof 33 = .ok (.ireturn, 1) := by decide +kernel
theorem dL_proof_34 : decode cL_proof 34 = .ok (.iconst 0, 1) := by decide +kernel
theorem dL_proof_35 : decode cL_proof 35 = .ok (.ireturn, 1) := by decide +kernel
theorem kL_89 : a_kV RL 89 pX11_proof 3 := ⟨cbX11_proof, (lw_ok_in (List.mem_of_getElem? (i := 1318) (by decide +kernel)) rfl), (lw_ok_in (List.mem_of_getElem? (i := 1319) (by decide +kernel)) rfl), (lw_ok_in (List.mem_of_getElem? (i := 1320) (by decide +kernel)) rfl)⟩
theorem cd_proof (A : aM) (t s d : Int) : (spProof A t s d).1 = 0 ∨ (spProof A t s d).1 = 1 ∨ (spProof A t s d).1 = 2 ∨ (spProof A t s d).1 = 3 := by
  unfold spProof
  (repeat' split) <;> first | exact Or.inl rfl | exact Or.inr (Or.inl rfl) | exact Or.inr (Or.inr (Or.inl rfl)) | exact Or.inr (Or.inr (Or.inr (rfl)))
theorem bb_proof (A : aM) (t s d : Int) : (spProof A t s d).1 = 0 → (spProof A t s d).2.1 = 0 ∨ (spProof A t s d).2.1 = 1 := by
  unfold spProof pfV
  (repeat' split) <;> intro h <;> first | exact Or.inl rfl | exact Or.inr rfl | exact absurd h (by decide)
theorem hn_proof_1 : a_hnd pL_proof 7 2 1 := ⟨22, 5, 2, rfl, Or.inl ⟨dL_proof_22, rfl⟩, by decide, by decide, dL_proof_24, dL_proof_25⟩
theorem hn_proof_2 : a_hnd pL_proof 7 0 2 := ⟨26, 5, 2, rfl, Or.inl ⟨dL_proof_26, rfl⟩, by decide, by decide, dL_proof_28, dL_proof_29⟩
theorem hn_proof_3 : a_hnd pL_proof 7 1 3 := ⟨30, 5, 2, rfl, Or.inl ⟨dL_proof_30, rfl⟩, by decide, by decide, dL_proof_32, dL_proof_33⟩
theorem h_proof {l : Launch} {E : aE} {N : Nat} {S : aS} {M : aM} (hfl : l.stackTraces = false) (t s d : Int)  (A : aM) (hW : LWI N S M A) : aMtH l E pL_proof [(2, 0), (0, t), (0, s), (0, d), (2, 139)] N S M (hQ M N S (spProof A t s d)) := by
  obtain ⟨hN, hC, hS9, hO, hR, hRM, hI⟩ := hW
  refine a_metH hfl (by decide +kernel) (Nat.le_of_ble_eq_true rfl) ?_
  refine x_aload (pc := 0) dL_proof_0 rfl ?_
  refine x_iconst (pc := 2) dL_proof_2 (by decide) ?_
  refine x_aload_n (pc := 3) dL_proof_3 rfl rfl ?_
  refine x_iload_n (pc := 4) dL_proof_4 rfl rfl ?_
  refine x_iload_n (pc := 5) dL_proof_5 rfl rfl ?_
  refine x_iload_n (pc := 6) dL_proof_6 rfl rfl ?_
  have hnd : ∀ w0 : (spProof A t s d).1 ≠ 0, a_hnd pL_proof 7 ((fun k => if k = 1 then 2 else if k = 2 then 0 else 1) ((spProof A t s d).1)) (spProof A t s d).1 := fun hz => by
    rcases cd_proof A t s d with w | w | w | w
    · exact absurd w hz
    · rw [w]; exact hn_proof_1
    · rw [w]; exact hn_proof_2
    · rw [w]; exact hn_proof_3
  refine x_callV3C (pc := 7) dL_proof_7 rfl rfl rfl kL_89 (s_Cproof hfl t s d hC A hR hI.1 hI.2.1 hI.2.2.2.2.1) (sC_0 hC) rfl rfl (Nat.le_of_ble_eq_true rfl) (k_op (fun M9 hz hf hR9 => ?_)) (n_op (fun M9 hz hf hR9 => ⟨hnd hz, rfl, rfl, fun a i p q => hf a i p (by omega), hR9, fun q => absurd q hz, rfl⟩))
  refine x_if_eq (tgt := 17) (pc := 10) dL_proof_10 (by decide) (fun c_10 => ?_) (fun c_10 => ?_)
  · refine x_lconst0 (pc := 17) dL_proof_17 ?_
    refine x_lastore (pc := 18) dL_proof_18 hO (by omega) ?_
    refine x_goto (tgt := 34) (pc := 19) dL_proof_19 (by decide) ?_
    refine x_iconst (pc := 34) dL_proof_34 (by decide) ?_
    refine x_ireturn (pc := 35) dL_proof_35 rfl (by decide) ?_
    have hb9 := bb_proof A t s d hz
    exact ⟨rfl, rfl, fun a i p q => (up_a (by omega)).trans (hf a i p (by omega)), hR9.out, fun _ => up_s.trans (by omega), by rw [hz]⟩
  · refine x_lconst1 (pc := 13) dL_proof_13 ?_
    refine x_goto (tgt := 18) (pc := 14) dL_proof_14 (by decide) ?_
    refine x_lastore (pc := 18) dL_proof_18 hO (by omega) ?_
    refine x_goto (tgt := 34) (pc := 19) dL_proof_19 (by decide) ?_
    refine x_iconst (pc := 34) dL_proof_34 (by decide) ?_
    refine x_ireturn (pc := 35) dL_proof_35 rfl (by decide) ?_
    have hb9 := bb_proof A t s d hz
    exact ⟨rfl, rfl, fun a i p q => (up_a (by omega)).trans (hf a i p (by omega)), hR9.out, fun _ => up_s.trans (by omega), by rw [hz]⟩
abbrev pL_ruled : aP := (yL_ruled, cL_ruled, 4, (some .int), { frames := 16, cells := 4, slots := 24, locals := 296 }, [(0, 6, 9, 13), (0, 6, 12, 75)])
theorem dL_ruled_0 : decode cL_ruled 0 = .ok (.aload_n 0, 1) := by decide +kernel
theorem dL_ruled_1 : decode cL_ruled 1 = .ok (.iload_n 1, 1) := by decide +kernel
theorem dL_ruled_2 : decode cL_ruled 2 = .ok (.iload_n 2, 1) := by decide +kernel
theorem dL_ruled_3 : decode cL_ruled 3 = .ok (.invokevirtual 93, 3) := by decide +kernel
theorem dL_ruled_6 : decode cL_ruled 6 = .ok (.goto 9, 3) := by decide +kernel
theorem dL_ruled_9 : decode cL_ruled 9 = .ok (.astore_n 3, 1) := by decide +kernel
theorem dL_ruled_10 : decode cL_ruled 10 = .ok (.iconst 1, 1) := by decide +kernel
theorem dL_ruled_11 : decode cL_ruled 11 = .ok (.ireturn, 1) := by decide +kernel
theorem dL_ruled_12 : decode cL_ruled 12 = .ok (.astore_n 3, 1) := by decide +kernel
theorem dL_ruled_13 : decode cL_ruled 13 = .ok (.iconst 2, 1) := by decide +kernel
theorem dL_ruled_14 : decode cL_ruled 14 = .ok (.ireturn, 1) := by decide +kernel
theorem dL_ruled_15 : decode cL_ruled 15 = .ok (.iconst 0, 1) := by decide +kernel
theorem dL_ruled_16 : decode cL_ruled 16 = .ok (.ireturn, 1) := by decide +kernel
theorem kL_93 : a_kV RL 93 pX11_ruled 2 := ⟨cbX11_ruled, (lw_ok_in (List.mem_of_getElem? (i := 1348) (by decide +kernel)) rfl), (lw_ok_in (List.mem_of_getElem? (i := 1349) (by decide +kernel)) rfl), (lw_ok_in (List.mem_of_getElem? (i := 1350) (by decide +kernel)) rfl)⟩
theorem cd_ruled (A : aM) (s h : Int) : (spRuled A s h).1 = 0 ∨ (spRuled A s h).1 = 1 ∨ (spRuled A s h).1 = 2 := by
  unfold spRuled
  (repeat' split) <;> first | exact Or.inl rfl | exact Or.inr (Or.inl rfl) | exact Or.inr (Or.inr (rfl))
theorem hn_ruled_1 : a_hnd pL_ruled 3 0 1 := ⟨9, 3, 1, rfl, Or.inr ⟨3, dL_ruled_9, rfl, rfl⟩, by decide, by decide, dL_ruled_10, dL_ruled_11⟩
theorem hn_ruled_2 : a_hnd pL_ruled 3 1 2 := ⟨12, 3, 1, rfl, Or.inr ⟨3, dL_ruled_12, rfl, rfl⟩, by decide, by decide, dL_ruled_13, dL_ruled_14⟩
theorem h_ruled {l : Launch} {E : aE} {N : Nat} {S : aS} {M : aM} (hfl : l.stackTraces = false) (s h : Int)  (A : aM) (hW : LWI N S M A) : aMtH l E pL_ruled [(2, 0), (0, s), (0, h)] N S M (hQv M N S (spRuled A s h)) := by
  obtain ⟨hN, hC, hS9, hO, hR, hRM, hI⟩ := hW
  refine a_metH hfl (by decide +kernel) (Nat.le_of_ble_eq_true rfl) ?_
  refine x_aload_n (pc := 0) dL_ruled_0 rfl rfl ?_
  refine x_iload_n (pc := 1) dL_ruled_1 rfl rfl ?_
  refine x_iload_n (pc := 2) dL_ruled_2 rfl rfl ?_
  have hnd : ∀ w0 : (spRuled A s h).1 ≠ 0, a_hnd pL_ruled 3 ((fun k => if k = 1 then 0 else 1) ((spRuled A s h).1)) (spRuled A s h).1 := fun hz => by
    rcases cd_ruled A s h with w | w | w
    · exact absurd w hz
    · rw [w]; exact hn_ruled_1
    · rw [w]; exact hn_ruled_2
  refine x_callV2C (pc := 3) dL_ruled_3 rfl rfl rfl kL_93 (s_Cruled hfl s h hC A hR hI.1 hI.2.1) (sC_0 hC) rfl rfl (Nat.le_of_ble_eq_true rfl) (k_opv (fun M9 hz hf hR9 => ?_)) (n_opv (fun M9 hz hf hR9 => ⟨hnd hz, Nat.le_refl _, by omega, fun _ _ => rfl, fun a i p q => hf a i p (by omega), hR9, rfl⟩))
  refine x_goto (tgt := 15) (pc := 6) dL_ruled_6 (by decide) ?_
  refine x_iconst (pc := 15) dL_ruled_15 (by decide) ?_
  refine x_ireturn (pc := 16) dL_ruled_16 rfl (by decide) ?_
  exact ⟨Nat.le_refl _, by omega, fun _ _ => rfl, fun a i p q => hf a i p (by omega), hR9, by rw [hz]⟩
abbrev pL_keeps : aP := (yL_keeps, cL_keeps, 4, (some .int), { frames := 16, cells := 3, slots := 18, locals := 295 }, [(0, 9, 12, 13), (0, 9, 15, 75)])
theorem dL_keeps_0 : decode cL_keeps 0 = .ok (.aload_n 2, 1) := by decide +kernel
theorem dL_keeps_1 : decode cL_keeps 1 = .ok (.iconst 0, 1) := by decide +kernel
theorem dL_keeps_2 : decode cL_keeps 2 = .ok (.aload_n 0, 1) := by decide +kernel
theorem dL_keeps_3 : decode cL_keeps 3 = .ok (.iload_n 1, 1) := by decide +kernel
theorem dL_keeps_4 : decode cL_keeps 4 = .ok (.invokevirtual 96, 3) := by decide +kernel
theorem dL_keeps_7 : decode cL_keeps 7 = .ok (.i2l, 1) := by decide +kernel
theorem dL_keeps_8 : decode cL_keeps 8 = .ok (.lastore, 1) := by decide +kernel
theorem dL_keeps_9 : decode cL_keeps 9 = .ok (.goto 9, 3) := by decide +kernel
theorem dL_keeps_12 : decode cL_keeps 12 = .ok (.astore_n 3, 1) := by decide +kernel
theorem dL_keeps_13 : decode cL_keeps 13 = .ok (.iconst 1, 1) := by decide +kernel
theorem dL_keeps_14 : decode cL_keeps 14 = .ok (.ireturn, 1) := by decide +kernel
theorem dL_keeps_15 : decode cL_keeps 15 = .ok (.astore_n 3, 1) := by decide +kernel
theorem dL_keeps_16 : decode cL_keeps 16 = .ok (.iconst 2, 1) := by decide +kernel
theorem dL_keeps_17 : decode cL_keeps 17 = .ok (.ireturn, 1) := by decide +kernel
theorem dL_keeps_18 : decode cL_keeps 18 = .ok (.iconst 0, 1) := by decide +kernel
theorem dL_keeps_19 : decode cL_keeps 19 = .ok (.ireturn, 1) := by decide +kernel
theorem kL_96 : a_kV RL 96 pX11_keeps 1 := ⟨cbX11_keeps, (lw_ok_in (List.mem_of_getElem? (i := 1377) (by decide +kernel)) rfl), (lw_ok_in (List.mem_of_getElem? (i := 1378) (by decide +kernel)) rfl), (lw_ok_in (List.mem_of_getElem? (i := 1379) (by decide +kernel)) rfl)⟩
theorem cd_keeps (A : aM) (s : Int) : (spKeeps A s).1 = 0 ∨ (spKeeps A s).1 = 1 ∨ (spKeeps A s).1 = 2 := by
  unfold spKeeps
  (repeat' split) <;> first | exact Or.inl rfl | exact Or.inr (Or.inl rfl) | exact Or.inr (Or.inr (rfl))
theorem hn_keeps_1 : a_hnd pL_keeps 4 0 1 := ⟨12, 3, 1, rfl, Or.inr ⟨3, dL_keeps_12, rfl, rfl⟩, by decide, by decide, dL_keeps_13, dL_keeps_14⟩
theorem hn_keeps_2 : a_hnd pL_keeps 4 1 2 := ⟨15, 3, 1, rfl, Or.inr ⟨3, dL_keeps_15, rfl, rfl⟩, by decide, by decide, dL_keeps_16, dL_keeps_17⟩
theorem h_keeps {l : Launch} {E : aE} {N : Nat} {S : aS} {M : aM} (hfl : l.stackTraces = false) (s : Int)  (A : aM) (hW : LWI N S M A) : aMtH l E pL_keeps [(2, 0), (0, s), (2, 139)] N S M (hQ M N S (spKeeps A s)) := by
  obtain ⟨hN, hC, hS9, hO, hR, hRM, hI⟩ := hW
  refine a_metH hfl (by decide +kernel) (Nat.le_of_ble_eq_true rfl) ?_
  refine x_aload_n (pc := 0) dL_keeps_0 rfl rfl ?_
  refine x_iconst (pc := 1) dL_keeps_1 (by decide) ?_
  refine x_aload_n (pc := 2) dL_keeps_2 rfl rfl ?_
  refine x_iload_n (pc := 3) dL_keeps_3 rfl rfl ?_
  have hnd : ∀ w0 : (spKeeps A s).1 ≠ 0, a_hnd pL_keeps 4 ((fun k => if k = 1 then 0 else 1) ((spKeeps A s).1)) (spKeeps A s).1 := fun hz => by
    rcases cd_keeps A s with w | w | w
    · exact absurd w hz
    · rw [w]; exact hn_keeps_1
    · rw [w]; exact hn_keeps_2
  refine x_callV1C (pc := 4) dL_keeps_4 rfl rfl rfl kL_96 (s_Ckeeps hfl s hC A hR hI.1 hI.2.1) (sC_0 hC) rfl rfl (Nat.le_of_ble_eq_true rfl) (k_op (fun M9 hz hf hR9 => ?_)) (n_op (fun M9 hz hf hR9 => ⟨hnd hz, rfl, rfl, fun a i p q => hf a i p (by omega), hR9, fun q => absurd q hz, rfl⟩))
  refine x_i2l (pc := 7) dL_keeps_7 ?_
  refine x_lastore (pc := 8) dL_keeps_8 hO (by omega) ?_
  refine x_goto (tgt := 18) (pc := 9) dL_keeps_9 (by decide) ?_
  refine x_iconst (pc := 18) dL_keeps_18 (by decide) ?_
  refine x_ireturn (pc := 19) dL_keeps_19 rfl (by decide) ?_
  exact ⟨rfl, rfl, fun a i p q => (up_a (by omega)).trans (hf a i p (by omega)), hR9.out, fun _ => up_s, by rw [hz]⟩
abbrev pL_doubt : aP := (yL_doubt, cL_doubt, 6, (some .int), { frames := 11, cells := 3, slots := 18, locals := 177 }, [(0, 12, 15, 19), (0, 12, 19, 13)])
theorem dL_doubt_0 : decode cL_doubt 0 = .ok (.aload 4, 2) := by decide +kernel
theorem dL_doubt_2 : decode cL_doubt 2 = .ok (.iconst 0, 1) := by decide +kernel
theorem dL_doubt_3 : decode cL_doubt 3 = .ok (.aload_n 0, 1) := by decide +kernel
theorem dL_doubt_4 : decode cL_doubt 4 = .ok (.iload_n 1, 1) := by decide +kernel
theorem dL_doubt_5 : decode cL_doubt 5 = .ok (.iload_n 2, 1) := by decide +kernel
theorem dL_doubt_6 : decode cL_doubt 6 = .ok (.iload_n 3, 1) := by decide +kernel
theorem dL_doubt_7 : decode cL_doubt 7 = .ok (.invokevirtual 99, 3) := by decide +kernel
theorem dL_doubt_10 : decode cL_doubt 10 = .ok (.i2l, 1) := by decide +kernel
theorem dL_doubt_11 : decode cL_doubt 11 = .ok (.lastore, 1) := by decide +kernel
theorem dL_doubt_12 : decode cL_doubt 12 = .ok (.goto 11, 3) := by decide +kernel
theorem dL_doubt_15 : decode cL_doubt 15 = .ok (.astore 5, 2) := by decide +kernel
theorem dL_doubt_17 : decode cL_doubt 17 = .ok (.iconst 1, 1) := by decide +kernel
theorem dL_doubt_18 : decode cL_doubt 18 = .ok (.ireturn, 1) := by decide +kernel
theorem dL_doubt_19 : decode cL_doubt 19 = .ok (.astore 5, 2) := by decide +kernel
theorem dL_doubt_21 : decode cL_doubt 21 = .ok (.iconst 2, 1) := by decide +kernel
theorem dL_doubt_22 : decode cL_doubt 22 = .ok (.ireturn, 1) := by decide +kernel
theorem dL_doubt_23 : decode cL_doubt 23 = .ok (.iconst 0, 1) := by decide +kernel
theorem dL_doubt_24 : decode cL_doubt 24 = .ok (.ireturn, 1) := by decide +kernel
theorem kL_99 : a_kV RL 99 pX11_doubt 3 := ⟨cbX11_doubt, (lw_ok_in (List.mem_of_getElem? (i := 1388) (by decide +kernel)) rfl), (lw_ok_in (List.mem_of_getElem? (i := 1389) (by decide +kernel)) rfl), (lw_ok_in (List.mem_of_getElem? (i := 1390) (by decide +kernel)) rfl)⟩
theorem cd_doubt (A : aM) (h s c : Int) : (spDoubt A h s c).1 = 0 ∨ (spDoubt A h s c).1 = 1 ∨ (spDoubt A h s c).1 = 2 := by
  unfold spDoubt
  (repeat' split) <;> first | exact Or.inl rfl | exact Or.inr (Or.inl rfl) | exact Or.inr (Or.inr (rfl))
theorem hn_doubt_1 : a_hnd pL_doubt 7 2 1 := ⟨15, 5, 2, rfl, Or.inl ⟨dL_doubt_15, rfl⟩, by decide, by decide, dL_doubt_17, dL_doubt_18⟩
theorem hn_doubt_2 : a_hnd pL_doubt 7 0 2 := ⟨19, 5, 2, rfl, Or.inl ⟨dL_doubt_19, rfl⟩, by decide, by decide, dL_doubt_21, dL_doubt_22⟩
theorem h_doubt {l : Launch} {E : aE} {N : Nat} {S : aS} {M : aM} (hfl : l.stackTraces = false) (h s c : Int)  (A : aM) (hW : LWI N S M A) : aMtH l E pL_doubt [(2, 0), (0, h), (0, s), (0, c), (2, 139)] N S M (hQ M N S (spDoubt A h s c)) := by
  obtain ⟨hN, hC, hS9, hO, hR, hRM, hI⟩ := hW
  refine a_metH hfl (by decide +kernel) (Nat.le_of_ble_eq_true rfl) ?_
  refine x_aload (pc := 0) dL_doubt_0 rfl ?_
  refine x_iconst (pc := 2) dL_doubt_2 (by decide) ?_
  refine x_aload_n (pc := 3) dL_doubt_3 rfl rfl ?_
  refine x_iload_n (pc := 4) dL_doubt_4 rfl rfl ?_
  refine x_iload_n (pc := 5) dL_doubt_5 rfl rfl ?_
  refine x_iload_n (pc := 6) dL_doubt_6 rfl rfl ?_
  have hnd : ∀ w0 : (spDoubt A h s c).1 ≠ 0, a_hnd pL_doubt 7 ((fun k => if k = 1 then 2 else 0) ((spDoubt A h s c).1)) (spDoubt A h s c).1 := fun hz => by
    rcases cd_doubt A h s c with w | w | w
    · exact absurd w hz
    · rw [w]; exact hn_doubt_1
    · rw [w]; exact hn_doubt_2
  refine x_callV3C (pc := 7) dL_doubt_7 rfl rfl rfl kL_99 (s_Cdoubt hfl h s c hC A hR hI.1) (sC_0 hC) rfl rfl (Nat.le_of_ble_eq_true rfl) (k_op (fun M9 hz hf hR9 => ?_)) (n_op (fun M9 hz hf hR9 => ⟨hnd hz, rfl, rfl, fun a i p q => hf a i p (by omega), hR9, fun q => absurd q hz, rfl⟩))
  refine x_i2l (pc := 10) dL_doubt_10 ?_
  refine x_lastore (pc := 11) dL_doubt_11 hO (by omega) ?_
  refine x_goto (tgt := 23) (pc := 12) dL_doubt_12 (by decide) ?_
  refine x_iconst (pc := 23) dL_doubt_23 (by decide) ?_
  refine x_ireturn (pc := 24) dL_doubt_24 rfl (by decide) ?_
  exact ⟨rfl, rfl, fun a i p q => (up_a (by omega)).trans (hf a i p (by omega)), hR9.out, fun _ => up_s, by rw [hz]⟩
abbrev pL_risk : aP := (yL_risk, cL_risk, 5, (some .int), { frames := 13, cells := 2, slots := 12, locals := 224 }, [(0, 17, 20, 13)])
theorem dL_risk_0 : decode cL_risk 0 = .ok (.aload_n 3, 1) := by decide +kernel
theorem dL_risk_1 : decode cL_risk 1 = .ok (.iconst 0, 1) := by decide +kernel
theorem dL_risk_2 : decode cL_risk 2 = .ok (.aload_n 0, 1) := by decide +kernel
theorem dL_risk_3 : decode cL_risk 3 = .ok (.iload_n 1, 1) := by decide +kernel
theorem dL_risk_4 : decode cL_risk 4 = .ok (.iload_n 2, 1) := by decide +kernel
theorem dL_risk_5 : decode cL_risk 5 = .ok (.invokevirtual 102, 3) := by decide +kernel
theorem dL_risk_8 : decode cL_risk 8 = .ok (.ifCond .eq 7, 3) := by decide +kernel
theorem dL_risk_11 : decode cL_risk 11 = .ok (.lconst 1, 1) := by decide +kernel
theorem dL_risk_12 : decode cL_risk 12 = .ok (.goto 4, 3) := by decide +kernel
theorem dL_risk_15 : decode cL_risk 15 = .ok (.lconst 0, 1) := by decide +kernel
theorem dL_risk_16 : decode cL_risk 16 = .ok (.lastore, 1) := by decide +kernel
theorem dL_risk_17 : decode cL_risk 17 = .ok (.goto 7, 3) := by decide +kernel
theorem dL_risk_20 : decode cL_risk 20 = .ok (.astore 4, 2) := by decide +kernel
theorem dL_risk_22 : decode cL_risk 22 = .ok (.iconst 1, 1) := by decide +kernel
theorem dL_risk_23 : decode cL_risk 23 = .ok (.ireturn, 1) := by decide +kernel
theorem dL_risk_24 : decode cL_risk 24 = .ok (.iconst 0, 1) := by decide +kernel
theorem dL_risk_25 : decode cL_risk 25 = .ok (.ireturn, 1) := by decide +kernel
theorem kL_102 : a_kV RL 102 pX11_risk 2 := ⟨cbX11_risk, (lw_ok_in (List.mem_of_getElem? (i := 1399) (by decide +kernel)) rfl), (lw_ok_in (List.mem_of_getElem? (i := 1400) (by decide +kernel)) rfl), (lw_ok_in (List.mem_of_getElem? (i := 1401) (by decide +kernel)) rfl)⟩
theorem cd_risk (A : aM) (s q : Int) : (spRisk A s q).1 = 0 ∨ (spRisk A s q).1 = 1 := by
  unfold spRisk
  (repeat' split) <;> first | exact Or.inl rfl | exact Or.inr (rfl)
theorem bb_risk (A : aM) (s q : Int) : (spRisk A s q).1 = 0 → (spRisk A s q).2.1 = 0 ∨ (spRisk A s q).2.1 = 1 := by
  unfold spRisk
  (repeat' split) <;> intro h <;> first | exact Or.inl rfl | exact Or.inr rfl | exact absurd h (by decide)
theorem hn_risk_1 : a_hnd pL_risk 5 0 1 := ⟨20, 4, 2, rfl, Or.inl ⟨dL_risk_20, rfl⟩, by decide, by decide, dL_risk_22, dL_risk_23⟩
theorem h_risk {l : Launch} {E : aE} {N : Nat} {S : aS} {M : aM} (hfl : l.stackTraces = false) (s q : Int)  (A : aM) (hW : LWI N S M A) : aMtH l E pL_risk [(2, 0), (0, s), (0, q), (2, 139)] N S M (hQ M N S (spRisk A s q)) := by
  obtain ⟨hN, hC, hS9, hO, hR, hRM, hI⟩ := hW
  refine a_metH hfl (by decide +kernel) (Nat.le_of_ble_eq_true rfl) ?_
  refine x_aload_n (pc := 0) dL_risk_0 rfl rfl ?_
  refine x_iconst (pc := 1) dL_risk_1 (by decide) ?_
  refine x_aload_n (pc := 2) dL_risk_2 rfl rfl ?_
  refine x_iload_n (pc := 3) dL_risk_3 rfl rfl ?_
  refine x_iload_n (pc := 4) dL_risk_4 rfl rfl ?_
  have hnd : ∀ w0 : (spRisk A s q).1 ≠ 0, a_hnd pL_risk 5 ((fun _ => 0) ((spRisk A s q).1)) (spRisk A s q).1 := fun hz => by
    rcases cd_risk A s q with w | w
    · exact absurd w hz
    · rw [w]; exact hn_risk_1
  refine x_callV2C (pc := 5) dL_risk_5 rfl rfl rfl kL_102 (s_Crisk hfl s q hC A hR hI.1) (sC_0 hC) rfl rfl (Nat.le_of_ble_eq_true rfl) (k_op (fun M9 hz hf hR9 => ?_)) (n_op (fun M9 hz hf hR9 => ⟨hnd hz, rfl, rfl, fun a i p q => hf a i p (by omega), hR9, fun q => absurd q hz, rfl⟩))
  refine x_if_eq (tgt := 15) (pc := 8) dL_risk_8 (by decide) (fun c_8 => ?_) (fun c_8 => ?_)
  · refine x_lconst0 (pc := 15) dL_risk_15 ?_
    refine x_lastore (pc := 16) dL_risk_16 hO (by omega) ?_
    refine x_goto (tgt := 24) (pc := 17) dL_risk_17 (by decide) ?_
    refine x_iconst (pc := 24) dL_risk_24 (by decide) ?_
    refine x_ireturn (pc := 25) dL_risk_25 rfl (by decide) ?_
    have hb9 := bb_risk A s q hz
    exact ⟨rfl, rfl, fun a i p q => (up_a (by omega)).trans (hf a i p (by omega)), hR9.out, fun _ => up_s.trans (by omega), by rw [hz]⟩
  · refine x_lconst1 (pc := 11) dL_risk_11 ?_
    refine x_goto (tgt := 16) (pc := 12) dL_risk_12 (by decide) ?_
    refine x_lastore (pc := 16) dL_risk_16 hO (by omega) ?_
    refine x_goto (tgt := 24) (pc := 17) dL_risk_17 (by decide) ?_
    refine x_iconst (pc := 24) dL_risk_24 (by decide) ?_
    refine x_ireturn (pc := 25) dL_risk_25 rfl (by decide) ?_
    have hb9 := bb_risk A s q hz
    exact ⟨rfl, rfl, fun a i p q => (up_a (by omega)).trans (hf a i p (by omega)), hR9.out, fun _ => up_s.trans (by omega), by rw [hz]⟩
abbrev pL_before : aP := (yL_before, cL_before, 4, (some .int), { frames := 13, cells := 1, slots := 6, locals := 230 }, [(0, 9, 12, 13)])
theorem dL_before_0 : decode cL_before 0 = .ok (.aload_n 2, 1) := by decide +kernel
theorem dL_before_1 : decode cL_before 1 = .ok (.iconst 0, 1) := by decide +kernel
theorem dL_before_2 : decode cL_before 2 = .ok (.aload_n 0, 1) := by decide +kernel
theorem dL_before_3 : decode cL_before 3 = .ok (.iload_n 1, 1) := by decide +kernel
theorem dL_before_4 : decode cL_before 4 = .ok (.invokevirtual 105, 3) := by decide +kernel
theorem dL_before_7 : decode cL_before 7 = .ok (.i2l, 1) := by decide +kernel
theorem dL_before_8 : decode cL_before 8 = .ok (.lastore, 1) := by decide +kernel
theorem dL_before_9 : decode cL_before 9 = .ok (.goto 6, 3) := by decide +kernel
theorem dL_before_12 : decode cL_before 12 = .ok (.astore_n 3, 1) := by decide +kernel
theorem dL_before_13 : decode cL_before 13 = .ok (.iconst 1, 1) := by decide +kernel
theorem dL_before_14 : decode cL_before 14 = .ok (.ireturn, 1) := by decide +kernel
theorem dL_before_15 : decode cL_before 15 = .ok (.iconst 0, 1) := by decide +kernel
theorem dL_before_16 : decode cL_before 16 = .ok (.ireturn, 1) := by decide +kernel
theorem kL_105 : a_kV RL 105 pX11_before 1 := ⟨cbX11_before, (lw_ok_in (List.mem_of_getElem? (i := 1425) (by decide +kernel)) rfl), (lw_ok_in (List.mem_of_getElem? (i := 1426) (by decide +kernel)) rfl), (lw_ok_in (List.mem_of_getElem? (i := 1427) (by decide +kernel)) rfl)⟩
theorem cd_before (A : aM) (s : Int) : (spBefore A s).1 = 0 ∨ (spBefore A s).1 = 1 := by
  unfold spBefore
  (repeat' split) <;> first | exact Or.inl rfl | exact Or.inr (rfl)
theorem hn_before_1 : a_hnd pL_before 4 0 1 := ⟨12, 3, 1, rfl, Or.inr ⟨3, dL_before_12, rfl, rfl⟩, by decide, by decide, dL_before_13, dL_before_14⟩
theorem h_before {l : Launch} {E : aE} {N : Nat} {S : aS} {M : aM} (hfl : l.stackTraces = false) (s : Int)  (A : aM) (hW : LWI N S M A) : aMtH l E pL_before [(2, 0), (0, s), (2, 139)] N S M (hQ M N S (spBefore A s)) := by
  obtain ⟨hN, hC, hS9, hO, hR, hRM, hI⟩ := hW
  refine a_metH hfl (by decide +kernel) (Nat.le_of_ble_eq_true rfl) ?_
  refine x_aload_n (pc := 0) dL_before_0 rfl rfl ?_
  refine x_iconst (pc := 1) dL_before_1 (by decide) ?_
  refine x_aload_n (pc := 2) dL_before_2 rfl rfl ?_
  refine x_iload_n (pc := 3) dL_before_3 rfl rfl ?_
  have hnd : ∀ w0 : (spBefore A s).1 ≠ 0, a_hnd pL_before 4 ((fun _ => 0) ((spBefore A s).1)) (spBefore A s).1 := fun hz => by
    rcases cd_before A s with w | w
    · exact absurd w hz
    · rw [w]; exact hn_before_1
  refine x_callV1C (pc := 4) dL_before_4 rfl rfl rfl kL_105 (s_Cbefore hfl s hC A hR hI.1) (sC_0 hC) rfl rfl (Nat.le_of_ble_eq_true rfl) (k_op (fun M9 hz hf hR9 => ?_)) (n_op (fun M9 hz hf hR9 => ⟨hnd hz, rfl, rfl, fun a i p q => hf a i p (by omega), hR9, fun q => absurd q hz, rfl⟩))
  refine x_i2l (pc := 7) dL_before_7 ?_
  refine x_lastore (pc := 8) dL_before_8 hO (by omega) ?_
  refine x_goto (tgt := 15) (pc := 9) dL_before_9 (by decide) ?_
  refine x_iconst (pc := 15) dL_before_15 (by decide) ?_
  refine x_ireturn (pc := 16) dL_before_16 rfl (by decide) ?_
  exact ⟨rfl, rfl, fun a i p q => (up_a (by omega)).trans (hf a i p (by omega)), hR9.out, fun _ => up_s, by rw [hz]⟩
abbrev pL_seller : aP := (yL_seller, cL_seller, 7, (some .int), { frames := 16, cells := 5, slots := 30, locals := 302 }, [(0, 14, 17, 13)])
theorem dL_seller_0 : decode cL_seller 0 = .ok (.aload 5, 2) := by decide +kernel
theorem dL_seller_2 : decode cL_seller 2 = .ok (.iconst 0, 1) := by decide +kernel
theorem dL_seller_3 : decode cL_seller 3 = .ok (.aload_n 0, 1) := by decide +kernel
theorem dL_seller_4 : decode cL_seller 4 = .ok (.iload_n 1, 1) := by decide +kernel
theorem dL_seller_5 : decode cL_seller 5 = .ok (.iload_n 2, 1) := by decide +kernel
theorem dL_seller_6 : decode cL_seller 6 = .ok (.iload_n 3, 1) := by decide +kernel
theorem dL_seller_7 : decode cL_seller 7 = .ok (.iload 4, 2) := by decide +kernel
theorem dL_seller_9 : decode cL_seller 9 = .ok (.invokevirtual 108, 3) := by decide +kernel
theorem dL_seller_12 : decode cL_seller 12 = .ok (.i2l, 1) := by decide +kernel
theorem dL_seller_13 : decode cL_seller 13 = .ok (.lastore, 1) := by decide +kernel
theorem dL_seller_14 : decode cL_seller 14 = .ok (.goto 7, 3) := by decide +kernel
theorem dL_seller_17 : decode cL_seller 17 = .ok (.astore 6, 2) := by decide +kernel
theorem dL_seller_19 : decode cL_seller 19 = .ok (.iconst 1, 1) := by decide +kernel
theorem dL_seller_20 : decode cL_seller 20 = .ok (.ireturn, 1) := by decide +kernel
theorem dL_seller_21 : decode cL_seller 21 = .ok (.iconst 0, 1) := by decide +kernel
theorem dL_seller_22 : decode cL_seller 22 = .ok (.ireturn, 1) := by decide +kernel
theorem kL_108 : a_kV RL 108 pX11_seller 4 := ⟨cbX11_seller, (lw_ok_in (List.mem_of_getElem? (i := 1432) (by decide +kernel)) rfl), (lw_ok_in (List.mem_of_getElem? (i := 1433) (by decide +kernel)) rfl), (lw_ok_in (List.mem_of_getElem? (i := 1434) (by decide +kernel)) rfl)⟩
theorem cd_seller (A : aM) (s p k x : Int) : (spSeller A s p k x).1 = 0 ∨ (spSeller A s p k x).1 = 1 := by
  unfold spSeller
  (repeat' split) <;> first | exact Or.inl rfl | exact Or.inr (rfl)
theorem hn_seller_1 : a_hnd pL_seller 9 0 1 := ⟨17, 6, 2, rfl, Or.inl ⟨dL_seller_17, rfl⟩, by decide, by decide, dL_seller_19, dL_seller_20⟩
theorem h_seller {l : Launch} {E : aE} {N : Nat} {S : aS} {M : aM} (hfl : l.stackTraces = false) (s p k x : Int)  (A : aM) (hW : LWI N S M A) : aMtH l E pL_seller [(2, 0), (0, s), (0, p), (0, k), (0, x), (2, 139)] N S M (hQ M N S (spSeller A s p k x)) := by
  obtain ⟨hN, hC, hS9, hO, hR, hRM, hI⟩ := hW
  refine a_metH hfl (by decide +kernel) (Nat.le_of_ble_eq_true rfl) ?_
  refine x_aload (pc := 0) dL_seller_0 rfl ?_
  refine x_iconst (pc := 2) dL_seller_2 (by decide) ?_
  refine x_aload_n (pc := 3) dL_seller_3 rfl rfl ?_
  refine x_iload_n (pc := 4) dL_seller_4 rfl rfl ?_
  refine x_iload_n (pc := 5) dL_seller_5 rfl rfl ?_
  refine x_iload_n (pc := 6) dL_seller_6 rfl rfl ?_
  refine x_iload (pc := 7) dL_seller_7 rfl ?_
  have hnd : ∀ w0 : (spSeller A s p k x).1 ≠ 0, a_hnd pL_seller 9 ((fun _ => 0) ((spSeller A s p k x).1)) (spSeller A s p k x).1 := fun hz => by
    rcases cd_seller A s p k x with w | w
    · exact absurd w hz
    · rw [w]; exact hn_seller_1
  refine x_callV4C (pc := 9) dL_seller_9 rfl rfl rfl kL_108 (s_Cseller hfl s p k x hC A hR hI.1 hI.2.1) (sC_0 hC) rfl rfl (Nat.le_of_ble_eq_true rfl) (k_op (fun M9 hz hf hR9 => ?_)) (n_op (fun M9 hz hf hR9 => ⟨hnd hz, rfl, rfl, fun a i p q => hf a i p (by omega), hR9, fun q => absurd q hz, rfl⟩))
  refine x_i2l (pc := 12) dL_seller_12 ?_
  refine x_lastore (pc := 13) dL_seller_13 hO (by omega) ?_
  refine x_goto (tgt := 21) (pc := 14) dL_seller_14 (by decide) ?_
  refine x_iconst (pc := 21) dL_seller_21 (by decide) ?_
  refine x_ireturn (pc := 22) dL_seller_22 rfl (by decide) ?_
  exact ⟨rfl, rfl, fun a i p q => (up_a (by omega)).trans (hf a i p (by omega)), hR9.out, fun _ => up_s, by rw [hz]⟩
abbrev pL_tray : aP := (yL_tray, cL_tray, 5, (some .int), { frames := 10, cells := 3, slots := 18, locals := 157 }, [(0, 7, 10, 19), (0, 7, 14, 13)])
theorem dL_tray_0 : decode cL_tray 0 = .ok (.aload_n 0, 1) := by decide +kernel
theorem dL_tray_1 : decode cL_tray 1 = .ok (.iload_n 1, 1) := by decide +kernel
theorem dL_tray_2 : decode cL_tray 2 = .ok (.iload_n 2, 1) := by decide +kernel
theorem dL_tray_3 : decode cL_tray 3 = .ok (.iload_n 3, 1) := by decide +kernel
theorem dL_tray_4 : decode cL_tray 4 = .ok (.invokevirtual 112, 3) := by decide +kernel
theorem dL_tray_7 : decode cL_tray 7 = .ok (.goto 11, 3) := by decide +kernel
theorem dL_tray_10 : decode cL_tray 10 = .ok (.astore 4, 2) := by decide +kernel
theorem dL_tray_12 : decode cL_tray 12 = .ok (.iconst 1, 1) := by decide +kernel
theorem dL_tray_13 : decode cL_tray 13 = .ok (.ireturn, 1) := by decide +kernel
theorem dL_tray_14 : decode cL_tray 14 = .ok (.astore 4, 2) := by decide +kernel
theorem dL_tray_16 : decode cL_tray 16 = .ok (.iconst 2, 1) := by decide +kernel
theorem dL_tray_17 : decode cL_tray 17 = .ok (.ireturn, 1) := by decide +kernel
theorem dL_tray_18 : decode cL_tray 18 = .ok (.iconst 0, 1) := by decide +kernel
theorem dL_tray_19 : decode cL_tray 19 = .ok (.ireturn, 1) := by decide +kernel
theorem kL_112 : a_kV RL 112 pX11_tray 3 := ⟨cbX11_tray, (lw_ok_in (List.mem_of_getElem? (i := 1462) (by decide +kernel)) rfl), (lw_ok_in (List.mem_of_getElem? (i := 1463) (by decide +kernel)) rfl), (lw_ok_in (List.mem_of_getElem? (i := 1464) (by decide +kernel)) rfl)⟩
theorem cd_tray (A : aM) (t s n : Int) : (spTray A t s n).1 = 0 ∨ (spTray A t s n).1 = 1 ∨ (spTray A t s n).1 = 2 := by
  unfold spTray
  (repeat' split) <;> first | exact Or.inl rfl | exact Or.inr (Or.inl rfl) | exact Or.inr (Or.inr (rfl))
theorem hn_tray_1 : a_hnd pL_tray 4 2 1 := ⟨10, 4, 2, rfl, Or.inl ⟨dL_tray_10, rfl⟩, by decide, by decide, dL_tray_12, dL_tray_13⟩
theorem hn_tray_2 : a_hnd pL_tray 4 0 2 := ⟨14, 4, 2, rfl, Or.inl ⟨dL_tray_14, rfl⟩, by decide, by decide, dL_tray_16, dL_tray_17⟩
theorem h_tray {l : Launch} {E : aE} {N : Nat} {S : aS} {M : aM} (hfl : l.stackTraces = false) (t s n : Int)  (A : aM) (hW : LWI N S M A) : aMtH l E pL_tray [(2, 0), (0, t), (0, s), (0, n)] N S M (hQv M N S (spTray A t s n)) := by
  obtain ⟨hN, hC, hS9, hO, hR, hRM, hI⟩ := hW
  refine a_metH hfl (by decide +kernel) (Nat.le_of_ble_eq_true rfl) ?_
  refine x_aload_n (pc := 0) dL_tray_0 rfl rfl ?_
  refine x_iload_n (pc := 1) dL_tray_1 rfl rfl ?_
  refine x_iload_n (pc := 2) dL_tray_2 rfl rfl ?_
  refine x_iload_n (pc := 3) dL_tray_3 rfl rfl ?_
  have hnd : ∀ w0 : (spTray A t s n).1 ≠ 0, a_hnd pL_tray 4 ((fun k => if k = 1 then 2 else 0) ((spTray A t s n).1)) (spTray A t s n).1 := fun hz => by
    rcases cd_tray A t s n with w | w | w
    · exact absurd w hz
    · rw [w]; exact hn_tray_1
    · rw [w]; exact hn_tray_2
  refine x_callV3C (pc := 4) dL_tray_4 rfl rfl rfl kL_112 (s_Ctray hfl t s n hC A hR hI.1) (sC_0 hC) rfl rfl (Nat.le_of_ble_eq_true rfl) (k_opv (fun M9 hz hf hR9 => ?_)) (n_opv (fun M9 hz hf hR9 => ⟨hnd hz, Nat.le_refl _, by omega, fun _ _ => rfl, fun a i p q => hf a i p (by omega), hR9, rfl⟩))
  refine x_goto (tgt := 18) (pc := 7) dL_tray_7 (by decide) ?_
  refine x_iconst (pc := 18) dL_tray_18 (by decide) ?_
  refine x_ireturn (pc := 19) dL_tray_19 rfl (by decide) ?_
  exact ⟨Nat.le_refl _, by omega, fun _ _ => rfl, fun a i p q => hf a i p (by omega), hR9, by rw [hz]⟩
abbrev pL_write : aP := (yL_write, cL_write, 7, (some .int), { frames := 10, cells := 3, slots := 18, locals := 160 }, [(0, 11, 14, 19), (0, 11, 18, 75), (0, 11, 22, 120)])
theorem dL_write_0 : decode cL_write 0 = .ok (.aload 5, 2) := by decide +kernel
theorem dL_write_2 : decode cL_write 2 = .ok (.iconst 0, 1) := by decide +kernel
theorem dL_write_3 : decode cL_write 3 = .ok (.aload_n 0, 1) := by decide +kernel
theorem dL_write_4 : decode cL_write 4 = .ok (.iload_n 1, 1) := by decide +kernel
theorem dL_write_5 : decode cL_write 5 = .ok (.iload_n 2, 1) := by decide +kernel
theorem dL_write_6 : decode cL_write 6 = .ok (.lload_n 3, 1) := by decide +kernel
theorem dL_write_7 : decode cL_write 7 = .ok (.invokevirtual 116, 3) := by decide +kernel
theorem dL_write_10 : decode cL_write 10 = .ok (.lastore, 1) := by decide +kernel
theorem dL_write_11 : decode cL_write 11 = .ok (.goto 15, 3) := by decide +kernel
theorem dL_write_14 : decode cL_write 14 = .ok (.astore 6, 2) := by decide +kernel
theorem dL_write_16 : decode cL_write 16 = .ok (.iconst 1, 1) := by decide +kernel
theorem dL_write_17 : decode cL_write 17 = .ok (.ireturn, 1) := by decide +kernel
theorem dL_write_18 : decode cL_write 18 = .ok (.astore 6, 2) := by decide +kernel
theorem dL_write_20 : decode cL_write 20 = .ok (.iconst 2, 1) := by decide +kernel
theorem dL_write_21 : decode cL_write 21 = .ok (.ireturn, 1) := by decide +kernel
theorem dL_write_22 : decode cL_write 22 = .ok (.astore 6, 2) := by decide +kernel
theorem dL_write_24 : decode cL_write 24 = .ok (.iconst 3, 1) := by decide +kernel
theorem dL_write_25 : decode cL_write 25 = .ok (.ireturn, 1) := by decide +kernel
theorem dL_write_26 : decode cL_write 26 = .ok (.iconst 0, 1) := by decide +kernel
theorem dL_write_27 : decode cL_write 27 = .ok (.ireturn, 1) := by decide +kernel
theorem kL_116 : a_kV RL 116 pX11_write 3 := ⟨cbX11_write, (lw_ok_in (List.mem_of_getElem? (i := 1474) (by decide +kernel)) rfl), (lw_ok_in (List.mem_of_getElem? (i := 1475) (by decide +kernel)) rfl), (lw_ok_in (List.mem_of_getElem? (i := 1476) (by decide +kernel)) rfl)⟩
theorem cd_write (A : aM) (t n v : Int) : (spWrite A t n v).1 = 0 ∨ (spWrite A t n v).1 = 1 ∨ (spWrite A t n v).1 = 2 ∨ (spWrite A t n v).1 = 3 := by
  unfold spWrite
  (repeat' split) <;> first | exact Or.inl rfl | exact Or.inr (Or.inl rfl) | exact Or.inr (Or.inr (Or.inl rfl)) | exact Or.inr (Or.inr (Or.inr (rfl)))
theorem hn_write_1 : a_hnd pL_write 7 2 1 := ⟨14, 6, 2, rfl, Or.inl ⟨dL_write_14, rfl⟩, by decide, by decide, dL_write_16, dL_write_17⟩
theorem hn_write_2 : a_hnd pL_write 7 1 2 := ⟨18, 6, 2, rfl, Or.inl ⟨dL_write_18, rfl⟩, by decide, by decide, dL_write_20, dL_write_21⟩
theorem hn_write_3 : a_hnd pL_write 7 3 3 := ⟨22, 6, 2, rfl, Or.inl ⟨dL_write_22, rfl⟩, by decide, by decide, dL_write_24, dL_write_25⟩
theorem h_write {l : Launch} {E : aE} {N : Nat} {S : aS} {M : aM} (hfl : l.stackTraces = false) (t n v : Int) (hv : -9223372036854775808 ≤ v ∧ v ≤ 9223372036854775807) (A : aM) (hW : LWI N S M A) : aMtH l E pL_write [(2, 0), (0, t), (0, n), (1, v), (2, 139)] N S M (hQ M N S (spWrite A t n v)) := by
  obtain ⟨hN, hC, hS9, hO, hR, hRM, hI⟩ := hW
  refine a_metH hfl (by decide +kernel) (Nat.le_of_ble_eq_true rfl) ?_
  refine x_aload (pc := 0) dL_write_0 rfl ?_
  refine x_iconst (pc := 2) dL_write_2 (by decide) ?_
  refine x_aload_n (pc := 3) dL_write_3 rfl rfl ?_
  refine x_iload_n (pc := 4) dL_write_4 rfl rfl ?_
  refine x_iload_n (pc := 5) dL_write_5 rfl rfl ?_
  refine x_lload_n (pc := 6) dL_write_6 rfl rfl ?_
  have hnd : ∀ w0 : (spWrite A t n v).1 ≠ 0, a_hnd pL_write 7 ((fun k => if k = 1 then 2 else if k = 2 then 1 else 3) ((spWrite A t n v).1)) (spWrite A t n v).1 := fun hz => by
    rcases cd_write A t n v with w | w | w | w
    · exact absurd w hz
    · rw [w]; exact hn_write_1
    · rw [w]; exact hn_write_2
    · rw [w]; exact hn_write_3
  refine x_callV3C (pc := 7) dL_write_7 rfl rfl rfl kL_116 (s_Cwrite hfl t n v hv hC A hR hI.1 hI.2.2.2.2.1) (sC_0 hC) rfl rfl (Nat.le_of_ble_eq_true rfl) (k_op (fun M9 hz hf hR9 => ?_)) (n_op (fun M9 hz hf hR9 => ⟨hnd hz, rfl, rfl, fun a i p q => hf a i p (by omega), hR9, fun q => absurd q hz, rfl⟩))
  refine x_lastore (pc := 10) dL_write_10 hO (by omega) ?_
  refine x_goto (tgt := 26) (pc := 11) dL_write_11 (by decide) ?_
  refine x_iconst (pc := 26) dL_write_26 (by decide) ?_
  refine x_ireturn (pc := 27) dL_write_27 rfl (by decide) ?_
  exact ⟨rfl, rfl, fun a i p q => (up_a (by omega)).trans (hf a i p (by omega)), hR9.out, fun _ => up_s, by rw [hz]⟩
abbrev pL_take : aP := (yL_take, cL_take, 5, (some .int), { frames := 12, cells := 5, slots := 30, locals := 200 }, [(0, 10, 13, 19), (0, 10, 17, 75), (0, 10, 21, 13)])
theorem dL_take_0 : decode cL_take 0 = .ok (.aload_n 3, 1) := by decide +kernel
theorem dL_take_1 : decode cL_take 1 = .ok (.iconst 0, 1) := by decide +kernel
theorem dL_take_2 : decode cL_take 2 = .ok (.aload_n 0, 1) := by decide +kernel
theorem dL_take_3 : decode cL_take 3 = .ok (.iload_n 1, 1) := by decide +kernel
theorem dL_take_4 : decode cL_take 4 = .ok (.iload_n 2, 1) := by decide +kernel
theorem dL_take_5 : decode cL_take 5 = .ok (.invokevirtual 122, 3) := by decide +kernel
theorem dL_take_8 : decode cL_take 8 = .ok (.i2l, 1) := by decide +kernel
theorem dL_take_9 : decode cL_take 9 = .ok (.lastore, 1) := by decide +kernel
theorem dL_take_10 : decode cL_take 10 = .ok (.goto 15, 3) := by decide +kernel
theorem dL_take_13 : decode cL_take 13 = .ok (.astore 4, 2) := by decide +kernel
theorem dL_take_15 : decode cL_take 15 = .ok (.iconst 1, 1) := by decide +kernel
theorem dL_take_16 : decode cL_take 16 = .ok (.ireturn, 1) := by decide +kernel
theorem dL_take_17 : decode cL_take 17 = .ok (.astore 4, 2) := by decide +kernel
theorem dL_take_19 : decode cL_take 19 = .ok (.iconst 2, 1) := by decide +kernel
theorem dL_take_20 : decode cL_take 20 = .ok (.ireturn, 1) := by decide +kernel
theorem dL_take_21 : decode cL_take 21 = .ok (.astore 4, 2) := by decide +kernel
theorem dL_take_23 : decode cL_take 23 = .ok (.iconst 3, 1) := by decide +kernel
theorem dL_take_24 : decode cL_take 24 = .ok (.ireturn, 1) := by decide +kernel
theorem dL_take_25 : decode cL_take 25 = .ok (.iconst 0, 1) := by decide +kernel
theorem dL_take_26 : decode cL_take 26 = .ok (.ireturn, 1) := by decide +kernel
theorem kL_122 : a_kV RL 122 pX11_take 2 := ⟨cbX11_take, (lw_ok_in (List.mem_of_getElem? (i := 1504) (by decide +kernel)) rfl), (lw_ok_in (List.mem_of_getElem? (i := 1505) (by decide +kernel)) rfl), (lw_ok_in (List.mem_of_getElem? (i := 1506) (by decide +kernel)) rfl)⟩
theorem cd_take (A : aM) (t h : Int) : (spTake A t h).1 = 0 ∨ (spTake A t h).1 = 1 ∨ (spTake A t h).1 = 2 ∨ (spTake A t h).1 = 3 := by
  unfold spTake
  (repeat' split) <;> first | exact Or.inl rfl | exact Or.inr (Or.inl rfl) | exact Or.inr (Or.inr (Or.inl rfl)) | exact Or.inr (Or.inr (Or.inr (rfl)))
theorem hn_take_1 : a_hnd pL_take 5 2 1 := ⟨13, 4, 2, rfl, Or.inl ⟨dL_take_13, rfl⟩, by decide, by decide, dL_take_15, dL_take_16⟩
theorem hn_take_2 : a_hnd pL_take 5 1 2 := ⟨17, 4, 2, rfl, Or.inl ⟨dL_take_17, rfl⟩, by decide, by decide, dL_take_19, dL_take_20⟩
theorem hn_take_3 : a_hnd pL_take 5 0 3 := ⟨21, 4, 2, rfl, Or.inl ⟨dL_take_21, rfl⟩, by decide, by decide, dL_take_23, dL_take_24⟩
theorem h_take {l : Launch} {E : aE} {N : Nat} {S : aS} {M : aM} (hfl : l.stackTraces = false) (t h : Int)  (A : aM) (hW : LWI N S M A) : aMtH l E pL_take [(2, 0), (0, t), (0, h), (2, 139)] N S M (hQ M N S (spTake A t h)) := by
  obtain ⟨hN, hC, hS9, hO, hR, hRM, hI⟩ := hW
  refine a_metH hfl (by decide +kernel) (Nat.le_of_ble_eq_true rfl) ?_
  refine x_aload_n (pc := 0) dL_take_0 rfl rfl ?_
  refine x_iconst (pc := 1) dL_take_1 (by decide) ?_
  refine x_aload_n (pc := 2) dL_take_2 rfl rfl ?_
  refine x_iload_n (pc := 3) dL_take_3 rfl rfl ?_
  refine x_iload_n (pc := 4) dL_take_4 rfl rfl ?_
  have hnd : ∀ w0 : (spTake A t h).1 ≠ 0, a_hnd pL_take 5 ((fun k => if k = 1 then 2 else if k = 2 then 1 else 0) ((spTake A t h).1)) (spTake A t h).1 := fun hz => by
    rcases cd_take A t h with w | w | w | w
    · exact absurd w hz
    · rw [w]; exact hn_take_1
    · rw [w]; exact hn_take_2
    · rw [w]; exact hn_take_3
  refine x_callV2C (pc := 5) dL_take_5 rfl rfl rfl kL_122 (s_Ctake hfl t h hC A hR hI.1 hI.2.2.2.2.1) (sC_0 hC) rfl rfl (Nat.le_of_ble_eq_true rfl) (k_op (fun M9 hz hf hR9 => ?_)) (n_op (fun M9 hz hf hR9 => ⟨hnd hz, rfl, rfl, fun a i p q => hf a i p (by omega), hR9, fun q => absurd q hz, rfl⟩))
  refine x_i2l (pc := 8) dL_take_8 ?_
  refine x_lastore (pc := 9) dL_take_9 hO (by omega) ?_
  refine x_goto (tgt := 25) (pc := 10) dL_take_10 (by decide) ?_
  refine x_iconst (pc := 25) dL_take_25 (by decide) ?_
  refine x_ireturn (pc := 26) dL_take_26 rfl (by decide) ?_
  exact ⟨rfl, rfl, fun a i p q => (up_a (by omega)).trans (hf a i p (by omega)), hR9.out, fun _ => up_s, by rw [hz]⟩
abbrev pL_image : aP := (yL_image, cL_image, 3, (some .int), { frames := 11, cells := 16, slots := 189, locals := 173 }, [(0, 5, 8, 19)])
theorem dL_image_0 : decode cL_image 0 = .ok (.aload_n 0, 1) := by decide +kernel
theorem dL_image_1 : decode cL_image 1 = .ok (.iload_n 1, 1) := by decide +kernel
theorem dL_image_2 : decode cL_image 2 = .ok (.invokevirtual 125, 3) := by decide +kernel
theorem dL_image_5 : decode cL_image 5 = .ok (.goto 6, 3) := by decide +kernel
theorem dL_image_8 : decode cL_image 8 = .ok (.astore_n 2, 1) := by decide +kernel
theorem dL_image_9 : decode cL_image 9 = .ok (.iconst 1, 1) := by decide +kernel
theorem dL_image_10 : decode cL_image 10 = .ok (.ireturn, 1) := by decide +kernel
theorem dL_image_11 : decode cL_image 11 = .ok (.iconst 0, 1) := by decide +kernel
theorem dL_image_12 : decode cL_image 12 = .ok (.ireturn, 1) := by decide +kernel
theorem kL_125 : a_kV RL 125 pX11_image 1 := ⟨cbX11_image, (lw_ok_in (List.mem_of_getElem? (i := 1513) (by decide +kernel)) rfl), (lw_ok_in (List.mem_of_getElem? (i := 1514) (by decide +kernel)) rfl), (lw_ok_in (List.mem_of_getElem? (i := 1515) (by decide +kernel)) rfl)⟩
theorem cd_image (A : aM) (i : Int) : (spImage A i).1 = 0 ∨ (spImage A i).1 = 1 := by
  unfold spImage
  (repeat' split) <;> first | exact Or.inl rfl | exact Or.inr (rfl)
theorem hn_image_1 : a_hnd pL_image 2 2 1 := ⟨8, 2, 1, rfl, Or.inr ⟨2, dL_image_8, rfl, rfl⟩, by decide, by decide, dL_image_9, dL_image_10⟩
theorem h_image {l : Launch} {E : aE} {N : Nat} {S : aS} {M : aM} (hfl : l.stackTraces = false) (i : Int)  (A : aM) (hW : LWI N S M A) (hN9 : N ≤ 2000000000) : aMtH l E pL_image [(2, 0), (0, i)] N S M (hQv M N S (spImage A i)) := by
  obtain ⟨hN, hC, hS9, hO, hR, hRM, hI⟩ := hW
  refine a_metH hfl (by decide +kernel) (Nat.le_of_ble_eq_true rfl) ?_
  refine x_aload_n (pc := 0) dL_image_0 rfl rfl ?_
  refine x_iload_n (pc := 1) dL_image_1 rfl rfl ?_
  have hnd : ∀ w0 : (spImage A i).1 ≠ 0, a_hnd pL_image 2 ((fun k => if k = 1 then 2 else 1) ((spImage A i).1)) (spImage A i).1 := fun hz => by
    rcases cd_image A i with w | w
    · exact absurd w hz
    · rw [w]; exact hn_image_1
  refine x_callV1C (pc := 2) dL_image_2 rfl rfl rfl kL_125 (s_Cimage hfl i hC A hR hI.1 (fun i a b c => (hI.2.2.2.2.2 i a b).elim (fun w => absurd (w.symm.trans c) (by decide)) (fun w => w.2.1)) ⟨hN, hN9⟩) (sC_0 hC) rfl rfl (Nat.le_of_ble_eq_true rfl) (k_opi (fun N9 S9 M9 hz g1 g2 g3 hf hR9 => ?_)) (n_opi (fun N9 S9 M9 hz g1 g2 g3 hf hR9 => ⟨hnd hz, g1, g2, g3, fun a i p q => hf a i p (by omega), hR9, rfl⟩))
  refine x_goto (tgt := 11) (pc := 5) dL_image_5 (by decide) ?_
  refine x_iconst (pc := 11) dL_image_11 (by decide) ?_
  refine x_ireturn (pc := 12) dL_image_12 rfl (by decide) ?_
  exact ⟨g1, g2, g3, fun a i p q => hf a i p (by omega), hR9, by rw [hz]⟩
abbrev pL_restore : aP := (yL_restore, cL_restore, 3, (some .int), { frames := 12, cells := 2, slots := 12, locals := 194 }, [(0, 5, 8, 19), (0, 5, 11, 75)])
theorem dL_restore_0 : decode cL_restore 0 = .ok (.aload_n 0, 1) := by decide +kernel
theorem dL_restore_1 : decode cL_restore 1 = .ok (.iload_n 1, 1) := by decide +kernel
theorem dL_restore_2 : decode cL_restore 2 = .ok (.invokevirtual 129, 3) := by decide +kernel
theorem dL_restore_5 : decode cL_restore 5 = .ok (.goto 9, 3) := by decide +kernel
theorem dL_restore_8 : decode cL_restore 8 = .ok (.astore_n 2, 1) := by decide +kernel
theorem dL_restore_9 : decode cL_restore 9 = .ok (.iconst 1, 1) := by decide +kernel
theorem dL_restore_10 : decode cL_restore 10 = .ok (.ireturn, 1) := by decide +kernel
theorem dL_restore_11 : decode cL_restore 11 = .ok (.astore_n 2, 1) := by decide +kernel
theorem dL_restore_12 : decode cL_restore 12 = .ok (.iconst 2, 1) := by decide +kernel
theorem dL_restore_13 : decode cL_restore 13 = .ok (.ireturn, 1) := by decide +kernel
theorem dL_restore_14 : decode cL_restore 14 = .ok (.iconst 0, 1) := by decide +kernel
theorem dL_restore_15 : decode cL_restore 15 = .ok (.ireturn, 1) := by decide +kernel
theorem kL_129 : a_kV RL 129 pX11_restore 1 := ⟨cbX11_restore, (lw_ok_in (List.mem_of_getElem? (i := 1530) (by decide +kernel)) rfl), (lw_ok_in (List.mem_of_getElem? (i := 1531) (by decide +kernel)) rfl), (lw_ok_in (List.mem_of_getElem? (i := 1532) (by decide +kernel)) rfl)⟩
theorem cd_restore (A : aM) (i : Int) : (spRestore A i).1 = 0 ∨ (spRestore A i).1 = 1 ∨ (spRestore A i).1 = 2 := by
  unfold spRestore
  (repeat' split) <;> first | exact Or.inl rfl | exact Or.inr (Or.inl rfl) | exact Or.inr (Or.inr (rfl))
theorem hn_restore_1 : a_hnd pL_restore 2 2 1 := ⟨8, 2, 1, rfl, Or.inr ⟨2, dL_restore_8, rfl, rfl⟩, by decide, by decide, dL_restore_9, dL_restore_10⟩
theorem hn_restore_2 : a_hnd pL_restore 2 1 2 := ⟨11, 2, 1, rfl, Or.inr ⟨2, dL_restore_11, rfl, rfl⟩, by decide, by decide, dL_restore_12, dL_restore_13⟩
theorem h_restore {l : Launch} {E : aE} {N : Nat} {S : aS} {M : aM} (hfl : l.stackTraces = false) (i : Int)  (A : aM) (hW : LWI N S M A) : aMtH l E pL_restore [(2, 0), (0, i)] N S M (hQv M N S (spRestore A i)) := by
  obtain ⟨hN, hC, hS9, hO, hR, hRM, hI⟩ := hW
  refine a_metH hfl (by decide +kernel) (Nat.le_of_ble_eq_true rfl) ?_
  refine x_aload_n (pc := 0) dL_restore_0 rfl rfl ?_
  refine x_iload_n (pc := 1) dL_restore_1 rfl rfl ?_
  have hnd : ∀ w0 : (spRestore A i).1 ≠ 0, a_hnd pL_restore 2 ((fun k => if k = 1 then 2 else 1) ((spRestore A i).1)) (spRestore A i).1 := fun hz => by
    rcases cd_restore A i with w | w | w
    · exact absurd w hz
    · rw [w]; exact hn_restore_1
    · rw [w]; exact hn_restore_2
  refine x_callV1C (pc := 2) dL_restore_2 rfl rfl rfl kL_129 (s_Crestore hfl i hC A hR hI.1 (fun i a b c => (hI.2.2.2.2.2 i a b).elim (fun w => absurd (w.symm.trans c) (by decide)) (fun w => w.2.1))) (sC_0 hC) rfl rfl (Nat.le_of_ble_eq_true rfl) (k_opv (fun M9 hz hf hR9 => ?_)) (n_opv (fun M9 hz hf hR9 => ⟨hnd hz, Nat.le_refl _, by omega, fun _ _ => rfl, fun a i p q => hf a i p (by omega), hR9, rfl⟩))
  refine x_goto (tgt := 14) (pc := 5) dL_restore_5 (by decide) ?_
  refine x_iconst (pc := 14) dL_restore_14 (by decide) ?_
  refine x_ireturn (pc := 15) dL_restore_15 rfl (by decide) ?_
  exact ⟨Nat.le_refl _, by omega, fun _ _ => rfl, fun a i p q => hf a i p (by omega), hR9, by rw [hz]⟩
