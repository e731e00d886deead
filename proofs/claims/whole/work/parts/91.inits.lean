/-! constructors of rows alone -/
theorem bd_ref {S0 S : aS} {M0 M : aM} {s : Int} {w : Int → Nat × Int × (Int → Int)} {v : aM} {k N : Nat} {n : Int} {F G : Int → Int} (h : Bd S0 M0 s w v k n F G N S M) (j9 u : Int) : Bd S0 M0 s w v k n (fun x => if x = j9 then u else F x) G N (sPut S s j9 u) M := by
  obtain ⟨h1, h2, h3, h4, h5, h6⟩ := h
  exact ⟨sPut_s h1, fun i a b => (sPut_o (by omega)).trans (h2 i a b), fun i a => (sPut_o (by omega)).trans (h3 i a), h4, h5, h6⟩
theorem Bd.F {S0 S : aS} {M0 M : aM} {s : Int} {w : Int → Nat × Int × (Int → Int)} {v : aM} {k N : Nat} {n : Int} {F F' G : Int → Int} (h : Bd S0 M0 s w v k n F G N S M) (e : ∀ j, F j = F' j) : Bd S0 M0 s w v k n F' G N S M := ⟨sh_eq h.1 e, h.2⟩
def wX9i (s i : Int) : Nat × Int × (Int → Int) := if i = s + 1 then (13, 4, rN) else if i = s + 2 then (13, 4, rN) else if i = s + 3 then (14, 160, rN) else (14, 7, rN)
theorem wX9i_1 {s i : Int} (h : i = s + 1) : wX9i s i = (13, 4, rN) := by
  unfold wX9i
  rw [if_pos h]
theorem wX9i_2 {s i : Int} (h : i = s + 2) : wX9i s i = (13, 4, rN) := by
  unfold wX9i
  rw [if_neg (by omega), if_pos h]
theorem wX9i_3 {s i : Int} (h : i = s + 3) : wX9i s i = (14, 160, rN) := by
  unfold wX9i
  rw [if_neg (by omega), if_neg (by omega), if_pos h]
theorem wX9i_4 {s i : Int} (h : i = s + 4) : wX9i s i = (14, 7, rN) := by
  unfold wX9i
  rw [if_neg (by omega), if_neg (by omega), if_neg (by omega)]
def fX9i (s : Int) : Int → Int := fun j => if j = 0 then s + 1 else if j = 1 then s + 2 else if j = 2 then s + 3 else if j = 3 then s + 4 else -1
theorem dX9_init_0 : decode cX9_init 0 = .ok (.aload_n 0, 1) := by decide +kernel
theorem dX9_init_1 : decode cX9_init 1 = .ok (.invokespecial 3, 3) := by decide +kernel
theorem dX9_init_4 : decode cX9_init 4 = .ok (.aload_n 0, 1) := by decide +kernel
theorem dX9_init_5 : decode cX9_init 5 = .ok (.iconst 4, 1) := by decide +kernel
theorem dX9_init_6 : decode cX9_init 6 = .ok (.newarray .int, 2) := by decide +kernel
theorem dX9_init_8 : decode cX9_init 8 = .ok (.putfield 9, 3) := by decide +kernel
theorem dX9_init_11 : decode cX9_init 11 = .ok (.aload_n 0, 1) := by decide +kernel
theorem dX9_init_12 : decode cX9_init 12 = .ok (.iconst 4, 1) := by decide +kernel
theorem dX9_init_13 : decode cX9_init 13 = .ok (.newarray .int, 2) := by decide +kernel
theorem dX9_init_15 : decode cX9_init 15 = .ok (.putfield 15, 3) := by decide +kernel
theorem dX9_init_18 : decode cX9_init 18 = .ok (.aload_n 0, 1) := by decide +kernel
theorem dX9_init_19 : decode cX9_init 19 = .ok (.sipush 160, 3) := by decide +kernel
theorem dX9_init_22 : decode cX9_init 22 = .ok (.newarray .long, 2) := by decide +kernel
theorem dX9_init_24 : decode cX9_init 24 = .ok (.putfield 18, 3) := by decide +kernel
theorem dX9_init_27 : decode cX9_init 27 = .ok (.aload_n 0, 1) := by decide +kernel
theorem dX9_init_28 : decode cX9_init 28 = .ok (.bipush 7, 2) := by decide +kernel
theorem dX9_init_30 : decode cX9_init 30 = .ok (.newarray .long, 2) := by decide +kernel
theorem dX9_init_32 : decode cX9_init 32 = .ok (.putfield 22, 3) := by decide +kernel
theorem dX9_init_35 : decode cX9_init 35 = .ok (.aload_n 0, 1) := by decide +kernel
theorem dX9_init_36 : decode cX9_init 36 = .ok (.getfield 9, 3) := by decide +kernel
theorem dX9_init_39 : decode cX9_init 39 = .ok (.iconst (-1), 1) := by decide +kernel
theorem dX9_init_40 : decode cX9_init 40 = .ok (.invokestatic 25, 3) := by decide +kernel
theorem dX9_init_43 : decode cX9_init 43 = .ok (.return_, 1) := by decide +kernel
theorem s_X9init {l : Launch} {E : aE} {N : Nat} {S : aS} {M : aM} (hfl : l.stackTraces = false) (s : Int) (h0 : 0 ≤ s) (hN : (N : Int) = s + 1) (hS : S s = (9, 4, fun _ => -1)) : aMt l E pX9_init [(2, s)] N S M (aC (fun N' S' M' => N' = N + 4 ∧ Bd S M s (wX9i s) (fun i j => if i = s + 1 ∧ 0 ≤ j ∧ j < 4 then -1 else 0) 9 4 (fX9i s) (M s) N' S' M')) := by
  refine a_met hfl rfl (by decide +kernel) (Nat.le_of_ble_eq_true rfl) ?_
  have hB := Bd.rf (w := wX9i s) (v := fun _ _ => 0) (M := M) hS hN
  refine x_aload_n (pc := 0) dX9_init_0 rfl rfl ?_
  refine x_objInit (pc := 1) dX9_init_1 obX9_3 (by omega) (by decide) (Nat.le_of_ble_eq_true rfl) ?_
  refine x_aload_n (pc := 4) dX9_init_4 rfl rfl ?_
  refine x_iconst (pc := 5) dX9_init_5 (by decide) ?_
  refine x_newI (pc := 6) dX9_init_6 ac_int (by decide) (by decide) ?_
  refine x_putR (j := 0) (pc := 8) dX9_init_8 fX9_9 (by first | exact hB.1 | exact (sAdd_o (by omega)).trans hB.1) (by decide) rfl (by omega) (fun _ => rfl) (fun _ => rfl) (Or.inr ⟨rfl, own_9⟩) ?_
  refine x_bd (bd_arr hB 0 (by omega) (wX9i_1 (by omega)) (fun _ => rfl)) (fun S0 M0 hB => ?_)
  refine x_aload_n (pc := 11) dX9_init_11 rfl rfl ?_
  refine x_iconst (pc := 12) dX9_init_12 (by decide) ?_
  refine x_newI (pc := 13) dX9_init_13 ac_int (by decide) (by decide) ?_
  refine x_putR (j := 1) (pc := 15) dX9_init_15 fX9_15 (by first | exact hB.1 | exact (sAdd_o (by omega)).trans hB.1) (by decide) rfl (by omega) (fun _ => rfl) (fun _ => rfl) (Or.inr ⟨rfl, own_9⟩) ?_
  refine x_bd (bd_arr hB 1 (by omega) (wX9i_2 (by omega)) (fun _ => rfl)) (fun S1 M1 hB => ?_)
  refine x_aload_n (pc := 18) dX9_init_18 rfl rfl ?_
  refine x_sipush (pc := 19) dX9_init_19 (by decide) ?_
  refine x_newJ (pc := 22) dX9_init_22 ac_long (by decide) (by decide) ?_
  refine x_putR (j := 2) (pc := 24) dX9_init_24 fX9_18 (by first | exact hB.1 | exact (sAdd_o (by omega)).trans hB.1) (by decide) rfl (by omega) (fun _ => rfl) (fun _ => rfl) (Or.inr ⟨rfl, own_9⟩) ?_
  refine x_bd (bd_arr hB 2 (by omega) (wX9i_3 (by omega)) (fun _ => rfl)) (fun S2 M2 hB => ?_)
  refine x_aload_n (pc := 27) dX9_init_27 rfl rfl ?_
  refine x_bipush (pc := 28) dX9_init_28 (by decide) ?_
  refine x_newJ (pc := 30) dX9_init_30 ac_long (by decide) (by decide) ?_
  refine x_putR (j := 3) (pc := 32) dX9_init_32 fX9_22 (by first | exact hB.1 | exact (sAdd_o (by omega)).trans hB.1) (by decide) rfl (by omega) (fun _ => rfl) (fun _ => rfl) (Or.inr ⟨rfl, own_9⟩) ?_
  refine x_bd (bd_arr hB 3 (by omega) (wX9i_4 (by omega)) (fun _ => rfl)) (fun S3 M3 hB => ?_)
  refine x_bd (Bd.F hB (F' := (fX9i s)) (fun j => by unfold fX9i; (repeat' split) <;> omega)) (fun S20 M20 hB => ?_)
  have hg : (fX9i s) 0 = s + 1 := rfl
  refine x_aload_n (pc := 35) dX9_init_35 rfl rfl ?_
  refine x_getR (jj := 0) (pc := 36) dX9_init_36 fX9_9 (by first | exact hB.1 | exact (sAdd_o (by omega)).trans hB.1) rfl (by decide) rfl (by first | assumption | rfl) ?_
  refine x_iconst (pc := 39) dX9_init_39 (by decide) ?_
  refine x_callS2 (pc := 40) dX9_init_40 rfl kX9_25 (s_fill hfl (s + 1) (-1) 4 rN ((hB.2.1 _ (by omega) (by omega)).trans (wX9i_1 (by omega))) (by omega)) rfl (Nat.le_of_ble_eq_true rfl) (k_U (fun M21 hM21 => ?_)) n_U
  refine x_return (pc := 43) dX9_init_43 rfl (by decide) ?_
  refine ⟨rfl, rfl, hB.1, hB.2.1, hB.2.2.1, fun i j a => ?_, fun i j a b => ?_, fun j => ?_⟩
  · rw [hM21, flM_a (by omega)]; exact hB.2.2.2.1 i j a
  · rw [hM21]
    by_cases e : i = s + 1 ∧ 0 ≤ j ∧ j < 4
    · refine Eq.trans ?_ (if_pos e).symm
      rw [e.1, flM_s e.2]
    · refine Eq.trans ?_ (if_neg e).symm
      exact (if_neg e).trans (hB.2.2.2.2.1 i j a b)
  · rw [hM21, flM_a (by omega)]; exact hB.2.2.2.2.2 j
def wX4i (s i : Int) : Nat × Int × (Int → Int) := if i = s + 1 then (13, 201, rN) else if i = s + 2 then (13, 201, rN) else if i = s + 3 then (13, 201, rN) else (13, 201, rN)
theorem wX4i_1 {s i : Int} (h : i = s + 1) : wX4i s i = (13, 201, rN) := by
  unfold wX4i
  rw [if_pos h]
theorem wX4i_2 {s i : Int} (h : i = s + 2) : wX4i s i = (13, 201, rN) := by
  unfold wX4i
  rw [if_neg (by omega), if_pos h]
theorem wX4i_3 {s i : Int} (h : i = s + 3) : wX4i s i = (13, 201, rN) := by
  unfold wX4i
  rw [if_neg (by omega), if_neg (by omega), if_pos h]
theorem wX4i_4 {s i : Int} (h : i = s + 4) : wX4i s i = (13, 201, rN) := by
  unfold wX4i
  rw [if_neg (by omega), if_neg (by omega), if_neg (by omega)]
def fX4i (s u : Int) : Int → Int := fun j => if j = 0 then u else if j = 1 then s + 1 else if j = 2 then s + 2 else if j = 3 then s + 3 else if j = 4 then s + 4 else -1
theorem dX4_init_0 : decode cX4_init 0 = .ok (.aload_n 0, 1) := by decide +kernel
theorem dX4_init_1 : decode cX4_init 1 = .ok (.invokespecial 3, 3) := by decide +kernel
theorem dX4_init_4 : decode cX4_init 4 = .ok (.aload_n 0, 1) := by decide +kernel
theorem dX4_init_5 : decode cX4_init 5 = .ok (.sipush 201, 3) := by decide +kernel
theorem dX4_init_8 : decode cX4_init 8 = .ok (.newarray .int, 2) := by decide +kernel
theorem dX4_init_10 : decode cX4_init 10 = .ok (.putfield 9, 3) := by decide +kernel
theorem dX4_init_13 : decode cX4_init 13 = .ok (.aload_n 0, 1) := by decide +kernel
theorem dX4_init_14 : decode cX4_init 14 = .ok (.sipush 201, 3) := by decide +kernel
theorem dX4_init_17 : decode cX4_init 17 = .ok (.newarray .int, 2) := by decide +kernel
theorem dX4_init_19 : decode cX4_init 19 = .ok (.putfield 15, 3) := by decide +kernel
theorem dX4_init_22 : decode cX4_init 22 = .ok (.aload_n 0, 1) := by decide +kernel
theorem dX4_init_23 : decode cX4_init 23 = .ok (.sipush 201, 3) := by decide +kernel
theorem dX4_init_26 : decode cX4_init 26 = .ok (.newarray .int, 2) := by decide +kernel
theorem dX4_init_28 : decode cX4_init 28 = .ok (.putfield 18, 3) := by decide +kernel
theorem dX4_init_31 : decode cX4_init 31 = .ok (.aload_n 0, 1) := by decide +kernel
theorem dX4_init_32 : decode cX4_init 32 = .ok (.sipush 201, 3) := by decide +kernel
theorem dX4_init_35 : decode cX4_init 35 = .ok (.newarray .int, 2) := by decide +kernel
theorem dX4_init_37 : decode cX4_init 37 = .ok (.putfield 21, 3) := by decide +kernel
theorem dX4_init_40 : decode cX4_init 40 = .ok (.aload_n 0, 1) := by decide +kernel
theorem dX4_init_41 : decode cX4_init 41 = .ok (.aload_n 1, 1) := by decide +kernel
theorem dX4_init_42 : decode cX4_init 42 = .ok (.putfield 24, 3) := by decide +kernel
theorem dX4_init_45 : decode cX4_init 45 = .ok (.return_, 1) := by decide +kernel
theorem s_X4init {l : Launch} {E : aE} {N : Nat} {S : aS} {M : aM} (hfl : l.stackTraces = false) (s u : Int) (h0 : 0 ≤ s) (hN : (N : Int) = s + 1) (hS : S s = (4, 6, fun _ => -1)) (hu : 0 ≤ u ∧ u < s) : aMt l E pX4_init [(2, s), (2, u)] N S M (aC (fun N' S' M' => N' = N + 4 ∧ Bd S M s (wX4i s) (fun _ _ => 0) 4 6 (fX4i s u) (M s) N' S' M')) := by
  refine a_met hfl rfl (by decide +kernel) (Nat.le_of_ble_eq_true rfl) ?_
  have hB := Bd.rf (w := wX4i s) (v := fun _ _ => 0) (M := M) hS hN
  refine x_aload_n (pc := 0) dX4_init_0 rfl rfl ?_
  refine x_objInit (pc := 1) dX4_init_1 obX4_3 (by omega) (by decide) (Nat.le_of_ble_eq_true rfl) ?_
  refine x_aload_n (pc := 4) dX4_init_4 rfl rfl ?_
  refine x_sipush (pc := 5) dX4_init_5 (by decide) ?_
  refine x_newI (pc := 8) dX4_init_8 ac_int (by decide) (by decide) ?_
  refine x_putR (j := 1) (pc := 10) dX4_init_10 fX4_9 (by first | exact hB.1 | exact (sAdd_o (by omega)).trans hB.1) (by decide) rfl (by omega) (fun _ => rfl) (fun _ => rfl) (Or.inr ⟨rfl, own_4⟩) ?_
  refine x_bd (bd_arr hB 1 (by omega) (wX4i_1 (by omega)) (fun _ => rfl)) (fun S0 M0 hB => ?_)
  refine x_aload_n (pc := 13) dX4_init_13 rfl rfl ?_
  refine x_sipush (pc := 14) dX4_init_14 (by decide) ?_
  refine x_newI (pc := 17) dX4_init_17 ac_int (by decide) (by decide) ?_
  refine x_putR (j := 2) (pc := 19) dX4_init_19 fX4_15 (by first | exact hB.1 | exact (sAdd_o (by omega)).trans hB.1) (by decide) rfl (by omega) (fun _ => rfl) (fun _ => rfl) (Or.inr ⟨rfl, own_4⟩) ?_
  refine x_bd (bd_arr hB 2 (by omega) (wX4i_2 (by omega)) (fun _ => rfl)) (fun S1 M1 hB => ?_)
  refine x_aload_n (pc := 22) dX4_init_22 rfl rfl ?_
  refine x_sipush (pc := 23) dX4_init_23 (by decide) ?_
  refine x_newI (pc := 26) dX4_init_26 ac_int (by decide) (by decide) ?_
  refine x_putR (j := 3) (pc := 28) dX4_init_28 fX4_18 (by first | exact hB.1 | exact (sAdd_o (by omega)).trans hB.1) (by decide) rfl (by omega) (fun _ => rfl) (fun _ => rfl) (Or.inr ⟨rfl, own_4⟩) ?_
  refine x_bd (bd_arr hB 3 (by omega) (wX4i_3 (by omega)) (fun _ => rfl)) (fun S2 M2 hB => ?_)
  refine x_aload_n (pc := 31) dX4_init_31 rfl rfl ?_
  refine x_sipush (pc := 32) dX4_init_32 (by decide) ?_
  refine x_newI (pc := 35) dX4_init_35 ac_int (by decide) (by decide) ?_
  refine x_putR (j := 4) (pc := 37) dX4_init_37 fX4_21 (by first | exact hB.1 | exact (sAdd_o (by omega)).trans hB.1) (by decide) rfl (by omega) (fun _ => rfl) (fun _ => rfl) (Or.inr ⟨rfl, own_4⟩) ?_
  refine x_bd (bd_arr hB 4 (by omega) (wX4i_4 (by omega)) (fun _ => rfl)) (fun S3 M3 hB => ?_)
  refine x_aload_n (pc := 40) dX4_init_40 rfl rfl ?_
  refine x_aload_n (pc := 41) dX4_init_41 rfl rfl ?_
  refine x_putR (j := 0) (pc := 42) dX4_init_42 fX4_24 (by first | exact hB.1 | exact (sAdd_o (by omega)).trans hB.1) (by decide) rfl (by omega) (fun _ => rfl) (fun _ => rfl) (Or.inr ⟨rfl, own_4⟩) ?_
  refine x_bd (bd_ref hB 0 (u)) (fun S10 M10 hB => ?_)
  refine x_return (pc := 45) dX4_init_45 rfl (by decide) ?_
  exact ⟨rfl, rfl, (Bd.F hB (F' := (fX4i s u)) (fun j => by unfold fX4i; (repeat' split) <;> omega))⟩
def wX3i (s i : Int) : Nat × Int × (Int → Int) := if i = s + 1 then (13, 128, rN) else if i = s + 2 then (13, 399, rN) else (13, 114, rN)
theorem wX3i_1 {s i : Int} (h : i = s + 1) : wX3i s i = (13, 128, rN) := by
  unfold wX3i
  rw [if_pos h]
theorem wX3i_2 {s i : Int} (h : i = s + 2) : wX3i s i = (13, 399, rN) := by
  unfold wX3i
  rw [if_neg (by omega), if_pos h]
theorem wX3i_3 {s i : Int} (h : i = s + 3) : wX3i s i = (13, 114, rN) := by
  unfold wX3i
  rw [if_neg (by omega), if_neg (by omega)]
def fX3i (s t u q : Int) : Int → Int := fun j => if j = 0 then t else if j = 1 then u else if j = 2 then q else if j = 3 then s + 1 else if j = 4 then s + 2 else if j = 5 then s + 3 else -1
theorem dX3_init_0 : decode cX3_init 0 = .ok (.aload_n 0, 1) := by decide +kernel
theorem dX3_init_1 : decode cX3_init 1 = .ok (.invokespecial 3, 3) := by decide +kernel
theorem dX3_init_4 : decode cX3_init 4 = .ok (.aload_n 0, 1) := by decide +kernel
theorem dX3_init_5 : decode cX3_init 5 = .ok (.sipush 128, 3) := by decide +kernel
theorem dX3_init_8 : decode cX3_init 8 = .ok (.newarray .int, 2) := by decide +kernel
theorem dX3_init_10 : decode cX3_init 10 = .ok (.putfield 9, 3) := by decide +kernel
theorem dX3_init_13 : decode cX3_init 13 = .ok (.aload_n 0, 1) := by decide +kernel
theorem dX3_init_14 : decode cX3_init 14 = .ok (.sipush 399, 3) := by decide +kernel
theorem dX3_init_17 : decode cX3_init 17 = .ok (.newarray .int, 2) := by decide +kernel
theorem dX3_init_19 : decode cX3_init 19 = .ok (.putfield 15, 3) := by decide +kernel
theorem dX3_init_22 : decode cX3_init 22 = .ok (.aload_n 0, 1) := by decide +kernel
theorem dX3_init_23 : decode cX3_init 23 = .ok (.bipush 114, 2) := by decide +kernel
theorem dX3_init_25 : decode cX3_init 25 = .ok (.newarray .int, 2) := by decide +kernel
theorem dX3_init_27 : decode cX3_init 27 = .ok (.putfield 18, 3) := by decide +kernel
theorem dX3_init_30 : decode cX3_init 30 = .ok (.aload_n 0, 1) := by decide +kernel
theorem dX3_init_31 : decode cX3_init 31 = .ok (.aload_n 1, 1) := by decide +kernel
theorem dX3_init_32 : decode cX3_init 32 = .ok (.putfield 21, 3) := by decide +kernel
theorem dX3_init_35 : decode cX3_init 35 = .ok (.aload_n 0, 1) := by decide +kernel
theorem dX3_init_36 : decode cX3_init 36 = .ok (.aload_n 2, 1) := by decide +kernel
theorem dX3_init_37 : decode cX3_init 37 = .ok (.putfield 25, 3) := by decide +kernel
theorem dX3_init_40 : decode cX3_init 40 = .ok (.aload_n 0, 1) := by decide +kernel
theorem dX3_init_41 : decode cX3_init 41 = .ok (.aload_n 3, 1) := by decide +kernel
theorem dX3_init_42 : decode cX3_init 42 = .ok (.putfield 29, 3) := by decide +kernel
theorem dX3_init_45 : decode cX3_init 45 = .ok (.aload_n 0, 1) := by decide +kernel
theorem dX3_init_46 : decode cX3_init 46 = .ok (.getfield 9, 3) := by decide +kernel
theorem dX3_init_49 : decode cX3_init 49 = .ok (.iconst (-1), 1) := by decide +kernel
theorem dX3_init_50 : decode cX3_init 50 = .ok (.invokestatic 33, 3) := by decide +kernel
theorem dX3_init_53 : decode cX3_init 53 = .ok (.return_, 1) := by decide +kernel
theorem s_X3init {l : Launch} {E : aE} {N : Nat} {S : aS} {M : aM} (hfl : l.stackTraces = false) (s t u q : Int) (h0 : 0 ≤ s) (hN : (N : Int) = s + 1) (hS : S s = (3, 6, fun _ => -1)) (ht : 0 ≤ t ∧ t < s) (hu : 0 ≤ u ∧ u < s) (hq : 0 ≤ q ∧ q < s) : aMt l E pX3_init [(2, s), (2, t), (2, u), (2, q)] N S M (aC (fun N' S' M' => N' = N + 3 ∧ Bd S M s (wX3i s) (fun i j => if i = s + 1 ∧ 0 ≤ j ∧ j < 128 then -1 else 0) 3 6 (fX3i s t u q) (M s) N' S' M')) := by
  refine a_met hfl rfl (by decide +kernel) (Nat.le_of_ble_eq_true rfl) ?_
  have hB := Bd.rf (w := wX3i s) (v := fun _ _ => 0) (M := M) hS hN
  refine x_aload_n (pc := 0) dX3_init_0 rfl rfl ?_
  refine x_objInit (pc := 1) dX3_init_1 obX3_3 (by omega) (by decide) (Nat.le_of_ble_eq_true rfl) ?_
  refine x_aload_n (pc := 4) dX3_init_4 rfl rfl ?_
  refine x_sipush (pc := 5) dX3_init_5 (by decide) ?_
  refine x_newI (pc := 8) dX3_init_8 ac_int (by decide) (by decide) ?_
  refine x_putR (j := 3) (pc := 10) dX3_init_10 fX3_9 (by first | exact hB.1 | exact (sAdd_o (by omega)).trans hB.1) (by decide) rfl (by omega) (fun _ => rfl) (fun _ => rfl) (Or.inr ⟨rfl, own_3⟩) ?_
  refine x_bd (bd_arr hB 3 (by omega) (wX3i_1 (by omega)) (fun _ => rfl)) (fun S0 M0 hB => ?_)
  refine x_aload_n (pc := 13) dX3_init_13 rfl rfl ?_
  refine x_sipush (pc := 14) dX3_init_14 (by decide) ?_
  refine x_newI (pc := 17) dX3_init_17 ac_int (by decide) (by decide) ?_
  refine x_putR (j := 4) (pc := 19) dX3_init_19 fX3_15 (by first | exact hB.1 | exact (sAdd_o (by omega)).trans hB.1) (by decide) rfl (by omega) (fun _ => rfl) (fun _ => rfl) (Or.inr ⟨rfl, own_3⟩) ?_
  refine x_bd (bd_arr hB 4 (by omega) (wX3i_2 (by omega)) (fun _ => rfl)) (fun S1 M1 hB => ?_)
  refine x_aload_n (pc := 22) dX3_init_22 rfl rfl ?_
  refine x_bipush (pc := 23) dX3_init_23 (by decide) ?_
  refine x_newI (pc := 25) dX3_init_25 ac_int (by decide) (by decide) ?_
  refine x_putR (j := 5) (pc := 27) dX3_init_27 fX3_18 (by first | exact hB.1 | exact (sAdd_o (by omega)).trans hB.1) (by decide) rfl (by omega) (fun _ => rfl) (fun _ => rfl) (Or.inr ⟨rfl, own_3⟩) ?_
  refine x_bd (bd_arr hB 5 (by omega) (wX3i_3 (by omega)) (fun _ => rfl)) (fun S2 M2 hB => ?_)
  refine x_aload_n (pc := 30) dX3_init_30 rfl rfl ?_
  refine x_aload_n (pc := 31) dX3_init_31 rfl rfl ?_
  refine x_putR (j := 0) (pc := 32) dX3_init_32 fX3_21 (by first | exact hB.1 | exact (sAdd_o (by omega)).trans hB.1) (by decide) rfl (by omega) (fun _ => rfl) (fun _ => rfl) (Or.inr ⟨rfl, own_3⟩) ?_
  refine x_bd (bd_ref hB 0 (t)) (fun S10 M10 hB => ?_)
  refine x_aload_n (pc := 35) dX3_init_35 rfl rfl ?_
  refine x_aload_n (pc := 36) dX3_init_36 rfl rfl ?_
  refine x_putR (j := 1) (pc := 37) dX3_init_37 fX3_25 (by first | exact hB.1 | exact (sAdd_o (by omega)).trans hB.1) (by decide) rfl (by omega) (fun _ => rfl) (fun _ => rfl) (Or.inr ⟨rfl, own_3⟩) ?_
  refine x_bd (bd_ref hB 1 (u)) (fun S11 M11 hB => ?_)
  refine x_aload_n (pc := 40) dX3_init_40 rfl rfl ?_
  refine x_aload_n (pc := 41) dX3_init_41 rfl rfl ?_
  refine x_putR (j := 2) (pc := 42) dX3_init_42 fX3_29 (by first | exact hB.1 | exact (sAdd_o (by omega)).trans hB.1) (by decide) rfl (by omega) (fun _ => rfl) (fun _ => rfl) (Or.inr ⟨rfl, own_3⟩) ?_
  refine x_bd (bd_ref hB 2 (q)) (fun S12 M12 hB => ?_)
  refine x_bd (Bd.F hB (F' := (fX3i s t u q)) (fun j => by unfold fX3i; (repeat' split) <;> omega)) (fun S20 M20 hB => ?_)
  have hg : (fX3i s t u q) 3 = s + 1 := rfl
  refine x_aload_n (pc := 45) dX3_init_45 rfl rfl ?_
  refine x_getR (jj := 3) (pc := 46) dX3_init_46 fX3_9 (by first | exact hB.1 | exact (sAdd_o (by omega)).trans hB.1) rfl (by decide) rfl (by first | assumption | rfl) ?_
  refine x_iconst (pc := 49) dX3_init_49 (by decide) ?_
  refine x_callS2 (pc := 50) dX3_init_50 rfl kX3_33 (s_fill hfl (s + 1) (-1) 128 rN ((hB.2.1 _ (by omega) (by omega)).trans (wX3i_1 (by omega))) (by omega)) rfl (Nat.le_of_ble_eq_true rfl) (k_U (fun M21 hM21 => ?_)) n_U
  refine x_return (pc := 53) dX3_init_53 rfl (by decide) ?_
  refine ⟨rfl, rfl, hB.1, hB.2.1, hB.2.2.1, fun i j a => ?_, fun i j a b => ?_, fun j => ?_⟩
  · rw [hM21, flM_a (by omega)]; exact hB.2.2.2.1 i j a
  · rw [hM21]
    by_cases e : i = s + 1 ∧ 0 ≤ j ∧ j < 128
    · refine Eq.trans ?_ (if_pos e).symm
      rw [e.1, flM_s e.2]
    · refine Eq.trans ?_ (if_neg e).symm
      exact (if_neg e).trans (hB.2.2.2.2.1 i j a b)
  · rw [hM21, flM_a (by omega)]; exact hB.2.2.2.2.2 j
def wX0i (s i : Int) : Nat × Int × (Int → Int) := if i = s + 1 then (14, 57, rN) else (14, 57, rN)
theorem wX0i_1 {s i : Int} (h : i = s + 1) : wX0i s i = (14, 57, rN) := by
  unfold wX0i
  rw [if_pos h]
theorem wX0i_2 {s i : Int} (h : i = s + 2) : wX0i s i = (14, 57, rN) := by
  unfold wX0i
  rw [if_neg (by omega)]
def fX0i (s t : Int) : Int → Int := fun j => if j = 0 then t else if j = 1 then s + 1 else if j = 2 then s + 2 else -1
theorem dX0_init_0 : decode cX0_init 0 = .ok (.aload_n 0, 1) := by decide +kernel
theorem dX0_init_1 : decode cX0_init 1 = .ok (.invokespecial 3, 3) := by decide +kernel
theorem dX0_init_4 : decode cX0_init 4 = .ok (.aload_n 0, 1) := by decide +kernel
theorem dX0_init_5 : decode cX0_init 5 = .ok (.bipush 57, 2) := by decide +kernel
theorem dX0_init_7 : decode cX0_init 7 = .ok (.newarray .long, 2) := by decide +kernel
theorem dX0_init_9 : decode cX0_init 9 = .ok (.putfield 11, 3) := by decide +kernel
theorem dX0_init_12 : decode cX0_init 12 = .ok (.aload_n 0, 1) := by decide +kernel
theorem dX0_init_13 : decode cX0_init 13 = .ok (.bipush 57, 2) := by decide +kernel
theorem dX0_init_15 : decode cX0_init 15 = .ok (.newarray .long, 2) := by decide +kernel
theorem dX0_init_17 : decode cX0_init 17 = .ok (.putfield 15, 3) := by decide +kernel
theorem dX0_init_20 : decode cX0_init 20 = .ok (.aload_n 0, 1) := by decide +kernel
theorem dX0_init_21 : decode cX0_init 21 = .ok (.aload_n 1, 1) := by decide +kernel
theorem dX0_init_22 : decode cX0_init 22 = .ok (.putfield 18, 3) := by decide +kernel
theorem dX0_init_25 : decode cX0_init 25 = .ok (.return_, 1) := by decide +kernel
theorem s_X0init {l : Launch} {E : aE} {N : Nat} {S : aS} {M : aM} (hfl : l.stackTraces = false) (s t : Int) (h0 : 0 ≤ s) (hN : (N : Int) = s + 1) (hS : S s = (0, 4, fun _ => -1)) (ht : 0 ≤ t ∧ t < s) : aMt l E pX0_init [(2, s), (2, t)] N S M (aC (fun N' S' M' => N' = N + 2 ∧ Bd S M s (wX0i s) (fun _ _ => 0) 0 4 (fX0i s t) (M s) N' S' M')) := by
  refine a_met hfl rfl (by decide +kernel) (Nat.le_of_ble_eq_true rfl) ?_
  have hB := Bd.rf (w := wX0i s) (v := fun _ _ => 0) (M := M) hS hN
  refine x_aload_n (pc := 0) dX0_init_0 rfl rfl ?_
  refine x_objInit (pc := 1) dX0_init_1 obX0_3 (by omega) (by decide) (Nat.le_of_ble_eq_true rfl) ?_
  refine x_aload_n (pc := 4) dX0_init_4 rfl rfl ?_
  refine x_bipush (pc := 5) dX0_init_5 (by decide) ?_
  refine x_newJ (pc := 7) dX0_init_7 ac_long (by decide) (by decide) ?_
  refine x_putR (j := 1) (pc := 9) dX0_init_9 fX0_11 (by first | exact hB.1 | exact (sAdd_o (by omega)).trans hB.1) (by decide) rfl (by omega) (fun _ => rfl) (fun _ => rfl) (Or.inr ⟨rfl, own_0⟩) ?_
  refine x_bd (bd_arr hB 1 (by omega) (wX0i_1 (by omega)) (fun _ => rfl)) (fun S0 M0 hB => ?_)
  refine x_aload_n (pc := 12) dX0_init_12 rfl rfl ?_
  refine x_bipush (pc := 13) dX0_init_13 (by decide) ?_
  refine x_newJ (pc := 15) dX0_init_15 ac_long (by decide) (by decide) ?_
  refine x_putR (j := 2) (pc := 17) dX0_init_17 fX0_15 (by first | exact hB.1 | exact (sAdd_o (by omega)).trans hB.1) (by decide) rfl (by omega) (fun _ => rfl) (fun _ => rfl) (Or.inr ⟨rfl, own_0⟩) ?_
  refine x_bd (bd_arr hB 2 (by omega) (wX0i_2 (by omega)) (fun _ => rfl)) (fun S1 M1 hB => ?_)
  refine x_aload_n (pc := 20) dX0_init_20 rfl rfl ?_
  refine x_aload_n (pc := 21) dX0_init_21 rfl rfl ?_
  refine x_putR (j := 0) (pc := 22) dX0_init_22 fX0_18 (by first | exact hB.1 | exact (sAdd_o (by omega)).trans hB.1) (by decide) rfl (by omega) (fun _ => rfl) (fun _ => rfl) (Or.inr ⟨rfl, own_0⟩) ?_
  refine x_bd (bd_ref hB 0 (t)) (fun S10 M10 hB => ?_)
  refine x_return (pc := 25) dX0_init_25 rfl (by decide) ?_
  exact ⟨rfl, rfl, (Bd.F hB (F' := (fX0i s t)) (fun j => by unfold fX0i; (repeat' split) <;> omega))⟩
