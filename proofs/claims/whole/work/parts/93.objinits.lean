/-! constructors of objects that hold others -/
theorem bd_bd {S0 S S' : aS} {M0 M M' : aM} {s : Int} {w w' : Int → Nat × Int × (Int → Int)} {v v' : aM} {k k' N N' : Nat} {n n' : Int} {F G F' G' : Int → Int} {q : Nat × Int × (Int → Int)} (h : Bd S0 M0 s w v k n F G N S M) (h' : Bd (sAdd S N q) (mAdd M N 0) (N : Int) w' v' k' n' F' G' N' S' M') (j9 : Int) (hs : s < N) (hw0 : w N = (k', n', F')) (hw : ∀ i, (N : Int) < i → i < N' → w i = w' i) (hv0 : ∀ j, v N j = G' j) (hv : ∀ i j, (N : Int) < i → i < N' → v i j = v' i j) : Bd S0 M0 s w v k n (fun x => if x = j9 then (N : Int) else F x) G N' (sPut S' s j9 N) M' := by
  obtain ⟨h1, h2, h3, h4, h5, h6⟩ := h'
  refine bd_obj h (S' := S') (M' := M') (q := q) j9 hs h3 h4 (fun i a b => ?_) (fun i j a b => ?_)
  · by_cases e : i = N
    · subst e; exact h1.trans hw0.symm
    · exact (h2 i (by omega) b).trans (hw i (by omega) b).symm
  · by_cases e : i = N
    · subst e; exact (h6 j).trans (hv0 j).symm
    · exact (h5 i j (by omega) b).trans (hv i j (by omega) b).symm
/-- a tariff just laid at N -/
theorem bd_tar {S0 S S' : aS} {M0 M M' : aM} {s : Int} {w : Int → Nat × Int × (Int → Int)} {v : aM} {k N : Nat} {n : Int} {F G : Int → Int} {q : Nat × Int × (Int → Int)} (h : Bd S0 M0 s w v k n F G N S M) (j9 : Int) (hs : s < N) (g1 : lyT S' N) (g2 : ∀ i, i < (N : Int) → S' i = sAdd S N q i) (g3 : ∀ i j, i < (N : Int) → M' i j = mAdd M N 0 i j) (g4 : ∀ j, M' N j = if j = 9 then 1 else mAdd M N 0 N j) (g5 : ∀ i j, (N : Int) < i → i < N + 6 → M' i j = 0) (hw : w N = (8, 13, rT N) ∧ w (N + 1) = (13, 6, rN) ∧ w (N + 2) = (13, 6, rN) ∧ w (N + 3) = (13, 4, rN) ∧ w (N + 4) = (13, 4, rN) ∧ w (N + 5) = (13, 6, rN)) (hv0 : ∀ j, v N j = if j = 9 then 1 else 0) (hv : ∀ i j, (N : Int) < i → i < N + 6 → v i j = 0) : Bd S0 M0 s w v k n (fun x => if x = j9 then (N : Int) else F x) G (N + 1 + 5) (sPut S' s j9 N) M' := by
  obtain ⟨t1, t2, t3, t4, t5, t6⟩ := g1
  obtain ⟨w1, w2, w3, w4, w5, w6⟩ := hw
  refine bd_obj h (q := q) j9 hs g2 g3 (fun i a b => ?_) (fun i j a b => ?_)
  · rcases (show i = N ∨ i = (N : Int) + 1 ∨ i = (N : Int) + 2 ∨ i = (N : Int) + 3 ∨ i = (N : Int) + 4 ∨ i = (N : Int) + 5 by omega) with e | e | e | e | e | e
    · rw [e, t1, w1]
    · rw [e, t2, w2]
    · rw [e, t3, w3]
    · rw [e, t4, w4]
    · rw [e, t5, w5]
    · rw [e, t6, w6]
  · by_cases e : i = N
    · rw [e, g4 j, hv0 j, mAdd_e rfl]
    · rw [hv i j (by omega) (by omega)]; exact g5 i j (by omega) (by omega)
def wX5i (s i : Int) : Nat × Int × (Int → Int) := if i = s + 1 then (12, 300, rN) else if i = s + 2 then (8, 13, rT i) else if i = s + 3 then (13, 6, rN) else if i = s + 4 then (13, 6, rN) else if i = s + 5 then (13, 4, rN) else if i = s + 6 then (13, 4, rN) else (13, 6, rN)
theorem wX5i_1 {s i : Int} (h : i = s + 1) : wX5i s i = (12, 300, rN) := by
  unfold wX5i
  rw [if_pos h]
theorem wX5i_2 {s i : Int} (h : i = s + 2) : wX5i s i = (8, 13, rT i) := by
  unfold wX5i
  rw [if_neg (by omega), if_pos h]
theorem wX5i_3 {s i : Int} (h : i = s + 3) : wX5i s i = (13, 6, rN) := by
  unfold wX5i
  rw [if_neg (by omega), if_neg (by omega), if_pos h]
theorem wX5i_4 {s i : Int} (h : i = s + 4) : wX5i s i = (13, 6, rN) := by
  unfold wX5i
  rw [if_neg (by omega), if_neg (by omega), if_neg (by omega), if_pos h]
theorem wX5i_5 {s i : Int} (h : i = s + 5) : wX5i s i = (13, 4, rN) := by
  unfold wX5i
  rw [if_neg (by omega), if_neg (by omega), if_neg (by omega), if_neg (by omega), if_pos h]
theorem wX5i_6 {s i : Int} (h : i = s + 6) : wX5i s i = (13, 4, rN) := by
  unfold wX5i
  rw [if_neg (by omega), if_neg (by omega), if_neg (by omega), if_neg (by omega), if_neg (by omega), if_pos h]
theorem wX5i_7 {s i : Int} (h : i = s + 7) : wX5i s i = (13, 6, rN) := by
  unfold wX5i
  rw [if_neg (by omega), if_neg (by omega), if_neg (by omega), if_neg (by omega), if_neg (by omega), if_neg (by omega)]
def vX5i (s : Int) : aM := fun i j => if i = s + 2 ∧ j = 9 then 1 else 0
def fX5i (s : Int) : Int → Int := fun j => if j = 0 then s + 1 else if j = 5 then s + 2 else -1
theorem vX5i_0 {s i : Int} (h : i = s + 2) (j : Int) : vX5i s i j = if j = 9 then 1 else 0 := by
  unfold vX5i
  by_cases e : j = 9
  · rw [if_pos ⟨h, e⟩, if_pos e]
  · rw [if_neg (fun q => e q.2), if_neg e]
theorem dX5_init_0 : decode cX5_init 0 = .ok (.aload_n 0, 1) := by decide +kernel
theorem dX5_init_1 : decode cX5_init 1 = .ok (.invokespecial 3, 3) := by decide +kernel
theorem dX5_init_4 : decode cX5_init 4 = .ok (.aload_n 0, 1) := by decide +kernel
theorem dX5_init_5 : decode cX5_init 5 = .ok (.sipush 300, 3) := by decide +kernel
theorem dX5_init_8 : decode cX5_init 8 = .ok (.newarray .byte, 2) := by decide +kernel
theorem dX5_init_10 : decode cX5_init 10 = .ok (.putfield 11, 3) := by decide +kernel
theorem dX5_init_13 : decode cX5_init 13 = .ok (.aload_n 0, 1) := by decide +kernel
theorem dX5_init_14 : decode cX5_init 14 = .ok (.iconst (-1), 1) := by decide +kernel
theorem dX5_init_15 : decode cX5_init 15 = .ok (.putfield 15, 3) := by decide +kernel
theorem dX5_init_18 : decode cX5_init 18 = .ok (.aload_n 0, 1) := by decide +kernel
theorem dX5_init_19 : decode cX5_init 19 = .ok (.new 19, 3) := by decide +kernel
theorem dX5_init_22 : decode cX5_init 22 = .ok (.dup, 1) := by decide +kernel
theorem dX5_init_23 : decode cX5_init 23 = .ok (.invokespecial 21, 3) := by decide +kernel
theorem dX5_init_26 : decode cX5_init 26 = .ok (.putfield 22, 3) := by decide +kernel
theorem dX5_init_29 : decode cX5_init 29 = .ok (.return_, 1) := by decide +kernel
theorem s_X5init {l : Launch} {E : aE} {N : Nat} {S : aS} {M : aM} (hfl : l.stackTraces = false) (s : Int) (h0 : 0 ≤ s) (hN : (N : Int) = s + 1) (hS : S s = (5, 11, fun _ => -1)) : aMt l E pX5_init [(2, s)] N S M (aC (fun N' S' M' => N' = N + 7 ∧ Bd S M s (wX5i s) (vX5i s) 5 11 (fX5i s) (fun j => if j = 3 then -1 else M s j) N' S' M')) := by
  refine a_met hfl rfl (by decide +kernel) (Nat.le_of_ble_eq_true rfl) ?_
  have hB := Bd.rf (w := wX5i s) (v := vX5i s) (M := M) hS hN
  refine x_aload_n (pc := 0) dX5_init_0 rfl rfl ?_
  refine x_objInit (pc := 1) dX5_init_1 obX5_3 (by omega) (by decide) (Nat.le_of_ble_eq_true rfl) ?_
  refine x_aload_n (pc := 4) dX5_init_4 rfl rfl ?_
  refine x_sipush (pc := 5) dX5_init_5 (by decide) ?_
  refine x_newB (pc := 8) dX5_init_8 ac_byte (by decide) (by decide) ?_
  refine x_putR (j := 0) (pc := 10) dX5_init_10 fX5_11 (by first | exact hB.1 | exact (sAdd_o (by omega)).trans hB.1 | exact (g2 s (by omega)).trans ((sAdd_o (by omega)).trans hB.1) | exact (hC9.2.2.1 s (by omega)).trans ((sAdd_o (by omega)).trans hB.1)) (by decide) rfl (by omega) (fun _ => rfl) (fun _ => rfl) (Or.inr ⟨rfl, own_5⟩) ?_
  refine x_bd (bd_arr hB 0 (by omega) (wX5i_1 (by omega)) (fun _ => if_neg (fun q => by have := q.1; omega))) (fun S1 M1 hB => ?_)
  refine x_aload_n (pc := 13) dX5_init_13 rfl rfl ?_
  refine x_iconst (pc := 14) dX5_init_14 (by decide) ?_
  refine x_putI (jj := 3) (pc := 15) dX5_init_15 fX5_15 (by first | exact hB.1 | exact (sAdd_o (by omega)).trans hB.1 | exact (g2 s (by omega)).trans ((sAdd_o (by omega)).trans hB.1) | exact (hC9.2.2.1 s (by omega)).trans ((sAdd_o (by omega)).trans hB.1)) rfl (by decide) rfl ?_
  refine x_bd (bd_put hB 3 (-1)) (fun S2 M2 hB => ?_)
  refine x_aload_n (pc := 18) dX5_init_18 rfl rfl ?_
  refine x_newO (pc := 19) dX5_init_19 nwX5_19 (by decide) ?_
  refine x_dup (pc := 22) dX5_init_22 rfl ?_
  refine x_callIN0 (pc := 23) dX5_init_23 rfl kX5_21 (s_X8init hfl _ (by omega) (by omega) (sAdd_e rfl)) (by omega) rfl (Nat.le_of_ble_eq_true rfl) (k_C (fun N9 S9 M9 hQ => ?_)) n_C
  obtain ⟨rfl, g1, g2, g3, g4, g5⟩ := hQ
  refine x_putR (j := 5) (pc := 26) dX5_init_26 fX5_22 (by first | exact hB.1 | exact (sAdd_o (by omega)).trans hB.1 | exact (g2 s (by omega)).trans ((sAdd_o (by omega)).trans hB.1) | exact (hC9.2.2.1 s (by omega)).trans ((sAdd_o (by omega)).trans hB.1)) (by decide) rfl (by omega) (fun _ => rfl) (fun _ => rfl) (Or.inr ⟨rfl, own_5⟩) ?_
  refine x_bd (bd_tar hB 5 (by omega) g1 g2 g3 g4 g5 ⟨wX5i_2 (by omega), wX5i_3 (by omega), wX5i_4 (by omega), wX5i_5 (by omega), wX5i_6 (by omega), wX5i_7 (by omega)⟩ (fun j => vX5i_0 (by omega) j) (fun i j a b => if_neg (fun q => by have := q.1; omega))) (fun S35 M35 hB => ?_)
  refine x_return (pc := 29) dX5_init_29 rfl (by decide) ?_
  exact ⟨rfl, rfl, (Bd.F hB (F' := fX5i s) (fun j => by unfold fX5i; (repeat' split) <;> omega))⟩
