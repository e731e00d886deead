/-! cells laid one by one behind a new object -/
/-- S, M grew from S0, M0: the object s (kind k, n words, references F, words G), behind it up to N cells with shapes w and words v -/
def Bd (S0 : aS) (M0 : aM) (s : Int) (w : Int → Nat × Int × (Int → Int)) (v : aM) (k : Nat) (n : Int) (F G : Int → Int) (N : Nat) (S : aS) (M : aM) : Prop :=
  S s = (k, n, F) ∧ (∀ i, s < i → i < N → S i = w i) ∧ (∀ i, i < s → S i = S0 i) ∧ (∀ i j, i < s → M i j = M0 i j) ∧ (∀ i j, s < i → i < N → M i j = v i j) ∧ ∀ j, M s j = G j
theorem Bd.rf {S : aS} {M : aM} {s : Int} {w : Int → Nat × Int × (Int → Int)} {v : aM} {k N : Nat} {n : Int} {F : Int → Int} (h : S s = (k, n, F)) (hN : (N : Int) = s + 1) : Bd S M s w v k n F (M s) N S M := ⟨h, fun i a b => by omega, fun _ _ => rfl, fun _ _ _ => rfl, fun i j a b => by omega, fun _ => rfl⟩
theorem bd_arr {S0 S : aS} {M0 M : aM} {s : Int} {w : Int → Nat × Int × (Int → Int)} {v : aM} {k N : Nat} {n : Int} {F G : Int → Int} (h : Bd S0 M0 s w v k n F G N S M) {q : Nat × Int × (Int → Int)} (j9 : Int) (hs : s < N) (hw : w N = q) (hv : ∀ i, v N i = 0) : Bd S0 M0 s w v k n (fun x => if x = j9 then (N : Int) else F x) G (N + 1) (sPut (sAdd S N q) s j9 N) (mAdd M N 0) := by
  obtain ⟨h1, h2, h3, h4, h5, h6⟩ := h
  refine ⟨sPut_s ((sAdd_o (by omega)).trans h1), fun i a b => ?_, fun i a => ?_, fun i j a => ?_, fun i j a b => ?_, fun j => ?_⟩
  · refine (sPut_o (by omega)).trans ?_
    by_cases e : i = N
    · subst e; exact (sAdd_e rfl).trans hw.symm
    · exact (sAdd_o e).trans (h2 i a (by omega))
  · exact (sPut_o (by omega)).trans ((sAdd_o (by omega)).trans (h3 i a))
  · exact (mAdd_o (by omega)).trans (h4 i j a)
  · by_cases e : i = N
    · subst e; exact (mAdd_e rfl).trans (hv j).symm
    · exact (mAdd_o e).trans (h5 i j a (by omega))
  · exact (mAdd_o (by omega)).trans (h6 j)
theorem bd_put {S0 S : aS} {M0 M : aM} {s : Int} {w : Int → Nat × Int × (Int → Int)} {v : aM} {k N : Nat} {n : Int} {F G : Int → Int} (h : Bd S0 M0 s w v k n F G N S M) (j9 c : Int) : Bd S0 M0 s w v k n F (fun x => if x = j9 then c else G x) N S (up M s j9 c) := by
  obtain ⟨h1, h2, h3, h4, h5, h6⟩ := h
  refine ⟨h1, h2, h3, fun i j a => (up_a (by omega)).trans (h4 i j a), fun i j a b => (up_a (by omega)).trans (h5 i j a b), fun j => ?_⟩
  by_cases e : j = j9
  · subst e
    exact up_s.trans (if_pos rfl).symm
  · exact ((up_i e).trans (h6 j)).trans (if_neg e).symm
/-- a new object whose constructor laid its cells up to N' -/
theorem bd_obj {S0 S S' : aS} {M0 M M' : aM} {s : Int} {w : Int → Nat × Int × (Int → Int)} {v : aM} {k N N' : Nat} {n : Int} {F G : Int → Int} (h : Bd S0 M0 s w v k n F G N S M) {q : Nat × Int × (Int → Int)} (j9 : Int) (hs : s < N) (g2 : ∀ i, i < (N : Int) → S' i = sAdd S N q i) (g3 : ∀ i j, i < (N : Int) → M' i j = mAdd M N 0 i j) (gw : ∀ i, (N : Int) ≤ i → i < N' → S' i = w i) (gv : ∀ i j, (N : Int) ≤ i → i < N' → M' i j = v i j) : Bd S0 M0 s w v k n (fun x => if x = j9 then (N : Int) else F x) G N' (sPut S' s j9 N) M' := by
  obtain ⟨h1, h2, h3, h4, h5, h6⟩ := h
  refine ⟨sPut_s (((g2 s hs).trans (sAdd_o (by omega))).trans h1), fun i a b => ?_, fun i a => ?_, fun i j a => ?_, fun i j a b => ?_, fun j => ?_⟩
  · refine (sPut_o (by omega)).trans ?_
    by_cases e : i < N
    · exact ((g2 i e).trans (sAdd_o (by omega))).trans (h2 i a e)
    · exact gw i (by omega) b
  · exact (sPut_o (by omega)).trans (((g2 i (by omega)).trans (sAdd_o (by omega))).trans (h3 i a))
  · exact ((g3 i j (by omega)).trans (mAdd_o (by omega))).trans (h4 i j a)
  · by_cases e : i < N
    · exact ((g3 i j e).trans (mAdd_o (by omega))).trans (h5 i j a e)
    · exact gv i j (by omega) b
  · exact ((g3 s j hs).trans (mAdd_o (by omega))).trans (h6 j)
theorem x_bd {l : Launch} {E : aE} {P : aP} {Q : aQ} {kc ks N : Nat} {S S0 : aS} {M M0 : aM} {pc : Nat} {lo : List (Nat × aV)} {st : List aV} {s : Int} {w : Int → Nat × Int × (Int → Int)} {v : aM} {k : Nat} {n : Int} {F G : Int → Int} (h : Bd S0 M0 s w v k n F G N S M) (k9 : ∀ S M, Bd S0 M0 s w v k n F G N S M → aX l E P Q kc ks N S M pc lo st) : aX l E P Q kc ks N S M pc lo st := k9 S M h
theorem lyT.cg {S S' : aS} {u : Int} (h : lyT S u) (e : ∀ i, u ≤ i → i < u + 6 → S' i = S i) : lyT S' u := by
  obtain ⟨h1, h2, h3, h4, h5, h6⟩ := h
  exact ⟨(e _ (by omega) (by omega)).trans h1, (e _ (by omega) (by omega)).trans h2, (e _ (by omega) (by omega)).trans h3, (e _ (by omega) (by omega)).trans h4, (e _ (by omega) (by omega)).trans h5, (e _ (by omega) (by omega)).trans h6⟩
def wS (s : Int) (i : Int) : Nat × Int × (Int → Int) := if i = s + 1 then (8, 13, rT i) else if i = s + 2 then (13, 6, rN) else if i = s + 3 then (13, 6, rN) else if i = s + 4 then (13, 4, rN) else if i = s + 5 then (13, 4, rN) else if i = s + 6 then (13, 6, rN) else if i = s + 7 then (13, 7, rN) else if i = s + 8 then (13, 42, rN) else if i = s + 9 then (13, 7, rN) else if i = s + 10 then (13, 7, rN) else if i = s + 11 then (13, 7, rN) else if i = s + 12 then (13, 7, rN) else if i = s + 13 then (13, 28, rN) else (13, 28, rN)
def vS (s : Int) : aM := fun i j => if i = s + 1 ∧ j = 9 then 1 else 0
theorem wS_1 {s i : Int} (h : i = s + 1) : wS s i = (8, 13, rT i) := by
  unfold wS
  rw [if_pos h]
theorem wS_2 {s i : Int} (h : i = s + 2) : wS s i = (13, 6, rN) := by
  unfold wS
  rw [if_neg (by omega), if_pos h]
theorem wS_3 {s i : Int} (h : i = s + 3) : wS s i = (13, 6, rN) := by
  unfold wS
  rw [if_neg (by omega), if_neg (by omega), if_pos h]
theorem wS_4 {s i : Int} (h : i = s + 4) : wS s i = (13, 4, rN) := by
  unfold wS
  rw [if_neg (by omega), if_neg (by omega), if_neg (by omega), if_pos h]
theorem wS_5 {s i : Int} (h : i = s + 5) : wS s i = (13, 4, rN) := by
  unfold wS
  rw [if_neg (by omega), if_neg (by omega), if_neg (by omega), if_neg (by omega), if_pos h]
theorem wS_6 {s i : Int} (h : i = s + 6) : wS s i = (13, 6, rN) := by
  unfold wS
  rw [if_neg (by omega), if_neg (by omega), if_neg (by omega), if_neg (by omega), if_neg (by omega), if_pos h]
theorem wS_7 {s i : Int} (h : i = s + 7) : wS s i = (13, 7, rN) := by
  unfold wS
  rw [if_neg (by omega), if_neg (by omega), if_neg (by omega), if_neg (by omega), if_neg (by omega), if_neg (by omega), if_pos h]
theorem wS_8 {s i : Int} (h : i = s + 8) : wS s i = (13, 42, rN) := by
  unfold wS
  rw [if_neg (by omega), if_neg (by omega), if_neg (by omega), if_neg (by omega), if_neg (by omega), if_neg (by omega), if_neg (by omega), if_pos h]
theorem wS_9 {s i : Int} (h : i = s + 9) : wS s i = (13, 7, rN) := by
  unfold wS
  rw [if_neg (by omega), if_neg (by omega), if_neg (by omega), if_neg (by omega), if_neg (by omega), if_neg (by omega), if_neg (by omega), if_neg (by omega), if_pos h]
theorem wS_10 {s i : Int} (h : i = s + 10) : wS s i = (13, 7, rN) := by
  unfold wS
  rw [if_neg (by omega), if_neg (by omega), if_neg (by omega), if_neg (by omega), if_neg (by omega), if_neg (by omega), if_neg (by omega), if_neg (by omega), if_neg (by omega), if_pos h]
theorem wS_11 {s i : Int} (h : i = s + 11) : wS s i = (13, 7, rN) := by
  unfold wS
  rw [if_neg (by omega), if_neg (by omega), if_neg (by omega), if_neg (by omega), if_neg (by omega), if_neg (by omega), if_neg (by omega), if_neg (by omega), if_neg (by omega), if_neg (by omega), if_pos h]
theorem wS_12 {s i : Int} (h : i = s + 12) : wS s i = (13, 7, rN) := by
  unfold wS
  rw [if_neg (by omega), if_neg (by omega), if_neg (by omega), if_neg (by omega), if_neg (by omega), if_neg (by omega), if_neg (by omega), if_neg (by omega), if_neg (by omega), if_neg (by omega), if_neg (by omega), if_pos h]
theorem wS_13 {s i : Int} (h : i = s + 13) : wS s i = (13, 28, rN) := by
  unfold wS
  rw [if_neg (by omega), if_neg (by omega), if_neg (by omega), if_neg (by omega), if_neg (by omega), if_neg (by omega), if_neg (by omega), if_neg (by omega), if_neg (by omega), if_neg (by omega), if_neg (by omega), if_neg (by omega), if_pos h]
theorem wS_14 {s i : Int} (h : i = s + 14) : wS s i = (13, 28, rN) := by
  unfold wS
  rw [if_neg (by omega), if_neg (by omega), if_neg (by omega), if_neg (by omega), if_neg (by omega), if_neg (by omega), if_neg (by omega), if_neg (by omega), if_neg (by omega), if_neg (by omega), if_neg (by omega), if_neg (by omega), if_neg (by omega)]
theorem vS_0 {s i : Int} (h : i ≠ s + 1) (j : Int) : vS s i j = 0 := if_neg fun q => h q.1
theorem s_X7init {l : Launch} {E : aE} {N : Nat} {S : aS} {M : aM} (hfl : l.stackTraces = false) (s : Int) (h0 : 0 ≤ s) (hN : (N : Int) = s + 1) (hS : S s = (7, 11, fun _ => -1)) : aMt l E pX7_init [(2, s)] N S M (aC (fun N' S' M' => N' = N + 14 ∧ lyS S' s ∧ (∀ i, i < s → S' i = S i) ∧ (∀ i j, i < s → M' i j = M i j) ∧ (∀ j, M' s j = if j = 7 then 1 else M s j) ∧ ∀ i j, s < i → i < s + 15 → M' i j = if i = s + 1 ∧ j = 9 then 1 else 0)) := by
  refine a_met hfl rfl (by decide +kernel) (Nat.le_of_ble_eq_true rfl) ?_
  have hB := Bd.rf (w := wS s) (v := vS s) (M := M) hS hN
  refine x_aload_n (pc := 0) dX7_init_0 rfl rfl ?_
  refine x_objInit (pc := 1) dX7_init_1 obX7_3 (by omega) (by decide) (Nat.le_of_ble_eq_true rfl) ?_
  refine x_aload_n (pc := 4) dX7_init_4 rfl rfl ?_
  refine x_newO (pc := 5) dX7_init_5 nwX7_9 (by decide) ?_
  refine x_dup (pc := 8) dX7_init_8 rfl ?_
  refine x_callIN0 (pc := 9) dX7_init_9 rfl kX7_11 (s_X8init hfl (N : Int) (by omega) (by omega) (sAdd_e rfl)) (by omega) rfl (Nat.le_of_ble_eq_true rfl) (k_C (fun N9 S9 M9 hQ => ?_)) n_C
  obtain ⟨rfl, g1, g2, g3, g4, g5⟩ := hQ
  refine x_putR (j := 0) (pc := 12) dX7_init_12 fX7_12 (by first | exact hB.1 | exact (sAdd_o (by omega)).trans hB.1 | exact (g2 s (by omega)).trans ((sAdd_o (by omega)).trans hB.1)) (by decide) rfl (by omega) (fun _ => rfl) (fun _ => rfl) (Or.inr ⟨rfl, own_7⟩) ?_
  refine x_bd (bd_obj hB 0 (by omega) g2 g3 (fun i a b => ?_) (fun i j a b => ?_)) (fun S1 M1 hB => ?_)
  · rcases (show i = s + 1 ∨ i = s + 2 ∨ i = s + 3 ∨ i = s + 4 ∨ i = s + 5 ∨ i = s + 6 by omega) with q | q | q | q | q | q
    · rw [wS_1 q, show i = (N : Int) by omega]
      exact g1.1
    · rw [wS_2 q, show i = (N : Int) + 1 by omega]
      exact g1.2.1
    · rw [wS_3 q, show i = (N : Int) + 2 by omega]
      exact g1.2.2.1
    · rw [wS_4 q, show i = (N : Int) + 3 by omega]
      exact g1.2.2.2.1
    · rw [wS_5 q, show i = (N : Int) + 4 by omega]
      exact g1.2.2.2.2.1
    · rw [wS_6 q, show i = (N : Int) + 5 by omega]
      exact g1.2.2.2.2.2
  · by_cases e : i = N
    · rw [e, g4 j, mAdd_e rfl]
      unfold vS
      by_cases e2 : j = 9
      · rw [if_pos e2, if_pos ⟨by omega, e2⟩]
      · rw [if_neg e2, if_neg (fun q => e2 q.2)]
    · rw [vS_0 (by omega)]; exact g5 i j (by omega) (by omega)
  refine x_aload_n (pc := 15) dX7_init_15 rfl rfl ?_
  refine x_bipush (pc := 16) dX7_init_16 (by decide) ?_
  refine x_newI (pc := 18) dX7_init_18 ac_int (by decide) (by decide) ?_
  refine x_putR (j := 2) (pc := 20) dX7_init_20 fX7_18 (by first | exact hB.1 | exact (sAdd_o (by omega)).trans hB.1 | exact (g2 s (by omega)).trans ((sAdd_o (by omega)).trans hB.1)) (by decide) rfl (by omega) (fun _ => rfl) (fun _ => rfl) (Or.inr ⟨rfl, own_7⟩) ?_
  refine x_bd (bd_arr hB 2 (by omega) (wS_7 (by omega)) (vS_0 (by omega))) (fun S1 M1 hB => ?_)
  refine x_aload_n (pc := 23) dX7_init_23 rfl rfl ?_
  refine x_bipush (pc := 24) dX7_init_24 (by decide) ?_
  refine x_newI (pc := 26) dX7_init_26 ac_int (by decide) (by decide) ?_
  refine x_putR (j := 3) (pc := 28) dX7_init_28 fX7_22 (by first | exact hB.1 | exact (sAdd_o (by omega)).trans hB.1 | exact (g2 s (by omega)).trans ((sAdd_o (by omega)).trans hB.1)) (by decide) rfl (by omega) (fun _ => rfl) (fun _ => rfl) (Or.inr ⟨rfl, own_7⟩) ?_
  refine x_bd (bd_arr hB 3 (by omega) (wS_8 (by omega)) (vS_0 (by omega))) (fun S1 M1 hB => ?_)
  refine x_aload_n (pc := 31) dX7_init_31 rfl rfl ?_
  refine x_bipush (pc := 32) dX7_init_32 (by decide) ?_
  refine x_newI (pc := 34) dX7_init_34 ac_int (by decide) (by decide) ?_
  refine x_putR (j := 4) (pc := 36) dX7_init_36 fX7_25 (by first | exact hB.1 | exact (sAdd_o (by omega)).trans hB.1 | exact (g2 s (by omega)).trans ((sAdd_o (by omega)).trans hB.1)) (by decide) rfl (by omega) (fun _ => rfl) (fun _ => rfl) (Or.inr ⟨rfl, own_7⟩) ?_
  refine x_bd (bd_arr hB 4 (by omega) (wS_9 (by omega)) (vS_0 (by omega))) (fun S1 M1 hB => ?_)
  refine x_aload_n (pc := 39) dX7_init_39 rfl rfl ?_
  refine x_bipush (pc := 40) dX7_init_40 (by decide) ?_
  refine x_newI (pc := 42) dX7_init_42 ac_int (by decide) (by decide) ?_
  refine x_putR (j := 5) (pc := 44) dX7_init_44 fX7_28 (by first | exact hB.1 | exact (sAdd_o (by omega)).trans hB.1 | exact (g2 s (by omega)).trans ((sAdd_o (by omega)).trans hB.1)) (by decide) rfl (by omega) (fun _ => rfl) (fun _ => rfl) (Or.inr ⟨rfl, own_7⟩) ?_
  refine x_bd (bd_arr hB 5 (by omega) (wS_10 (by omega)) (vS_0 (by omega))) (fun S1 M1 hB => ?_)
  refine x_aload_n (pc := 47) dX7_init_47 rfl rfl ?_
  refine x_bipush (pc := 48) dX7_init_48 (by decide) ?_
  refine x_newI (pc := 50) dX7_init_50 ac_int (by decide) (by decide) ?_
  refine x_putR (j := 6) (pc := 52) dX7_init_52 fX7_31 (by first | exact hB.1 | exact (sAdd_o (by omega)).trans hB.1 | exact (g2 s (by omega)).trans ((sAdd_o (by omega)).trans hB.1)) (by decide) rfl (by omega) (fun _ => rfl) (fun _ => rfl) (Or.inr ⟨rfl, own_7⟩) ?_
  refine x_bd (bd_arr hB 6 (by omega) (wS_11 (by omega)) (vS_0 (by omega))) (fun S1 M1 hB => ?_)
  refine x_aload_n (pc := 55) dX7_init_55 rfl rfl ?_
  refine x_iconst (pc := 56) dX7_init_56 (by decide) ?_
  refine x_putI (jj := 7) (pc := 57) dX7_init_57 fX7_34 (by first | exact hB.1 | exact (sAdd_o (by omega)).trans hB.1 | exact (g2 s (by omega)).trans ((sAdd_o (by omega)).trans hB.1)) rfl (by decide) rfl ?_
  refine x_bd (bd_put hB 7 1) (fun S1 M1 hB => ?_)
  refine x_aload_n (pc := 60) dX7_init_60 rfl rfl ?_
  refine x_bipush (pc := 61) dX7_init_61 (by decide) ?_
  refine x_newI (pc := 63) dX7_init_63 ac_int (by decide) (by decide) ?_
  refine x_putR (j := 8) (pc := 65) dX7_init_65 fX7_38 (by first | exact hB.1 | exact (sAdd_o (by omega)).trans hB.1 | exact (g2 s (by omega)).trans ((sAdd_o (by omega)).trans hB.1)) (by decide) rfl (by omega) (fun _ => rfl) (fun _ => rfl) (Or.inr ⟨rfl, own_7⟩) ?_
  refine x_bd (bd_arr hB 8 (by omega) (wS_12 (by omega)) (vS_0 (by omega))) (fun S1 M1 hB => ?_)
  refine x_aload_n (pc := 68) dX7_init_68 rfl rfl ?_
  refine x_bipush (pc := 69) dX7_init_69 (by decide) ?_
  refine x_newI (pc := 71) dX7_init_71 ac_int (by decide) (by decide) ?_
  refine x_putR (j := 9) (pc := 73) dX7_init_73 fX7_41 (by first | exact hB.1 | exact (sAdd_o (by omega)).trans hB.1 | exact (g2 s (by omega)).trans ((sAdd_o (by omega)).trans hB.1)) (by decide) rfl (by omega) (fun _ => rfl) (fun _ => rfl) (Or.inr ⟨rfl, own_7⟩) ?_
  refine x_bd (bd_arr hB 9 (by omega) (wS_13 (by omega)) (vS_0 (by omega))) (fun S1 M1 hB => ?_)
  refine x_aload_n (pc := 76) dX7_init_76 rfl rfl ?_
  refine x_bipush (pc := 77) dX7_init_77 (by decide) ?_
  refine x_newI (pc := 79) dX7_init_79 ac_int (by decide) (by decide) ?_
  refine x_putR (j := 10) (pc := 81) dX7_init_81 fX7_44 (by first | exact hB.1 | exact (sAdd_o (by omega)).trans hB.1 | exact (g2 s (by omega)).trans ((sAdd_o (by omega)).trans hB.1)) (by decide) rfl (by omega) (fun _ => rfl) (fun _ => rfl) (Or.inr ⟨rfl, own_7⟩) ?_
  refine x_bd (bd_arr hB 10 (by omega) (wS_14 (by omega)) (vS_0 (by omega))) (fun S1 M1 hB => ?_)
  refine x_return (pc := 84) dX7_init_84 rfl (by decide) ?_
  obtain ⟨h1, h2, h3, h4, h5, h6⟩ := hB
  refine ⟨rfl, rfl, ⟨?_, sh_eq h1 (fun j => ?_), (h2 _ (by omega) (by omega)).trans (wS_7 rfl), (h2 _ (by omega) (by omega)).trans (wS_8 rfl), (h2 _ (by omega) (by omega)).trans (wS_9 rfl), (h2 _ (by omega) (by omega)).trans (wS_10 rfl), (h2 _ (by omega) (by omega)).trans (wS_11 rfl), (h2 _ (by omega) (by omega)).trans (wS_12 rfl), (h2 _ (by omega) (by omega)).trans (wS_13 rfl), (h2 _ (by omega) (by omega)).trans (wS_14 rfl)⟩, h3, h4, h6, fun i j a b => h5 i j a (by omega)⟩
  · exact ⟨(h2 _ (by omega) (by omega)).trans (wS_1 (by omega)), (h2 _ (by omega) (by omega)).trans (wS_2 (by omega)), (h2 _ (by omega) (by omega)).trans (wS_3 (by omega)), (h2 _ (by omega) (by omega)).trans (wS_4 (by omega)), (h2 _ (by omega) (by omega)).trans (wS_5 (by omega)), (h2 _ (by omega) (by omega)).trans (wS_6 (by omega))⟩
  · unfold rS
    (repeat' split) <;> omega
