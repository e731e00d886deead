/-! THE LAW: what holds between two of its steps, and what each side leaves of the other -/
theorem lyC.cg {S S' : aS} (h : lyC S) (e : ∀ k : Int, 0 ≤ k → k < 140 → S' k = S k) : lyC S' := by
  obtain ⟨q1, q2, q3, q4, q5, q6, q7, q8, q9, q10, q11, q12, q13, q14, q15, q16, q17, q18, q19, q20, q21, q22, q23, q24, q25, q26, q27, q28, q29, q30, q31, q32, q33, q34, q35, q36, q37, q38, q39, q40, q41, q42, q43, q44, q45, q46, q47, q48, q49, q50, q51, q52, q53, q54⟩ := h
  exact ⟨fun j a b => (e _ (by omega) (by omega)).trans (q1 j a b), q2.cg fun i a b => e i (by omega) (by omega), q3.cg fun i a b => e i (by omega) (by omega), q4.cg fun i a b => e i (by omega) (by omega), (e _ (by decide) (by decide)).trans q5, (e _ (by decide) (by decide)).trans q6, (e _ (by decide) (by decide)).trans q7, (e _ (by decide) (by decide)).trans q8, (e _ (by decide) (by decide)).trans q9, (e _ (by decide) (by decide)).trans q10, (e _ (by decide) (by decide)).trans q11, (e _ (by decide) (by decide)).trans q12, (e _ (by decide) (by decide)).trans q13, (e _ (by decide) (by decide)).trans q14, (e _ (by decide) (by decide)).trans q15, (e _ (by decide) (by decide)).trans q16, (e _ (by decide) (by decide)).trans q17, (e _ (by decide) (by decide)).trans q18, (e _ (by decide) (by decide)).trans q19, (e _ (by decide) (by decide)).trans q20, (e _ (by decide) (by decide)).trans q21, (e _ (by decide) (by decide)).trans q22, (e _ (by decide) (by decide)).trans q23, (e _ (by decide) (by decide)).trans q24, (e _ (by decide) (by decide)).trans q25, (e _ (by decide) (by decide)).trans q26, (e _ (by decide) (by decide)).trans q27, (e _ (by decide) (by decide)).trans q28, (e _ (by decide) (by decide)).trans q29, (e _ (by decide) (by decide)).trans q30, (e _ (by decide) (by decide)).trans q31, (e _ (by decide) (by decide)).trans q32, (e _ (by decide) (by decide)).trans q33, (e _ (by decide) (by decide)).trans q34, (e _ (by decide) (by decide)).trans q35, (e _ (by decide) (by decide)).trans q36, (e _ (by decide) (by decide)).trans q37, (e _ (by decide) (by decide)).trans q38, (e _ (by decide) (by decide)).trans q39, (e _ (by decide) (by decide)).trans q40, (e _ (by decide) (by decide)).trans q41, (e _ (by decide) (by decide)).trans q42, (e _ (by decide) (by decide)).trans q43, (e _ (by decide) (by decide)).trans q44, (e _ (by decide) (by decide)).trans q45, (e _ (by decide) (by decide)).trans q46, (e _ (by decide) (by decide)).trans q47, (e _ (by decide) (by decide)).trans q48, (e _ (by decide) (by decide)).trans q49, (e _ (by decide) (by decide)).trans q50, (e _ (by decide) (by decide)).trans q51, (e _ (by decide) (by decide)).trans q52, (e _ (by decide) (by decide)).trans q53, (e _ (by decide) (by decide)).trans q54⟩
theorem lyM.cg {S S' : aS} {m : Int} (h : lyM S m) (e : ∀ k : Int, m ≤ k → k < m + 30 → S' k = S k) : lyM S' m := by
  obtain ⟨q0, q1, q2, q3, q4, q5, q6, q7, q8, q9, q10, q11, q12, q13, q14, q15, q16, q17, q18, q19, q20, q21, q22, q23, q24, q25, q26, q27, q28, q29⟩ := h
  exact ⟨(e _ (by omega) (by omega)).trans q0, (e _ (by omega) (by omega)).trans q1, (e _ (by omega) (by omega)).trans q2, (e _ (by omega) (by omega)).trans q3, (e _ (by omega) (by omega)).trans q4, (e _ (by omega) (by omega)).trans q5, (e _ (by omega) (by omega)).trans q6, (e _ (by omega) (by omega)).trans q7, (e _ (by omega) (by omega)).trans q8, (e _ (by omega) (by omega)).trans q9, (e _ (by omega) (by omega)).trans q10, (e _ (by omega) (by omega)).trans q11, (e _ (by omega) (by omega)).trans q12, (e _ (by omega) (by omega)).trans q13, (e _ (by omega) (by omega)).trans q14, (e _ (by omega) (by omega)).trans q15, (e _ (by omega) (by omega)).trans q16, (e _ (by omega) (by omega)).trans q17, (e _ (by omega) (by omega)).trans q18, (e _ (by omega) (by omega)).trans q19, (e _ (by omega) (by omega)).trans q20, (e _ (by omega) (by omega)).trans q21, (e _ (by omega) (by omega)).trans q22, (e _ (by omega) (by omega)).trans q23, (e _ (by omega) (by omega)).trans q24, (e _ (by omega) (by omega)).trans q25, (e _ (by omega) (by omega)).trans q26, (e _ (by omega) (by omega)).trans q27, (e _ (by omega) (by omega)).trans q28, (e _ (by omega) (by omega)).trans q29⟩
theorem RC.cgo {M M' A : aM} {N : Nat} {S : aS} (h : RC M N S A) (e : ∀ a, a < 109 ∨ 140 ≤ a → eqR M M' a) : RC M' N S A := by
  obtain ⟨h1, h2, h3, h4, h5, h6, h7, h8, h9⟩ := h
  exact ⟨h1.cg fun a x y => e a (by omega), h2.cg (e 0 (by omega)), h3.cg (e 17 (by omega)) (e 18 (by omega)), h4.cg (e 105 (by omega)) (e 106 (by omega)) (e 107 (by omega)), h5.cg (e 16 (by omega)) (fun a x => e a (by omega)), h6.cg fun a x y => e a (by omega), h7.cg (e 31 (by omega)), h8.cg (fun a x y => e a (by omega)) (fun a x y => e a (by omega)), h9.cg (e 82 (by omega))⟩
theorem RMc.cgo {M M' : aM} {m : Int} {t : Int → Int} (h : RMc M m t) (e : ∀ a, m ≤ a → a < m + 30 → eqR M M' a) : RMc M' m t := by
  obtain ⟨h1, h2, h3, h4⟩ := h
  refine ⟨?_, h2.imp id fun g s a b => ?_, (e _ (by omega) (by omega) _).trans h3, (e _ (by omega) (by omega) _).trans h4⟩
  · rw [e m (by omega) (by omega) 19]
    exact h1.imp id fun q => ⟨q.1, fun x a b => by rw [e (m + 8) (by omega) (by omega) x, e (m + 6) (by omega) (by omega) x]; exact q.2 x a b⟩
  · rw [e (m + 15) (by omega) (by omega) s]; exact g s a b
theorem RMs.cgo {M M' A : aM} {m : Int} (h : RMs M m A) (e : ∀ a, m ≤ a → a < m + 30 → eqR M M' a) : RMs M' m A := by
  obtain ⟨h1, h2, h3, ⟨h4, h5, h6, h7⟩, h8, h9, h10, h11, h12⟩ := h
  have g : ∀ k, 0 ≤ k → k < 30 → eqR M M' (m + k) := fun k a b => e _ (by omega) (by omega)
  have e0 := e m (by omega) (by omega)
  exact ⟨fun i a b => (g 1 (by omega) (by omega) i).trans (h1 i a b), (e0 _).trans h2, fun i a b => (g 4 (by omega) (by omega) i).trans (h3 i a b), ⟨(e0 _).trans h4, (e0 _).trans h5, (e0 _).trans h6, (e0 _).trans h7⟩, fun i a b => ⟨(g 27 (by omega) (by omega) i).trans (h8 i a b).1, (g 28 (by omega) (by omega) i).trans (h8 i a b).2⟩, fun i a b => (g 29 (by omega) (by omega) i).trans (h9 i a b), fun i a b => (g 3 (by omega) (by omega) i).trans (h10 i a b), fun i a b => (g 2 (by omega) (by omega) i).trans (h11 i a b), (e0 _).trans h12⟩
theorem RM.cgo {M M' A : aM} {m : Int} (h : RM M m A) (e : ∀ a, m ≤ a → a < m + 30 → eqR M M' a) : RM M' m A := ⟨h.1.cgo e, h.2.cgo e⟩
/-- what holds at the law's loop: the class's cells 0 to 108, the reference's 109 to 138, the row of one number at 139 -/
def LWI (N : Nat) (S : aS) (M A : aM) : Prop := 140 ≤ N ∧ lyC S ∧ lyM S 109 ∧ S 139 = (14, 1, rN) ∧ RC M N S A ∧ RM M 109 A ∧ INV A
/-- what a helper of the law leaves: its answer is the word, and the number told lies in the row -/
def hQ (M : aM) (N : Nat) (S : aS) (sp : Int × Int × aM) : aQ := fun o N' S' M' => N' = N ∧ S' = S ∧ (∀ a i : Int, 109 ≤ a → a < 139 → M' a i = M a i) ∧ RC M' N S sp.2.2 ∧ (sp.1 = 0 → M' 139 0 = sp.2.1) ∧ o = .inl (some (0, sp.1))
def hQv (M : aM) (N : Nat) (S : aS) (sp : Int × Int × aM) : aQ := fun o N' S' M' => N ≤ N' ∧ N' ≤ N + 15 ∧ (∀ k : Int, k < N → S' k = S k) ∧ (∀ a i : Int, 109 ≤ a → a < 139 → M' a i = M a i) ∧ RC M' N' S' sp.2.2 ∧ o = .inl (some (0, sp.1))
theorem RC.out {M A : aM} {N : Nat} {S : aS} {v : Int} (h : RC M N S A) : RC (up M 139 0 v) N S A := h.cgo fun a q i => up_a (by omega)
section AX10
variable {l : Launch} {E : aE} {P : aP} {Q : aQ} {kc ks N : Nat} {S : aS} {M : aM} {pc : Nat} {lo : List (Nat × aV)} {st : List aV}
theorem x_room {kc' ks' : Nat} (h1 : kc ≤ kc') (h2 : ks ≤ ks') (k : aX l E P Q kc' ks' N S M pc lo st) : aX l E P Q kc ks N S M pc lo st :=
  fun p e s m args below meth c H locs ls ad0 ad N0 S0 B w x hS hl g1 g2 => W.widen h1 h2 (k p e s m args below meth c H locs ls ad0 ad N0 S0 B w x hS hl g1 g2)
theorem a_rmL {P P' : aP} {kc ks : Nat} (h1 : Nat.ble (P'.2.2.2.2.1.frames + 1) P.2.2.2.2.1.frames = true) (h2 : Nat.ble (8 + (P'.2.2.1 + 11) + P'.2.2.2.2.1.locals) P.2.2.2.2.1.locals = true) (h3 : kc + P'.2.2.2.2.1.cells ≤ P.2.2.2.2.1.cells) (h4 : ks + P'.2.2.2.2.1.slots ≤ P.2.2.2.2.1.slots) : a_rm P P' kc ks = true := by
  simp only [a_rm, Bool.and_eq_true]
  exact ⟨h1, h2, Nat.ble_eq.mpr h3, Nat.ble_eq.mpr h4⟩
theorem k_op {kc' ks' t : Nat} {sp : Int × Int × aM} {xs : Int → Nat} (k : ∀ M', sp.1 = 0 → frC M M' → RC M' N S sp.2.2 → aX l E P Q kc' ks' N S M' (pc + 3) lo ((t, sp.2.1) :: st)) : ∀ (r : Option aV) (N' : Nat) (S' : aS) (M' : aM), opC M N S t sp xs (.inl r) N' S' M' → a_ex N N' S S' → aX l E P Q kc' ks' N' S' M' (pc + 3) lo (r.toList ++ st) := by
  intro r N' S' M' h _
  obtain ⟨rfl, rfl, h1, h2, ⟨h3, h4⟩ | ⟨h3, h4⟩⟩ := h
  · cases h4; exact k M' h3 h1 h2
  · cases h4
theorem n_op {t : Nat} {sp : Int × Int × aM} {xs : Int → Nat} (k : ∀ M', sp.1 ≠ 0 → frC M M' → RC M' N S sp.2.2 → a_hnd P pc (xs sp.1) sp.1 ∧ Q (.inl (some (0, sp.1))) N S M') : ∀ (x9 N' : Nat) (S' : aS) (M' : aM), opC M N S t sp xs (.inr x9) N' S' M' → a_ex N N' S S' → ∃ c : Int, a_hnd P pc x9 c ∧ Q (.inl (some (0, c))) N' S' M' := by
  intro x9 N' S' M' h _
  obtain ⟨rfl, rfl, h1, h2, ⟨h3, h4⟩ | ⟨h3, h4⟩⟩ := h
  · cases h4
  · cases h4; exact ⟨_, k M' h3 h1 h2⟩
theorem k_opv {kc' ks' : Nat} {sp : Int × Int × aM} {xs : Int → Nat} (k : ∀ M', sp.1 = 0 → frC M M' → RC M' N S sp.2.2 → aX l E P Q kc' ks' N S M' (pc + 3) lo st) : ∀ (r : Option aV) (N' : Nat) (S' : aS) (M' : aM), opCv M N S sp xs (.inl r) N' S' M' → a_ex N N' S S' → aX l E P Q kc' ks' N' S' M' (pc + 3) lo (r.toList ++ st) := by
  intro r N' S' M' h _
  obtain ⟨rfl, rfl, h1, h2, ⟨h3, h4⟩ | ⟨h3, h4⟩⟩ := h
  · cases h4; exact k M' h3 h1 h2
  · cases h4
theorem n_opv {sp : Int × Int × aM} {xs : Int → Nat} (k : ∀ M', sp.1 ≠ 0 → frC M M' → RC M' N S sp.2.2 → a_hnd P pc (xs sp.1) sp.1 ∧ Q (.inl (some (0, sp.1))) N S M') : ∀ (x9 N' : Nat) (S' : aS) (M' : aM), opCv M N S sp xs (.inr x9) N' S' M' → a_ex N N' S S' → ∃ c : Int, a_hnd P pc x9 c ∧ Q (.inl (some (0, c))) N' S' M' := by
  intro x9 N' S' M' h _
  obtain ⟨rfl, rfl, h1, h2, ⟨h3, h4⟩ | ⟨h3, h4⟩⟩ := h
  · cases h4
  · cases h4; exact ⟨_, k M' h3 h1 h2⟩
theorem k_opi {kc' ks' : Nat} {sp : Int × Int × aM} {xs : Int → Nat} (k : ∀ (N' : Nat) (S' : aS) (M' : aM), sp.1 = 0 → N ≤ N' → N' ≤ N + 15 → (∀ k : Int, k < N → S' k = S k) → frC M M' → RC M' N' S' sp.2.2 → aX l E P Q kc' ks' N' S' M' (pc + 3) lo st) : ∀ (r : Option aV) (N' : Nat) (S' : aS) (M' : aM), opCi M N S sp xs (.inl r) N' S' M' → a_ex N N' S S' → aX l E P Q kc' ks' N' S' M' (pc + 3) lo (r.toList ++ st) := by
  intro r N' S' M' h _
  obtain ⟨g1, g2, g3, h1, h2, ⟨h3, h4⟩ | ⟨h3, h4⟩⟩ := h
  · cases h4; exact k N' S' M' h3 g1 g2 g3 h1 h2
  · cases h4
theorem n_opi {sp : Int × Int × aM} {xs : Int → Nat} (k : ∀ (N' : Nat) (S' : aS) (M' : aM), sp.1 ≠ 0 → N ≤ N' → N' ≤ N + 15 → (∀ k : Int, k < N → S' k = S k) → frC M M' → RC M' N' S' sp.2.2 → a_hnd P pc (xs sp.1) sp.1 ∧ Q (.inl (some (0, sp.1))) N' S' M') : ∀ (x9 N' : Nat) (S' : aS) (M' : aM), opCi M N S sp xs (.inr x9) N' S' M' → a_ex N N' S S' → ∃ c : Int, a_hnd P pc x9 c ∧ Q (.inl (some (0, c))) N' S' M' := by
  intro x9 N' S' M' h _
  obtain ⟨g1, g2, g3, h1, h2, ⟨h3, h4⟩ | ⟨h3, h4⟩⟩ := h
  · cases h4
  · cases h4; exact ⟨_, k N' S' M' h3 g1 g2 g3 h1 h2⟩
end AX10
