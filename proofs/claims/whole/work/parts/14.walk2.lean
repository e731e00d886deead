/-! loads whose value is given another form -/
section AX9
variable {l : Launch} {E : aE} {P : aP} {Q : aQ} {kc ks N : Nat} {S : aS} {M : aM} {pc : Nat} {lo : List (Nat × aV)} {st : List aV}
theorem x_ialoadV {a n i v : Int} {r : Int → Int} (hd : decode P.2.1 pc = .ok (.iaload, 1)) (hS : S a = (13, n, r)) (h : 0 ≤ i ∧ i < n) (hv : M a i = v)
    (k : -2147483648 ≤ v ∧ v ≤ 2147483647 → aX l E P Q kc ks N S M (pc + 1) lo ((0, v) :: st)) : aX l E P Q kc ks N S M pc lo ((0, i) :: (2, a) :: st) := by
  subst hv
  exact x_iaload hd hS h k
theorem x_laloadV {a n i v : Int} {r : Int → Int} (hd : decode P.2.1 pc = .ok (.laload, 1)) (hS : S a = (14, n, r)) (h : 0 ≤ i ∧ i < n) (hv : M a i = v)
    (k : -9223372036854775808 ≤ v ∧ v ≤ 9223372036854775807 → aX l E P Q kc ks N S M (pc + 1) lo ((1, v) :: st)) : aX l E P Q kc ks N S M pc lo ((0, i) :: (2, a) :: st) := by
  subst hv
  exact x_laload hd hS h k
theorem x_baloadV {a n i v : Int} {r : Int → Int} (hd : decode P.2.1 pc = .ok (.baload, 1)) (hS : S a = (12, n, r)) (h : 0 ≤ i ∧ i < n) (hv : M a i = v)
    (k : aX l E P Q kc ks N S M (pc + 1) lo ((0, v) :: st)) : aX l E P Q kc ks N S M pc lo ((0, i) :: (2, a) :: st) := by
  subst hv
  exact x_baload hd hS h k
theorem x_zaloadV {a n i v : Int} {r : Int → Int} (hd : decode P.2.1 pc = .ok (.baload, 1)) (hS : S a = (15, n, r)) (h : 0 ≤ i ∧ i < n) (hv : M a i = v)
    (k : aX l E P Q kc ks N S M (pc + 1) lo ((0, v) :: st)) : aX l E P Q kc ks N S M pc lo ((0, i) :: (2, a) :: st) := by
  subst hv
  exact x_zaload hd hS h k
theorem x_getIV {i ci j : Nat} {jj v : Int} {t : FieldType} {fin : Bool} {a n : Int} {r : Int → Int} (hd : decode P.2.1 pc = .ok (.getfield i, 3)) (hf : a_fl P.1.cls i ci j t fin) (hS : S a = (ci, n, r)) (hjj : (j : Int) = jj) (hj : jj < n) (ht : a_FT ci j = 0) (hv : M a jj = v)
    (k : aX l E P Q kc ks N S M (pc + 3) lo ((0, v) :: st)) : aX l E P Q kc ks N S M pc lo ((2, a) :: st) := by
  subst hv
  exact x_getI hd hf hS hjj hj ht k
theorem x_getJV {i ci j : Nat} {jj v : Int} {t : FieldType} {fin : Bool} {a n : Int} {r : Int → Int} (hd : decode P.2.1 pc = .ok (.getfield i, 3)) (hf : a_fl P.1.cls i ci j t fin) (hS : S a = (ci, n, r)) (hjj : (j : Int) = jj) (hj : jj < n) (ht : a_FT ci j = 1) (hv : M a jj = v)
    (k : aX l E P Q kc ks N S M (pc + 3) lo ((1, v) :: st)) : aX l E P Q kc ks N S M pc lo ((2, a) :: st) := by
  subst hv
  exact x_getJ hd hf hS hjj hj ht k
/-- the memory under another name -/
theorem x_mem {M' : aM} (h : M = M') (k : aX l E P Q kc ks N S M' pc lo st) : aX l E P Q kc ks N S M pc lo st := h ▸ k
theorem x_memI (k : ∀ M', M' = M → aX l E P Q kc ks N S M' pc lo st) : aX l E P Q kc ks N S M pc lo st := k M rfl
/-- what is known of the top of the stack -/
theorem x_top {t : Nat} {n : Int} (h9 : t = 0) (k : -2147483648 ≤ n ∧ n ≤ 2147483647 → aX l E P Q kc ks N S M pc lo ((t, n) :: st)) : aX l E P Q kc ks N S M pc lo ((t, n) :: st) := by
  subst h9
  intro p e s m args below meth c H locs ls ad0 ad N0 S0 B w x hS hl h1 h2
  exact k (a_hd h1) p e s m args below meth c H locs ls ad0 ad N0 S0 B w x hS hl h1 h2
theorem x_topl {t : Nat} {n : Int} (h9 : t = 1) (k : -9223372036854775808 ≤ n ∧ n ≤ 9223372036854775807 → aX l E P Q kc ks N S M pc lo ((t, n) :: st)) : aX l E P Q kc ks N S M pc lo ((t, n) :: st) := by
  subst h9
  intro p e s m args below meth c H locs ls ad0 ad N0 S0 B w x hS hl h1 h2
  exact k (a_hd h1) p e s m args below meth c H locs ls ad0 ad N0 S0 B w x hS hl h1 h2
/-- what is known of a local -/
theorem x_loc {i : Nat} {n : Int} (hv : a_lk lo i = some (0, n)) (k : -2147483648 ≤ n ∧ n ≤ 2147483647 → aX l E P Q kc ks N S M pc lo st) : aX l E P Q kc ks N S M pc lo st := by
  intro p e s m args below meth c H locs ls ad0 ad N0 S0 B w x hS hl h1 h2
  exact k (h2 _ (a_lk_mem hv)) p e s m args below meth c H locs ls ad0 ad N0 S0 B w x hS hl h1 h2
theorem x_locl {i : Nat} {n : Int} (hv : a_lk lo i = some (1, n)) (k : -9223372036854775808 ≤ n ∧ n ≤ 9223372036854775807 → aX l E P Q kc ks N S M pc lo st) : aX l E P Q kc ks N S M pc lo st := by
  intro p e s m args below meth c H locs ls ad0 ad N0 S0 B w x hS hl h1 h2
  exact k (h2 _ (a_lk_mem hv)) p e s m args below meth c H locs ls ad0 ad N0 S0 B w x hS hl h1 h2
end AX9
/-- answers whether c -/
def aB (c : Prop) (N : Nat) (S : aS) (M : aM) : aQ := fun o N' S' M' => ∃ v : Int, o = .inl (some (0, v)) ∧ ((c ∧ v = 1) ∨ (¬ c ∧ v = 0)) ∧ N' = N ∧ S' = S ∧ M' = M
section AX10
variable {l : Launch} {E : aE} {P : aP} {Q : aQ} {kc ks N : Nat} {S : aS} {M : aM} {pc : Nat} {lo : List (Nat × aV)} {st : List aV}
theorem x_lconst0 (hd : decode P.2.1 pc = .ok (.lconst 0, 1)) (k : aX l E P Q kc ks N S M (pc + 1) lo ((1, 0) :: st)) : aX l E P Q kc ks N S M pc lo st := x_lconst hd k
theorem x_lconst1 (hd : decode P.2.1 pc = .ok (.lconst 1, 1)) (k : aX l E P Q kc ks N S M (pc + 1) lo ((1, 1) :: st)) : aX l E P Q kc ks N S M pc lo st := x_lconst hd k
theorem k_B {P' : aP} {c : Prop} (k1 : c → aX l E P Q (kc + P'.2.2.2.2.1.cells) (ks + P'.2.2.2.2.1.slots) N S M (pc + 3) lo ((0, 1) :: st)) (k0 : ¬ c → aX l E P Q (kc + P'.2.2.2.2.1.cells) (ks + P'.2.2.2.2.1.slots) N S M (pc + 3) lo ((0, 0) :: st)) : ∀ (r : Option aV) (N' : Nat) (S' : aS) (M' : aM), aB c N S M (.inl r) N' S' M' → a_ex N N' S S' → aX l E P Q (kc + P'.2.2.2.2.1.cells) (ks + P'.2.2.2.2.1.slots) N' S' M' (pc + 3) lo (r.toList ++ st) := by
  intro r N' S' M' h _
  obtain ⟨v, e, h, rfl, rfl, rfl⟩ := h
  cases e
  rcases h with ⟨hc, rfl⟩ | ⟨hc, rfl⟩
  · exact k1 hc
  · exact k0 hc
theorem n_B {c : Prop} : ∀ (x9 N' : Nat) (S' : aS) (M' : aM), aB c N S M (.inr x9) N' S' M' → a_ex N N' S S' → Q (.inr x9) N' S' M' := by
  intro x9 N' S' M' h _
  obtain ⟨v, e, -⟩ := h
  cases e
theorem b_1 {c : Prop} (h : c) : aB c N S M (.inl (some (0, 1))) N S M := ⟨1, rfl, Or.inl ⟨h, rfl⟩, rfl, rfl, rfl⟩
theorem b_0 {c : Prop} (h : ¬ c) : aB c N S M (.inl (some (0, 0))) N S M := ⟨0, rfl, Or.inr ⟨h, rfl⟩, rfl, rfl, rfl⟩
end AX10
