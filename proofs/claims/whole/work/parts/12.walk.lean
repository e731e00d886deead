/-! what the walks use: fields by kind, answers of calls -/
section AX7
variable {l : Launch} {E : aE} {P : aP} {Q : aQ} {kc ks N : Nat} {S : aS} {M : aM} {pc : Nat} {lo : List (Nat × aV)} {st : List aV}
theorem x_getI {i ci j : Nat} {jj : Int} {t : FieldType} {fin : Bool} {a n : Int} {r : Int → Int} (hd : decode P.2.1 pc = .ok (.getfield i, 3)) (hf : a_fl P.1.cls i ci j t fin) (hS : S a = (ci, n, r)) (hjj : (j : Int) = jj) (hj : jj < n) (ht : a_FT ci j = 0)
    (k : aX l E P Q kc ks N S M (pc + 3) lo ((0, M a jj) :: st)) : aX l E P Q kc ks N S M pc lo ((2, a) :: st) := by
  subst hjj
  exact x_getfield hd hf hS hj ht (by decide) (by rw [if_neg (by decide)]) k
theorem x_getJ {i ci j : Nat} {jj : Int} {t : FieldType} {fin : Bool} {a n : Int} {r : Int → Int} (hd : decode P.2.1 pc = .ok (.getfield i, 3)) (hf : a_fl P.1.cls i ci j t fin) (hS : S a = (ci, n, r)) (hjj : (j : Int) = jj) (hj : jj < n) (ht : a_FT ci j = 1)
    (k : aX l E P Q kc ks N S M (pc + 3) lo ((1, M a jj) :: st)) : aX l E P Q kc ks N S M pc lo ((2, a) :: st) := by
  subst hjj
  exact x_getfield hd hf hS hj ht (by decide) (by rw [if_neg (by decide)]) k
theorem x_getR {i ci j : Nat} {jj v : Int} {t : FieldType} {fin : Bool} {a n : Int} {r : Int → Int} (hd : decode P.2.1 pc = .ok (.getfield i, 3)) (hf : a_fl P.1.cls i ci j t fin) (hS : S a = (ci, n, r)) (hjj : (j : Int) = jj) (hj : jj < n) (ht : a_FT ci j = 2) (hv : r jj = v)
    (k : aX l E P Q kc ks N S M (pc + 3) lo ((2, v) :: st)) : aX l E P Q kc ks N S M pc lo ((2, a) :: st) := by
  subst hjj
  exact x_getfield hd hf hS hj ht (by decide) (by rw [if_pos rfl]; exact hv) k
theorem x_putI {i ci j : Nat} {jj : Int} {a n v : Int} {r : Int → Int} (hd : decode P.2.1 pc = .ok (.putfield i, 3)) (hf : a_fl P.1.cls i ci j .int false) (hS : S a = (ci, n, r)) (hjj : (j : Int) = jj) (hj : jj < n) (ht : a_FT ci j = 0)
    (k : aX l E P Q kc ks N S (up M a jj v) (pc + 3) lo st) : aX l E P Q kc ks N S M pc lo ((0, v) :: (2, a) :: st) := by
  subst hjj
  exact x_putfield hd hf hS hj ht k
theorem x_putZ {i ci j : Nat} {jj : Int} {a n v : Int} {r : Int → Int} (hd : decode P.2.1 pc = .ok (.putfield i, 3)) (hf : a_fl P.1.cls i ci j .boolean false) (hS : S a = (ci, n, r)) (hjj : (j : Int) = jj) (hj : jj < n) (ht : a_FT ci j = 0) (hv : v = 0 ∨ v = 1)
    (k : aX l E P Q kc ks N S (up M a jj v) (pc + 3) lo st) : aX l E P Q kc ks N S M pc lo ((0, v) :: (2, a) :: st) := by
  subst hjj
  exact x_putfieldZ hd hf hS hj ht hv k
theorem x_putJ {i ci j : Nat} {jj : Int} {a n v : Int} {r : Int → Int} (hd : decode P.2.1 pc = .ok (.putfield i, 3)) (hf : a_fl P.1.cls i ci j .long false) (hS : S a = (ci, n, r)) (hjj : (j : Int) = jj) (hj : jj < n) (ht : a_FT ci j = 1)
    (k : aX l E P Q kc ks N S (up M a jj v) (pc + 3) lo st) : aX l E P Q kc ks N S M pc lo ((1, v) :: (2, a) :: st) := by
  subst hjj
  exact x_putfieldJ hd hf hS hj ht k
end AX7
/-- answers v, and nothing has changed -/
def aR (v : aV) (N : Nat) (S : aS) (M : aM) : aQ := fun o N' S' M' => o = .inl (some v) ∧ N' = N ∧ S' = S ∧ M' = M
/-- answers v with post, no new cells -/
def aG (N : Nat) (S : aS) (post : aV → aM → Prop) : aQ := fun o N' S' M' => ∃ v, o = .inl (some v) ∧ N' = N ∧ S' = S ∧ post v M'
/-- ends with post, no new cells -/
def aU (N : Nat) (S : aS) (post : aM → Prop) : aQ := fun o N' S' M' => o = .inl none ∧ N' = N ∧ S' = S ∧ post M'
/-! loops by a measure -/
theorem a_loop1 {α : Type} (I : α → Prop) (μ : α → Nat) (T : α → Prop) (step : ∀ a, I a → (∀ a', I a' → μ a' < μ a → T a') → T a) : ∀ a, I a → T a := by
  have h : ∀ n a, μ a < n → I a → T a := by
    intro n
    induction n with
    | zero => exact fun a h => absurd h (Nat.not_lt_zero _)
    | succ n ih => exact fun a h hI => step a hI fun a' hI' hm => ih a' (Nat.lt_of_lt_of_le hm (Nat.le_of_lt_succ h)) hI'
  exact fun a hI => h _ a (Nat.lt_succ_self _) hI
theorem a_loop2 {α β : Type} (I : α → β → Prop) (μ : α → β → Nat) (T : α → β → Prop) (step : ∀ a b, I a b → (∀ a' b', I a' b' → μ a' b' < μ a b → T a' b') → T a b) : ∀ a b, I a b → T a b :=
  fun a b h => a_loop1 (fun q : α × β => I q.1 q.2) (fun q => μ q.1 q.2) (fun q => T q.1 q.2) (fun q hI ih => step q.1 q.2 hI fun a' b' hI' hm => ih (a', b') hI' hm) (a, b) h
theorem a_loop3 {α β γ : Type} (I : α → β → γ → Prop) (μ : α → β → γ → Nat) (T : α → β → γ → Prop) (step : ∀ a b c, I a b c → (∀ a' b' c', I a' b' c' → μ a' b' c' < μ a b c → T a' b' c') → T a b c) : ∀ a b c, I a b c → T a b c :=
  fun a b c h => a_loop1 (fun q : α × β × γ => I q.1 q.2.1 q.2.2) (fun q => μ q.1 q.2.1 q.2.2) (fun q => T q.1 q.2.1 q.2.2) (fun q hI ih => step q.1 q.2.1 q.2.2 hI fun a' b' c' hI' hm => ih (a', b', c') hI' hm) (a, b, c) h
theorem a_loop4 {α β γ δ : Type} (I : α → β → γ → δ → Prop) (μ : α → β → γ → δ → Nat) (T : α → β → γ → δ → Prop) (step : ∀ a b c d, I a b c d → (∀ a' b' c' d', I a' b' c' d' → μ a' b' c' d' < μ a b c d → T a' b' c' d') → T a b c d) : ∀ a b c d, I a b c d → T a b c d :=
  fun a b c d h => a_loop1 (fun q : α × β × γ × δ => I q.1 q.2.1 q.2.2.1 q.2.2.2) (fun q => μ q.1 q.2.1 q.2.2.1 q.2.2.2) (fun q => T q.1 q.2.1 q.2.2.1 q.2.2.2) (fun q hI ih => step q.1 q.2.1 q.2.2.1 q.2.2.2 hI fun a' b' c' d' hI' hm => ih (a', b', c', d') hI' hm) (a, b, c, d) h
/-! calls whose answer or end is of a plain form -/
section AX8
variable {l : Launch} {E : aE} {P : aP} {Q : aQ} {kc ks N : Nat} {S : aS} {M : aM} {pc : Nat} {lo : List (Nat × aV)} {st : List aV}
/-- what goes on behind a call that answers v and changes nothing -/
theorem k_R {P' : aP} {v : aV} (k : aX l E P Q (kc + P'.2.2.2.2.1.cells) (ks + P'.2.2.2.2.1.slots) N S M (pc + 3) lo (v :: st)) : ∀ (r : Option aV) (N' : Nat) (S' : aS) (M' : aM), aR v N S M (.inl r) N' S' M' → a_ex N N' S S' → aX l E P Q (kc + P'.2.2.2.2.1.cells) (ks + P'.2.2.2.2.1.slots) N' S' M' (pc + 3) lo (r.toList ++ st) := by
  intro r N' S' M' h _
  obtain ⟨e, rfl, rfl, rfl⟩ := h
  cases e
  exact k
theorem n_R {v : aV} : ∀ (x9 N' : Nat) (S' : aS) (M' : aM), aR v N S M (.inr x9) N' S' M' → a_ex N N' S S' → Q (.inr x9) N' S' M' := by
  intro x9 N' S' M' h _
  cases h.1
theorem k_G {P' : aP} {post : aV → aM → Prop} (k : ∀ v M', post v M' → aX l E P Q (kc + P'.2.2.2.2.1.cells) (ks + P'.2.2.2.2.1.slots) N S M' (pc + 3) lo (v :: st)) : ∀ (r : Option aV) (N' : Nat) (S' : aS) (M' : aM), aG N S post (.inl r) N' S' M' → a_ex N N' S S' → aX l E P Q (kc + P'.2.2.2.2.1.cells) (ks + P'.2.2.2.2.1.slots) N' S' M' (pc + 3) lo (r.toList ++ st) := by
  intro r N' S' M' h _
  obtain ⟨v, e, rfl, rfl, hp⟩ := h
  cases e
  exact k v M' hp
theorem n_G {post : aV → aM → Prop} : ∀ (x9 N' : Nat) (S' : aS) (M' : aM), aG N S post (.inr x9) N' S' M' → a_ex N N' S S' → Q (.inr x9) N' S' M' := by
  intro x9 N' S' M' h _
  obtain ⟨v, e, -⟩ := h
  cases e
theorem k_U {P' : aP} {post : aM → Prop} (k : ∀ M', post M' → aX l E P Q (kc + P'.2.2.2.2.1.cells) (ks + P'.2.2.2.2.1.slots) N S M' (pc + 3) lo st) : ∀ (r : Option aV) (N' : Nat) (S' : aS) (M' : aM), aU N S post (.inl r) N' S' M' → a_ex N N' S S' → aX l E P Q (kc + P'.2.2.2.2.1.cells) (ks + P'.2.2.2.2.1.slots) N' S' M' (pc + 3) lo (r.toList ++ st) := by
  intro r N' S' M' h _
  obtain ⟨e, rfl, rfl, hp⟩ := h
  cases e
  exact k M' hp
theorem n_U {post : aM → Prop} : ∀ (x9 N' : Nat) (S' : aS) (M' : aM), aU N S post (.inr x9) N' S' M' → a_ex N N' S S' → Q (.inr x9) N' S' M' := by
  intro x9 N' S' M' h _
  cases h.1
end AX8
