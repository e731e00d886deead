/-! DETERMINANTS -/
def sF (g : Nat → Int) : Nat → Int
  | 0 => 0
  | n + 1 => sF g n + g n
theorem sF_cg {g g' : Nat → Int} : ∀ n, (∀ i, i < n → g i = g' i) → sF g n = sF g' n
  | 0, _ => rfl
  | n + 1, h => by
    show sF g n + g n = sF g' n + g' n
    rw [sF_cg n fun i hi => h i (by omega), h n (by omega)]
theorem sF_0 {g : Nat → Int} : ∀ n, (∀ i, i < n → g i = 0) → sF g n = 0
  | 0, _ => rfl
  | n + 1, h => by
    show sF g n + g n = 0
    rw [sF_0 n fun i hi => h i (by omega), h n (by omega)]
    rfl
theorem sF_add {g g' : Nat → Int} : ∀ n, sF (fun i => g i + g' i) n = sF g n + sF g' n
  | 0 => rfl
  | n + 1 => by
    show sF (fun i => g i + g' i) n + (g n + g' n) = sF g n + g n + (sF g' n + g' n)
    rw [sF_add n]
    omega
theorem sF_mul {g : Nat → Int} (a : Int) : ∀ n, sF (fun i => a * g i) n = a * sF g n
  | 0 => (Int.mul_zero a).symm
  | n + 1 => by
    show sF (fun i => a * g i) n + a * g n = a * (sF g n + g n)
    rw [sF_mul a n, Int.mul_add]
theorem sF_one {g : Nat → Int} {k : Nat} : ∀ n, k < n → (∀ i, i < n → i ≠ k → g i = 0) → sF g n = g k
  | 0, h, _ => absurd h (by omega)
  | n + 1, hk, h => by
    show sF g n + g n = g k
    by_cases e : k = n
    · subst e
      rw [sF_0 k fun i hi => h i (by omega) (by omega)]
      omega
    · rw [sF_one n (by omega) fun i hi => h i (by omega), h n (by omega) (fun q => e q.symm)]
      omega
theorem sF_two {g : Nat → Int} {k l : Nat} : ∀ n, k < n → l < n → k ≠ l → (∀ i, i < n → i ≠ k → i ≠ l → g i = 0) → sF g n = g k + g l
  | 0, h, _, _, _ => absurd h (by omega)
  | n + 1, hk, hl, hkl, h => by
    show sF g n + g n = g k + g l
    by_cases e : k = n
    · subst e
      rw [sF_one (k := l) k (by omega) fun i hi hil => h i (by omega) (by omega) hil]
      omega
    · by_cases e2 : l = n
      · subst e2
        rw [sF_one (k := k) l (by omega) fun i hi hik => h i (by omega) hik (by omega)]
      · rw [sF_two n (by omega) (by omega) hkl fun i hi => h i (by omega), h n (by omega) (fun q => e q.symm) (fun q => e2 q.symm)]
        omega
def sg (i : Nat) : Int := if i % 2 = 0 then 1 else -1
theorem sg_1 (i : Nat) : sg (i + 1) = - sg i := by
  unfold sg
  by_cases e : i % 2 = 0
  · rw [if_pos e, if_neg (by omega)]
  · rw [if_neg e, if_pos (by omega)]
    rfl
def mi (f : Nat → Nat → Int) (i : Nat) : Nat → Nat → Int := fun r c => f (if r < i then r else r + 1) (c + 1)
def dt : Nat → (Nat → Nat → Int) → Int
  | 0, _ => 1
  | n + 1, f => sF (fun i => sg i * f i 0 * dt n (mi f i)) (n + 1)
def ur (f : Nat → Nat → Int) (k : Nat) (u : Nat → Int) : Nat → Nat → Int := fun r => if r = k then u else f r
theorem ur_s {f : Nat → Nat → Int} {k : Nat} {u : Nat → Int} : ur f k u k = u := if_pos rfl
theorem ur_n {f : Nat → Nat → Int} {k r : Nat} {u : Nat → Int} (h : r ≠ k) : ur f k u r = f r := if_neg h
theorem ur_self {f : Nat → Nat → Int} {k : Nat} : ur f k (f k) = f := by
  funext r
  by_cases e : r = k
  · rw [e, ur_s]
  · rw [ur_n e]
theorem ur_ur {f : Nat → Nat → Int} {k : Nat} {u v : Nat → Int} : ur (ur f k u) k v = ur f k v := by
  funext r
  by_cases e : r = k
  · rw [e, ur_s, ur_s]
  · rw [ur_n e, ur_n e, ur_n e]
theorem ur_cm {f : Nat → Nat → Int} {k l : Nat} {u v : Nat → Int} (h : k ≠ l) : ur (ur f k u) l v = ur (ur f l v) k u := by
  funext r
  by_cases e : r = k
  · subst e
    rw [ur_n h, ur_s, ur_s]
  · by_cases e2 : r = l
    · subst e2
      rw [ur_s, ur_n e, ur_s]
    · rw [ur_n e2, ur_n e, ur_n e, ur_n e2]
theorem mi_eq {f : Nat → Nat → Int} {i : Nat} {u : Nat → Int} : mi (ur f i u) i = mi f i := by
  funext r c
  show ur f i u (if r < i then r else r + 1) (c + 1) = f _ (c + 1)
  rw [ur_n (by split <;> omega)]
theorem mi_lt {f : Nat → Nat → Int} {i k : Nat} {u : Nat → Int} (h : k < i) : mi (ur f k u) i = ur (mi f i) k (fun c => u (c + 1)) := by
  funext r c
  show ur f k u (if r < i then r else r + 1) (c + 1) = _
  by_cases e : r = k
  · subst e
    rw [if_pos h, ur_s, ur_s]
  · rw [ur_n (by split <;> omega), ur_n e]
    rfl
theorem mi_gt {f : Nat → Nat → Int} {i k : Nat} {u : Nat → Int} (h : i < k) : mi (ur f k u) i = ur (mi f i) (k - 1) (fun c => u (c + 1)) := by
  funext r c
  show ur f k u (if r < i then r else r + 1) (c + 1) = _
  by_cases e : r = k - 1
  · subst e
    rw [if_neg (by omega), show k - 1 + 1 = k by omega, ur_s, ur_s]
  · rw [ur_n (by split <;> omega), ur_n e]
    rfl
theorem dt_cg : ∀ (n : Nat) (f g : Nat → Nat → Int), (∀ r c, r < n → c < n → f r c = g r c) → dt n f = dt n g
  | 0, _, _, _ => rfl
  | n + 1, f, g, h => by
    show sF _ (n + 1) = sF _ (n + 1)
    refine sF_cg _ fun i hi => ?_
    rw [h i 0 hi (by omega), dt_cg n (mi f i) (mi g i) fun r c hr hc => h _ _ (by split <;> omega) (by omega)]
theorem dt_lin : ∀ (n : Nat) (f : Nat → Nat → Int) (k : Nat) (u v : Nat → Int) (a b : Int), k < n → dt n (ur f k (fun c => a * u c + b * v c)) = a * dt n (ur f k u) + b * dt n (ur f k v)
  | 0, _, _, _, _, _, _, h => absurd h (by omega)
  | n + 1, f, k, u, v, a, b, h => by
    show sF _ (n + 1) = a * sF _ (n + 1) + b * sF _ (n + 1)
    rw [← sF_mul, ← sF_mul, ← sF_add]
    refine sF_cg _ fun i hi => ?_
    by_cases e : i = k
    · subst e
      rw [mi_eq, mi_eq, mi_eq, ur_s, ur_s, ur_s]
      grind
    · rw [ur_n e, ur_n e, ur_n e]
      by_cases e2 : k < i
      · rw [mi_lt e2, mi_lt e2, mi_lt e2, dt_lin n (mi f i) k (fun c => u (c + 1)) (fun c => v (c + 1)) a b (by omega)]
        grind
      · rw [mi_gt (by omega), mi_gt (by omega), mi_gt (by omega), dt_lin n (mi f i) (k - 1) (fun c => u (c + 1)) (fun c => v (c + 1)) a b (by omega)]
        grind
theorem dt_adj : ∀ (n : Nat) (f : Nat → Nat → Int) (k : Nat), k + 1 < n → f k = f (k + 1) → dt n f = 0
  | 0, _, _, h, _ => absurd h (by omega)
  | n + 1, f, k, h, e => by
    show sF _ (n + 1) = 0
    rw [sF_two (k := k) (l := k + 1) (n + 1) (by omega) h (by omega) fun i hi h1 h2 => ?_]
    · have em : mi f k = mi f (k + 1) := by
        funext r c
        show f (if r < k then r else r + 1) (c + 1) = f (if r < k + 1 then r else r + 1) (c + 1)
        by_cases e1 : r < k
        · rw [if_pos e1, if_pos (by omega)]
        · rw [if_neg e1]
          by_cases e2 : r = k
          · subst e2
            rw [if_pos (by omega), e]
          · rw [if_neg (by omega)]
      rw [em, sg_1, e]
      grind
    · have z : dt n (mi f i) = 0 := by
        by_cases e1 : i < k
        · refine dt_adj n (mi f i) (k - 1) (by omega) ?_
          funext c
          show f (if k - 1 < i then k - 1 else k - 1 + 1) (c + 1) = f (if k - 1 + 1 < i then k - 1 + 1 else k - 1 + 1 + 1) (c + 1)
          rw [if_neg (by omega), if_neg (by omega), show k - 1 + 1 = k by omega, e]
        · refine dt_adj n (mi f i) k (by omega) ?_
          funext c
          show f (if k < i then k else k + 1) (c + 1) = f (if k + 1 < i then k + 1 else k + 1 + 1) (c + 1)
          rw [if_pos (by omega), if_pos (by omega), e]
      rw [z, Int.mul_zero]
theorem dt_add (n : Nat) (f : Nat → Nat → Int) (k : Nat) (u v : Nat → Int) (h : k < n) : dt n (ur f k (fun c => u c + v c)) = dt n (ur f k u) + dt n (ur f k v) := by
  have := dt_lin n f k u v 1 1 h
  simp only [Int.one_mul] at this
  exact this
theorem dt_smul (n : Nat) (f : Nat → Nat → Int) (k : Nat) (u : Nat → Int) (a : Int) (h : k < n) : dt n (ur f k (fun c => a * u c)) = a * dt n (ur f k u) := by
  have := dt_lin n f k u u a 0 h
  simp only [Int.zero_mul, Int.add_zero] at this
  exact this
/-- two rows equal where any two such are: their exchange turns the sign -/
theorem dt_sw0 {n : Nat} {i j : Nat} (hi : i < n) (hj : j < n) (hij : i ≠ j) (H : ∀ (f : Nat → Nat → Int), f i = f j → dt n f = 0) (f : Nat → Nat → Int) (u v : Nat → Int) : dt n (ur (ur f i u) j v) = - dt n (ur (ur f i v) j u) := by
  have z : ∀ x : Nat → Int, dt n (ur (ur f i x) j x) = 0 := fun x => H _ (by rw [ur_n hij, ur_s, ur_s])
  have h0 := z (fun c => u c + v c)
  rw [dt_add n _ j u v hj, ur_cm hij, dt_add n _ i u v hi, ur_cm (u := fun c => u c + v c) hij, dt_add n _ i u v hi, ← ur_cm hij, ← ur_cm hij, ← ur_cm hij, ← ur_cm hij, z u, z v] at h0
  omega
theorem dt_eq : ∀ (d n : Nat) (f : Nat → Nat → Int) (i : Nat), i + d + 1 < n → f i = f (i + d + 1) → dt n f = 0
  | 0, n, f, i, h, e => dt_adj n f i h e
  | d + 1, n, f, i, h, e => by
    have s := dt_sw0 (n := n) (i := i + d + 1) (j := i + d + 1 + 1) (by omega) (by omega) (by omega) (fun g hg => dt_adj n g (i + d + 1) (by omega) hg) f (f (i + d + 1)) (f (i + d + 1 + 1))
    rw [ur_self, ur_self] at s
    rw [s]
    have z : dt n (ur (ur f (i + d + 1) (f (i + d + 1 + 1))) (i + d + 1 + 1) (f (i + d + 1))) = 0 := by
      refine dt_eq d n _ i (by omega) ?_
      rw [ur_n (by omega), ur_n (by omega), ur_n (by omega), ur_s]
      exact e
    rw [z]
    rfl
theorem dt_two {n : Nat} (f : Nat → Nat → Int) {i j : Nat} (hi : i < n) (hj : j < n) (hij : i ≠ j) (e : f i = f j) : dt n f = 0 := by
  by_cases h : i < j
  · exact dt_eq (j - i - 1) n f i (by omega) (by rw [show i + (j - i - 1) + 1 = j by omega]; exact e)
  · exact dt_eq (i - j - 1) n f j (by omega) (by rw [show j + (i - j - 1) + 1 = i by omega]; exact e.symm)
theorem dt_dup {n : Nat} (f : Nat → Nat → Int) {k l : Nat} (hk : k < n) (hl : l < n) (h : k ≠ l) : dt n (ur f k (f l)) = 0 := dt_two _ hk hl h (by rw [ur_s, ur_n (Ne.symm h)])
theorem dt_sw {n : Nat} {i j : Nat} (hi : i < n) (hj : j < n) (hij : i ≠ j) (f : Nat → Nat → Int) (u v : Nat → Int) : dt n (ur (ur f i u) j v) = - dt n (ur (ur f i v) j u) := dt_sw0 hi hj hij (fun f e => dt_two f hi hj hij e) f u v
theorem dt_zero {n : Nat} (f : Nat → Nat → Int) {k : Nat} (h : k < n) : dt n (ur f k (fun _ => 0)) = 0 := by
  have := dt_smul n f k (fun _ => 0) 0 h
  simp only [Int.zero_mul] at this
  exact this
theorem dt_sum {n : Nat} (f : Nat → Nat → Int) {k : Nat} (h : k < n) (x : Nat → Int) (V : Nat → Nat → Int) : ∀ m, dt n (ur f k (fun c => sF (fun l => x l * V l c) m)) = sF (fun l => x l * dt n (ur f k (V l))) m
  | 0 => dt_zero f h
  | m + 1 => by
    show dt n (ur f k (fun c => sF (fun l => x l * V l c) m + x m * V m c)) = sF _ m + x m * dt n (ur f k (V m))
    rw [dt_add n f k _ _ h, dt_sum f h x V m, dt_smul n f k _ _ h]
/-- the rows span: each vector is told by them -/
def Spn (n : Nat) (B : Nat → Nat → Int) : Prop := ∀ (u : Nat → Int) (c : Nat), c < n → dt n B * u c = sF (fun k => dt n (ur B k u) * B k c) n
theorem dt_pl {n : Nat} {B : Nat → Nat → Int} (hS : Spn n B) {j k : Nat} (hj : j < n) (hk : k < n) (hjk : j ≠ k) (a u : Nat → Int) : dt n B * dt n (ur (ur B j a) k u) = dt n (ur B j a) * dt n (ur B k u) - dt n (ur B j u) * dt n (ur B k a) := by
  rw [← dt_smul n _ k _ _ hk]
  rw [dt_cg n _ (ur (ur B j a) k (fun c => sF (fun l => dt n (ur B l u) * B l c) n)) fun r c hr hc => ?_]
  · rw [dt_sum _ hk, sF_two (k := k) (l := j) n hk hj (Ne.symm hjk) fun i hi h1 h2 => ?_]
    · rw [show ur (ur B j a) k (B k) = ur B j a by
        have e : ur (ur B j a) k ((ur B j a) k) = ur B j a := ur_self
        rwa [ur_n (Ne.symm hjk)] at e]
      rw [dt_sw hj hk hjk B a (B j), ur_self]
      grind
    · rw [show dt n (ur (ur B j a) k (B i)) = 0 from dt_two _ hk hi (Ne.symm h1) (by rw [ur_s, ur_n h1, ur_n h2]), Int.mul_zero]
  · by_cases e : r = k
    · subst e
      rw [ur_s, ur_s]
      exact hS u c hc
    · rw [ur_n e, ur_n e]
theorem Spn.st {n : Nat} {B : Nat → Nat → Int} (hS : Spn n B) (h0 : dt n B ≠ 0) {j : Nat} (hj : j < n) (a : Nat → Int) : Spn n (ur B j a) := by
  intro u c hc
  have key : dt n B * sF (fun k => dt n (ur (ur B j a) k u) * (ur B j a) k c) n = dt n B * (dt n (ur B j a) * u c) := by
    rw [← sF_mul]
    have e : ∀ k, k < n → dt n B * (dt n (ur (ur B j a) k u) * (ur B j a) k c) = (dt n (ur B j a) * (dt n (ur B k u) * B k c) + (- dt n (ur B j u)) * (dt n (ur B k a) * B k c)) + (if k = j then dt n (ur B j u) * (dt n B * a c) else 0) := fun k hk => by
      by_cases e : k = j
      · subst e
        rw [if_pos rfl, ur_ur, ur_s]
        grind
      · have z := dt_pl hS hj hk (Ne.symm e) a u
        rw [if_neg e, ur_n e, ← Int.mul_assoc, z]
        grind
    rw [sF_cg n e, sF_add, sF_add, sF_mul, sF_mul, ← hS u c hc, ← hS a c hc, sF_one (k := j) n hj fun i _ h => if_neg h, if_pos rfl]
    grind
  exact (Int.eq_of_mul_eq_mul_left h0 key).symm
def iM : Nat → Nat → Int := fun r c => if r = c then 1 else 0
theorem dt_id : ∀ n, dt n iM = 1
  | 0 => rfl
  | n + 1 => by
    show sF _ (n + 1) = 1
    rw [sF_one (k := 0) (n + 1) (by omega) fun i hi h => by
      rw [show iM i 0 = 0 from if_neg h, Int.mul_zero, Int.zero_mul]]
    rw [show mi iM 0 = iM by
      funext r c
      show iM (if r < 0 then r else r + 1) (c + 1) = iM r c
      rw [if_neg (by omega)]
      unfold iM
      by_cases e : r = c
      · rw [if_pos (by omega), if_pos e]
      · rw [if_neg (by omega), if_neg e], dt_id n]
    rfl
theorem dt_idu {n k : Nat} (hk : k < n) (u : Nat → Int) : dt n (ur iM k u) = u k := by
  rw [dt_cg n _ (ur iM k (fun c => sF (fun l => u l * iM l c) n)) fun r c hr hc => ?_]
  · rw [dt_sum _ hk, sF_one (k := k) n hk fun i hi h => by rw [dt_dup iM hk hi (Ne.symm h), Int.mul_zero], ur_self, dt_id, Int.mul_one]
  · by_cases e : r = k
    · subst e
      rw [ur_s, ur_s, sF_one (k := c) n hc fun i hi h => by rw [show iM i c = 0 from if_neg h, Int.mul_zero], show iM c c = 1 from if_pos rfl, Int.mul_one]
    · rw [ur_n e, ur_n e]
theorem Spn_id (n : Nat) : Spn n iM := fun u c hc => by
  rw [dt_id, Int.one_mul, sF_one (k := c) n hc fun i hi h => by rw [show iM i c = 0 from if_neg h, Int.mul_zero], show iM c c = 1 from if_pos rfl, Int.mul_one, dt_idu hc]
/-! how great a determinant may be -/
def fac : Nat → Nat
  | 0 => 1
  | n + 1 => (n + 1) * fac n
theorem sF_bd {g : Nat → Int} {X : Nat} : ∀ n, (∀ i, i < n → (g i).natAbs ≤ X) → (sF g n).natAbs ≤ n * X
  | 0, _ => by show (0 : Int).natAbs ≤ _; omega
  | n + 1, h => by
    show (sF g n + g n).natAbs ≤ _
    have h1 := sF_bd n fun i hi => h i (by omega)
    have h2 := h n (by omega)
    have h3 := Int.natAbs_add_le (sF g n) (g n)
    rw [Nat.add_mul, Nat.one_mul]
    omega
theorem sg_bd (i : Nat) : (sg i).natAbs = 1 := by
  unfold sg
  split <;> rfl
theorem dt_bd {C : Nat} : ∀ (n : Nat) (f : Nat → Nat → Int), (∀ r c, r < n + 1 → c < n → (f r c).natAbs ≤ 1) → (∀ r, r < n + 1 → (f r n).natAbs ≤ C) → (dt (n + 1) f).natAbs ≤ fac (n + 1) * C
  | 0, f, _, h => by
    have := h 0 (by omega)
    show (0 + sg 0 * f 0 0 * 1).natAbs ≤ _
    rw [Int.zero_add, Int.mul_one, Int.natAbs_mul, sg_bd, Nat.one_mul]
    show _ ≤ 1 * 1 * C
    omega
  | n + 1, f, h, h2 => by
    show (sF _ (n + 2)).natAbs ≤ (n + 2) * fac (n + 1) * C
    rw [Nat.mul_assoc]
    refine sF_bd (n + 2) fun i hi => ?_
    have h3 := dt_bd n (mi f i) (fun r c hr hc => h _ _ (by split <;> omega) (by omega)) fun r hr => h2 _ (by split <;> omega)
    have h4 := h i 0 hi (by omega)
    rw [Int.natAbs_mul, Int.natAbs_mul, sg_bd, Nat.one_mul]
    calc (f i 0).natAbs * (dt (n + 1) (mi f i)).natAbs ≤ 1 * (dt (n + 1) (mi f i)).natAbs := Nat.mul_le_mul_right _ h4
      _ ≤ fac (n + 1) * C := by rw [Nat.one_mul]; exact h3
