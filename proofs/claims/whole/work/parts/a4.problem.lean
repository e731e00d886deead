/-! THE PROBLEM of a set: its households are columns, its sets with costs rows -/
def pkN (p : Int → Bool) : Nat → Nat
  | 0 => 0
  | n + 1 => if p n = true then pkN p n + 1 else pkN p n
def pkS (p : Int → Bool) : Nat → Nat → Int
  | 0, _ => 0
  | n + 1, i => if p n = true ∧ i = pkN p n then (n : Int) else pkS p n i
theorem pkN_y {p : Int → Bool} {n : Nat} (h : p n = true) : pkN p (n + 1) = pkN p n + 1 := if_pos h
theorem pkN_n {p : Int → Bool} {n : Nat} (h : ¬ p n = true) : pkN p (n + 1) = pkN p n := if_neg h
theorem pkS_st {p : Int → Bool} {n i : Nat} (h : i < pkN p n) : pkS p (n + 1) i = pkS p n i := if_neg (fun q => by omega)
theorem pkS_new {p : Int → Bool} {n : Nat} (h : p n = true) : pkS p (n + 1) (pkN p n) = n := if_pos ⟨h, rfl⟩
theorem pkN_le {p : Int → Bool} : ∀ n, pkN p n ≤ n
  | 0 => Nat.le_refl _
  | n + 1 => by
    have := pkN_le (p := p) n
    by_cases c : p n = true
    · rw [pkN_y c]; omega
    · rw [pkN_n c]; omega
theorem pkN_up {p : Int → Bool} (n : Nat) : ∀ d, pkN p n ≤ pkN p (n + d)
  | 0 => Nat.le_refl _
  | d + 1 => by
    have := pkN_up (p := p) n d
    show _ ≤ pkN p (n + d + 1)
    by_cases c : p ((n + d : Nat) : Int) = true
    · rw [pkN_y c]; omega
    · rw [pkN_n c]; omega
theorem pkN_mn {p q : Int → Bool} : ∀ n : Nat, (∀ i : Int, 0 ≤ i → i < n → p i = true → q i = true) → pkN p n ≤ pkN q n
  | 0, _ => Nat.le_refl _
  | n + 1, h => by
    have := pkN_mn (p := p) (q := q) n fun i a b => h i a (by omega)
    by_cases c : p n = true
    · rw [pkN_y c, pkN_y (h n (by omega) (by omega) c)]; omega
    · rw [pkN_n c]
      by_cases c2 : q n = true
      · rw [pkN_y c2]; omega
      · rw [pkN_n c2]; omega
theorem pkS_lt {p : Int → Bool} : ∀ (n i : Nat), i < pkN p n → 0 ≤ pkS p n i ∧ pkS p n i < n ∧ p (pkS p n i) = true
  | 0, i, h => absurd h (by show ¬ i < 0; omega)
  | n + 1, i, h => by
    by_cases c : p n = true ∧ i = pkN p n
    · rw [c.2, pkS_new c.1]
      exact ⟨by omega, by omega, c.1⟩
    · have hi : i < pkN p n := by
        by_cases c2 : p n = true
        · rw [pkN_y c2] at h
          have : ¬ i = pkN p n := fun q => c ⟨c2, q⟩
          omega
        · rw [pkN_n c2] at h; exact h
      rw [pkS_st hi]
      obtain ⟨a, b, d⟩ := pkS_lt n i hi
      exact ⟨a, by omega, d⟩
theorem pkS_ex {p : Int → Bool} : ∀ (n x : Nat), x < n → p x = true → ∃ i, i < pkN p n ∧ pkS p n i = x
  | 0, x, h, _ => absurd h (by omega)
  | n + 1, x, h, hp => by
    by_cases e : x = n
    · subst e
      exact ⟨pkN p x, by rw [pkN_y hp]; omega, pkS_new hp⟩
    · obtain ⟨i, hi, q⟩ := pkS_ex (p := p) n x (by omega) hp
      refine ⟨i, ?_, by rw [pkS_st hi]; exact q⟩
      have := pkN_up (p := p) n 1
      omega
theorem pkS_mono {p : Int → Bool} : ∀ (n i j : Nat), i < j → j < pkN p n → pkS p n i < pkS p n j
  | 0, i, j, _, h => absurd h (by show ¬ j < 0; omega)
  | n + 1, i, j, hij, h => by
    by_cases c : p n = true ∧ j = pkN p n
    · rw [c.2, pkS_new c.1, pkS_st (by omega)]
      exact (pkS_lt n i (by omega)).2.1
    · have hj : j < pkN p n := by
        by_cases c2 : p n = true
        · rw [pkN_y c2] at h
          have : ¬ j = pkN p n := fun q => c ⟨c2, q⟩
          omega
        · rw [pkN_n c2] at h; exact h
      rw [pkS_st hj, pkS_st (by omega)]
      exact pkS_mono n i j hij hj
def isH (s : Int) : Int → Bool := fun i => decide (hb s i = 1)
def isR (c : Int → Int) (s : Int) : Int → Bool := fun x => decide (0 < x ∧ b_and x (b_xor s (-1)) = 0 ∧ c x ≠ -1)
def wN (s : Int) : Nat := pkN (isH s) 7
def hN (c : Int → Int) (s : Int) : Nat := pkN (isR c s) (s.toNat + 1)
def whoV (s : Int) (j : Nat) : Int := pkS (isH s) 7 j
def setV (c : Int → Int) (s : Int) (i : Nat) : Int := pkS (isR c s) (s.toNat + 1) i
/-- the vectors of the variables: households by their columns, sets by their rows -/
def FV (c : Int → Int) (s : Int) : Nat → Nat → Int := fun v k => if v < wN s then iM v k else if k = wN s then c (setV c s (v - wN s)) else if k < wN s ∧ hb (setV c s (v - wN s)) (whoV s k) = 1 then -1 else 0
theorem wN_sum {s : Int} (hs : 0 ≤ s ∧ s < 128) : ∀ n : Nat, n ≤ 7 → ((pkN (isH s) n : Nat) : Int) = sumN (hb s) n
  | 0, _ => rfl
  | n + 1, hn => by
    have h2 := hb01 (h := (n : Int)) hs (by omega)
    have e : sumN (hb s) (n + 1) = sumN (hb s) n + hb s n := rfl
    by_cases c : hb s n = 1
    · rw [pkN_y (decide_eq_true c), e, c, ← wN_sum hs n (by omega)]
      omega
    · rw [pkN_n (fun q => c (of_decide_eq_true q)), e, ← wN_sum hs n (by omega)]
      omega
theorem wN_v {s : Int} (hs : 0 ≤ s ∧ s < 128) : ((wN s : Nat) : Int) = sumN (hb s) 7 := wN_sum hs 7 (by omega)
theorem hN_all : ∀ a : Nat, a < 128 → sumN (hb (a : Int)) 7 ≤ 5 → pkN (isR (fun _ => 0) (a : Int)) (a + 1) ≤ 31 := by decide +kernel
theorem hN_le {c : Int → Int} {s : Int} (hs : 0 ≤ s ∧ s < 128) (h5 : sumN (hb s) 7 ≤ 5) : hN c s ≤ 31 := by
  have e : ((s.toNat : Nat) : Int) = s := by omega
  have z := hN_all s.toNat (by omega) (by rw [e]; exact h5)
  rw [e] at z
  refine Nat.le_trans (pkN_mn _ fun i a b q => ?_) z
  have q := of_decide_eq_true q
  exact decide_eq_true ⟨q.1, q.2.1, by show (0 : Int) ≠ -1; decide⟩
theorem setV_p {c : Int → Int} {s : Int} {i : Nat} (h : i < hN c s) : (0 < setV c s i ∧ setV c s i ≤ s) ∧ b_and (setV c s i) (b_xor s (-1)) = 0 ∧ c (setV c s i) ≠ -1 := by
  obtain ⟨a, b, q⟩ := pkS_lt _ i h
  have q := of_decide_eq_true q
  have b : setV c s i < ((s.toNat + 1 : Nat) : Int) := b
  exact ⟨⟨q.1, by have := q.1; omega⟩, q.2.1, q.2.2⟩
theorem whoV_p {s : Int} {j : Nat} (h : j < wN s) : (0 ≤ whoV s j ∧ whoV s j < 7) ∧ hb s (whoV s j) = 1 := by
  obtain ⟨a, b, q⟩ := pkS_lt _ j h
  exact ⟨⟨a, b⟩, of_decide_eq_true q⟩
theorem FV_c {c : Int → Int} {s : Int} {v : Nat} (h : v < wN s) : FV c s v = iM v := by
  funext k
  exact if_pos h
theorem FV_w {c : Int → Int} {s : Int} {i : Nat} : FV c s (wN s + i) (wN s) = c (setV c s i) := by
  unfold FV
  rw [if_neg (by omega), if_pos rfl, show wN s + i - wN s = i by omega]
theorem FV_k {c : Int → Int} {s : Int} {i k : Nat} (hk : k < wN s) : FV c s (wN s + i) k = if hb (setV c s i) (whoV s k) = 1 then -1 else 0 := by
  unfold FV
  rw [if_neg (by omega), if_neg (by omega), show wN s + i - wN s = i by omega]
  by_cases e : hb (setV c s i) (whoV s k) = 1
  · rw [if_pos ⟨hk, e⟩, if_pos e]
  · rw [if_neg (fun q => e q.2), if_neg e]
theorem FV_pb {c : Int → Int} {s : Int} (hc : costs9 c) (hs : 0 < s ∧ s < 128) (ht : totE c s ≠ -1) : PBx (wN s) (hN c s) (FV c s) 1048576 := by
  refine ⟨fun v hv => FV_c hv, fun v h1 h2 => ?_, fun k hk => ?_⟩
  · have e : v = wN s + (v - wN s) := by omega
    have hi : v - wN s < hN c s := by omega
    generalize v - wN s = i at *
    subst e
    obtain ⟨a, b, d⟩ := setV_p hi
    refine ⟨fun k hk => ?_, ?_⟩
    · rw [FV_k hk]
      split
      · exact Or.inr rfl
      · exact Or.inl rfl
    · rw [FV_w]
      rcases hc (setV c s i) a.1 (by omega) with z | z
      · exact absurd z d
      · omega
  · obtain ⟨⟨a, b⟩, q⟩ := whoV_p hk
    rcases totE_min hc (s := s) ⟨by omega, hs.2⟩ with ⟨z, -⟩ | ⟨-, ρ, n, hR, -, -⟩
    · exact absurd z ht
    · obtain ⟨r1, r2, -⟩ := hR.1.1 (whoV s k) a b q
      have g0 := grp_lt (s := s) (g := ρ (whoV s k)) (ρ := ρ)
      have g1 : hb (grp s ρ (ρ (whoV s k))) (whoV s k) = 1 := (grp_hb ⟨a, b⟩).mpr ⟨q, rfl⟩
      have g2 : b_and (grp s ρ (ρ (whoV s k))) (b_xor s (-1)) = 0 := (sub_iff g0 ⟨by omega, hs.2⟩).mpr fun h x y z => ((grp_hb ⟨x, y⟩).mp z).1
      have g3 := hR.2 (ρ (whoV s k)) r1 r2
      generalize grp s ρ (ρ (whoV s k)) = g at *
      have g4 : g ≠ 0 := fun e => by rw [e] at g1; exact hb_0 ⟨a, b⟩ g1
      have g5 : g ≤ s := sub_le g0 ⟨by omega, hs.2⟩ g2
      obtain ⟨i, hi, e⟩ := pkS_ex (p := isR c s) (s.toNat + 1) g.toNat (by omega) (by rw [show ((g.toNat : Nat) : Int) = g by omega]; exact decide_eq_true ⟨by omega, g2, g3⟩)
      refine ⟨wN s + i, by omega, by have : i < hN c s := hi; omega, ?_⟩
      rw [FV_k hk, show setV c s i = g from e.trans (by omega), if_pos g1]
/-! the first tableau -/
def st0 (w : Nat) : sx := (fun j => j, fun i => w + i, 1)
theorem ta_st0 {w : Nat} {F : Nat → Nat → Int} (hF : ∀ v, v < w → F v = iM v) {k : Nat} (hk : k < w + 1) (u : Nat → Int) : ta w F (st0 w) u k = if k = w then u w else - u k := by
  have e : ∀ k, k < w + 1 → dt (w + 1) (ur (bas w F (st0 w).1) k u) = u k := fun k hk => by
    rw [← dt_idu hk u]
    refine dt_cg _ _ _ fun r c hr hc => ?_
    by_cases e1 : r = k
    · rw [e1, ur_s, ur_s]
    · rw [ur_n e1, ur_n e1]
      by_cases e2 : r < w
      · rw [bas_lt e2]; exact congrFun (hF r e2) c
      · rw [show r = w by omega, bas_w]
  by_cases e1 : k = w
  · subst e1
    rw [ta_w, e k hk, if_pos rfl]
    show 1 * _ = _
    omega
  · rw [ta_k (by omega), e k hk, if_neg e1]
    show -1 * _ = _
    omega
theorem ov_st0 {w : Nat} {F : Nat → Nat → Int} (hF : ∀ v, v < w → F v = iM v) : ov w F (st0 w) = 1 := by
  have z := ta_st0 hF (k := w) (by omega) (iM w)
  rw [ta_e (by omega), if_pos rfl, if_pos rfl] at z
  exact z.trans (if_pos rfl)
theorem st0_ok {w h C : Nat} {F : Nat → Nat → Int} (hP : PBx w h F C) : OKx w h F (st0 w) := by
  obtain ⟨p1, p2, p3⟩ := hP
  refine ⟨Or.inl rfl, by rw [ov_st0 p1]; omega, fun u c hc => ?_, ⟨fun j hj => ?_, fun i hi => ?_, fun v hv => ?_, fun j k _ _ e => e, fun i k _ _ e => ?_, fun j i hj hi e => ?_⟩, fun i hi => ?_⟩
  · have e : dt (w + 1) (bas w F (st0 w).1) = dt (w + 1) iM := dt_cg _ _ _ fun r c hr hc => by
      by_cases e2 : r < w
      · rw [bas_lt e2]; exact congrFun (p1 r e2) c
      · rw [show r = w by omega, bas_w]
    rw [e, Spn_id (w + 1) u c hc]
    refine sF_cg _ fun k hk => ?_
    have e2 : bas w F (st0 w).1 k = iM k := by
      by_cases e2 : k < w
      · rw [bas_lt e2]; exact p1 k e2
      · rw [show k = w by omega, bas_w]
    rw [e2]
    congr 1
    refine (dt_cg _ _ _ fun r c hr hc => ?_).symm
    by_cases e1 : r = k
    · rw [e1, ur_s, ur_s]
    · rw [ur_n e1, ur_n e1]
      by_cases e2 : r < w
      · rw [bas_lt e2]; exact congrFun (p1 r e2) c
      · rw [show r = w by omega, bas_w]
  · show j < w + h
    omega
  · show w + i < w + h
    omega
  · by_cases c : v < w
    · exact Or.inl ⟨v, c, rfl⟩
    · refine Or.inr ⟨v - w, by omega, ?_⟩
      show w + (v - w) = v
      omega
  · have e : w + i = w + k := e
    omega
  · have e : j = w + i := e
    omega
  · rw [ta_st0 p1 (by omega), if_pos rfl]
    exact (p2 (w + i) (by omega) (by omega)).2.1
/-! how great the numbers are -/
theorem ta_bd {w C : Nat} {F : Nat → Nat → Int} {st : sx} {u : Nat → Int} {k h : Nat} (hw : w ≤ 5) (hC : 1 ≤ C) (hP : PBx w h F C) (hO : OKx w h F st) (hk : k < w + 1) (hu : (∀ c, c < w → (u c).natAbs ≤ 1) ∧ (u w).natAbs ≤ C) : (ta w F st u k).natAbs ≤ 720 * C := by
  have nb : ∀ v, v < w + h → (∀ c, c < w → (F v c).natAbs ≤ 1) ∧ (F v w).natAbs ≤ C := fun v hv => by
    by_cases e : v < w
    · rw [hP.1 v e]
      refine ⟨fun c hc => ?_, ?_⟩
      · unfold iM
        split <;> decide
      · unfold iM
        rw [if_neg (by omega)]
        exact Nat.zero_le _
    · obtain ⟨a, b, d⟩ := hP.2.1 v (by omega) hv
      refine ⟨fun c hc => ?_, by omega⟩
      rcases a c hc with q | q <;> rw [q] <;> decide
  have z : (dt (w + 1) (ur (bas w F st.1) k u)).natAbs ≤ fac (w + 1) * C := by
    refine dt_bd w _ (fun r c hr hc => ?_) fun r hr => ?_
    · by_cases e : r = k
      · rw [e, ur_s]; exact hu.1 c hc
      · rw [ur_n e]
        by_cases e2 : r < w
        · rw [bas_lt e2]; exact (nb _ (hO.2.2.2.1.1 r e2)).1 c hc
        · rw [show r = w by omega, bas_w]
          unfold iM
          rw [if_neg (by omega)]
          decide
    · by_cases e : r = k
      · rw [e, ur_s]; exact hu.2
      · rw [ur_n e]
        by_cases e2 : r < w
        · rw [bas_lt e2]; exact (nb _ (hO.2.2.2.1.1 r e2)).2
        · rw [show r = w by omega, bas_w]
          unfold iM
          rw [if_pos rfl]
          exact hC
  have f : fac (w + 1) ≤ 720 := by
    rcases (show w = 0 ∨ w = 1 ∨ w = 2 ∨ w = 3 ∨ w = 4 ∨ w = 5 by omega) with e | e | e | e | e | e <;> rw [e] <;> decide
  have f2 := Nat.mul_le_mul_right C f
  have e : (ta w F st u k).natAbs = (dt (w + 1) (ur (bas w F st.1) k u)).natAbs := by
    by_cases e : k = w
    · subst e
      rw [ta_w, Int.natAbs_mul]
      rcases hO.1 with q | q <;> rw [q]
      · exact Nat.one_mul _
      · exact Nat.one_mul _
    · rw [ta_k (by omega), Int.natAbs_mul]
      rcases hO.1 with q | q <;> rw [q]
      · exact Nat.one_mul _
      · exact Nat.one_mul _
  omega
theorem FV_bd {w h C : Nat} {F : Nat → Nat → Int} (hP : PBx w h F C) (hC : 1 ≤ C) {v : Nat} (hv : v < w + h) : (∀ c, c < w → (F v c).natAbs ≤ 1) ∧ (F v w).natAbs ≤ C := by
  by_cases e : v < w
  · rw [hP.1 v e]
    refine ⟨fun c hc => ?_, ?_⟩
    · unfold iM
      split <;> decide
    · unfold iM
      rw [if_neg (by omega)]
      exact Nat.zero_le _
  · obtain ⟨a, b, d⟩ := hP.2.1 v (by omega) hv
    refine ⟨fun c hc => ?_, by omega⟩
    rcases a c hc with q | q <;> rw [q] <;> decide
theorem ov_bd {w C : Nat} {F : Nat → Nat → Int} {st : sx} {h : Nat} (hw : w ≤ 5) (hC : 1 ≤ C) (hP : PBx w h F C) (hO : OKx w h F st) : (ov w F st).natAbs ≤ 720 * C := by
  have z := ta_bd hw hC hP hO (k := w) (u := iM w) (by omega) ⟨fun c hc => by unfold iM; rw [if_neg (by omega)]; decide, by unfold iM; rw [if_pos rfl]; exact hC⟩
  rwa [ta_e (by omega), if_pos rfl] at z
