/-! ARRAYS of the abstract machine: kinds 12 byte, 13 int, 14 long, 15 boolean, 16 of Streets, 17 of rows of longs -/
section AX3
variable {l : Launch} {E : aE} {P : aP} {Q : aQ} {kc ks N : Nat} {S : aS} {M : aM} {pc : Nat} {lo : List (Nat × aV)} {st : List aV}
theorem a_arr_at {ad : Nat → Nat} {H : Heap} {a n : Int} {r : Int → Int} {k : Nat} (w : a_w E ad N S M H) (hS : S a = (k, n, r)) (h1 : 12 ≤ k) (h2 : k ≤ 17) : 0 ≤ a ∧ (a_ws E ad N S M)[a.toNat]? = some (ad a.toNat, .inl (E.2.1 k, n.toNat, a_arr E ad k r (M a))) := by
  obtain ⟨a1, a2, a3⟩ := a_in w hS (by omega)
  refine ⟨a1, ?_⟩
  rw [a3]
  unfold a_ce
  rw [if_neg (by show ¬ k < 12; omega)]
theorem a_rg32 {ad : Nat → Nat} {H : Heap} {a n : Int} {r : Int → Int} {k : Nat} (w : a_w E ad N S M H) (hS : S a = (k, n, r)) (h1 : 12 ≤ k) (h2 : k ≠ 14) (i : Int) : -2147483648 ≤ M a i ∧ M a i ≤ 2147483647 := by
  have hr := w.2.2.1 a i
  rw [hS] at hr
  unfold a_lg at hr
  have hci : (k == 14) = false := by rw [beq_eq_false_iff_ne]; omega
  have hb : Nat.blt k 12 = false := by
    cases e : Nat.blt k 12
    · rfl
    · rw [Nat.blt_eq] at e; omega
  rw [hci, hb] at hr
  exact hr
theorem a_rg64 {ad : Nat → Nat} {H : Heap} {a n : Int} {r : Int → Int} (w : a_w E ad N S M H) (hS : S a = (14, n, r)) (i : Int) : -9223372036854775808 ≤ M a i ∧ M a i ≤ 9223372036854775807 := by
  have hr := w.2.2.1 a i
  rw [hS] at hr
  exact hr
theorem a_rg_up32 {a n v i : Int} {r : Int → Int} {k : Nat} (w : a_rg S M) (hS : S a = (k, n, r)) (h1 : 12 ≤ k) (h2 : k ≠ 14) (hv : a_vok N (0, v)) : a_rg S (up M a i v) := by
  refine a_rg_up w ?_
  rw [hS]
  unfold a_lg
  have hci : (k == 14) = false := by rw [beq_eq_false_iff_ne]; omega
  have hb : Nat.blt k 12 = false := by
    cases e : Nat.blt k 12
    · rfl
    · rw [Nat.blt_eq] at e; omega
  rw [hci, hb]
  exact hv
theorem a_rg_up64 {a n v i : Int} {r : Int → Int} (w : a_rg S M) (hS : S a = (14, n, r)) (hv : a_vok N (1, v)) : a_rg S (up M a i v) := by
  refine a_rg_up w ?_
  rw [hS]
  exact hv
theorem x_iaload {a n i : Int} {r : Int → Int} (hd : decode P.2.1 pc = .ok (.iaload, 1)) (hS : S a = (13, n, r)) (h : 0 ≤ i ∧ i < n)
    (k : -2147483648 ≤ M a i ∧ M a i ≤ 2147483647 → aX l E P Q kc ks N S M (pc + 1) lo ((0, M a i) :: st)) : aX l E P Q kc ks N S M pc lo ((0, i) :: (2, a) :: st) := by
  intro p e s m args below meth c H locs ls ad0 ad N0 S0 B w x hS9 hl h1 h2
  obtain ⟨a1, a3⟩ := a_arr_at w hS (by decide) (by decide)
  obtain ⟨hi, hj⟩ := a_idx h (a_hd h1)
  have hr := a_rg32 w hS (by decide) (by decide) i
  show W _ _ _ _ _ _ _ _ _ _ _ _ _ _ _ (F0 m pc ls (.int (Int32.ofInt i) :: a_cv E ad (2, a) :: st.map (a_cv E ad)))
  rw [a_cv_in a1]
  refine va_iald B.1 B.2.1 B.2.2.2.2.2.2.2.1 w.1 a.toNat 1 a3 rfl hi hd ?_
  rw [hj, Int.toNat_of_nonneg h.1]
  exact k hr p e s m args below meth c H locs ls ad0 ad N0 S0 B w x hS9 hl (a_cons hr (a_tl (a_tl h1))) h2
theorem x_laload {a n i : Int} {r : Int → Int} (hd : decode P.2.1 pc = .ok (.laload, 1)) (hS : S a = (14, n, r)) (h : 0 ≤ i ∧ i < n)
    (k : -9223372036854775808 ≤ M a i ∧ M a i ≤ 9223372036854775807 → aX l E P Q kc ks N S M (pc + 1) lo ((1, M a i) :: st)) : aX l E P Q kc ks N S M pc lo ((0, i) :: (2, a) :: st) := by
  intro p e s m args below meth c H locs ls ad0 ad N0 S0 B w x hS9 hl h1 h2
  obtain ⟨a1, a3⟩ := a_arr_at w hS (by decide) (by decide)
  obtain ⟨hi, hj⟩ := a_idx h (a_hd h1)
  have hr := a_rg64 w hS i
  show W _ _ _ _ _ _ _ _ _ _ _ _ _ _ _ (F0 m pc ls (.int (Int32.ofInt i) :: a_cv E ad (2, a) :: st.map (a_cv E ad)))
  rw [a_cv_in a1]
  refine va_lald B.1 B.2.1 B.2.2.2.2.2.2.2.1 w.1 a.toNat 2 a3 rfl hi hd ?_
  rw [hj, Int.toNat_of_nonneg h.1]
  exact k hr p e s m args below meth c H locs ls ad0 ad N0 S0 B w x hS9 hl (a_cons hr (a_tl (a_tl h1))) h2
theorem x_baload {a n i : Int} {r : Int → Int} (hd : decode P.2.1 pc = .ok (.baload, 1)) (hS : S a = (12, n, r)) (h : 0 ≤ i ∧ i < n)
    (k : aX l E P Q kc ks N S M (pc + 1) lo ((0, M a i) :: st)) : aX l E P Q kc ks N S M pc lo ((0, i) :: (2, a) :: st) := by
  intro p e s m args below meth c H locs ls ad0 ad N0 S0 B w x hS9 hl h1 h2
  obtain ⟨a1, a3⟩ := a_arr_at w hS (by decide) (by decide)
  obtain ⟨hi, hj⟩ := a_idx h (a_hd h1)
  have hr := a_rg32 w hS (by decide) (by decide) i
  show W _ _ _ _ _ _ _ _ _ _ _ _ _ _ _ (F0 m pc ls (.int (Int32.ofInt i) :: a_cv E ad (2, a) :: st.map (a_cv E ad)))
  rw [a_cv_in a1]
  refine va_bald B.1 B.2.1 B.2.2.2.2.2.2.2.1 w.1 a.toNat 0 a3 rfl hi hd ?_
  rw [hj, Int.toNat_of_nonneg h.1]
  exact k p e s m args below meth c H locs ls ad0 ad N0 S0 B w x hS9 hl (a_cons hr (a_tl (a_tl h1))) h2
theorem x_zaload {a n i : Int} {r : Int → Int} (hd : decode P.2.1 pc = .ok (.baload, 1)) (hS : S a = (15, n, r)) (h : 0 ≤ i ∧ i < n)
    (k : aX l E P Q kc ks N S M (pc + 1) lo ((0, M a i) :: st)) : aX l E P Q kc ks N S M pc lo ((0, i) :: (2, a) :: st) := by
  intro p e s m args below meth c H locs ls ad0 ad N0 S0 B w x hS9 hl h1 h2
  obtain ⟨a1, a3⟩ := a_arr_at w hS (by decide) (by decide)
  obtain ⟨hi, hj⟩ := a_idx h (a_hd h1)
  have hr := a_rg32 w hS (by decide) (by decide) i
  show W _ _ _ _ _ _ _ _ _ _ _ _ _ _ _ (F0 m pc ls (.int (Int32.ofInt i) :: a_cv E ad (2, a) :: st.map (a_cv E ad)))
  rw [a_cv_in a1]
  refine va_zald B.1 B.2.1 B.2.2.2.2.2.2.2.1 w.1 a.toNat 3 a3 rfl hi hd ?_
  rw [hj, Int.toNat_of_nonneg h.1]
  exact k p e s m args below meth c H locs ls ad0 ad N0 S0 B w x hS9 hl (a_cons hr (a_tl (a_tl h1))) h2
theorem x_aaload {a n i : Int} {r : Int → Int} (hd : decode P.2.1 pc = .ok (.aaload, 1)) (hS : S a = (16, n, r)) (h : 0 ≤ i ∧ i < n)
    (k : aX l E P Q kc ks N S M (pc + 1) lo ((2, M a i) :: st)) : aX l E P Q kc ks N S M pc lo ((0, i) :: (2, a) :: st) := by
  intro p e s m args below meth c H locs ls ad0 ad N0 S0 B w x hS9 hl h1 h2
  obtain ⟨a1, a3⟩ := a_arr_at w hS (by decide) (by decide)
  obtain ⟨hi, hj⟩ := a_idx h (a_hd h1)
  show W _ _ _ _ _ _ _ _ _ _ _ _ _ _ _ (F0 m pc ls (.int (Int32.ofInt i) :: a_cv E ad (2, a) :: st.map (a_cv E ad)))
  rw [a_cv_in a1]
  refine va_aldq B.1 B.2.1 B.2.2.2.2.2.2.2.1 w.1 a.toNat 4 a3 rfl hi hd ?_
  rw [hj, Int.toNat_of_nonneg h.1]
  exact k p e s m args below meth c H locs ls ad0 ad N0 S0 B w x hS9 hl (a_cons (w.2.2.2.2.2 a i (by rw [hS])) (a_tl (a_tl h1))) h2
theorem x_raload {a n i : Int} {r : Int → Int} (hd : decode P.2.1 pc = .ok (.aaload, 1)) (hS : S a = (17, n, r)) (h : 0 ≤ i ∧ i < n)
    (k : aX l E P Q kc ks N S M (pc + 1) lo ((2, r i) :: st)) : aX l E P Q kc ks N S M pc lo ((0, i) :: (2, a) :: st) := by
  intro p e s m args below meth c H locs ls ad0 ad N0 S0 B w x hS9 hl h1 h2
  obtain ⟨a1, a3⟩ := a_arr_at w hS (by decide) (by decide)
  obtain ⟨hi, hj⟩ := a_idx h (a_hd h1)
  show W _ _ _ _ _ _ _ _ _ _ _ _ _ _ _ (F0 m pc ls (.int (Int32.ofInt i) :: a_cv E ad (2, a) :: st.map (a_cv E ad)))
  rw [a_cv_in a1]
  have hlt : (Int32.ofInt i).toNatClampNeg < n.toNat := Nat.not_le.mp fun q => hi (Or.inr q)
  have z := k p e s m args below meth c H locs ls ad0 ad N0 S0 B w x hS9 hl (a_cons (by have := w.2.2.2.2.1 a i; rw [hS] at this; exact this) (a_tl (a_tl h1))) h2
  have e9 : a_cv E ad (2, r i) = va_rf (a_ro E ad (r ((Int32.ofInt i).toNatClampNeg : Nat))) := by
    rw [hj, Int.toNat_of_nonneg h.1]
    rfl
  refine W.aald (v := va_rf (a_ro E ad (r ((Int32.ofInt i).toNatClampNeg : Nat)))) (ty := .array .long) B.1 B.2.1 (w.1 a.toNat _ a3) ((B.2.2.2.2.2.2.2.1.2 5 _ rfl).1 n.toNat (fun j => va_rf (a_ro E ad (r j)))) rfl (fun q => by cases q) (by show ¬ (Int32.ofInt i < 0 ∨ (arrV _ _ _).slots.size ≤ _); rw [arrV_size]; exact hi) (by show (arrV _ _ _).slots[_]? = _; rw [arrV_read _ _ hlt]) rfl rfl hd ?_
  rw [← e9]
  exact z
theorem a_updI {f : Int → Int} {i v : Int} (h : 0 ≤ i) (M : aM) (a : Int) (hf : f = M a) : (fun j : Nat => Int32.ofInt (up M a i v a j)) = upd (fun j : Nat => Int32.ofInt (f j)) i.toNat (Int32.ofInt v) := by
  funext j
  unfold upd
  by_cases e : j = i.toNat
  · rw [if_pos e, show ((j : Nat) : Int) = i by omega, up_s]
  · rw [if_neg e, up_i (by omega), hf]
theorem a_updL {f : Int → Int} {i v : Int} (h : 0 ≤ i) (M : aM) (a : Int) (hf : f = M a) : (fun j : Nat => Int64.ofInt (up M a i v a j)) = vp_updL (fun j : Nat => Int64.ofInt (f j)) i.toNat (Int64.ofInt v) := by
  funext j
  unfold vp_updL
  by_cases e : j = i.toNat
  · rw [if_pos e, show ((j : Nat) : Int) = i by omega, up_s]
  · rw [if_neg e, up_i (by omega), hf]
theorem x_iastore {a n i v : Int} {r : Int → Int} (hd : decode P.2.1 pc = .ok (.iastore, 1)) (hS : S a = (13, n, r)) (h : 0 ≤ i ∧ i < n)
    (k : aX l E P Q kc ks N S (up M a i v) (pc + 1) lo st) : aX l E P Q kc ks N S M pc lo ((0, v) :: (0, i) :: (2, a) :: st) := by
  intro p e s m args below meth c H locs ls ad0 ad N0 S0 B w x hS9 hl h1 h2
  obtain ⟨a1, a3⟩ := a_arr_at w hS (by decide) (by decide)
  obtain ⟨hi, hj⟩ := a_idx h (a_hd (a_tl h1))
  show W _ _ _ _ _ _ _ _ _ _ _ _ _ _ _ (F0 m pc ls (.int (Int32.ofInt v) :: .int (Int32.ofInt i) :: a_cv E ad (2, a) :: st.map (a_cv E ad)))
  rw [a_cv_in a1]
  refine va_iast B.1 B.2.1 B.2.2.2.2.2.2.2.1 w.1 w.2.1 hS9 a.toNat 1 a3 rfl hi hd (fun H1 locs1 hP hD hS1 => ?_)
  have hset : (a_ws E ad N S M).set a.toNat (ad a.toNat, .inl (E.2.1 13, n.toNat, .inl (upd (fun j : Nat => Int32.ofInt (M a j)) (Int32.ofInt i).toNatClampNeg (Int32.ofInt v)))) = a_ws E ad N S (up M a i v) := by
    refine a_ws_up a1 ?_
    rw [hS, hj, ← a_updI h.1 M a rfl]
    rfl
  have hP := hset ▸ hP
  have hD := hset ▸ hD
  exact k p e s m args below meth c H1 locs1 ls ad0 ad N0 S0 B ⟨hP, hD, a_rg_up32 w.2.2.1 hS (by decide) (by decide) (a_hd h1), w.2.2.2.1, w.2.2.2.2.1, a_m16 w.2.2.2.2.2 hS (by decide)⟩ x hS1 hl (a_tl (a_tl (a_tl h1))) h2
theorem x_lastore {a n i v : Int} {r : Int → Int} (hd : decode P.2.1 pc = .ok (.lastore, 1)) (hS : S a = (14, n, r)) (h : 0 ≤ i ∧ i < n)
    (k : aX l E P Q kc ks N S (up M a i v) (pc + 1) lo st) : aX l E P Q kc ks N S M pc lo ((1, v) :: (0, i) :: (2, a) :: st) := by
  intro p e s m args below meth c H locs ls ad0 ad N0 S0 B w x hS9 hl h1 h2
  obtain ⟨a1, a3⟩ := a_arr_at w hS (by decide) (by decide)
  obtain ⟨hi, hj⟩ := a_idx h (a_hd (a_tl h1))
  show W _ _ _ _ _ _ _ _ _ _ _ _ _ _ _ (F0 m pc ls (.long (Int64.ofInt v) :: .int (Int32.ofInt i) :: a_cv E ad (2, a) :: st.map (a_cv E ad)))
  rw [a_cv_in a1]
  refine va_last B.1 B.2.1 B.2.2.2.2.2.2.2.1 w.1 w.2.1 hS9 a.toNat 2 a3 rfl hi hd (fun H1 locs1 hP hD hS1 => ?_)
  have hset : (a_ws E ad N S M).set a.toNat (ad a.toNat, .inl (E.2.1 14, n.toNat, .inr (.inl (vp_updL (fun j : Nat => Int64.ofInt (M a j)) (Int32.ofInt i).toNatClampNeg (Int64.ofInt v))))) = a_ws E ad N S (up M a i v) := by
    refine a_ws_up a1 ?_
    rw [hS, hj, ← a_updL h.1 M a rfl]
    rfl
  have hP := hset ▸ hP
  have hD := hset ▸ hD
  exact k p e s m args below meth c H1 locs1 ls ad0 ad N0 S0 B ⟨hP, hD, a_rg_up64 w.2.2.1 hS (a_hd h1), w.2.2.2.1, w.2.2.2.2.1, a_m16 w.2.2.2.2.2 hS (by decide)⟩ x hS1 hl (a_tl (a_tl (a_tl h1))) h2
theorem x_bastore {a n i v : Int} {r : Int → Int} (hd : decode P.2.1 pc = .ok (.bastore, 1)) (hS : S a = (12, n, r)) (h : 0 ≤ i ∧ i < n) (hv : -128 ≤ v ∧ v ≤ 127)
    (k : aX l E P Q kc ks N S (up M a i v) (pc + 1) lo st) : aX l E P Q kc ks N S M pc lo ((0, v) :: (0, i) :: (2, a) :: st) := by
  intro p e s m args below meth c H locs ls ad0 ad N0 S0 B w x hS9 hl h1 h2
  obtain ⟨a1, a3⟩ := a_arr_at w hS (by decide) (by decide)
  obtain ⟨hi, hj⟩ := a_idx h (a_hd (a_tl h1))
  have hn : vp_nar .byte (Int32.ofInt v) = Int32.ofInt v := by
    show (Int32.ofInt v).toInt8.toInt32 = _
    rw [← Int32.toInt_inj, Int8.toInt_toInt32, Int32.toInt_toInt8, a_i32 (a_hd h1)]
    show v.bmod 256 = v
    exact Int.bmod_eq_of_le (by omega) (by omega)
  show W _ _ _ _ _ _ _ _ _ _ _ _ _ _ _ (F0 m pc ls (.int (Int32.ofInt v) :: .int (Int32.ofInt i) :: a_cv E ad (2, a) :: st.map (a_cv E ad)))
  rw [a_cv_in a1]
  refine va_bast B.1 B.2.1 B.2.2.2.2.2.2.2.1 w.1 w.2.1 hS9 a.toNat 0 a3 rfl hi hd (fun H1 locs1 hP hD hS1 => ?_)
  have hset : (a_ws E ad N S M).set a.toNat (ad a.toNat, .inl (E.2.1 12, n.toNat, .inl (upd (fun j : Nat => Int32.ofInt (M a j)) (Int32.ofInt i).toNatClampNeg (vp_nar .byte (Int32.ofInt v))))) = a_ws E ad N S (up M a i v) := by
    refine a_ws_up a1 ?_
    rw [hS, hj, hn, ← a_updI h.1 M a rfl]
    rfl
  have hP := hset ▸ hP
  have hD := hset ▸ hD
  exact k p e s m args below meth c H1 locs1 ls ad0 ad N0 S0 B ⟨hP, hD, a_rg_up32 w.2.2.1 hS (by decide) (by decide) (a_hd h1), w.2.2.2.1, w.2.2.2.2.1, a_m16 w.2.2.2.2.2 hS (by decide)⟩ x hS1 hl (a_tl (a_tl (a_tl h1))) h2
theorem x_zastore {a n i v : Int} {r : Int → Int} (hd : decode P.2.1 pc = .ok (.bastore, 1)) (hS : S a = (15, n, r)) (h : 0 ≤ i ∧ i < n) (hv : v = 0 ∨ v = 1)
    (k : aX l E P Q kc ks N S (up M a i v) (pc + 1) lo st) : aX l E P Q kc ks N S M pc lo ((0, v) :: (0, i) :: (2, a) :: st) := by
  intro p e s m args below meth c H locs ls ad0 ad N0 S0 B w x hS9 hl h1 h2
  obtain ⟨a1, a3⟩ := a_arr_at w hS (by decide) (by decide)
  obtain ⟨hi, hj⟩ := a_idx h (a_hd (a_tl h1))
  have hn : vp_nar .boolean (Int32.ofInt v) = Int32.ofInt v := by rcases hv with rfl | rfl <;> rfl
  show W _ _ _ _ _ _ _ _ _ _ _ _ _ _ _ (F0 m pc ls (.int (Int32.ofInt v) :: .int (Int32.ofInt i) :: a_cv E ad (2, a) :: st.map (a_cv E ad)))
  rw [a_cv_in a1]
  refine va_zast B.1 B.2.1 B.2.2.2.2.2.2.2.1 w.1 w.2.1 hS9 a.toNat 3 a3 rfl hi hd (fun H1 locs1 hP hD hS1 => ?_)
  have hset : (a_ws E ad N S M).set a.toNat (ad a.toNat, .inl (E.2.1 15, n.toNat, .inl (upd (fun j : Nat => Int32.ofInt (M a j)) (Int32.ofInt i).toNatClampNeg (vp_nar .boolean (Int32.ofInt v))))) = a_ws E ad N S (up M a i v) := by
    refine a_ws_up a1 ?_
    rw [hS, hj, hn, ← a_updI h.1 M a rfl]
    rfl
  have hP := hset ▸ hP
  have hD := hset ▸ hD
  exact k p e s m args below meth c H1 locs1 ls ad0 ad N0 S0 B ⟨hP, hD, a_rg_up32 w.2.2.1 hS (by decide) (by decide) (a_hd h1), w.2.2.2.1, w.2.2.2.2.1, a_m16 w.2.2.2.2.2 hS (by decide)⟩ x hS1 hl (a_tl (a_tl (a_tl h1))) h2
theorem x_alen {a n : Int} {r : Int → Int} {kk : Nat} (hd : decode P.2.1 pc = .ok (.arraylength, 1)) (hS : S a = (kk, n, r)) (h : 12 ≤ kk ∧ kk ≤ 17) (hn : 0 ≤ n ∧ n ≤ 2147483647)
    (k : aX l E P Q kc ks N S M (pc + 1) lo ((0, n) :: st)) : aX l E P Q kc ks N S M pc lo ((2, a) :: st) := by
  intro p e s m args below meth c H locs ls ad0 ad N0 S0 B w x hS9 hl h1 h2
  obtain ⟨a1, a3⟩ := a_arr_at w hS h.1 h.2
  show W _ _ _ _ _ _ _ _ _ _ _ _ _ _ _ (F0 m pc ls (a_cv E ad (2, a) :: st.map (a_cv E ad)))
  rw [a_cv_in a1]
  have z := k p e s m args below meth c H locs ls ad0 ad N0 S0 B w x hS9 hl (a_cons ⟨by show (-2147483648 : Int) ≤ n; omega, hn.2⟩ (a_tl h1)) h2
  have hv : Int32.ofNat n.toNat = Int32.ofInt n := by
    rw [← Int32.ofInt_eq_ofNat, Int.toNat_of_nonneg hn.1]
  have hty : ∃ (t0 : Nat) (ty : FieldType), (a_tys E)[t0]? = some (E.2.1 kk, ty) := by
    have : kk = 12 ∨ kk = 13 ∨ kk = 14 ∨ kk = 15 ∨ kk = 16 ∨ kk = 17 := by omega
    rcases this with rfl | rfl | rfl | rfl | rfl | rfl
    · exact ⟨0, _, rfl⟩
    · exact ⟨1, _, rfl⟩
    · exact ⟨2, _, rfl⟩
    · exact ⟨3, _, rfl⟩
    · exact ⟨4, _, rfl⟩
    · exact ⟨5, _, rfl⟩
  obtain ⟨t0, ty, ht⟩ := hty
  exact va_alen B.1 B.2.1 B.2.2.2.2.2.2.2.1 w.1 a.toNat t0 a3 ht hv hd z
end AX3
