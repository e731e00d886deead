/-! MORE STEPS: compares of longs, null, equal references, switches, least and greatest, copies, fields of nest mates -/
theorem a_mono {l : Launch} {E : aE} {P : aP} {Q : aQ} {kc ks kc' ks' N : Nat} {S : aS} {M : aM} {pc : Nat} {lo : List (Nat × aV)} {st : List aV} (h1 : kc ≤ kc') (h2 : ks ≤ ks') (k : aX l E P Q kc' ks' N S M pc lo st) : aX l E P Q kc ks N S M pc lo st :=
  fun p e s m args below meth c H locs ls ad0 ad N0 S0 B w x hS hl g1 g2 => W.widen h1 h2 (k p e s m args below meth c H locs ls ad0 ad N0 S0 B w x hS hl g1 g2)
section AX6
variable {l : Launch} {E : aE} {P : aP} {Q : aQ} {kc ks N : Nat} {S : aS} {M : aM} {pc : Nat} {lo : List (Nat × aV)} {st : List aV}
theorem a_cmp {a b : Int} (ha : a_vok N (1, a)) (hb : a_vok N (1, b)) : lg_cmp (Int64.ofInt a) (Int64.ofInt b) = Int32.ofInt (if b < a then 1 else if a = b then 0 else -1) := by
  unfold lg_cmp
  have h1 : (Int64.ofInt a > Int64.ofInt b) ↔ b < a := by rw [gt_iff_lt, Int64.lt_iff_toInt_lt, a_i64 ha, a_i64 hb]
  have h2 : (Int64.ofInt a = Int64.ofInt b) ↔ a = b := by rw [← Int64.toInt_inj, a_i64 ha, a_i64 hb]
  by_cases e1 : b < a
  · rw [if_pos (h1.mpr e1), if_pos e1]; rfl
  · rw [if_neg (fun q => e1 (h1.mp q)), if_neg e1]
    by_cases e2 : a = b
    · rw [if_pos (h2.mpr e2), if_pos e2]; rfl
    · rw [if_neg (fun q => e2 (h2.mp q)), if_neg e2]; rfl
theorem x_lcmp {a b : Int} (hd : decode P.2.1 pc = .ok (.lcmp, 1)) (k : aX l E P Q kc ks N S M (pc + 1) lo ((0, if b < a then 1 else if a = b then 0 else -1) :: st)) : aX l E P Q kc ks N S M pc lo ((1, b) :: (1, a) :: st) :=
  aX.pure k (fun h1 _ => a_cons (by
    show -2147483648 ≤ (if b < a then (1 : Int) else if a = b then 0 else -1) ∧ (if b < a then (1 : Int) else if a = b then 0 else -1) ≤ 2147483647
    split <;> (try split) <;> omega) (a_tl (a_tl h1))) fun p e s m args below meth c H locs ls ad Z B w hl h1 z => by
    refine W.lcmp B.1 B.2.1 hd ?_
    show W _ _ _ _ _ _ _ _ _ _ _ _ _ _ _ (F0 m (pc + 1) ls (.int (lg_cmp (Int64.ofInt a) (Int64.ofInt b)) :: st.map (a_cv E ad)))
    rw [a_cmp (a_hd (a_tl h1)) (a_hd h1)]
    exact z
theorem x_llt {a b : Int} {off : Int} {tgt : Nat} (hd : decode P.2.1 pc = .ok (.lcmp, 1)) (hd2 : decode P.2.1 (pc + 1) = .ok (.ifCond .lt off, 3)) (ht : ((pc + 1 : Nat) : Int) + off = (tgt : Int))
    (k1 : a < b → aX l E P Q kc ks N S M tgt lo st) (k2 : b ≤ a → aX l E P Q kc ks N S M (pc + 4) lo st) : aX l E P Q kc ks N S M pc lo ((1, b) :: (1, a) :: st) := by
  refine x_lcmp hd (x_if_lt hd2 ht (fun h => k1 ?_) (fun h => k2 ?_)) <;> (revert h; split <;> (try split) <;> omega)
theorem x_lge {a b : Int} {off : Int} {tgt : Nat} (hd : decode P.2.1 pc = .ok (.lcmp, 1)) (hd2 : decode P.2.1 (pc + 1) = .ok (.ifCond .ge off, 3)) (ht : ((pc + 1 : Nat) : Int) + off = (tgt : Int))
    (k1 : b ≤ a → aX l E P Q kc ks N S M tgt lo st) (k2 : a < b → aX l E P Q kc ks N S M (pc + 4) lo st) : aX l E P Q kc ks N S M pc lo ((1, b) :: (1, a) :: st) := by
  refine x_lcmp hd (x_if_ge hd2 ht (fun h => k1 ?_) (fun h => k2 ?_)) <;> (revert h; split <;> (try split) <;> omega)
theorem x_lgt {a b : Int} {off : Int} {tgt : Nat} (hd : decode P.2.1 pc = .ok (.lcmp, 1)) (hd2 : decode P.2.1 (pc + 1) = .ok (.ifCond .gt off, 3)) (ht : ((pc + 1 : Nat) : Int) + off = (tgt : Int))
    (k1 : b < a → aX l E P Q kc ks N S M tgt lo st) (k2 : a ≤ b → aX l E P Q kc ks N S M (pc + 4) lo st) : aX l E P Q kc ks N S M pc lo ((1, b) :: (1, a) :: st) := by
  refine x_lcmp hd (x_if_gt hd2 ht (fun h => k1 ?_) (fun h => k2 ?_)) <;> (revert h; split <;> (try split) <;> omega)
theorem x_lle {a b : Int} {off : Int} {tgt : Nat} (hd : decode P.2.1 pc = .ok (.lcmp, 1)) (hd2 : decode P.2.1 (pc + 1) = .ok (.ifCond .le off, 3)) (ht : ((pc + 1 : Nat) : Int) + off = (tgt : Int))
    (k1 : a ≤ b → aX l E P Q kc ks N S M tgt lo st) (k2 : b < a → aX l E P Q kc ks N S M (pc + 4) lo st) : aX l E P Q kc ks N S M pc lo ((1, b) :: (1, a) :: st) := by
  refine x_lcmp hd (x_if_le hd2 ht (fun h => k1 ?_) (fun h => k2 ?_)) <;> (revert h; split <;> (try split) <;> omega)
theorem x_leq {a b : Int} {off : Int} {tgt : Nat} (hd : decode P.2.1 pc = .ok (.lcmp, 1)) (hd2 : decode P.2.1 (pc + 1) = .ok (.ifCond .eq off, 3)) (ht : ((pc + 1 : Nat) : Int) + off = (tgt : Int))
    (k1 : a = b → aX l E P Q kc ks N S M tgt lo st) (k2 : a ≠ b → aX l E P Q kc ks N S M (pc + 4) lo st) : aX l E P Q kc ks N S M pc lo ((1, b) :: (1, a) :: st) := by
  refine x_lcmp hd (x_if_eq hd2 ht (fun h => k1 ?_) (fun h => k2 ?_)) <;> (revert h; split <;> (try split) <;> omega)
theorem x_lne {a b : Int} {off : Int} {tgt : Nat} (hd : decode P.2.1 pc = .ok (.lcmp, 1)) (hd2 : decode P.2.1 (pc + 1) = .ok (.ifCond .ne off, 3)) (ht : ((pc + 1 : Nat) : Int) + off = (tgt : Int))
    (k1 : a ≠ b → aX l E P Q kc ks N S M tgt lo st) (k2 : a = b → aX l E P Q kc ks N S M (pc + 4) lo st) : aX l E P Q kc ks N S M pc lo ((1, b) :: (1, a) :: st) := by
  refine x_lcmp hd (x_if_ne hd2 ht (fun h => k1 ?_) (fun h => k2 ?_)) <;> (revert h; split <;> (try split) <;> omega)
theorem x_ifnull {a : Int} {off : Int} {tgt : Nat} (hd : decode P.2.1 pc = .ok (.ifnull off, 3)) (ht : (pc : Int) + off = (tgt : Int)) (k1 : a = -1 → aX l E P Q kc ks N S M tgt lo st) (k2 : a ≠ -1 → aX l E P Q kc ks N S M (pc + 3) lo st) : aX l E P Q kc ks N S M pc lo ((2, a) :: st) := by
  intro p e s m args below meth c H locs ls ad0 ad N0 S0 B w x hS hl h1 h2
  show W _ _ _ _ _ _ _ _ _ _ _ _ _ _ _ (F0 m pc ls (va_rf (a_ro E ad a) :: st.map (a_cv E ad)))
  by_cases e9 : a = -1
  · rw [show a_ro E ad a = none from if_pos e9]
    exact lv_ifnullN B.1 B.2.1 hd ht (k1 e9 p e s m args below meth c H locs ls ad0 ad N0 S0 B w x hS hl (a_tl h1) h2)
  · obtain ⟨q, hq⟩ : ∃ q, a_ro E ad a = some q := by
      unfold a_ro
      rw [if_neg e9]
      split <;> exact ⟨_, rfl⟩
    rw [hq]
    exact lv_ifnull B.1 B.2.1 hd (k2 e9 p e s m args below meth c H locs ls ad0 ad N0 S0 B w x hS hl (a_tl h1) h2)
theorem x_ifnonnull {a : Int} {off : Int} {tgt : Nat} (hd : decode P.2.1 pc = .ok (.ifnonnull off, 3)) (ht : (pc : Int) + off = (tgt : Int)) (k1 : a ≠ -1 → aX l E P Q kc ks N S M tgt lo st) (k2 : a = -1 → aX l E P Q kc ks N S M (pc + 3) lo st) : aX l E P Q kc ks N S M pc lo ((2, a) :: st) := by
  intro p e s m args below meth c H locs ls ad0 ad N0 S0 B w x hS hl h1 h2
  show W _ _ _ _ _ _ _ _ _ _ _ _ _ _ _ (F0 m pc ls (va_rf (a_ro E ad a) :: st.map (a_cv E ad)))
  by_cases e9 : a = -1
  · rw [show a_ro E ad a = none from if_pos e9]
    exact lv_ifnonnullN B.1 B.2.1 hd (k2 e9 p e s m args below meth c H locs ls ad0 ad N0 S0 B w x hS hl (a_tl h1) h2)
  · obtain ⟨q, hq⟩ : ∃ q, a_ro E ad a = some q := by
      unfold a_ro
      rw [if_neg e9]
      split <;> exact ⟨_, rfl⟩
    rw [hq]
    exact lv_ifnonnull B.1 B.2.1 hd ht (k1 e9 p e s m args below meth c H locs ls ad0 ad N0 S0 B w x hS hl (a_tl h1) h2)
theorem x_tableIn {dflt lo9 hi : Int} {offs : Array Int} {len : Nat} {a off : Int} {tgt : Nat} (hd : decode P.2.1 pc = .ok (.tableswitch dflt lo9 hi offs, len)) (g1 : lo9 ≤ a) (g2 : a ≤ hi) (ho : offs[(a - lo9).toNat]? = some off) (ht : (pc : Int) + off = (tgt : Int)) (k : aX l E P Q kc ks N S M tgt lo st) : aX l E P Q kc ks N S M pc lo ((0, a) :: st) :=
  aX.pure k (fun h1 _ => a_tl h1) fun p e s m args below meth c H locs ls ad Z B w hl h1 z => by
    have e9 : (Int32.ofInt a).toInt = a := a_i32 (a_hd h1)
    exact lv_tableIn (x := Int32.ofInt a) B.1 B.2.1 hd (by rw [e9]; omega) (by rw [e9]; omega) (by rw [e9]; exact ho) ht z
theorem x_tableOut {dflt lo9 hi : Int} {offs : Array Int} {len : Nat} {a : Int} {tgt : Nat} (hd : decode P.2.1 pc = .ok (.tableswitch dflt lo9 hi offs, len)) (g : a < lo9 ∨ hi < a) (ht : (pc : Int) + dflt = (tgt : Int)) (k : aX l E P Q kc ks N S M tgt lo st) : aX l E P Q kc ks N S M pc lo ((0, a) :: st) :=
  aX.pure k (fun h1 _ => a_tl h1) fun p e s m args below meth c H locs ls ad Z B w hl h1 z => by
    have e9 : (Int32.ofInt a).toInt = a := a_i32 (a_hd h1)
    exact lv_tableOut (x := Int32.ofInt a) B.1 B.2.1 hd (by rw [e9]; exact g) ht z
def a_mth (own : String) (i : Nat) (y : MethodName) (code : ByteArray) : Prop := Cond.methodLink own i y ∈ lw_ok ∧ Cond.static y ∈ lw_ok ∧ Cond.initialized "java/lang/Math" ∈ lw_ok ∧ Cond.code y code 2 (some .int) ∈ lw_ok
theorem x_min {a b : Int} {i : Nat} (hk : a_mth P.1.cls i Lib.Math.min.name Lib.Math.min.code) (hd : decode P.2.1 pc = .ok (.invokestatic i, 3)) (hr : 1 ≤ P.2.2.2.2.1.frames ∧ 21 ≤ P.2.2.2.2.1.locals ∧ kc ≤ P.2.2.2.2.1.cells ∧ ks ≤ P.2.2.2.2.1.slots) (hlen : a_len st ≤ 8) (k : aX l E P Q kc ks N S M (pc + 3) lo ((0, min a b) :: st)) : aX l E P Q kc ks N S M pc lo ((0, b) :: (0, a) :: st) :=
  aX.pure k (fun h1 _ => a_cons (by
    rcases Int.le_total a b with q | q
    · rw [Int.min_eq_left q]; exact a_hd (a_tl h1)
    · rw [Int.min_eq_right q]; exact a_hd h1) (a_tl (a_tl h1))) fun p e s m args below meth c H locs ls ad Z B w hl h1 z => by
    refine va_mmin B.1 B.2.1 (B.2.2.2.1.trans hl.1.symm) B.2.2.2.2.1 (B.2.2.2.2.2.1 _ hk.1) (B.2.2.2.2.2.1 _ hk.2.1) (B.2.2.2.2.2.1 _ hk.2.2.1) (B.2.2.2.2.2.1 _ hk.2.2.2) hr.1 (by rw [a_len_sum]; omega) hr.2.2.1 hr.2.2.2 hd ?_
    have e9 : (if Int32.ofInt b < Int32.ofInt a then Int32.ofInt b else Int32.ofInt a) = Int32.ofInt (min a b) := by
      rcases Int.lt_or_le b a with q | q
      · rw [if_pos (by rw [Int32.lt_iff_toInt_lt, a_i32 (a_hd h1), a_i32 (a_hd (a_tl h1))]; exact q), Int.min_eq_right (Int.le_of_lt q)]
      · rw [if_neg (by rw [Int32.lt_iff_toInt_lt, a_i32 (a_hd h1), a_i32 (a_hd (a_tl h1))]; exact Int.not_lt.mpr q), Int.min_eq_left q]
    rw [e9]
    exact z
theorem x_max {a b : Int} {i : Nat} (hk : a_mth P.1.cls i Lib.Math.max.name Lib.Math.max.code) (hd : decode P.2.1 pc = .ok (.invokestatic i, 3)) (hr : 1 ≤ P.2.2.2.2.1.frames ∧ 21 ≤ P.2.2.2.2.1.locals ∧ kc ≤ P.2.2.2.2.1.cells ∧ ks ≤ P.2.2.2.2.1.slots) (hlen : a_len st ≤ 8) (k : aX l E P Q kc ks N S M (pc + 3) lo ((0, max a b) :: st)) : aX l E P Q kc ks N S M pc lo ((0, b) :: (0, a) :: st) :=
  aX.pure k (fun h1 _ => a_cons (by
    rcases Int.le_total a b with q | q
    · rw [Int.max_eq_right q]; exact a_hd h1
    · rw [Int.max_eq_left q]; exact a_hd (a_tl h1)) (a_tl (a_tl h1))) fun p e s m args below meth c H locs ls ad Z B w hl h1 z => by
    refine va_mmax B.1 B.2.1 (B.2.2.2.1.trans hl.1.symm) B.2.2.2.2.1 (B.2.2.2.2.2.1 _ hk.1) (B.2.2.2.2.2.1 _ hk.2.1) (B.2.2.2.2.2.1 _ hk.2.2.1) (B.2.2.2.2.2.1 _ hk.2.2.2) hr.1 (by rw [a_len_sum]; omega) hr.2.2.1 hr.2.2.2 hd ?_
    have e9 : (if Int32.ofInt a < Int32.ofInt b then Int32.ofInt b else Int32.ofInt a) = Int32.ofInt (max a b) := by
      rcases Int.lt_or_le a b with q | q
      · rw [if_pos (by rw [Int32.lt_iff_toInt_lt, a_i32 (a_hd h1), a_i32 (a_hd (a_tl h1))]; exact q), Int.max_eq_right (Int.le_of_lt q)]
      · rw [if_neg (by rw [Int32.lt_iff_toInt_lt, a_i32 (a_hd h1), a_i32 (a_hd (a_tl h1))]; exact Int.not_lt.mpr q), Int.max_eq_left q]
    rw [e9]
    exact z
/-- System.arraycopy of whole heads -/
def cpy (M : aM) (a0 a1 n : Int) : aM := fun b j => if b = a1 ∧ 0 ≤ j ∧ j < n then M a0 j else M b j
def a_mcp (own : String) (i : Nat) : Prop := Cond.methodLink own i arraycopyName ∈ lw_ok ∧ Cond.native arraycopyName ∈ lw_ok ∧ Cond.static arraycopyName ∈ lw_ok ∧ Cond.initialized "java/lang/System" ∈ lw_ok
theorem x_copyi {a0 a1 n n0 n1 : Int} {r0 r1 : Int → Int} {i : Nat} (hk : a_mcp P.1.cls i) (hd : decode P.2.1 pc = .ok (.invokestatic i, 3)) (hS0 : S a0 = (13, n0, r0)) (hS1 : S a1 = (13, n1, r1)) (hn : 0 ≤ n ∧ n ≤ n0 ∧ n ≤ n1) (hr : 1 ≤ P.2.2.2.2.1.frames ∧ 80 ≤ P.2.2.2.2.1.locals) (hlen : a_len st ≤ 8)
    (k : aX l E P Q kc ks N S (cpy M a0 a1 n) (pc + 3) lo st) : aX l E P Q kc ks N S M pc lo ((0, n) :: (0, 0) :: (2, a1) :: (0, 0) :: (2, a0) :: st) := by
  intro p e s m args below meth c H locs ls ad0 ad N0 S0 B w x hS9 hl h1 h2
  obtain ⟨a01, a03⟩ := a_arr_at w hS0 (by decide) (by decide)
  obtain ⟨a11, a13⟩ := a_arr_at w hS1 (by decide) (by decide)
  have hnv : a_vok N (0, n) := a_hd h1
  have en : (Int32.ofInt n).toInt = n := a_i32 hnv
  have en2 : (Int32.ofInt n).toNatClampNeg = n.toNat := by
    show (Int32.ofInt n).toInt.toNat = _
    rw [en]
  have z0 : (Int32.ofInt 0).toNatClampNeg = 0 := rfl
  have hnw : nativeFrameWords "java/lang/System" "arraycopy" 5 + 11 ≤ 72 := by decide +kernel
  show W _ _ _ _ _ _ _ _ _ _ _ _ _ _ _ (F0 m pc ls (.int (Int32.ofInt n) :: .int (Int32.ofInt 0) :: a_cv E ad (2, a1) :: .int (Int32.ofInt 0) :: a_cv E ad (2, a0) :: st.map (a_cv E ad)))
  rw [a_cv_in a01, a_cv_in a11]
  refine va_copyi (A := a_A E) (ty := .int) (f := fun j : Nat => Int32.ofInt (M a0 j)) (g := fun j : Nat => Int32.ofInt (M a1 j)) B.1 B.2.1 (B.2.2.2.1.trans hl.1.symm) B.2.2.2.2.1 (B.2.2.2.2.2.1 _ hk.1) (B.2.2.2.2.2.1 _ hk.2.1) (B.2.2.2.2.2.1 _ hk.2.2.1) (B.2.2.2.2.2.1 _ hk.2.2.2) B.2.2.2.2.2.2.2.1 w.1 w.2.1 hS9 a0.toNat a1.toNat 1 1 a03 a13 rfl rfl rfl (sp := Int32.ofInt 0) (dp := Int32.ofInt 0) (n := Int32.ofInt n) (by decide) (by decide) (by rw [Int32.lt_iff_toInt_lt, en]; show ¬ n < 0; omega) (by rw [z0, en2]; omega) (by rw [z0, en2]; omega) (fun _ _ => rfl) hr.1 (by rw [a_len_sum]; omega) hd (fun H1 locs1 hP hD hS1' => ?_)
  rw [z0, en2] at hP hD
  have hset : (a_ws E ad N S M).set a1.toNat (ad a1.toNat, .inl (E.2.1 13, n1.toNat, .inl (va_cpy (fun j : Nat => Int32.ofInt (M a0 j)) (fun j : Nat => Int32.ofInt (M a1 j)) 0 0 n.toNat))) = a_ws E ad N S (cpy M a0 a1 n) := by
    refine a_ws_set ?_ (fun j hj => ⟨rfl, ?_⟩)
    · rw [Int.toNat_of_nonneg a11, hS1]
      show _ = Sum.inl (E.2.1 13, n1.toNat, Sum.inl (fun j : Nat => Int32.ofInt (cpy M a0 a1 n a1 j)))
      congr 3
      congr 1
      funext j
      unfold va_cpy cpy
      by_cases q : j < n.toNat
      · rw [if_pos (by omega), if_pos (by omega)]
        congr 2
        omega
      · rw [if_neg (by omega), if_neg (by omega)]
    · funext j9
      exact if_neg (fun q => by omega)
  rw [hset] at hP hD
  refine k p e s m args below meth c H1 locs1 ls ad0 ad N0 S0 B ⟨hP, hD, fun b j => ?_, w.2.2.2.1, w.2.2.2.2.1, fun b j hb => ?_⟩ x hS1' hl (a_tl (a_tl (a_tl (a_tl (a_tl h1))))) h2
  · unfold cpy
    by_cases q : b = a1 ∧ 0 ≤ j ∧ j < n
    · rw [if_pos q, q.1, hS1]
      exact a_rg32 w hS0 (by decide) (by decide) j
    · rw [if_neg q]
      exact w.2.2.1 b j
  · unfold cpy
    rw [if_neg (fun q => by rw [q.1, hS1] at hb; cases hb)]
    exact w.2.2.2.2.2 b j hb
theorem x_copyl {a0 a1 n n0 n1 : Int} {r0 r1 : Int → Int} {i : Nat} (hk : a_mcp P.1.cls i) (hd : decode P.2.1 pc = .ok (.invokestatic i, 3)) (hS0 : S a0 = (14, n0, r0)) (hS1 : S a1 = (14, n1, r1)) (hn : 0 ≤ n ∧ n ≤ n0 ∧ n ≤ n1) (hr : 1 ≤ P.2.2.2.2.1.frames ∧ 80 ≤ P.2.2.2.2.1.locals) (hlen : a_len st ≤ 8)
    (k : aX l E P Q kc ks N S (cpy M a0 a1 n) (pc + 3) lo st) : aX l E P Q kc ks N S M pc lo ((0, n) :: (0, 0) :: (2, a1) :: (0, 0) :: (2, a0) :: st) := by
  intro p e s m args below meth c H locs ls ad0 ad N0 S0 B w x hS9 hl h1 h2
  obtain ⟨a01, a03⟩ := a_arr_at w hS0 (by decide) (by decide)
  obtain ⟨a11, a13⟩ := a_arr_at w hS1 (by decide) (by decide)
  have hnv : a_vok N (0, n) := a_hd h1
  have en : (Int32.ofInt n).toInt = n := a_i32 hnv
  have en2 : (Int32.ofInt n).toNatClampNeg = n.toNat := by
    show (Int32.ofInt n).toInt.toNat = _
    rw [en]
  have z0 : (Int32.ofInt 0).toNatClampNeg = 0 := rfl
  have hnw : nativeFrameWords "java/lang/System" "arraycopy" 5 + 11 ≤ 72 := by decide +kernel
  show W _ _ _ _ _ _ _ _ _ _ _ _ _ _ _ (F0 m pc ls (.int (Int32.ofInt n) :: .int (Int32.ofInt 0) :: a_cv E ad (2, a1) :: .int (Int32.ofInt 0) :: a_cv E ad (2, a0) :: st.map (a_cv E ad)))
  rw [a_cv_in a01, a_cv_in a11]
  refine va_copyl (A := a_A E) (ty := .long) (f := fun j : Nat => Int64.ofInt (M a0 j)) (g := fun j : Nat => Int64.ofInt (M a1 j)) B.1 B.2.1 (B.2.2.2.1.trans hl.1.symm) B.2.2.2.2.1 (B.2.2.2.2.2.1 _ hk.1) (B.2.2.2.2.2.1 _ hk.2.1) (B.2.2.2.2.2.1 _ hk.2.2.1) (B.2.2.2.2.2.1 _ hk.2.2.2) B.2.2.2.2.2.2.2.1 w.1 w.2.1 hS9 a0.toNat a1.toNat 2 2 a03 a13 rfl rfl rfl (sp := Int32.ofInt 0) (dp := Int32.ofInt 0) (n := Int32.ofInt n) (by decide) (by decide) (by rw [Int32.lt_iff_toInt_lt, en]; show ¬ n < 0; omega) (by rw [z0, en2]; omega) (by rw [z0, en2]; omega) (fun _ _ => rfl) hr.1 (by rw [a_len_sum]; omega) hd (fun H1 locs1 hP hD hS1' => ?_)
  rw [z0, en2] at hP hD
  have hset : (a_ws E ad N S M).set a1.toNat (ad a1.toNat, .inl (E.2.1 14, n1.toNat, .inr (.inl (va_cpy (fun j : Nat => Int64.ofInt (M a0 j)) (fun j : Nat => Int64.ofInt (M a1 j)) 0 0 n.toNat)))) = a_ws E ad N S (cpy M a0 a1 n) := by
    refine a_ws_set ?_ (fun j hj => ⟨rfl, ?_⟩)
    · rw [Int.toNat_of_nonneg a11, hS1]
      show _ = Sum.inl (E.2.1 14, n1.toNat, Sum.inr (Sum.inl (fun j : Nat => Int64.ofInt (cpy M a0 a1 n a1 j))))
      congr 3
      congr 1
      congr 1
      funext j
      unfold va_cpy cpy
      by_cases q : j < n.toNat
      · rw [if_pos (by omega), if_pos (by omega)]
        congr 2
        omega
      · rw [if_neg (by omega), if_neg (by omega)]
    · funext j9
      exact if_neg (fun q => by omega)
  rw [hset] at hP hD
  refine k p e s m args below meth c H1 locs1 ls ad0 ad N0 S0 B ⟨hP, hD, fun b j => ?_, w.2.2.2.1, w.2.2.2.2.1, fun b j hb => ?_⟩ x hS1' hl (a_tl (a_tl (a_tl (a_tl (a_tl h1))))) h2
  · unfold cpy
    by_cases q : b = a1 ∧ 0 ≤ j ∧ j < n
    · rw [if_pos q, q.1, hS1]
      exact a_rg64 w hS0 j
    · rw [if_neg q]
      exact w.2.2.1 b j
  · unfold cpy
    rw [if_neg (fun q => by rw [q.1, hS1] at hb; cases hb)]
    exact w.2.2.2.2.2 b j hb
/-- a field of a nest mate -/
theorem x_getfieldN {i ci j : Nat} {a n v : Int} {r : Int → Int} {C host : String} {T : u_T} {n9 : Nat} {ty : Nat → FieldType} (hd : decode P.2.1 pc = .ok (.getfield i, 3)) (hkl : a_kl ci C T n9 ty) (hj9 : j < n9) (hw : Cond.fieldLinkNest P.1.cls i C (T j).2.1 (T j).2.2.1 host ∈ a_nest) (hC : (T j).1 = C) (hS : S a = (ci, n, r)) (hj : (j : Int) < n) (ht : a_FT ci j = 2) (hv : r j = v)
    (k : aX l E P Q kc ks N S M (pc + 3) lo ((2, v) :: st)) : aX l E P Q kc ks N S M pc lo ((2, a) :: st) := by
  obtain ⟨g1, g2, g3, g4, g5⟩ := hkl
  intro p e s m args below meth c H locs ls ad0 ad N0 S0 B w x hS9 hl h1 h2
  obtain ⟨a1, a2, a3⟩ := a_in w hS (by omega)
  have he : (a_ws E ad N S M)[a.toNat]? = some (ad a.toNat, .inr (ci, a_fs E ad ci n r (M a))) := by
    rw [a3]
    unfold a_ce
    rw [if_pos g2]
  show W _ _ _ _ _ _ _ _ _ _ _ _ _ _ _ (F0 m pc ls (a_cv E ad (2, a) :: st.map (a_cv E ad)))
  rw [a_cv_in a1]
  refine va_getN B.1 B.2.1 (fun w hw => B.2.2.2.2.2.1 w hw) g3 B.2.2.2.2.1 B.2.2.2.2.2.2.2.1 w.1 a.toNat he g1 j hj9 (va_Nw.use rfl (B.2.2.2.2.2.2.2.2.1.1 _ hw)) (fun x9 h9 => by rw [hC] at h9; exact h9) (v := a_cv E ad (2, v)) ?_ hd ?_
  · rw [a_fs_get (by omega), ht, if_pos rfl, hv]
  · refine k p e s m args below meth c H locs ls ad0 ad N0 S0 B w x hS9 hl (a_cons ?_ (a_tl h1)) h2
    have := w.2.2.2.2.1 a j
    rw [hS] at this
    rw [← hv]
    exact this
end AX6
