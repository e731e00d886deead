/-! TEXT: the reference's lines -/
theorem isWd_one {T : Int → Int} {b e : Int} {i k : Nat} (hi : i < 13) (hk : k < 13) (h1 : isWd T b e i = true) (h2 : isWd T b e k = true) : i = k := by
  unfold isWd at h1 h2
  rw [Bool.and_eq_true, decide_eq_true_iff] at h1 h2
  rw [show ((i : Int)).toNat = i by omega] at h1
  rw [show ((k : Int)).toNat = k by omega] at h2
  have g1 := (eqL_iff _ _).mp h1.2
  have g2 := (eqL_iff _ _).mp h2.2
  have hl : (wdL i).length = (wdL k).length := by omega
  have he : wdL i = wdL k := List.ext_getElem hl fun j a c => by
    have u := g1 j a
    have v := g2 j c
    rw [List.getD_eq_getElem?_getD, List.getElem?_eq_getElem a] at u
    rw [List.getD_eq_getElem?_getD, List.getElem?_eq_getElem c] at v
    exact u.symm.trans v
  have hd : ∀ i, i < 13 → ∀ k, k < 13 → wdL i = wdL k → i = k := by decide
  exact hd i hi k hk he
theorem wIx_is {T : Int → Int} {b e : Int} {k : Nat} (hk : k < 13) (h : isWd T b e k = true) : wIx T b e = k := by
  have h2 := firstW_r (isWd T b e) 13 0
  have h3 : ∀ (c : Nat) (i : Int), 0 ≤ i → i ≤ k → (k : Int) < i + c → firstW (isWd T b e) c i ≠ -1 := by
    intro c
    induction c with
    | zero => intro i a0 a b2; omega
    | succ c ih =>
      intro i a0 a b2
      show (if isWd T b e i = true then i else firstW (isWd T b e) c (i + 1)) ≠ -1
      by_cases z : isWd T b e i = true
      · rw [if_pos z]; omega
      · rw [if_neg z]
        by_cases e2 : i = k
        · rw [e2] at z; exact absurd h z
        · exact ih (i + 1) (by omega) (by omega) (by omega)
  have h4 := h3 13 0 (by omega) (by omega) (by omega)
  unfold wIx
  rcases h2 with h2 | ⟨a, c, d⟩
  · exact absurd h2 h4
  · have q := isWd_one (i := (firstW (isWd T b e) 13 0).toNat) (k := k) (by omega) hk (by rw [Int.toNat_of_nonneg a]; exact d) h
    omega
theorem wIx_no {T : Int → Int} {b e : Int} (h : wIx T b e ≠ -1) : 0 ≤ wIx T b e ∧ wIx T b e ≤ 12 ∧ isWd T b e (wIx T b e) = true := by
  have h2 := firstW_r (isWd T b e) 13 0
  unfold wIx at *
  rcases h2 with h2 | ⟨a, c, d⟩
  · exact absurd h2 h
  · exact ⟨a, by omega, d⟩
/-- a part of a line, then what follows -/
def bindR (r : tR) (k : Int → (Int → Int) → tR) : tR := if r.1 = 0 then k r.2.2.1 r.2.2.2 else r
theorem bindR_bad {e p : Int} {k : Int → (Int → Int) → tR} (h : e ≠ 0) : bindR (badR e p) k = badR e p := if_neg h
theorem bindR_ok {a : Int} {f : Int → Int} {k : Int → (Int → Int) → tR} : bindR (0, -1, a, f) k = k a f := if_pos rfl
theorem numR_bind {T : Int → Int} {n a lo hi : Int} {K : Int → Int → tR} {k : Int → (Int → Int) → tR} : bindR (numR T n a lo hi K) k = numR T n a lo hi fun v e => bindR (K v e) k := by
  unfold numR
  by_cases h1 : tK T n a ≠ 2
  · rw [if_pos h1, if_pos h1]
    exact bindR_bad (by split <;> omega)
  · rw [if_neg h1, if_neg h1]
    by_cases h2 : ¬ (lo ≤ tV T n a ∧ tV T n a ≤ hi)
    · rw [if_pos h2, if_pos h2]; exact bindR_bad (by decide)
    · rw [if_neg h2, if_neg h2]
def ruleM (T : Int → Int) (n a : Int) (f : Int → Int) : tR := if tK T n a = 1 ∧ 10 ≤ wIx T (tB T n a) (tE T n a) then okM (tE T n a) (fU f 33 (wIx T (tB T n a) (tE T n a) - 10)) else errR T n a 2
theorem oneR_b {T : Int → Int} {n a lo hi i : Int} {f : Int → Int} : oneR T n a lo hi i f = bindR (oneM T n a lo hi i f) (finR T n) := by
  unfold oneR oneM
  rewrite [numR_bind]
  rfl
theorem cartR_b {T : Int → Int} {n a : Int} {f : Int → Int} : cartR T n a f = bindR (cartM T n a f) (finR T n) := by
  unfold cartR cartM
  rw [numR_bind]
  exact congrArg _ (funext fun v => funext fun e => by rewrite [numR_bind]; rfl)
theorem riseR_b {T : Int → Int} {n a : Int} {f : Int → Int} : riseR T n a f = bindR (riseM T n a f) (finR T n) := by
  unfold riseR riseM
  rw [numR_bind]
  exact congrArg _ (funext fun v => funext fun e => by rewrite [numR_bind]; rfl)
theorem stepR_b {T : Int → Int} {n a : Int} {f : Int → Int} : stepR T n a f = bindR (stepM T n a f) (finR T n) := by
  unfold stepR stepM
  rw [numR_bind]
  refine congrArg _ (funext fun v => funext fun e => ?_)
  by_cases h : hasS f v (f 1).toNat = true
  · rw [if_pos h, if_pos h]; exact (bindR_bad (by decide)).symm
  · rw [if_neg h, if_neg h]; rewrite [numR_bind]; rfl
theorem ruleR_b {T : Int → Int} {n a : Int} {f : Int → Int} : ruleR T n a f = bindR (ruleM T n a f) (finR T n) := by
  unfold ruleR ruleM
  by_cases h : tK T n a = 1 ∧ 10 ≤ wIx T (tB T n a) (tE T n a)
  · rw [if_pos h, if_pos h]; rfl
  · rw [if_neg h, if_neg h]; exact (bindR_bad (by split <;> omega)).symm
/-- a line but for its end -/
def lineM (T : Int → Int) (n a : Int) (f : Int → Int) : tR :=
  if tK T n a ≠ 1 then errR T n a 2 else
  if wIx T (tB T n a) (tE T n a) = 0 then okM (tE T n a) (fU f 0 0) else if wIx T (tB T n a) (tE T n a) = 1 then okM (tE T n a) (fU f 0 1)
  else if wIx T (tB T n a) (tE T n a) = 2 then (if f 1 = 6 then badR 4 (tB T n a) else stepM T n (tE T n a) f)
  else if wIx T (tB T n a) (tE T n a) = 3 then (if f 14 = 4 then badR 4 (tB T n a) else cartM T n (tE T n a) f)
  else if wIx T (tB T n a) (tE T n a) = 4 then oneM T n (tE T n a) 0 99 23 f else if wIx T (tB T n a) (tE T n a) = 5 then oneM T n (tE T n a) 0 99 24 f else if wIx T (tB T n a) (tE T n a) = 6 then oneM T n (tE T n a) 1 6 25 f
  else if wIx T (tB T n a) (tE T n a) = 7 then riseM T n (tE T n a) f else if wIx T (tB T n a) (tE T n a) = 8 then oneM T n (tE T n a) 0 999 32 f else if wIx T (tB T n a) (tE T n a) = 9 then ruleM T n (tE T n a) f
  else badR 2 (tB T n a)
theorem lineR_b {T : Int → Int} {n a : Int} {f : Int → Int} : lineR T n a f = bindR (lineM T n a f) (finR T n) := by
  unfold lineR lineM bodyR
  by_cases h : tK T n a ≠ 1
  · rw [if_pos h, if_pos h]; exact (bindR_bad (by split <;> omega)).symm
  rw [if_neg h, if_neg h]
  by_cases h0 : wIx T (tB T n a) (tE T n a) = 0
  · rw [if_pos h0, if_pos h0]; rfl
  rw [if_neg h0, if_neg h0]
  by_cases h0 : wIx T (tB T n a) (tE T n a) = 1
  · rw [if_pos h0, if_pos h0]; rfl
  rw [if_neg h0, if_neg h0]
  by_cases h0 : wIx T (tB T n a) (tE T n a) = 2
  · rw [if_pos h0, if_pos h0]
    by_cases z : f 1 = 6
    · rw [if_pos z, if_pos z]; exact (bindR_bad (by decide)).symm
    · rw [if_neg z, if_neg z]; exact stepR_b
  rw [if_neg h0, if_neg h0]
  by_cases h0 : wIx T (tB T n a) (tE T n a) = 3
  · rw [if_pos h0, if_pos h0]
    by_cases z : f 14 = 4
    · rw [if_pos z, if_pos z]; exact (bindR_bad (by decide)).symm
    · rw [if_neg z, if_neg z]; exact cartR_b
  rw [if_neg h0, if_neg h0]
  by_cases h0 : wIx T (tB T n a) (tE T n a) = 4
  · rw [if_pos h0, if_pos h0]; exact oneR_b
  rw [if_neg h0, if_neg h0]
  by_cases h0 : wIx T (tB T n a) (tE T n a) = 5
  · rw [if_pos h0, if_pos h0]; exact oneR_b
  rw [if_neg h0, if_neg h0]
  by_cases h0 : wIx T (tB T n a) (tE T n a) = 6
  · rw [if_pos h0, if_pos h0]; exact oneR_b
  rw [if_neg h0, if_neg h0]
  by_cases h0 : wIx T (tB T n a) (tE T n a) = 7
  · rw [if_pos h0, if_pos h0]; exact riseR_b
  rw [if_neg h0, if_neg h0]
  by_cases h0 : wIx T (tB T n a) (tE T n a) = 8
  · rw [if_pos h0, if_pos h0]; exact oneR_b
  rw [if_neg h0, if_neg h0]
  by_cases h0 : wIx T (tB T n a) (tE T n a) = 9
  · rw [if_pos h0, if_pos h0]; exact ruleR_b
  rw [if_neg h0, if_neg h0]
  exact (bindR_bad (by decide)).symm

theorem okR.ok {lo n a : Int} {f : Int → Int} (ha : lo ≤ a ∧ a ≤ n) (hf : FOK f) : okR lo n (okM a f) := fun _ => ⟨ha, hf⟩
theorem oneM_ok {T : Int → Int} {lo n a l h i : Int} {f : Int → Int} (ha : lo ≤ a ∧ a ≤ n) (hf : FOK f) (hi : ∀ v, l ≤ v → v ≤ h → ((i = 23 ∨ i = 24) ∧ 0 ≤ v ∧ v ≤ 99) ∨ (i = 25 ∧ 1 ≤ v ∧ v ≤ 6) ∨ (i = 32 ∧ 0 ≤ v ∧ v ≤ 999)) : okR lo n (oneM T n a l h i f) :=
  okR.num ha fun v e x y z w => okR.ok ⟨z, w⟩ (hf.one (by have := hi v x y; omega))
theorem lineM_ok {T : Int → Int} {n a : Int} {f : Int → Int} (ha : a ≤ n) (hf : FOK f) : okR (a + 1) n (lineM T n a f) := by
  unfold lineM
  by_cases h9 : tK T n a ≠ 1
  · rw [if_pos h9]; exact okR.err (by decide)
  rw [if_neg h9]
  have h : tK T n a = 1 := by omega
  have h1 := tE_r (T := T) ha
  have h2 := tB_r (T := T) ha
  have h3 := tE_s (T := T) ha (by omega)
  have he : a + 1 ≤ tE T n a ∧ tE T n a ≤ n := ⟨by omega, h1.2⟩
  split
  · exact okR.ok he (hf.one (by omega))
  split
  · exact okR.ok he (hf.one (by omega))
  split
  · split
    · exact okR.bad (by decide)
    · refine okR.num he fun v e x y z q => ?_
      split
      · exact okR.bad (by decide)
      · exact okR.num ⟨z, q⟩ fun u e2 x2 y2 z2 q2 => okR.ok ⟨z2, q2⟩ (hf.step (by assumption) ⟨x, y⟩ ⟨x2, y2⟩)
  split
  · split
    · exact okR.bad (by decide)
    · exact okR.num he fun v e x y z q => okR.num ⟨z, q⟩ fun u e2 x2 y2 z2 q2 => okR.ok ⟨z2, q2⟩ (hf.cart (by assumption) ⟨x, y⟩ ⟨x2, y2⟩)
  split
  · exact oneM_ok he hf fun v a b => by omega
  split
  · exact oneM_ok he hf fun v a b => by omega
  split
  · exact oneM_ok he hf fun v a b => by omega
  split
  · exact okR.num he fun v e x y z q => okR.num ⟨z, q⟩ fun u e2 x2 y2 z2 q2 => okR.ok ⟨z2, q2⟩ (hf.one (by omega))
  split
  · exact oneM_ok he hf fun v a b => by omega
  split
  · unfold ruleM
    have h1 := tE_r (T := T) he.2
    have h2 := tB_r (T := T) he.2
    have h3 := wIx_r T (tB T n (tE T n a)) (tE T n (tE T n a))
    split
    · exact okR.ok ⟨by omega, by omega⟩ (hf.one (by omega))
    · exact okR.err (by decide)
  · exact okR.bad (by decide)
theorem isWd_c {T : Int → Int} {b e : Int} {k : Int} {i : Nat} (hk : k = i) (h : isWd T b e k = true) : isWd T b e i = true := by rw [← hk]; exact h
theorem dX12_readRule_0 : decode cX12_readRule 0 = .ok (.aload_n 0, 1) := by decide +kernel
theorem dX12_readRule_1 : decode cX12_readRule 1 = .ok (.invokevirtual 196, 3) := by decide +kernel
theorem dX12_readRule_4 : decode cX12_readRule 4 = .ok (.aload_n 0, 1) := by decide +kernel
theorem dX12_readRule_5 : decode cX12_readRule 5 = .ok (.ldc 207, 2) := by decide +kernel
theorem dX12_readRule_7 : decode cX12_readRule 7 = .ok (.invokevirtual 209, 3) := by decide +kernel
theorem dX12_readRule_10 : decode cX12_readRule 10 = .ok (.ifCond .eq 7, 3) := by decide +kernel
theorem dX12_readRule_13 : decode cX12_readRule 13 = .ok (.iconst 0, 1) := by decide +kernel
theorem dX12_readRule_14 : decode cX12_readRule 14 = .ok (.goto 30, 3) := by decide +kernel
theorem dX12_readRule_17 : decode cX12_readRule 17 = .ok (.aload_n 0, 1) := by decide +kernel
theorem dX12_readRule_18 : decode cX12_readRule 18 = .ok (.ldc 213, 2) := by decide +kernel
theorem dX12_readRule_20 : decode cX12_readRule 20 = .ok (.invokevirtual 209, 3) := by decide +kernel
theorem dX12_readRule_23 : decode cX12_readRule 23 = .ok (.ifCond .eq 7, 3) := by decide +kernel
theorem dX12_readRule_26 : decode cX12_readRule 26 = .ok (.iconst 1, 1) := by decide +kernel
theorem dX12_readRule_27 : decode cX12_readRule 27 = .ok (.goto 17, 3) := by decide +kernel
theorem dX12_readRule_30 : decode cX12_readRule 30 = .ok (.aload_n 0, 1) := by decide +kernel
theorem dX12_readRule_31 : decode cX12_readRule 31 = .ok (.ldc 215, 2) := by decide +kernel
theorem dX12_readRule_33 : decode cX12_readRule 33 = .ok (.invokevirtual 209, 3) := by decide +kernel
theorem dX12_readRule_36 : decode cX12_readRule 36 = .ok (.ifCond .eq 7, 3) := by decide +kernel
theorem dX12_readRule_39 : decode cX12_readRule 39 = .ok (.iconst 2, 1) := by decide +kernel
theorem dX12_readRule_40 : decode cX12_readRule 40 = .ok (.goto 4, 3) := by decide +kernel
theorem dX12_readRule_43 : decode cX12_readRule 43 = .ok (.iconst (-1), 1) := by decide +kernel
theorem dX12_readRule_44 : decode cX12_readRule 44 = .ok (.istore_n 1, 1) := by decide +kernel
theorem dX12_readRule_45 : decode cX12_readRule 45 = .ok (.iload_n 1, 1) := by decide +kernel
theorem dX12_readRule_46 : decode cX12_readRule 46 = .ok (.iconst (-1), 1) := by decide +kernel
theorem dX12_readRule_47 : decode cX12_readRule 47 = .ok (.if_icmp .ne 9, 3) := by decide +kernel
theorem dX12_readRule_50 : decode cX12_readRule 50 = .ok (.aload_n 0, 1) := by decide +kernel
theorem dX12_readRule_51 : decode cX12_readRule 51 = .ok (.iconst 2, 1) := by decide +kernel
theorem dX12_readRule_52 : decode cX12_readRule 52 = .ok (.invokevirtual 192, 3) := by decide +kernel
theorem dX12_readRule_55 : decode cX12_readRule 55 = .ok (.return_, 1) := by decide +kernel
theorem dX12_readRule_56 : decode cX12_readRule 56 = .ok (.aload_n 0, 1) := by decide +kernel
theorem dX12_readRule_57 : decode cX12_readRule 57 = .ok (.getfield 23, 3) := by decide +kernel
theorem dX12_readRule_60 : decode cX12_readRule 60 = .ok (.bipush 33, 2) := by decide +kernel
theorem dX12_readRule_62 : decode cX12_readRule 62 = .ok (.iload_n 1, 1) := by decide +kernel
theorem dX12_readRule_63 : decode cX12_readRule 63 = .ok (.iastore, 1) := by decide +kernel
theorem dX12_readRule_64 : decode cX12_readRule 64 = .ok (.aload_n 0, 1) := by decide +kernel
theorem dX12_readRule_65 : decode cX12_readRule 65 = .ok (.invokevirtual 196, 3) := by decide +kernel
theorem dX12_readRule_68 : decode cX12_readRule 68 = .ok (.return_, 1) := by decide +kernel
theorem dX12_readLine_0 : decode cX12_readLine 0 = .ok (.aload_n 0, 1) := by decide +kernel
theorem dX12_readLine_1 : decode cX12_readLine 1 = .ok (.ldc 217, 2) := by decide +kernel
theorem dX12_readLine_3 : decode cX12_readLine 3 = .ok (.invokevirtual 209, 3) := by decide +kernel
theorem dX12_readLine_6 : decode cX12_readLine 6 = .ok (.ifCond .ne 12, 3) := by decide +kernel
theorem dX12_readLine_9 : decode cX12_readLine 9 = .ok (.aload_n 0, 1) := by decide +kernel
theorem dX12_readLine_10 : decode cX12_readLine 10 = .ok (.ldc 219, 2) := by decide +kernel
theorem dX12_readLine_12 : decode cX12_readLine 12 = .ok (.invokevirtual 209, 3) := by decide +kernel
theorem dX12_readLine_15 : decode cX12_readLine 15 = .ok (.ifCond .eq 30, 3) := by decide +kernel
theorem dX12_readLine_18 : decode cX12_readLine 18 = .ok (.aload_n 0, 1) := by decide +kernel
theorem dX12_readLine_19 : decode cX12_readLine 19 = .ok (.getfield 23, 3) := by decide +kernel
theorem dX12_readLine_22 : decode cX12_readLine 22 = .ok (.iconst 0, 1) := by decide +kernel
theorem dX12_readLine_23 : decode cX12_readLine 23 = .ok (.aload_n 0, 1) := by decide +kernel
theorem dX12_readLine_24 : decode cX12_readLine 24 = .ok (.ldc 219, 2) := by decide +kernel
theorem dX12_readLine_26 : decode cX12_readLine 26 = .ok (.invokevirtual 209, 3) := by decide +kernel
theorem dX12_readLine_29 : decode cX12_readLine 29 = .ok (.ifCond .eq 7, 3) := by decide +kernel
theorem dX12_readLine_32 : decode cX12_readLine 32 = .ok (.iconst 1, 1) := by decide +kernel
theorem dX12_readLine_33 : decode cX12_readLine 33 = .ok (.goto 4, 3) := by decide +kernel
theorem dX12_readLine_36 : decode cX12_readLine 36 = .ok (.iconst 0, 1) := by decide +kernel
theorem dX12_readLine_37 : decode cX12_readLine 37 = .ok (.iastore, 1) := by decide +kernel
theorem dX12_readLine_38 : decode cX12_readLine 38 = .ok (.aload_n 0, 1) := by decide +kernel
theorem dX12_readLine_39 : decode cX12_readLine 39 = .ok (.invokevirtual 196, 3) := by decide +kernel
theorem dX12_readLine_42 : decode cX12_readLine 42 = .ok (.goto 161, 3) := by decide +kernel
theorem dX12_readLine_45 : decode cX12_readLine 45 = .ok (.aload_n 0, 1) := by decide +kernel
theorem dX12_readLine_46 : decode cX12_readLine 46 = .ok (.ldc 221, 2) := by decide +kernel
theorem dX12_readLine_48 : decode cX12_readLine 48 = .ok (.invokevirtual 209, 3) := by decide +kernel
theorem dX12_readLine_51 : decode cX12_readLine 51 = .ok (.ifCond .eq 10, 3) := by decide +kernel
theorem dX12_readLine_54 : decode cX12_readLine 54 = .ok (.aload_n 0, 1) := by decide +kernel
theorem dX12_readLine_55 : decode cX12_readLine 55 = .ok (.invokevirtual 223, 3) := by decide +kernel
theorem dX12_readLine_58 : decode cX12_readLine 58 = .ok (.goto 145, 3) := by decide +kernel
theorem dX12_readLine_61 : decode cX12_readLine 61 = .ok (.aload_n 0, 1) := by decide +kernel
theorem dX12_readLine_62 : decode cX12_readLine 62 = .ok (.ldc 226, 2) := by decide +kernel
theorem dX12_readLine_64 : decode cX12_readLine 64 = .ok (.invokevirtual 209, 3) := by decide +kernel
theorem dX12_readLine_67 : decode cX12_readLine 67 = .ok (.ifCond .eq 10, 3) := by decide +kernel
theorem dX12_readLine_70 : decode cX12_readLine 70 = .ok (.aload_n 0, 1) := by decide +kernel
theorem dX12_readLine_71 : decode cX12_readLine 71 = .ok (.invokevirtual 228, 3) := by decide +kernel
theorem dX12_readLine_74 : decode cX12_readLine 74 = .ok (.goto 129, 3) := by decide +kernel
theorem dX12_readLine_77 : decode cX12_readLine 77 = .ok (.aload_n 0, 1) := by decide +kernel
theorem dX12_readLine_78 : decode cX12_readLine 78 = .ok (.ldc 231, 2) := by decide +kernel
theorem dX12_readLine_80 : decode cX12_readLine 80 = .ok (.invokevirtual 209, 3) := by decide +kernel
theorem dX12_readLine_83 : decode cX12_readLine 83 = .ok (.ifCond .eq 16, 3) := by decide +kernel
theorem dX12_readLine_86 : decode cX12_readLine 86 = .ok (.aload_n 0, 1) := by decide +kernel
theorem dX12_readLine_87 : decode cX12_readLine 87 = .ok (.sipush 242, 3) := by decide +kernel
theorem dX12_readLine_90 : decode cX12_readLine 90 = .ok (.iconst 0, 1) := by decide +kernel
theorem dX12_readLine_91 : decode cX12_readLine 91 = .ok (.bipush 99, 2) := by decide +kernel
theorem dX12_readLine_93 : decode cX12_readLine 93 = .ok (.invokevirtual 233, 3) := by decide +kernel
theorem dX12_readLine_96 : decode cX12_readLine 96 = .ok (.goto 107, 3) := by decide +kernel
theorem dX12_readLine_99 : decode cX12_readLine 99 = .ok (.aload_n 0, 1) := by decide +kernel
theorem dX12_readLine_100 : decode cX12_readLine 100 = .ok (.ldc 237, 2) := by decide +kernel
theorem dX12_readLine_102 : decode cX12_readLine 102 = .ok (.invokevirtual 209, 3) := by decide +kernel
theorem dX12_readLine_105 : decode cX12_readLine 105 = .ok (.ifCond .eq 16, 3) := by decide +kernel
theorem dX12_readLine_108 : decode cX12_readLine 108 = .ok (.aload_n 0, 1) := by decide +kernel
theorem dX12_readLine_109 : decode cX12_readLine 109 = .ok (.sipush 243, 3) := by decide +kernel
theorem dX12_readLine_112 : decode cX12_readLine 112 = .ok (.iconst 0, 1) := by decide +kernel
theorem dX12_readLine_113 : decode cX12_readLine 113 = .ok (.bipush 99, 2) := by decide +kernel
theorem dX12_readLine_115 : decode cX12_readLine 115 = .ok (.invokevirtual 233, 3) := by decide +kernel
theorem dX12_readLine_118 : decode cX12_readLine 118 = .ok (.goto 85, 3) := by decide +kernel
theorem dX12_readLine_121 : decode cX12_readLine 121 = .ok (.aload_n 0, 1) := by decide +kernel
theorem dX12_readLine_122 : decode cX12_readLine 122 = .ok (.ldc 239, 2) := by decide +kernel
theorem dX12_readLine_124 : decode cX12_readLine 124 = .ok (.invokevirtual 209, 3) := by decide +kernel
theorem dX12_readLine_127 : decode cX12_readLine 127 = .ok (.ifCond .eq 16, 3) := by decide +kernel
theorem dX12_readLine_130 : decode cX12_readLine 130 = .ok (.aload_n 0, 1) := by decide +kernel
theorem dX12_readLine_131 : decode cX12_readLine 131 = .ok (.sipush 244, 3) := by decide +kernel
theorem dX12_readLine_134 : decode cX12_readLine 134 = .ok (.iconst 1, 1) := by decide +kernel
theorem dX12_readLine_135 : decode cX12_readLine 135 = .ok (.bipush 6, 2) := by decide +kernel
theorem dX12_readLine_137 : decode cX12_readLine 137 = .ok (.invokevirtual 233, 3) := by decide +kernel
theorem dX12_readLine_140 : decode cX12_readLine 140 = .ok (.goto 63, 3) := by decide +kernel
theorem dX12_readLine_143 : decode cX12_readLine 143 = .ok (.aload_n 0, 1) := by decide +kernel
theorem dX12_readLine_144 : decode cX12_readLine 144 = .ok (.ldc 241, 2) := by decide +kernel
theorem dX12_readLine_146 : decode cX12_readLine 146 = .ok (.invokevirtual 209, 3) := by decide +kernel
theorem dX12_readLine_149 : decode cX12_readLine 149 = .ok (.ifCond .eq 10, 3) := by decide +kernel
theorem dX12_readLine_152 : decode cX12_readLine 152 = .ok (.aload_n 0, 1) := by decide +kernel
theorem dX12_readLine_153 : decode cX12_readLine 153 = .ok (.invokevirtual 243, 3) := by decide +kernel
theorem dX12_readLine_156 : decode cX12_readLine 156 = .ok (.goto 47, 3) := by decide +kernel
theorem dX12_readLine_159 : decode cX12_readLine 159 = .ok (.aload_n 0, 1) := by decide +kernel
theorem dX12_readLine_160 : decode cX12_readLine 160 = .ok (.ldc 246, 2) := by decide +kernel
theorem dX12_readLine_162 : decode cX12_readLine 162 = .ok (.invokevirtual 209, 3) := by decide +kernel
theorem dX12_readLine_165 : decode cX12_readLine 165 = .ok (.ifCond .eq 17, 3) := by decide +kernel
theorem dX12_readLine_168 : decode cX12_readLine 168 = .ok (.aload_n 0, 1) := by decide +kernel
theorem dX12_readLine_169 : decode cX12_readLine 169 = .ok (.sipush 251, 3) := by decide +kernel
theorem dX12_readLine_172 : decode cX12_readLine 172 = .ok (.iconst 0, 1) := by decide +kernel
theorem dX12_readLine_173 : decode cX12_readLine 173 = .ok (.sipush 999, 3) := by decide +kernel
theorem dX12_readLine_176 : decode cX12_readLine 176 = .ok (.invokevirtual 233, 3) := by decide +kernel
theorem dX12_readLine_179 : decode cX12_readLine 179 = .ok (.goto 24, 3) := by decide +kernel
theorem dX12_readLine_182 : decode cX12_readLine 182 = .ok (.aload_n 0, 1) := by decide +kernel
theorem dX12_readLine_183 : decode cX12_readLine 183 = .ok (.ldc 248, 2) := by decide +kernel
theorem dX12_readLine_185 : decode cX12_readLine 185 = .ok (.invokevirtual 209, 3) := by decide +kernel
theorem dX12_readLine_188 : decode cX12_readLine 188 = .ok (.ifCond .eq 10, 3) := by decide +kernel
theorem dX12_readLine_191 : decode cX12_readLine 191 = .ok (.aload_n 0, 1) := by decide +kernel
theorem dX12_readLine_192 : decode cX12_readLine 192 = .ok (.invokevirtual 250, 3) := by decide +kernel
theorem dX12_readLine_195 : decode cX12_readLine 195 = .ok (.goto 8, 3) := by decide +kernel
theorem dX12_readLine_198 : decode cX12_readLine 198 = .ok (.aload_n 0, 1) := by decide +kernel
theorem dX12_readLine_199 : decode cX12_readLine 199 = .ok (.iconst 2, 1) := by decide +kernel
theorem dX12_readLine_200 : decode cX12_readLine 200 = .ok (.invokevirtual 192, 3) := by decide +kernel
theorem dX12_readLine_203 : decode cX12_readLine 203 = .ok (.aload_n 0, 1) := by decide +kernel
theorem dX12_readLine_204 : decode cX12_readLine 204 = .ok (.getfield 176, 3) := by decide +kernel
theorem dX12_readLine_207 : decode cX12_readLine 207 = .ok (.ifCond .eq 4, 3) := by decide +kernel
theorem dX12_readLine_210 : decode cX12_readLine 210 = .ok (.return_, 1) := by decide +kernel
theorem dX12_readLine_211 : decode cX12_readLine 211 = .ok (.aload_n 0, 1) := by decide +kernel
theorem dX12_readLine_212 : decode cX12_readLine 212 = .ok (.getfield 161, 3) := by decide +kernel
theorem dX12_readLine_215 : decode cX12_readLine 215 = .ok (.iconst 3, 1) := by decide +kernel
theorem dX12_readLine_216 : decode cX12_readLine 216 = .ok (.if_icmp .ne 10, 3) := by decide +kernel
theorem dX12_readLine_219 : decode cX12_readLine 219 = .ok (.aload_n 0, 1) := by decide +kernel
theorem dX12_readLine_220 : decode cX12_readLine 220 = .ok (.invokevirtual 196, 3) := by decide +kernel
theorem dX12_readLine_223 : decode cX12_readLine 223 = .ok (.goto 8, 3) := by decide +kernel
theorem dX12_readLine_226 : decode cX12_readLine 226 = .ok (.aload_n 0, 1) := by decide +kernel
theorem dX12_readLine_227 : decode cX12_readLine 227 = .ok (.iconst 2, 1) := by decide +kernel
theorem dX12_readLine_228 : decode cX12_readLine 228 = .ok (.invokevirtual 192, 3) := by decide +kernel
theorem dX12_readLine_231 : decode cX12_readLine 231 = .ok (.return_, 1) := by decide +kernel
theorem s_readRule {l : Launch} {E : aE} {N : Nat} {S : aS} {M : aM} (hfl : l.stackTraces = false) (m : Int) (T : Int → Int) (n : Int) (hS : lyM S m) (hB : RTp M m T n) (hn : 0 ≤ n ∧ n ≤ 300) (f : Int → Int) (hF : RF M m f) (hK : FOK f) (a : Int) (ha : 0 ≤ a ∧ a ≤ n) (h8 : M m 8 = a) (h0 : M m 12 = 0) : aMt l E pX12_readRule [(2, m)] N S M (aU N S (fun M' => RES M' m T n (ruleM T n a f) ∧ frTy M M' m)) := by
  refine a_met hfl rfl (by decide +kernel) (Nat.le_of_ble_eq_true rfl) ?_
  refine x_aload_n (pc := 0) dX12_readRule_0 rfl rfl ?_
  refine x_callV0 (pc := 1) dX12_readRule_1 rfl kX12_196 (s_next hfl m T n hS hB.1 hn hB.2 a ha h8) hS.1 rfl rfl (Nat.le_of_ble_eq_true rfl) (k_U (fun M9 hM9 => ?_)) n_U
  obtain ⟨t9, g9⟩ := hM9
  have F9 : frTx M M9 m := fun x y q => g9 x y (by omega)
  have B9 := hB.y F9.y
  have z9 : M9 m 12 = 0 := (g9 _ _ (by omega)).trans h0
  refine x_aload_n (pc := 4) dX12_readRule_4 rfl rfl ?_
  refine x_ldcK (a := -16 - ((10 : Nat) : Int)) (pc := 5) dX12_readRule_5 rfl (List.mem_of_getElem? (i := 10) rfl) (by omega) ?_
  refine x_callV1 (pc := 7) dX12_readRule_7 rfl kX12_209 (s_isWordM hfl m T n hS B9 hn a ha z9 t9 10 (by decide)) hS.1 rfl rfl (Nat.le_of_ble_eq_true rfl) (k_B (fun q_7 => ?_) (fun q_7 => ?_)) n_B
  · refine x_if_eq (tgt := 17) (pc := 10) dX12_readRule_10 (by decide) (fun c => absurd c (by decide)) (fun _ => ?_)
    refine x_iconst (pc := 13) dX12_readRule_13 (by decide) ?_
    refine x_goto (tgt := 44) (pc := 14) dX12_readRule_14 (by decide) ?_
    refine x_istore_n (pc := 44) dX12_readRule_44 rfl (by decide) rfl ?_
    refine x_iload_n (pc := 45) dX12_readRule_45 rfl rfl ?_
    refine x_iconst (pc := 46) dX12_readRule_46 (by decide) ?_
    refine x_icmp_ne (tgt := 56) (pc := 47) dX12_readRule_47 (by decide) (fun c_47 => ?_) (fun c_47 => ?_)
    · refine x_aload_n (pc := 56) dX12_readRule_56 rfl rfl ?_
      refine x_getR (jj := 5) (pc := 57) dX12_readRule_57 fX12_23 hS.1 rfl (by decide) rfl rM_5 ?_
      refine x_bipush (pc := 60) dX12_readRule_60 (by decide) ?_
      refine x_iload_n (pc := 62) dX12_readRule_62 rfl rfl ?_
      refine x_iastore (pc := 63) dX12_readRule_63 (sM_5 hS) (by omega) ?_
      refine x_aload_n (pc := 64) dX12_readRule_64 rfl rfl ?_
      refine x_callV0 (pc := 65) dX12_readRule_65 rfl kX12_196 (s_next hfl m T n hS (B9.y frTy.rf.up).1 hn (B9.y frTy.rf.up).2 (tE T n a) ⟨by have := tE_r (T := T) ha.2; have := tB_r (T := T) ha.2; omega, (tE_r (T := T) ha.2).2⟩ ((up_a (by omega)).trans t9.2.2.1)) hS.1 rfl rfl (Nat.le_of_ble_eq_true rfl) (k_U (fun M8 hM8 => ?_)) n_U
      obtain ⟨t8, g8⟩ := hM8
      have F8 : frTx _ M8 m := fun x y q => g8 x y (by omega)
      refine x_return (pc := 68) dX12_readRule_68 rfl (by decide) ?_
      have hw : wIx T (tB T n a) (tE T n a) = 10 := wIx_is (k := 10) (by decide) q_7.2
      refine ⟨rfl, rfl, rfl, RES.ok (a := tE T n a) (g := fU f 33 0) (by unfold ruleM; rewrite [if_pos ⟨q_7.1, by omega⟩, hw]; rfl) ?_ t8 ((hF.x F9).w.x F8), (F9.y.up).tr F8.y⟩
      exact (g8 _ _ (by omega)).trans ((up_a (by omega)).trans z9)
    · exfalso; omega
  · refine x_if_eq (tgt := 17) (pc := 10) dX12_readRule_10 (by decide) (fun _ => ?_) (fun c => absurd c (by decide))
    refine x_aload_n (pc := 17) dX12_readRule_17 rfl rfl ?_
    refine x_ldcK (a := -16 - ((11 : Nat) : Int)) (pc := 18) dX12_readRule_18 rfl (List.mem_of_getElem? (i := 11) rfl) (by omega) ?_
    refine x_callV1 (pc := 20) dX12_readRule_20 rfl kX12_209 (s_isWordM hfl m T n hS B9 hn a ha z9 t9 11 (by decide)) hS.1 rfl rfl (Nat.le_of_ble_eq_true rfl) (k_B (fun q_20 => ?_) (fun q_20 => ?_)) n_B
    · refine x_if_eq (tgt := 30) (pc := 23) dX12_readRule_23 (by decide) (fun c => absurd c (by decide)) (fun _ => ?_)
      refine x_iconst (pc := 26) dX12_readRule_26 (by decide) ?_
      refine x_goto (tgt := 44) (pc := 27) dX12_readRule_27 (by decide) ?_
      refine x_istore_n (pc := 44) dX12_readRule_44 rfl (by decide) rfl ?_
      refine x_iload_n (pc := 45) dX12_readRule_45 rfl rfl ?_
      refine x_iconst (pc := 46) dX12_readRule_46 (by decide) ?_
      refine x_icmp_ne (tgt := 56) (pc := 47) dX12_readRule_47 (by decide) (fun c_47 => ?_) (fun c_47 => ?_)
      · refine x_aload_n (pc := 56) dX12_readRule_56 rfl rfl ?_
        refine x_getR (jj := 5) (pc := 57) dX12_readRule_57 fX12_23 hS.1 rfl (by decide) rfl rM_5 ?_
        refine x_bipush (pc := 60) dX12_readRule_60 (by decide) ?_
        refine x_iload_n (pc := 62) dX12_readRule_62 rfl rfl ?_
        refine x_iastore (pc := 63) dX12_readRule_63 (sM_5 hS) (by omega) ?_
        refine x_aload_n (pc := 64) dX12_readRule_64 rfl rfl ?_
        refine x_callV0 (pc := 65) dX12_readRule_65 rfl kX12_196 (s_next hfl m T n hS (B9.y frTy.rf.up).1 hn (B9.y frTy.rf.up).2 (tE T n a) ⟨by have := tE_r (T := T) ha.2; have := tB_r (T := T) ha.2; omega, (tE_r (T := T) ha.2).2⟩ ((up_a (by omega)).trans t9.2.2.1)) hS.1 rfl rfl (Nat.le_of_ble_eq_true rfl) (k_U (fun M8 hM8 => ?_)) n_U
        obtain ⟨t8, g8⟩ := hM8
        have F8 : frTx _ M8 m := fun x y q => g8 x y (by omega)
        refine x_return (pc := 68) dX12_readRule_68 rfl (by decide) ?_
        have hw : wIx T (tB T n a) (tE T n a) = 11 := wIx_is (k := 11) (by decide) q_20.2
        refine ⟨rfl, rfl, rfl, RES.ok (a := tE T n a) (g := fU f 33 1) (by unfold ruleM; rewrite [if_pos ⟨q_20.1, by omega⟩, hw]; rfl) ?_ t8 ((hF.x F9).w.x F8), (F9.y.up).tr F8.y⟩
        exact (g8 _ _ (by omega)).trans ((up_a (by omega)).trans z9)
      · exfalso; omega
    · refine x_if_eq (tgt := 30) (pc := 23) dX12_readRule_23 (by decide) (fun _ => ?_) (fun c => absurd c (by decide))
      refine x_aload_n (pc := 30) dX12_readRule_30 rfl rfl ?_
      refine x_ldcK (a := -16 - ((12 : Nat) : Int)) (pc := 31) dX12_readRule_31 rfl (List.mem_of_getElem? (i := 12) rfl) (by omega) ?_
      refine x_callV1 (pc := 33) dX12_readRule_33 rfl kX12_209 (s_isWordM hfl m T n hS B9 hn a ha z9 t9 12 (by decide)) hS.1 rfl rfl (Nat.le_of_ble_eq_true rfl) (k_B (fun q_33 => ?_) (fun q_33 => ?_)) n_B
      · refine x_if_eq (tgt := 43) (pc := 36) dX12_readRule_36 (by decide) (fun c => absurd c (by decide)) (fun _ => ?_)
        refine x_iconst (pc := 39) dX12_readRule_39 (by decide) ?_
        refine x_goto (tgt := 44) (pc := 40) dX12_readRule_40 (by decide) ?_
        refine x_istore_n (pc := 44) dX12_readRule_44 rfl (by decide) rfl ?_
        refine x_iload_n (pc := 45) dX12_readRule_45 rfl rfl ?_
        refine x_iconst (pc := 46) dX12_readRule_46 (by decide) ?_
        refine x_icmp_ne (tgt := 56) (pc := 47) dX12_readRule_47 (by decide) (fun c_47 => ?_) (fun c_47 => ?_)
        · refine x_aload_n (pc := 56) dX12_readRule_56 rfl rfl ?_
          refine x_getR (jj := 5) (pc := 57) dX12_readRule_57 fX12_23 hS.1 rfl (by decide) rfl rM_5 ?_
          refine x_bipush (pc := 60) dX12_readRule_60 (by decide) ?_
          refine x_iload_n (pc := 62) dX12_readRule_62 rfl rfl ?_
          refine x_iastore (pc := 63) dX12_readRule_63 (sM_5 hS) (by omega) ?_
          refine x_aload_n (pc := 64) dX12_readRule_64 rfl rfl ?_
          refine x_callV0 (pc := 65) dX12_readRule_65 rfl kX12_196 (s_next hfl m T n hS (B9.y frTy.rf.up).1 hn (B9.y frTy.rf.up).2 (tE T n a) ⟨by have := tE_r (T := T) ha.2; have := tB_r (T := T) ha.2; omega, (tE_r (T := T) ha.2).2⟩ ((up_a (by omega)).trans t9.2.2.1)) hS.1 rfl rfl (Nat.le_of_ble_eq_true rfl) (k_U (fun M8 hM8 => ?_)) n_U
          obtain ⟨t8, g8⟩ := hM8
          have F8 : frTx _ M8 m := fun x y q => g8 x y (by omega)
          refine x_return (pc := 68) dX12_readRule_68 rfl (by decide) ?_
          have hw : wIx T (tB T n a) (tE T n a) = 12 := wIx_is (k := 12) (by decide) q_33.2
          refine ⟨rfl, rfl, rfl, RES.ok (a := tE T n a) (g := fU f 33 2) (by unfold ruleM; rewrite [if_pos ⟨q_33.1, by omega⟩, hw]; rfl) ?_ t8 ((hF.x F9).w.x F8), (F9.y.up).tr F8.y⟩
          exact (g8 _ _ (by omega)).trans ((up_a (by omega)).trans z9)
        · exfalso; omega
      · refine x_if_eq (tgt := 43) (pc := 36) dX12_readRule_36 (by decide) (fun _ => ?_) (fun c => absurd c (by decide))
        refine x_iconst (pc := 43) dX12_readRule_43 (by decide) ?_
        refine x_istore_n (pc := 44) dX12_readRule_44 rfl (by decide) rfl ?_
        refine x_iload_n (pc := 45) dX12_readRule_45 rfl rfl ?_
        refine x_iconst (pc := 46) dX12_readRule_46 (by decide) ?_
        refine x_icmp_ne (tgt := 56) (pc := 47) dX12_readRule_47 (by decide) (fun c_47 => ?_) (fun c_47 => ?_)
        · exact absurd rfl c_47
        · have hno : ¬ (tK T n a = 1 ∧ 10 ≤ wIx T (tB T n a) (tE T n a)) := fun ⟨u, w⟩ => by
            obtain ⟨x1, x2, x3⟩ := wIx_no (T := T) (b := tB T n a) (e := tE T n a) (by omega)
            by_cases y0 : wIx T (tB T n a) (tE T n a) = 10
            · exact q_7 ⟨u, isWd_c (i := 10) y0 x3⟩
            by_cases y1 : wIx T (tB T n a) (tE T n a) = 11
            · exact q_20 ⟨u, isWd_c (i := 11) y1 x3⟩
            exact q_33 ⟨u, isWd_c (i := 12) (by omega) x3⟩
          refine x_aload_n (pc := 50) dX12_readRule_50 rfl rfl ?_
          refine x_iconst (pc := 51) dX12_readRule_51 (by decide) ?_
          refine x_callV1 (pc := 52) dX12_readRule_52 rfl kX12_192 (s_wrong0 hfl m hS _ z9) hS.1 rfl rfl (Nat.le_of_ble_eq_true rfl) (k_U (fun M5 hM5 => ?_)) n_U
          subst hM5
          refine x_return (pc := 55) dX12_readRule_55 rfl (by decide) ?_
          refine ⟨rfl, rfl, rfl, RES.no (e := if tK T n a = 4 then 1 else 2) (p := tB T n a) (by unfold ruleM; rewrite [if_neg hno]; rfl) (by split <;> omega) ?_ ?_, fun x y u v => by rw [up_w (by omega), up_w (by omega)]; exact F9.y x y u v⟩
          · rw [up_i (by omega), up_s, t9.1]
          · rw [up_s]; exact t9.2.1
theorem s_readLine {l : Launch} {E : aE} {N : Nat} {S : aS} {M : aM} (hfl : l.stackTraces = false) (m : Int) (T : Int → Int) (n : Int) (hS : lyM S m) (hB : RTp M m T n) (hn : 0 ≤ n ∧ n ≤ 300) (f : Int → Int) (hF : RF M m f) (hK : FOK f) (a : Int) (ha : 0 ≤ a ∧ a ≤ n) (h0 : M m 12 = 0) (hT : RTk M m T n a) : aMt l E pX12_readLine [(2, m)] N S M (aU N S (fun M' => RES M' m T n (lineR T n a f) ∧ frTy M M' m)) := by
  refine a_met hfl rfl (by decide +kernel) (Nat.le_of_ble_eq_true rfl) ?_
  have rest : ∀ M9 : aM, RES M9 m T n (lineM T n a f) → frTy M M9 m → aX l E pX12_readLine (aU N S (fun M' => RES M' m T n (lineR T n a f) ∧ frTy M M' m)) 0 0 N S M9 203 [(0, (2, m))] [] := by
    intro M9 hr hf9
    refine x_aload_n (pc := 203) dX12_readLine_203 rfl rfl ?_
    refine x_getIV (jj := 12) (pc := 204) dX12_readLine_204 fX12_176 hS.1 rfl (by decide) rfl (by (repeat (first | rewrite [up_s] | rewrite [up_i (by omega)] | rewrite [up_a (by omega)] | rewrite [stM_a (by omega) (by omega)])); rfl) ?_
    refine x_if_eq (tgt := 211) (pc := 207) dX12_readLine_207 (by decide) (fun c_207 => ?_) (fun c_207 => ?_)
    · have he9 : (lineM T n a f).1 = 0 := by rw [← hr.1]; assumption
      obtain ⟨t9, r9⟩ := hr.2.2 he9
      obtain ⟨⟨o1, o2⟩, o3⟩ := lineM_ok (T := T) ha.2 hK he9
      have hl : lineR T n a f = finR T n (lineM T n a f).2.2.1 (lineM T n a f).2.2.2 := by rw [lineR_b]; exact if_pos he9
      have z9 : M9 m 12 = 0 := hr.1.trans he9
      have B9 := hB.y hf9
      refine x_aload_n (pc := 211) dX12_readLine_211 rfl rfl ?_
      refine x_getIV (jj := 10) (pc := 212) dX12_readLine_212 fX12_161 hS.1 rfl (by decide) rfl (by (repeat (first | rewrite [up_s] | rewrite [up_i (by omega)] | rewrite [up_a (by omega)] | rewrite [stM_a (by omega) (by omega)])); rfl) ?_
      refine x_iconst (pc := 215) dX12_readLine_215 (by decide) ?_
      refine x_icmp_ne (tgt := 226) (pc := 216) dX12_readLine_216 (by decide) (fun c_216 => ?_) (fun c_216 => ?_)
      · refine x_aload_n (pc := 226) dX12_readLine_226 rfl rfl ?_
        refine x_iconst (pc := 227) dX12_readLine_227 (by decide) ?_
        refine x_callV1 (pc := 228) dX12_readLine_228 rfl kX12_192 (s_wrong0 hfl m hS _ z9) hS.1 rfl rfl (Nat.le_of_ble_eq_true rfl) (k_U (fun M5 hM5 => ?_)) n_U
        subst hM5
        refine x_return (pc := 231) dX12_readLine_231 rfl (by decide) ?_
        have hk9 := t9.1
        refine ⟨rfl, rfl, rfl, RES.no (e := if tK T n (lineM T n a f).2.2.1 = 4 then 1 else 2) (p := tB T n (lineM T n a f).2.2.1) (by rw [hl]; exact if_neg (by rw [← t9.1]; assumption)) (by split <;> omega) ?_ ?_, fun x y u v => by rw [up_w (by omega), up_w (by omega)]; exact hf9 x y u v⟩
        · rw [up_i (by omega), up_s, t9.1]
        · rw [up_s]; exact t9.2.1
      · refine x_aload_n (pc := 219) dX12_readLine_219 rfl rfl ?_
        refine x_callV0 (pc := 220) dX12_readLine_220 rfl kX12_196 (s_next hfl m T n hS B9.1 hn B9.2 (tE T n (lineM T n a f).2.2.1) ⟨by have := tE_r (T := T) o2; have := tB_r (T := T) o2; omega, (tE_r (T := T) o2).2⟩ t9.2.2.1) hS.1 rfl rfl (Nat.le_of_ble_eq_true rfl) (k_U (fun M8 hM8 => ?_)) n_U
        obtain ⟨t8, g8⟩ := hM8
        have F8 : frTx M9 M8 m := fun x y q => g8 x y (by omega)
        refine x_goto (tgt := 231) (pc := 223) dX12_readLine_223 (by decide) ?_
        refine x_return (pc := 231) dX12_readLine_231 rfl (by decide) ?_
        refine ⟨rfl, rfl, rfl, RES.ok (a := tE T n (lineM T n a f).2.2.1) (g := (lineM T n a f).2.2.2) (by rw [hl]; exact if_pos (by rw [← t9.1]; assumption)) ((g8 _ _ (by omega)).trans z9) t8 (r9.x F8), hf9.tr F8.y⟩
    · refine x_return (pc := 210) dX12_readLine_210 rfl (by decide) ?_
      have hl : lineR T n a f = lineM T n a f := by rw [lineR_b]; exact if_neg (by rw [← hr.1]; assumption)
      exact ⟨rfl, rfl, rfl, by rw [hl]; exact hr, hf9⟩
  refine x_aload_n (pc := 0) dX12_readLine_0 rfl rfl ?_
  refine x_ldcK (a := -16 - ((0 : Nat) : Int)) (pc := 1) dX12_readLine_1 rfl (List.mem_of_getElem? (i := 0) rfl) (by omega) ?_
  refine x_callV1 (pc := 3) dX12_readLine_3 rfl kX12_209 (s_isWordM hfl m T n hS hB hn a ha h0 hT 0 (by decide)) hS.1 rfl rfl (Nat.le_of_ble_eq_true rfl) (k_B (fun q_3 => ?_) (fun q_3 => ?_)) n_B
  · refine x_if_ne (tgt := 18) (pc := 6) dX12_readLine_6 (by decide) (fun _ => ?_) (fun c => absurd c (by decide))
    refine x_aload_n (pc := 18) dX12_readLine_18 rfl rfl ?_
    refine x_getR (jj := 5) (pc := 19) dX12_readLine_19 fX12_23 hS.1 rfl (by decide) rfl rM_5 ?_
    refine x_iconst (pc := 22) dX12_readLine_22 (by decide) ?_
    refine x_aload_n (pc := 23) dX12_readLine_23 rfl rfl ?_
    refine x_ldcK (a := -16 - ((1 : Nat) : Int)) (pc := 24) dX12_readLine_24 rfl (List.mem_of_getElem? (i := 1) rfl) (by omega) ?_
    refine x_callV1 (pc := 26) dX12_readLine_26 rfl kX12_209 (s_isWordM hfl m T n hS hB hn a ha h0 hT 1 (by decide)) hS.1 rfl rfl (Nat.le_of_ble_eq_true rfl) (k_B (fun q_26 => ?_) (fun q_26 => ?_)) n_B
    · refine x_if_eq (tgt := 36) (pc := 29) dX12_readLine_29 (by decide) (fun c => absurd c (by decide)) (fun _ => ?_)
      refine x_iconst (pc := 32) dX12_readLine_32 (by decide) ?_
      refine x_goto (tgt := 37) (pc := 33) dX12_readLine_33 (by decide) ?_
      exact absurd (isWd_one (i := 0) (k := 1) (by decide) (by decide) q_3.2 q_26.2) (by decide)
    · refine x_if_eq (tgt := 36) (pc := 29) dX12_readLine_29 (by decide) (fun _ => ?_) (fun c => absurd c (by decide))
      refine x_iconst (pc := 36) dX12_readLine_36 (by decide) ?_
      refine x_iastore (pc := 37) dX12_readLine_37 (sM_5 hS) (by omega) ?_
      refine x_aload_n (pc := 38) dX12_readLine_38 rfl rfl ?_
      refine x_callV0 (pc := 39) dX12_readLine_39 rfl kX12_196 (s_next hfl m T n hS (hB.y frTy.rf.up).1 hn (hB.y frTy.rf.up).2 (tE T n a) ⟨by have := tE_r (T := T) ha.2; have := tB_r (T := T) ha.2; omega, (tE_r (T := T) ha.2).2⟩ ((up_a (by omega)).trans hT.2.2.1)) hS.1 rfl rfl (Nat.le_of_ble_eq_true rfl) (k_U (fun M8 hM8 => ?_)) n_U
      obtain ⟨t8, g8⟩ := hM8
      have F8 : frTx _ M8 m := fun x y q => g8 x y (by omega)
      have hw : wIx T (tB T n a) (tE T n a) = 0 := wIx_is (k := 0) (by decide) q_3.2
      have hL : lineM T n a f = okM (tE T n a) (fU f 0 0) := by
        unfold lineM; rewrite [if_neg (fun z => z q_3.1), hw]; rfl
      refine x_goto (tgt := 203) (pc := 42) dX12_readLine_42 (by decide) ?_
      exact x_lo (lo' := [(0, (2, m))]) ⟨rfl, trivial⟩ (rest M8 (RES.ok hL ((g8 _ _ (by omega)).trans ((up_a (by omega)).trans h0)) t8 (hF.w.x F8)) ((frTy.rf.up).tr F8.y))
  · refine x_if_ne (tgt := 18) (pc := 6) dX12_readLine_6 (by decide) (fun c => absurd c (by decide)) (fun _ => ?_)
    refine x_aload_n (pc := 9) dX12_readLine_9 rfl rfl ?_
    refine x_ldcK (a := -16 - ((1 : Nat) : Int)) (pc := 10) dX12_readLine_10 rfl (List.mem_of_getElem? (i := 1) rfl) (by omega) ?_
    refine x_callV1 (pc := 12) dX12_readLine_12 rfl kX12_209 (s_isWordM hfl m T n hS hB hn a ha h0 hT 1 (by decide)) hS.1 rfl rfl (Nat.le_of_ble_eq_true rfl) (k_B (fun q_12 => ?_) (fun q_12 => ?_)) n_B
    · refine x_if_eq (tgt := 45) (pc := 15) dX12_readLine_15 (by decide) (fun c => absurd c (by decide)) (fun _ => ?_)
      refine x_aload_n (pc := 18) dX12_readLine_18 rfl rfl ?_
      refine x_getR (jj := 5) (pc := 19) dX12_readLine_19 fX12_23 hS.1 rfl (by decide) rfl rM_5 ?_
      refine x_iconst (pc := 22) dX12_readLine_22 (by decide) ?_
      refine x_aload_n (pc := 23) dX12_readLine_23 rfl rfl ?_
      refine x_ldcK (a := -16 - ((1 : Nat) : Int)) (pc := 24) dX12_readLine_24 rfl (List.mem_of_getElem? (i := 1) rfl) (by omega) ?_
      refine x_callV1 (pc := 26) dX12_readLine_26 rfl kX12_209 (s_isWordM hfl m T n hS hB hn a ha h0 hT 1 (by decide)) hS.1 rfl rfl (Nat.le_of_ble_eq_true rfl) (k_B (fun q_26 => ?_) (fun q_26 => ?_)) n_B
      · refine x_if_eq (tgt := 36) (pc := 29) dX12_readLine_29 (by decide) (fun c => absurd c (by decide)) (fun _ => ?_)
        refine x_iconst (pc := 32) dX12_readLine_32 (by decide) ?_
        refine x_goto (tgt := 37) (pc := 33) dX12_readLine_33 (by decide) ?_
        refine x_iastore (pc := 37) dX12_readLine_37 (sM_5 hS) (by omega) ?_
        refine x_aload_n (pc := 38) dX12_readLine_38 rfl rfl ?_
        refine x_callV0 (pc := 39) dX12_readLine_39 rfl kX12_196 (s_next hfl m T n hS (hB.y frTy.rf.up).1 hn (hB.y frTy.rf.up).2 (tE T n a) ⟨by have := tE_r (T := T) ha.2; have := tB_r (T := T) ha.2; omega, (tE_r (T := T) ha.2).2⟩ ((up_a (by omega)).trans hT.2.2.1)) hS.1 rfl rfl (Nat.le_of_ble_eq_true rfl) (k_U (fun M8 hM8 => ?_)) n_U
        obtain ⟨t8, g8⟩ := hM8
        have F8 : frTx _ M8 m := fun x y q => g8 x y (by omega)
        have hw : wIx T (tB T n a) (tE T n a) = 1 := wIx_is (k := 1) (by decide) q_12.2
        have hL : lineM T n a f = okM (tE T n a) (fU f 0 1) := by
          unfold lineM; rewrite [if_neg (fun z => z q_12.1), hw]; rfl
        refine x_goto (tgt := 203) (pc := 42) dX12_readLine_42 (by decide) ?_
        exact x_lo (lo' := [(0, (2, m))]) ⟨rfl, trivial⟩ (rest M8 (RES.ok hL ((g8 _ _ (by omega)).trans ((up_a (by omega)).trans h0)) t8 (hF.w.x F8)) ((frTy.rf.up).tr F8.y))
      · refine x_if_eq (tgt := 36) (pc := 29) dX12_readLine_29 (by decide) (fun _ => ?_) (fun c => absurd c (by decide))
        refine x_iconst (pc := 36) dX12_readLine_36 (by decide) ?_
        exact absurd q_12 q_26
    · refine x_if_eq (tgt := 45) (pc := 15) dX12_readLine_15 (by decide) (fun _ => ?_) (fun c => absurd c (by decide))
      refine x_aload_n (pc := 45) dX12_readLine_45 rfl rfl ?_
      refine x_ldcK (a := -16 - ((2 : Nat) : Int)) (pc := 46) dX12_readLine_46 rfl (List.mem_of_getElem? (i := 2) rfl) (by omega) ?_
      refine x_callV1 (pc := 48) dX12_readLine_48 rfl kX12_209 (s_isWordM hfl m T n hS hB hn a ha h0 hT 2 (by decide)) hS.1 rfl rfl (Nat.le_of_ble_eq_true rfl) (k_B (fun q_48 => ?_) (fun q_48 => ?_)) n_B
      · refine x_if_eq (tgt := 61) (pc := 51) dX12_readLine_51 (by decide) (fun c => absurd c (by decide)) (fun _ => ?_)
        refine x_aload_n (pc := 54) dX12_readLine_54 rfl rfl ?_
        have hw : wIx T (tB T n a) (tE T n a) = 2 := wIx_is (k := 2) (by decide) q_48.2
        have hL : lineM T n a f = (if f 1 = 6 then badR 4 (tB T n a) else stepM T n (tE T n a) f) := by
          unfold lineM; rewrite [if_neg (fun z => z q_48.1), hw]; rfl
        refine x_callV0 (pc := 55) dX12_readLine_55 rfl kX12_223 (s_readStep hfl m T n hS hB hn f hF hK (tE T n a) ⟨by have := tE_r (T := T) ha.2; have := tB_r (T := T) ha.2; omega, (tE_r (T := T) ha.2).2⟩ hT.2.2.1 h0 (tB T n a) hT.2.1 (hT.1.trans q_48.1)) hS.1 rfl rfl (Nat.le_of_ble_eq_true rfl) (k_U (fun M9 hM9 => ?_)) n_U
        obtain ⟨r9, f9⟩ := hM9
        refine x_goto (tgt := 203) (pc := 58) dX12_readLine_58 (by decide) ?_
        exact x_lo (lo' := [(0, (2, m))]) ⟨rfl, trivial⟩ (rest M9 (by rw [hL]; exact r9) f9)
      · refine x_if_eq (tgt := 61) (pc := 51) dX12_readLine_51 (by decide) (fun _ => ?_) (fun c => absurd c (by decide))
        refine x_aload_n (pc := 61) dX12_readLine_61 rfl rfl ?_
        refine x_ldcK (a := -16 - ((3 : Nat) : Int)) (pc := 62) dX12_readLine_62 rfl (List.mem_of_getElem? (i := 3) rfl) (by omega) ?_
        refine x_callV1 (pc := 64) dX12_readLine_64 rfl kX12_209 (s_isWordM hfl m T n hS hB hn a ha h0 hT 3 (by decide)) hS.1 rfl rfl (Nat.le_of_ble_eq_true rfl) (k_B (fun q_64 => ?_) (fun q_64 => ?_)) n_B
        · refine x_if_eq (tgt := 77) (pc := 67) dX12_readLine_67 (by decide) (fun c => absurd c (by decide)) (fun _ => ?_)
          refine x_aload_n (pc := 70) dX12_readLine_70 rfl rfl ?_
          have hw : wIx T (tB T n a) (tE T n a) = 3 := wIx_is (k := 3) (by decide) q_64.2
          have hL : lineM T n a f = (if f 14 = 4 then badR 4 (tB T n a) else cartM T n (tE T n a) f) := by
            unfold lineM; rewrite [if_neg (fun z => z q_64.1), hw]; rfl
          refine x_callV0 (pc := 71) dX12_readLine_71 rfl kX12_228 (s_readCart hfl m T n hS hB hn f hF hK (tE T n a) ⟨by have := tE_r (T := T) ha.2; have := tB_r (T := T) ha.2; omega, (tE_r (T := T) ha.2).2⟩ hT.2.2.1 h0 (tB T n a) hT.2.1 (hT.1.trans q_64.1)) hS.1 rfl rfl (Nat.le_of_ble_eq_true rfl) (k_U (fun M9 hM9 => ?_)) n_U
          obtain ⟨r9, f9⟩ := hM9
          refine x_goto (tgt := 203) (pc := 74) dX12_readLine_74 (by decide) ?_
          exact x_lo (lo' := [(0, (2, m))]) ⟨rfl, trivial⟩ (rest M9 (by rw [hL]; exact r9) f9)
        · refine x_if_eq (tgt := 77) (pc := 67) dX12_readLine_67 (by decide) (fun _ => ?_) (fun c => absurd c (by decide))
          refine x_aload_n (pc := 77) dX12_readLine_77 rfl rfl ?_
          refine x_ldcK (a := -16 - ((4 : Nat) : Int)) (pc := 78) dX12_readLine_78 rfl (List.mem_of_getElem? (i := 4) rfl) (by omega) ?_
          refine x_callV1 (pc := 80) dX12_readLine_80 rfl kX12_209 (s_isWordM hfl m T n hS hB hn a ha h0 hT 4 (by decide)) hS.1 rfl rfl (Nat.le_of_ble_eq_true rfl) (k_B (fun q_80 => ?_) (fun q_80 => ?_)) n_B
          · refine x_if_eq (tgt := 99) (pc := 83) dX12_readLine_83 (by decide) (fun c => absurd c (by decide)) (fun _ => ?_)
            refine x_aload_n (pc := 86) dX12_readLine_86 rfl rfl ?_
            refine x_sipush (pc := 87) dX12_readLine_87 (by decide) ?_
            refine x_iconst (pc := 90) dX12_readLine_90 (by decide) ?_
            refine x_bipush (pc := 91) dX12_readLine_91 (by decide) ?_
            have hw : wIx T (tB T n a) (tE T n a) = 4 := wIx_is (k := 4) (by decide) q_80.2
            have hL : lineM T n a f = oneM T n (tE T n a) 0 99 (242 - 219) f := by
              unfold lineM; rewrite [if_neg (fun z => z q_80.1), hw]; rfl
            refine x_callV3 (pc := 93) dX12_readLine_93 rfl kX12_233 (s_readOne hfl m T n hS hB hn f hF hK (tE T n a) ⟨by have := tE_r (T := T) ha.2; have := tB_r (T := T) ha.2; omega, (tE_r (T := T) ha.2).2⟩ hT.2.2.1 h0 242 0 99 (by decide)) hS.1 rfl rfl (Nat.le_of_ble_eq_true rfl) (k_U (fun M9 hM9 => ?_)) n_U
            obtain ⟨r9, f9⟩ := hM9
            refine x_goto (tgt := 203) (pc := 96) dX12_readLine_96 (by decide) ?_
            exact x_lo (lo' := [(0, (2, m))]) ⟨rfl, trivial⟩ (rest M9 (by rw [hL]; exact r9) f9)
          · refine x_if_eq (tgt := 99) (pc := 83) dX12_readLine_83 (by decide) (fun _ => ?_) (fun c => absurd c (by decide))
            refine x_aload_n (pc := 99) dX12_readLine_99 rfl rfl ?_
            refine x_ldcK (a := -16 - ((5 : Nat) : Int)) (pc := 100) dX12_readLine_100 rfl (List.mem_of_getElem? (i := 5) rfl) (by omega) ?_
            refine x_callV1 (pc := 102) dX12_readLine_102 rfl kX12_209 (s_isWordM hfl m T n hS hB hn a ha h0 hT 5 (by decide)) hS.1 rfl rfl (Nat.le_of_ble_eq_true rfl) (k_B (fun q_102 => ?_) (fun q_102 => ?_)) n_B
            · refine x_if_eq (tgt := 121) (pc := 105) dX12_readLine_105 (by decide) (fun c => absurd c (by decide)) (fun _ => ?_)
              refine x_aload_n (pc := 108) dX12_readLine_108 rfl rfl ?_
              refine x_sipush (pc := 109) dX12_readLine_109 (by decide) ?_
              refine x_iconst (pc := 112) dX12_readLine_112 (by decide) ?_
              refine x_bipush (pc := 113) dX12_readLine_113 (by decide) ?_
              have hw : wIx T (tB T n a) (tE T n a) = 5 := wIx_is (k := 5) (by decide) q_102.2
              have hL : lineM T n a f = oneM T n (tE T n a) 0 99 (243 - 219) f := by
                unfold lineM; rewrite [if_neg (fun z => z q_102.1), hw]; rfl
              refine x_callV3 (pc := 115) dX12_readLine_115 rfl kX12_233 (s_readOne hfl m T n hS hB hn f hF hK (tE T n a) ⟨by have := tE_r (T := T) ha.2; have := tB_r (T := T) ha.2; omega, (tE_r (T := T) ha.2).2⟩ hT.2.2.1 h0 243 0 99 (by decide)) hS.1 rfl rfl (Nat.le_of_ble_eq_true rfl) (k_U (fun M9 hM9 => ?_)) n_U
              obtain ⟨r9, f9⟩ := hM9
              refine x_goto (tgt := 203) (pc := 118) dX12_readLine_118 (by decide) ?_
              exact x_lo (lo' := [(0, (2, m))]) ⟨rfl, trivial⟩ (rest M9 (by rw [hL]; exact r9) f9)
            · refine x_if_eq (tgt := 121) (pc := 105) dX12_readLine_105 (by decide) (fun _ => ?_) (fun c => absurd c (by decide))
              refine x_aload_n (pc := 121) dX12_readLine_121 rfl rfl ?_
              refine x_ldcK (a := -16 - ((6 : Nat) : Int)) (pc := 122) dX12_readLine_122 rfl (List.mem_of_getElem? (i := 6) rfl) (by omega) ?_
              refine x_callV1 (pc := 124) dX12_readLine_124 rfl kX12_209 (s_isWordM hfl m T n hS hB hn a ha h0 hT 6 (by decide)) hS.1 rfl rfl (Nat.le_of_ble_eq_true rfl) (k_B (fun q_124 => ?_) (fun q_124 => ?_)) n_B
              · refine x_if_eq (tgt := 143) (pc := 127) dX12_readLine_127 (by decide) (fun c => absurd c (by decide)) (fun _ => ?_)
                refine x_aload_n (pc := 130) dX12_readLine_130 rfl rfl ?_
                refine x_sipush (pc := 131) dX12_readLine_131 (by decide) ?_
                refine x_iconst (pc := 134) dX12_readLine_134 (by decide) ?_
                refine x_bipush (pc := 135) dX12_readLine_135 (by decide) ?_
                have hw : wIx T (tB T n a) (tE T n a) = 6 := wIx_is (k := 6) (by decide) q_124.2
                have hL : lineM T n a f = oneM T n (tE T n a) 1 6 (244 - 219) f := by
                  unfold lineM; rewrite [if_neg (fun z => z q_124.1), hw]; rfl
                refine x_callV3 (pc := 137) dX12_readLine_137 rfl kX12_233 (s_readOne hfl m T n hS hB hn f hF hK (tE T n a) ⟨by have := tE_r (T := T) ha.2; have := tB_r (T := T) ha.2; omega, (tE_r (T := T) ha.2).2⟩ hT.2.2.1 h0 244 1 6 (by decide)) hS.1 rfl rfl (Nat.le_of_ble_eq_true rfl) (k_U (fun M9 hM9 => ?_)) n_U
                obtain ⟨r9, f9⟩ := hM9
                refine x_goto (tgt := 203) (pc := 140) dX12_readLine_140 (by decide) ?_
                exact x_lo (lo' := [(0, (2, m))]) ⟨rfl, trivial⟩ (rest M9 (by rw [hL]; exact r9) f9)
              · refine x_if_eq (tgt := 143) (pc := 127) dX12_readLine_127 (by decide) (fun _ => ?_) (fun c => absurd c (by decide))
                refine x_aload_n (pc := 143) dX12_readLine_143 rfl rfl ?_
                refine x_ldcK (a := -16 - ((7 : Nat) : Int)) (pc := 144) dX12_readLine_144 rfl (List.mem_of_getElem? (i := 7) rfl) (by omega) ?_
                refine x_callV1 (pc := 146) dX12_readLine_146 rfl kX12_209 (s_isWordM hfl m T n hS hB hn a ha h0 hT 7 (by decide)) hS.1 rfl rfl (Nat.le_of_ble_eq_true rfl) (k_B (fun q_146 => ?_) (fun q_146 => ?_)) n_B
                · refine x_if_eq (tgt := 159) (pc := 149) dX12_readLine_149 (by decide) (fun c => absurd c (by decide)) (fun _ => ?_)
                  refine x_aload_n (pc := 152) dX12_readLine_152 rfl rfl ?_
                  have hw : wIx T (tB T n a) (tE T n a) = 7 := wIx_is (k := 7) (by decide) q_146.2
                  have hL : lineM T n a f = riseM T n (tE T n a) f := by
                    unfold lineM; rewrite [if_neg (fun z => z q_146.1), hw]; rfl
                  refine x_callV0 (pc := 153) dX12_readLine_153 rfl kX12_243 (s_readRise hfl m T n hS hB hn f hF hK (tE T n a) ⟨by have := tE_r (T := T) ha.2; have := tB_r (T := T) ha.2; omega, (tE_r (T := T) ha.2).2⟩ hT.2.2.1 h0) hS.1 rfl rfl (Nat.le_of_ble_eq_true rfl) (k_U (fun M9 hM9 => ?_)) n_U
                  obtain ⟨r9, f9⟩ := hM9
                  refine x_goto (tgt := 203) (pc := 156) dX12_readLine_156 (by decide) ?_
                  exact x_lo (lo' := [(0, (2, m))]) ⟨rfl, trivial⟩ (rest M9 (by rw [hL]; exact r9) f9)
                · refine x_if_eq (tgt := 159) (pc := 149) dX12_readLine_149 (by decide) (fun _ => ?_) (fun c => absurd c (by decide))
                  refine x_aload_n (pc := 159) dX12_readLine_159 rfl rfl ?_
                  refine x_ldcK (a := -16 - ((8 : Nat) : Int)) (pc := 160) dX12_readLine_160 rfl (List.mem_of_getElem? (i := 8) rfl) (by omega) ?_
                  refine x_callV1 (pc := 162) dX12_readLine_162 rfl kX12_209 (s_isWordM hfl m T n hS hB hn a ha h0 hT 8 (by decide)) hS.1 rfl rfl (Nat.le_of_ble_eq_true rfl) (k_B (fun q_162 => ?_) (fun q_162 => ?_)) n_B
                  · refine x_if_eq (tgt := 182) (pc := 165) dX12_readLine_165 (by decide) (fun c => absurd c (by decide)) (fun _ => ?_)
                    refine x_aload_n (pc := 168) dX12_readLine_168 rfl rfl ?_
                    refine x_sipush (pc := 169) dX12_readLine_169 (by decide) ?_
                    refine x_iconst (pc := 172) dX12_readLine_172 (by decide) ?_
                    refine x_sipush (pc := 173) dX12_readLine_173 (by decide) ?_
                    have hw : wIx T (tB T n a) (tE T n a) = 8 := wIx_is (k := 8) (by decide) q_162.2
                    have hL : lineM T n a f = oneM T n (tE T n a) 0 999 (251 - 219) f := by
                      unfold lineM; rewrite [if_neg (fun z => z q_162.1), hw]; rfl
                    refine x_callV3 (pc := 176) dX12_readLine_176 rfl kX12_233 (s_readOne hfl m T n hS hB hn f hF hK (tE T n a) ⟨by have := tE_r (T := T) ha.2; have := tB_r (T := T) ha.2; omega, (tE_r (T := T) ha.2).2⟩ hT.2.2.1 h0 251 0 999 (by decide)) hS.1 rfl rfl (Nat.le_of_ble_eq_true rfl) (k_U (fun M9 hM9 => ?_)) n_U
                    obtain ⟨r9, f9⟩ := hM9
                    refine x_goto (tgt := 203) (pc := 179) dX12_readLine_179 (by decide) ?_
                    exact x_lo (lo' := [(0, (2, m))]) ⟨rfl, trivial⟩ (rest M9 (by rw [hL]; exact r9) f9)
                  · refine x_if_eq (tgt := 182) (pc := 165) dX12_readLine_165 (by decide) (fun _ => ?_) (fun c => absurd c (by decide))
                    refine x_aload_n (pc := 182) dX12_readLine_182 rfl rfl ?_
                    refine x_ldcK (a := -16 - ((9 : Nat) : Int)) (pc := 183) dX12_readLine_183 rfl (List.mem_of_getElem? (i := 9) rfl) (by omega) ?_
                    refine x_callV1 (pc := 185) dX12_readLine_185 rfl kX12_209 (s_isWordM hfl m T n hS hB hn a ha h0 hT 9 (by decide)) hS.1 rfl rfl (Nat.le_of_ble_eq_true rfl) (k_B (fun q_185 => ?_) (fun q_185 => ?_)) n_B
                    · refine x_if_eq (tgt := 198) (pc := 188) dX12_readLine_188 (by decide) (fun c => absurd c (by decide)) (fun _ => ?_)
                      refine x_aload_n (pc := 191) dX12_readLine_191 rfl rfl ?_
                      have hw : wIx T (tB T n a) (tE T n a) = 9 := wIx_is (k := 9) (by decide) q_185.2
                      have hL : lineM T n a f = ruleM T n (tE T n a) f := by
                        unfold lineM; rewrite [if_neg (fun z => z q_185.1), hw]; rfl
                      refine x_callV0 (pc := 192) dX12_readLine_192 rfl kX12_250 (s_readRule hfl m T n hS hB hn f hF hK (tE T n a) ⟨by have := tE_r (T := T) ha.2; have := tB_r (T := T) ha.2; omega, (tE_r (T := T) ha.2).2⟩ hT.2.2.1 h0) hS.1 rfl rfl (Nat.le_of_ble_eq_true rfl) (k_U (fun M9 hM9 => ?_)) n_U
                      obtain ⟨r9, f9⟩ := hM9
                      refine x_goto (tgt := 203) (pc := 195) dX12_readLine_195 (by decide) ?_
                      exact x_lo (lo' := [(0, (2, m))]) ⟨rfl, trivial⟩ (rest M9 (by rw [hL]; exact r9) f9)
                    · refine x_if_eq (tgt := 198) (pc := 188) dX12_readLine_188 (by decide) (fun _ => ?_) (fun c => absurd c (by decide))
                      refine x_aload_n (pc := 198) dX12_readLine_198 rfl rfl ?_
                      refine x_iconst (pc := 199) dX12_readLine_199 (by decide) ?_
                      obtain ⟨er, hr9, her⟩ : ∃ er, lineM T n a f = badR er (tB T n a) ∧ er = (if tK T n a = 4 then 1 else 2) := by
                        by_cases u : tK T n a = 1
                        · have hno : ∀ i : Nat, i < 10 → wIx T (tB T n a) (tE T n a) ≠ i := fun i hi z => by
                            obtain ⟨x1, x2, x3⟩ := wIx_no (T := T) (b := tB T n a) (e := tE T n a) (by omega)
                            have y := isWd_c z x3
                            have hi2 : i = 0 ∨ i = 1 ∨ i = 2 ∨ i = 3 ∨ i = 4 ∨ i = 5 ∨ i = 6 ∨ i = 7 ∨ i = 8 ∨ i = 9 := by omega
                            rcases hi2 with rfl | rfl | rfl | rfl | rfl | rfl | rfl | rfl | rfl | rfl
                            · exact q_3 ⟨u, y⟩
                            · exact q_12 ⟨u, y⟩
                            · exact q_48 ⟨u, y⟩
                            · exact q_64 ⟨u, y⟩
                            · exact q_80 ⟨u, y⟩
                            · exact q_102 ⟨u, y⟩
                            · exact q_124 ⟨u, y⟩
                            · exact q_146 ⟨u, y⟩
                            · exact q_162 ⟨u, y⟩
                            · exact q_185 ⟨u, y⟩
                          refine ⟨2, ?_, by rw [if_neg (by omega)]⟩
                          have g0 := hno 0 (by omega); have g1 := hno 1 (by omega); have g2 := hno 2 (by omega); have g3 := hno 3 (by omega); have g4 := hno 4 (by omega); have g5 := hno 5 (by omega); have g6 := hno 6 (by omega); have g7 := hno 7 (by omega); have g8 := hno 8 (by omega); have g9 := hno 9 (by omega)
                          unfold lineM
                          rw [if_neg (fun z => z u), if_neg (by omega), if_neg (by omega), if_neg (by omega), if_neg (by omega), if_neg (by omega), if_neg (by omega), if_neg (by omega), if_neg (by omega), if_neg (by omega), if_neg (by omega)]
                        · exact ⟨_, if_pos u, rfl⟩
                      refine x_callV1 (pc := 200) dX12_readLine_200 rfl kX12_192 (s_wrong0 hfl m hS _ h0) hS.1 rfl rfl (Nat.le_of_ble_eq_true rfl) (k_U (fun M5 hM5 => ?_)) n_U
                      have r9 : RES M5 m T n (lineM T n a f) := by
                        refine RES.no hr9 (by rw [her]; split <;> omega) ?_ ?_
                        · rw [hM5, up_i (by omega), up_s, hT.1, her]
                        · rw [hM5, up_s]; exact hT.2.1
                      have f9 : frTy M M5 m := fun x y u v => by rw [hM5, up_w (by omega), up_w (by omega)]
                      exact x_lo (lo' := [(0, (2, m))]) ⟨rfl, trivial⟩ (rest M5 (r9) f9)
