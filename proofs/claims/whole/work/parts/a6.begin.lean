/-! the class's partings: the first tableau, aims -/
def zA (w : Nat) : Nat → Int := fun c => if c < w then 1 else 0
def sgV (most : Int) (v : Nat) : Nat → Int := fun c => (if most = 1 then 1 else -1) * iM v c
def fxN (w : Nat) (F : Nat → Nat → Int) (st : sx) (Z : Nat → Int) (fx : Nat → Bool) : Nat → Bool := fun j => fx j || decide (0 < ta w F st Z j)
theorem zA_bd (w : Nat) : bdV w (zA w) := ⟨fun c hc => by unfold zA; rw [if_pos hc]; decide, by unfold zA; rw [if_neg (by omega)]; decide⟩
theorem sgV_bd {w v : Nat} {most : Int} (hv : v < w) : bdV w (sgV most v) := by
  refine ⟨fun c hc => ?_, ?_⟩
  · unfold sgV iM
    by_cases a : most = 1 <;> by_cases b : v = c
    · rw [if_pos a, if_pos b]; decide
    · rw [if_pos a, if_neg b]; decide
    · rw [if_neg a, if_pos b]; decide
    · rw [if_neg a, if_neg b]; decide
  · unfold sgV iM
    rw [if_neg (show ¬ v = w by omega), Int.mul_zero]
    decide
theorem ta_sg {w : Nat} {F : Nat → Nat → Int} {st : sx} {most : Int} {v k : Nat} (hk : k < w + 1) : ta w F st (sgV most v) k = if most = 1 then ta w F st (iM v) k else - ta w F st (iM v) k := by
  unfold sgV
  rw [ta_mul hk]
  by_cases a : most = 1
  · rw [if_pos a, if_pos a, Int.one_mul]
  · rw [if_neg a, if_neg a]
    omega
theorem val_nn {w h : Nat} {F : Nat → Nat → Int} {st : sx} (hO : OKx w h F st) {v : Nat} (hv : v < w + h) : 0 ≤ ta w F st (F v) w := by
  rcases hO.2.2.2.1.2.2.1 v hv with ⟨j, hj, e⟩ | ⟨i, hi, e⟩
  · rw [← e, ta_nu hj (by omega), if_neg (by omega)]
    exact Int.le_refl 0
  · rw [← e]; exact hO.2.2.2.2 i hi
theorem zA_v {w : Nat} {F : Nat → Nat → Int} {st : sx} : ta w F st (zA w) w = sF (fun k => ta w F st (iM k) w) w := by
  rw [ta_exp (by omega)]
  show sF _ w + zA w w * _ = _
  rw [show zA w w = 0 from if_neg (by omega), Int.zero_mul, Int.add_zero]
  refine sF_cg w fun i hi => ?_
  show zA w i * ta w F st (iM i) w = _
  rw [show zA w i = 1 from if_pos hi, Int.one_mul]
theorem pkS_up {p : Int → Bool} {n i : Nat} (h : i < pkN p n) : ∀ d, pkS p (n + d) i = pkS p n i
  | 0 => rfl
  | d + 1 => by
    have := pkN_up (p := p) n d
    show pkS p (n + d + 1) i = _
    rw [pkS_st (by omega), pkS_up h d]
/-- what is paid at most: TOTAL -/
theorem zA_le {c : Int → Int} {s : Int} (hc : costs9 c) (hs : 0 < s ∧ s < 128) (ht : totE c s ≠ -1) {st : sx} (hO : OKx (wN s) (hN c s) (FV c s) st) : ta (wN s) (FV c s) st (zA (wN s)) (wN s) ≤ totV c s * ov (wN s) (FV c s) st := by
  rcases totE_min hc (s := s) ⟨by omega, hs.2⟩ with ⟨z, -⟩ | ⟨-, ρ, n, hR, hv, -⟩
  · exact absurd z ht
  have hr := rowN_r hR.1
  have et : totV c s = gsum c s ρ n := by
    unfold totV
    rw [if_neg ht, ← hv]
    unfold valR
    omega
  have y0 : ∀ k, k < wN s → 0 ≤ ta (wN s) (FV c s) st (iM k) (wN s) := fun k hk => by
    have := val_nn hO (v := k) (by omega)
    rwa [FV_c hk] at this
  have grp1 : ∀ g : Int, 0 ≤ g → g < n → sF (fun k => if ρ (whoV s k) = g then ta (wN s) (FV c s) st (iM k) (wN s) else 0) (wN s) ≤ c (grp s ρ g) * ov (wN s) (FV c s) st := fun g a b => by
    have g0 := grp_lt (s := s) (g := g) (ρ := ρ)
    have g2 : b_and (grp s ρ g) (b_xor s (-1)) = 0 := (sub_iff g0 ⟨by omega, hs.2⟩).mpr fun h x y z => ((grp_hb ⟨x, y⟩).mp z).1
    have g3 := hR.2 g a b
    obtain ⟨h1, q1, q2, q3, q4⟩ := hR.1.2 g a b
    have g4 : grp s ρ g ≠ 0 := fun e => by
      have := (grp_hb (s := s) (g := g) (ρ := ρ) ⟨q1, q2⟩).mpr ⟨q3, q4⟩
      rw [e] at this; exact hb_0 ⟨q1, q2⟩ this
    have g5 := sub_le g0 ⟨by omega, hs.2⟩ g2
    obtain ⟨i, hi, e⟩ := pkS_ex (p := isR c s) (s.toNat + 1) (grp s ρ g).toNat (by omega) (by rw [show (((grp s ρ g).toNat : Nat) : Int) = grp s ρ g by omega]; exact decide_eq_true ⟨by omega, g2, g3⟩)
    have e : setV c s i = grp s ρ g := e.trans (by omega)
    have v := val_nn hO (v := wN s + i) (by have : i < hN c s := hi; omega)
    rw [ta_exp (by omega)] at v
    have v : 0 ≤ sF (fun l => FV c s (wN s + i) l * ta (wN s) (FV c s) st (iM l) (wN s)) (wN s) + FV c s (wN s + i) (wN s) * ta (wN s) (FV c s) st (iM (wN s)) (wN s) := v
    rw [FV_w, ta_e (by omega), if_pos rfl, e] at v
    have z : sF (fun l => FV c s (wN s + i) l * ta (wN s) (FV c s) st (iM l) (wN s)) (wN s) = sF (fun k => (-1) * (if ρ (whoV s k) = g then ta (wN s) (FV c s) st (iM k) (wN s) else 0)) (wN s) := sF_cg _ fun k hk => by
      obtain ⟨⟨x1, x2⟩, x3⟩ := whoV_p hk
      have gh := grp_hb (s := s) (g := g) (ρ := ρ) (h := whoV s k) ⟨x1, x2⟩
      rw [FV_k hk, e]
      by_cases q : ρ (whoV s k) = g
      · rw [if_pos (gh.mpr ⟨x3, q⟩), if_pos q]
      · rw [if_neg (fun z => q (gh.mp z).2), if_neg q, Int.zero_mul, Int.mul_zero]
    rw [z, sF_mul] at v
    omega
  have part : ∀ m : Nat, m ≤ n → sF (fun k => if ρ (whoV s k) < m then ta (wN s) (FV c s) st (iM k) (wN s) else 0) (wN s) ≤ sumN (fun g => c (grp s ρ g)) m * ov (wN s) (FV c s) st := fun m => by
    induction m with
    | zero =>
      intro _
      rw [sF_0 _ fun k hk => if_neg (by
        obtain ⟨⟨x1, x2⟩, x3⟩ := whoV_p hk
        have := (hR.1.1 (whoV s k) x1 x2 x3).1
        omega)]
      show 0 ≤ 0 * _
      omega
    | succ m ih =>
      intro hm
      have a := ih (by omega)
      have b := grp1 m (by omega) (by omega)
      have e : sF (fun k => if ρ (whoV s k) < ((m + 1 : Nat) : Int) then ta (wN s) (FV c s) st (iM k) (wN s) else 0) (wN s) = sF (fun k => (if ρ (whoV s k) < (m : Int) then ta (wN s) (FV c s) st (iM k) (wN s) else 0) + (if ρ (whoV s k) = (m : Int) then ta (wN s) (FV c s) st (iM k) (wN s) else 0)) (wN s) := sF_cg _ fun k hk => by
        by_cases q1 : ρ (whoV s k) < (m : Int)
        · rw [if_pos (by omega), if_pos q1, if_neg (by omega), Int.add_zero]
        · by_cases q2 : ρ (whoV s k) = (m : Int)
          · rw [if_pos (by omega), if_neg q1, if_pos q2, Int.zero_add]
          · rw [if_neg (by omega), if_neg q1, if_neg q2]; rfl
      rw [e, sF_add]
      show _ ≤ (sumN (fun g => c (grp s ρ g)) m + c (grp s ρ m)) * _
      rw [Int.add_mul]
      omega
  have fin := part n (Nat.le_refl n)
  rw [zA_v, et]
  have e : sF (fun k => if ρ (whoV s k) < (n : Int) then ta (wN s) (FV c s) st (iM k) (wN s) else 0) (wN s) = sF (fun k => ta (wN s) (FV c s) st (iM k) (wN s)) (wN s) := sF_cg _ fun k hk => if_pos (by
    obtain ⟨⟨x1, x2⟩, x3⟩ := whoV_p hk
    exact (hR.1.1 (whoV s k) x1 x2 x3).2.1)
  rw [e] at fin
  exact fin
/-- the column of a household -/
def colV (s h : Int) : Nat := pkN (isH s) h.toNat
theorem colV_p {s h : Int} (hh : 0 ≤ h ∧ h < 7) (hb9 : hb s h = 1) : colV s h < wN s ∧ whoV s (colV s h) = h ∧ ∀ i, i < colV s h → whoV s i ≠ h := by
  have e : ((h.toNat : Nat) : Int) = h := by omega
  have y : isH s (h.toNat : Int) = true := by rw [e]; exact decide_eq_true hb9
  have u := pkN_up (p := isH s) (h.toNat + 1) (7 - (h.toNat + 1))
  rw [show h.toNat + 1 + (7 - (h.toNat + 1)) = 7 by omega, pkN_y y] at u
  have lt : colV s h < wN s := u
  have w := pkS_up (p := isH s) (n := h.toNat + 1) (i := colV s h) (by rw [pkN_y y]; exact Nat.lt_succ_self _) (7 - (h.toNat + 1))
  rw [show h.toNat + 1 + (7 - (h.toNat + 1)) = 7 by omega] at w
  have w2 : whoV s (colV s h) = h := w.trans ((pkS_new y).trans e)
  refine ⟨lt, w2, fun i hi q => ?_⟩
  have := pkS_mono 7 i (colV s h) hi lt
  unfold whoV at q w2
  omega
theorem dX2_fill_0 : decode cX2_fill 0 = .ok (.aload_n 0, 1) := by decide +kernel
theorem dX2_fill_1 : decode cX2_fill 1 = .ok (.iload_n 1, 1) := by decide +kernel
theorem dX2_fill_2 : decode cX2_fill 2 = .ok (.invokevirtual 41, 3) := by decide +kernel
theorem dX2_fill_5 : decode cX2_fill 5 = .ok (.aload_n 0, 1) := by decide +kernel
theorem dX2_fill_6 : decode cX2_fill 6 = .ok (.invokevirtual 45, 3) := by decide +kernel
theorem dX2_fill_9 : decode cX2_fill 9 = .ok (.aload_n 0, 1) := by decide +kernel
theorem dX2_fill_10 : decode cX2_fill 10 = .ok (.invokevirtual 48, 3) := by decide +kernel
theorem dX2_fill_13 : decode cX2_fill 13 = .ok (.lconst 0, 1) := by decide +kernel
theorem dX2_fill_14 : decode cX2_fill 14 = .ok (.lcmp, 1) := by decide +kernel
theorem dX2_fill_15 : decode cX2_fill 15 = .ok (.ifCond .ne 7, 3) := by decide +kernel
theorem dX2_fill_18 : decode cX2_fill 18 = .ok (.iconst 1, 1) := by decide +kernel
theorem dX2_fill_19 : decode cX2_fill 19 = .ok (.goto 4, 3) := by decide +kernel
theorem dX2_fill_22 : decode cX2_fill 22 = .ok (.iconst 0, 1) := by decide +kernel
theorem dX2_fill_23 : decode cX2_fill 23 = .ok (.ireturn, 1) := by decide +kernel
theorem dX2_begin_0 : decode cX2_begin 0 = .ok (.aload_n 0, 1) := by decide +kernel
theorem dX2_begin_1 : decode cX2_begin 1 = .ok (.iload_n 1, 1) := by decide +kernel
theorem dX2_begin_2 : decode cX2_begin 2 = .ok (.putfield 57, 3) := by decide +kernel
theorem dX2_begin_5 : decode cX2_begin 5 = .ok (.aload_n 0, 1) := by decide +kernel
theorem dX2_begin_6 : decode cX2_begin 6 = .ok (.lconst 1, 1) := by decide +kernel
theorem dX2_begin_7 : decode cX2_begin 7 = .ok (.putfield 61, 3) := by decide +kernel
theorem dX2_begin_10 : decode cX2_begin 10 = .ok (.aload_n 0, 1) := by decide +kernel
theorem dX2_begin_11 : decode cX2_begin 11 = .ok (.iconst 0, 1) := by decide +kernel
theorem dX2_begin_12 : decode cX2_begin 12 = .ok (.putfield 68, 3) := by decide +kernel
theorem dX2_begin_15 : decode cX2_begin 15 = .ok (.iconst 0, 1) := by decide +kernel
theorem dX2_begin_16 : decode cX2_begin 16 = .ok (.istore_n 2, 1) := by decide +kernel
theorem dX2_begin_17 : decode cX2_begin 17 = .ok (.iload_n 2, 1) := by decide +kernel
theorem dX2_begin_18 : decode cX2_begin 18 = .ok (.bipush 7, 2) := by decide +kernel
theorem dX2_begin_20 : decode cX2_begin 20 = .ok (.if_icmp .ge 68, 3) := by decide +kernel
theorem dX2_begin_23 : decode cX2_begin 23 = .ok (.aload_n 0, 1) := by decide +kernel
theorem dX2_begin_24 : decode cX2_begin 24 = .ok (.getfield 68, 3) := by decide +kernel
theorem dX2_begin_27 : decode cX2_begin 27 = .ok (.iconst 5, 1) := by decide +kernel
theorem dX2_begin_28 : decode cX2_begin 28 = .ok (.if_icmp .ge 60, 3) := by decide +kernel
theorem dX2_begin_31 : decode cX2_begin 31 = .ok (.iload_n 1, 1) := by decide +kernel
theorem dX2_begin_32 : decode cX2_begin 32 = .ok (.iload_n 2, 1) := by decide +kernel
theorem dX2_begin_33 : decode cX2_begin 33 = .ok (.invokestatic 71, 3) := by decide +kernel
theorem dX2_begin_36 : decode cX2_begin 36 = .ok (.ifCond .eq 46, 3) := by decide +kernel
theorem dX2_begin_39 : decode cX2_begin 39 = .ok (.aload_n 0, 1) := by decide +kernel
theorem dX2_begin_40 : decode cX2_begin 40 = .ok (.getfield 27, 3) := by decide +kernel
theorem dX2_begin_43 : decode cX2_begin 43 = .ok (.aload_n 0, 1) := by decide +kernel
theorem dX2_begin_44 : decode cX2_begin 44 = .ok (.getfield 68, 3) := by decide +kernel
theorem dX2_begin_47 : decode cX2_begin 47 = .ok (.iload_n 2, 1) := by decide +kernel
theorem dX2_begin_48 : decode cX2_begin 48 = .ok (.iastore, 1) := by decide +kernel
theorem dX2_begin_49 : decode cX2_begin 49 = .ok (.aload_n 0, 1) := by decide +kernel
theorem dX2_begin_50 : decode cX2_begin 50 = .ok (.getfield 20, 3) := by decide +kernel
theorem dX2_begin_53 : decode cX2_begin 53 = .ok (.aload_n 0, 1) := by decide +kernel
theorem dX2_begin_54 : decode cX2_begin 54 = .ok (.getfield 68, 3) := by decide +kernel
theorem dX2_begin_57 : decode cX2_begin 57 = .ok (.aload_n 0, 1) := by decide +kernel
theorem dX2_begin_58 : decode cX2_begin 58 = .ok (.getfield 68, 3) := by decide +kernel
theorem dX2_begin_61 : decode cX2_begin 61 = .ok (.iastore, 1) := by decide +kernel
theorem dX2_begin_62 : decode cX2_begin 62 = .ok (.aload_n 0, 1) := by decide +kernel
theorem dX2_begin_63 : decode cX2_begin 63 = .ok (.getfield 23, 3) := by decide +kernel
theorem dX2_begin_66 : decode cX2_begin 66 = .ok (.aload_n 0, 1) := by decide +kernel
theorem dX2_begin_67 : decode cX2_begin 67 = .ok (.getfield 68, 3) := by decide +kernel
theorem dX2_begin_70 : decode cX2_begin 70 = .ok (.iconst 0, 1) := by decide +kernel
theorem dX2_begin_71 : decode cX2_begin 71 = .ok (.bastore, 1) := by decide +kernel
theorem dX2_begin_72 : decode cX2_begin 72 = .ok (.aload_n 0, 1) := by decide +kernel
theorem dX2_begin_73 : decode cX2_begin 73 = .ok (.dup, 1) := by decide +kernel
theorem dX2_begin_74 : decode cX2_begin 74 = .ok (.getfield 68, 3) := by decide +kernel
theorem dX2_begin_77 : decode cX2_begin 77 = .ok (.iconst 1, 1) := by decide +kernel
theorem dX2_begin_78 : decode cX2_begin 78 = .ok (.iadd, 1) := by decide +kernel
theorem dX2_begin_79 : decode cX2_begin 79 = .ok (.putfield 68, 3) := by decide +kernel
theorem dX2_begin_82 : decode cX2_begin 82 = .ok (.iinc 2 1, 3) := by decide +kernel
theorem dX2_begin_85 : decode cX2_begin 85 = .ok (.goto (-68), 3) := by decide +kernel
theorem dX2_begin_88 : decode cX2_begin 88 = .ok (.aload_n 0, 1) := by decide +kernel
theorem dX2_begin_89 : decode cX2_begin 89 = .ok (.iconst 0, 1) := by decide +kernel
theorem dX2_begin_90 : decode cX2_begin 90 = .ok (.putfield 65, 3) := by decide +kernel
theorem dX2_begin_93 : decode cX2_begin 93 = .ok (.iconst 1, 1) := by decide +kernel
theorem dX2_begin_94 : decode cX2_begin 94 = .ok (.istore_n 2, 1) := by decide +kernel
theorem dX2_begin_95 : decode cX2_begin 95 = .ok (.iload_n 2, 1) := by decide +kernel
theorem dX2_begin_96 : decode cX2_begin 96 = .ok (.iload_n 1, 1) := by decide +kernel
theorem dX2_begin_97 : decode cX2_begin 97 = .ok (.if_icmp .gt 35, 3) := by decide +kernel
theorem dX2_begin_100 : decode cX2_begin 100 = .ok (.iload_n 2, 1) := by decide +kernel
theorem dX2_begin_101 : decode cX2_begin 101 = .ok (.iload_n 1, 1) := by decide +kernel
theorem dX2_begin_102 : decode cX2_begin 102 = .ok (.iconst (-1), 1) := by decide +kernel
theorem dX2_begin_103 : decode cX2_begin 103 = .ok (.ixor, 1) := by decide +kernel
theorem dX2_begin_104 : decode cX2_begin 104 = .ok (.iand, 1) := by decide +kernel
theorem dX2_begin_105 : decode cX2_begin 105 = .ok (.ifCond .ne 21, 3) := by decide +kernel
theorem dX2_begin_108 : decode cX2_begin 108 = .ok (.aload_n 0, 1) := by decide +kernel
theorem dX2_begin_109 : decode cX2_begin 109 = .ok (.getfield 37, 3) := by decide +kernel
theorem dX2_begin_112 : decode cX2_begin 112 = .ok (.getfield 75, 3) := by decide +kernel
theorem dX2_begin_115 : decode cX2_begin 115 = .ok (.iload_n 2, 1) := by decide +kernel
theorem dX2_begin_116 : decode cX2_begin 116 = .ok (.iaload, 1) := by decide +kernel
theorem dX2_begin_117 : decode cX2_begin 117 = .ok (.iconst (-1), 1) := by decide +kernel
theorem dX2_begin_118 : decode cX2_begin 118 = .ok (.if_icmp .eq 8, 3) := by decide +kernel
theorem dX2_begin_121 : decode cX2_begin 121 = .ok (.aload_n 0, 1) := by decide +kernel
theorem dX2_begin_122 : decode cX2_begin 122 = .ok (.iload_n 2, 1) := by decide +kernel
theorem dX2_begin_123 : decode cX2_begin 123 = .ok (.invokevirtual 78, 3) := by decide +kernel
theorem dX2_begin_126 : decode cX2_begin 126 = .ok (.iinc 2 1, 3) := by decide +kernel
theorem dX2_begin_129 : decode cX2_begin 129 = .ok (.goto (-34), 3) := by decide +kernel
theorem dX2_begin_132 : decode cX2_begin 132 = .ok (.aload_n 0, 1) := by decide +kernel
theorem dX2_begin_133 : decode cX2_begin 133 = .ok (.getfield 13, 3) := by decide +kernel
theorem dX2_begin_136 : decode cX2_begin 136 = .ok (.aload_n 0, 1) := by decide +kernel
theorem dX2_begin_137 : decode cX2_begin 137 = .ok (.getfield 65, 3) := by decide +kernel
theorem dX2_begin_140 : decode cX2_begin 140 = .ok (.aaload, 1) := by decide +kernel
theorem dX2_begin_141 : decode cX2_begin 141 = .ok (.ldc2_w 81, 3) := by decide +kernel
theorem dX2_begin_144 : decode cX2_begin 144 = .ok (.invokestatic 83, 3) := by decide +kernel
theorem dX2_begin_147 : decode cX2_begin 147 = .ok (.aload_n 0, 1) := by decide +kernel
theorem dX2_begin_148 : decode cX2_begin 148 = .ok (.getfield 13, 3) := by decide +kernel
theorem dX2_begin_151 : decode cX2_begin 151 = .ok (.aload_n 0, 1) := by decide +kernel
theorem dX2_begin_152 : decode cX2_begin 152 = .ok (.getfield 65, 3) := by decide +kernel
theorem dX2_begin_155 : decode cX2_begin 155 = .ok (.aaload, 1) := by decide +kernel
theorem dX2_begin_156 : decode cX2_begin 156 = .ok (.aload_n 0, 1) := by decide +kernel
theorem dX2_begin_157 : decode cX2_begin 157 = .ok (.getfield 68, 3) := by decide +kernel
theorem dX2_begin_160 : decode cX2_begin 160 = .ok (.lconst 0, 1) := by decide +kernel
theorem dX2_begin_161 : decode cX2_begin 161 = .ok (.lastore, 1) := by decide +kernel
theorem dX2_begin_162 : decode cX2_begin 162 = .ok (.return_, 1) := by decide +kernel
theorem dX2_addRow_0 : decode cX2_addRow 0 = .ok (.aload_n 0, 1) := by decide +kernel
theorem dX2_addRow_1 : decode cX2_addRow 1 = .ok (.getfield 65, 3) := by decide +kernel
theorem dX2_addRow_4 : decode cX2_addRow 4 = .ok (.iconst 1, 1) := by decide +kernel
theorem dX2_addRow_5 : decode cX2_addRow 5 = .ok (.iadd, 1) := by decide +kernel
theorem dX2_addRow_6 : decode cX2_addRow 6 = .ok (.aload_n 0, 1) := by decide +kernel
theorem dX2_addRow_7 : decode cX2_addRow 7 = .ok (.getfield 13, 3) := by decide +kernel
theorem dX2_addRow_10 : decode cX2_addRow 10 = .ok (.arraylength, 1) := by decide +kernel
theorem dX2_addRow_11 : decode cX2_addRow 11 = .ok (.if_icmp .lt 4, 3) := by decide +kernel
theorem dX2_addRow_14 : decode cX2_addRow 14 = .ok (.return_, 1) := by decide +kernel
theorem dX2_addRow_15 : decode cX2_addRow 15 = .ok (.iconst 0, 1) := by decide +kernel
theorem dX2_addRow_16 : decode cX2_addRow 16 = .ok (.istore_n 2, 1) := by decide +kernel
theorem dX2_addRow_17 : decode cX2_addRow 17 = .ok (.iload_n 2, 1) := by decide +kernel
theorem dX2_addRow_18 : decode cX2_addRow 18 = .ok (.aload_n 0, 1) := by decide +kernel
theorem dX2_addRow_19 : decode cX2_addRow 19 = .ok (.getfield 68, 3) := by decide +kernel
theorem dX2_addRow_22 : decode cX2_addRow 22 = .ok (.if_icmp .ge 38, 3) := by decide +kernel
theorem dX2_addRow_25 : decode cX2_addRow 25 = .ok (.aload_n 0, 1) := by decide +kernel
theorem dX2_addRow_26 : decode cX2_addRow 26 = .ok (.getfield 13, 3) := by decide +kernel
theorem dX2_addRow_29 : decode cX2_addRow 29 = .ok (.aload_n 0, 1) := by decide +kernel
theorem dX2_addRow_30 : decode cX2_addRow 30 = .ok (.getfield 65, 3) := by decide +kernel
theorem dX2_addRow_33 : decode cX2_addRow 33 = .ok (.aaload, 1) := by decide +kernel
theorem dX2_addRow_34 : decode cX2_addRow 34 = .ok (.iload_n 2, 1) := by decide +kernel
theorem dX2_addRow_35 : decode cX2_addRow 35 = .ok (.iload_n 1, 1) := by decide +kernel
theorem dX2_addRow_36 : decode cX2_addRow 36 = .ok (.aload_n 0, 1) := by decide +kernel
theorem dX2_addRow_37 : decode cX2_addRow 37 = .ok (.getfield 27, 3) := by decide +kernel
theorem dX2_addRow_40 : decode cX2_addRow 40 = .ok (.iload_n 2, 1) := by decide +kernel
theorem dX2_addRow_41 : decode cX2_addRow 41 = .ok (.iaload, 1) := by decide +kernel
theorem dX2_addRow_42 : decode cX2_addRow 42 = .ok (.invokestatic 71, 3) := by decide +kernel
theorem dX2_addRow_45 : decode cX2_addRow 45 = .ok (.ifCond .eq 7, 3) := by decide +kernel
theorem dX2_addRow_48 : decode cX2_addRow 48 = .ok (.lconst 1, 1) := by decide +kernel
theorem dX2_addRow_49 : decode cX2_addRow 49 = .ok (.goto 4, 3) := by decide +kernel
theorem dX2_addRow_52 : decode cX2_addRow 52 = .ok (.lconst 0, 1) := by decide +kernel
theorem dX2_addRow_53 : decode cX2_addRow 53 = .ok (.lastore, 1) := by decide +kernel
theorem dX2_addRow_54 : decode cX2_addRow 54 = .ok (.iinc 2 1, 3) := by decide +kernel
theorem dX2_addRow_57 : decode cX2_addRow 57 = .ok (.goto (-40), 3) := by decide +kernel
theorem dX2_addRow_60 : decode cX2_addRow 60 = .ok (.aload_n 0, 1) := by decide +kernel
theorem dX2_addRow_61 : decode cX2_addRow 61 = .ok (.getfield 13, 3) := by decide +kernel
theorem dX2_addRow_64 : decode cX2_addRow 64 = .ok (.aload_n 0, 1) := by decide +kernel
theorem dX2_addRow_65 : decode cX2_addRow 65 = .ok (.getfield 65, 3) := by decide +kernel
theorem dX2_addRow_68 : decode cX2_addRow 68 = .ok (.aaload, 1) := by decide +kernel
theorem dX2_addRow_69 : decode cX2_addRow 69 = .ok (.aload_n 0, 1) := by decide +kernel
theorem dX2_addRow_70 : decode cX2_addRow 70 = .ok (.getfield 68, 3) := by decide +kernel
theorem dX2_addRow_73 : decode cX2_addRow 73 = .ok (.aload_n 0, 1) := by decide +kernel
theorem dX2_addRow_74 : decode cX2_addRow 74 = .ok (.getfield 37, 3) := by decide +kernel
theorem dX2_addRow_77 : decode cX2_addRow 77 = .ok (.getfield 75, 3) := by decide +kernel
theorem dX2_addRow_80 : decode cX2_addRow 80 = .ok (.iload_n 1, 1) := by decide +kernel
theorem dX2_addRow_81 : decode cX2_addRow 81 = .ok (.iaload, 1) := by decide +kernel
theorem dX2_addRow_82 : decode cX2_addRow 82 = .ok (.i2l, 1) := by decide +kernel
theorem dX2_addRow_83 : decode cX2_addRow 83 = .ok (.lastore, 1) := by decide +kernel
theorem dX2_addRow_84 : decode cX2_addRow 84 = .ok (.aload_n 0, 1) := by decide +kernel
theorem dX2_addRow_85 : decode cX2_addRow 85 = .ok (.getfield 16, 3) := by decide +kernel
theorem dX2_addRow_88 : decode cX2_addRow 88 = .ok (.aload_n 0, 1) := by decide +kernel
theorem dX2_addRow_89 : decode cX2_addRow 89 = .ok (.getfield 65, 3) := by decide +kernel
theorem dX2_addRow_92 : decode cX2_addRow 92 = .ok (.aload_n 0, 1) := by decide +kernel
theorem dX2_addRow_93 : decode cX2_addRow 93 = .ok (.getfield 68, 3) := by decide +kernel
theorem dX2_addRow_96 : decode cX2_addRow 96 = .ok (.aload_n 0, 1) := by decide +kernel
theorem dX2_addRow_97 : decode cX2_addRow 97 = .ok (.getfield 65, 3) := by decide +kernel
theorem dX2_addRow_100 : decode cX2_addRow 100 = .ok (.iadd, 1) := by decide +kernel
theorem dX2_addRow_101 : decode cX2_addRow 101 = .ok (.iastore, 1) := by decide +kernel
theorem dX2_addRow_102 : decode cX2_addRow 102 = .ok (.aload_n 0, 1) := by decide +kernel
theorem dX2_addRow_103 : decode cX2_addRow 103 = .ok (.dup, 1) := by decide +kernel
theorem dX2_addRow_104 : decode cX2_addRow 104 = .ok (.getfield 65, 3) := by decide +kernel
theorem dX2_addRow_107 : decode cX2_addRow 107 = .ok (.iconst 1, 1) := by decide +kernel
theorem dX2_addRow_108 : decode cX2_addRow 108 = .ok (.iadd, 1) := by decide +kernel
theorem dX2_addRow_109 : decode cX2_addRow 109 = .ok (.putfield 65, 3) := by decide +kernel
theorem dX2_addRow_112 : decode cX2_addRow 112 = .ok (.return_, 1) := by decide +kernel
theorem dX2_push_0 : decode cX2_push 0 = .ok (.iconst 0, 1) := by decide +kernel
theorem dX2_push_1 : decode cX2_push 1 = .ok (.istore_n 3, 1) := by decide +kernel
theorem dX2_push_2 : decode cX2_push 2 = .ok (.iload_n 3, 1) := by decide +kernel
theorem dX2_push_3 : decode cX2_push 3 = .ok (.aload_n 0, 1) := by decide +kernel
theorem dX2_push_4 : decode cX2_push 4 = .ok (.getfield 68, 3) := by decide +kernel
theorem dX2_push_7 : decode cX2_push 7 = .ok (.if_icmp .ge 45, 3) := by decide +kernel
theorem dX2_push_10 : decode cX2_push 10 = .ok (.aload_n 0, 1) := by decide +kernel
theorem dX2_push_11 : decode cX2_push 11 = .ok (.getfield 23, 3) := by decide +kernel
theorem dX2_push_14 : decode cX2_push 14 = .ok (.iload_n 3, 1) := by decide +kernel
theorem dX2_push_15 : decode cX2_push 15 = .ok (.aload_n 0, 1) := by decide +kernel
theorem dX2_push_16 : decode cX2_push 16 = .ok (.getfield 23, 3) := by decide +kernel
theorem dX2_push_19 : decode cX2_push 19 = .ok (.iload_n 3, 1) := by decide +kernel
theorem dX2_push_20 : decode cX2_push 20 = .ok (.baload, 1) := by decide +kernel
theorem dX2_push_21 : decode cX2_push 21 = .ok (.ifCond .ne 19, 3) := by decide +kernel
theorem dX2_push_24 : decode cX2_push 24 = .ok (.aload_n 0, 1) := by decide +kernel
theorem dX2_push_25 : decode cX2_push 25 = .ok (.getfield 13, 3) := by decide +kernel
theorem dX2_push_28 : decode cX2_push 28 = .ok (.aload_n 0, 1) := by decide +kernel
theorem dX2_push_29 : decode cX2_push 29 = .ok (.getfield 65, 3) := by decide +kernel
theorem dX2_push_32 : decode cX2_push 32 = .ok (.aaload, 1) := by decide +kernel
theorem dX2_push_33 : decode cX2_push 33 = .ok (.iload_n 3, 1) := by decide +kernel
theorem dX2_push_34 : decode cX2_push 34 = .ok (.laload, 1) := by decide +kernel
theorem dX2_push_35 : decode cX2_push 35 = .ok (.lconst 0, 1) := by decide +kernel
theorem dX2_push_36 : decode cX2_push 36 = .ok (.lcmp, 1) := by decide +kernel
theorem dX2_push_37 : decode cX2_push 37 = .ok (.ifCond .le 7, 3) := by decide +kernel
theorem dX2_push_40 : decode cX2_push 40 = .ok (.iconst 1, 1) := by decide +kernel
theorem dX2_push_41 : decode cX2_push 41 = .ok (.goto 4, 3) := by decide +kernel
theorem dX2_push_44 : decode cX2_push 44 = .ok (.iconst 0, 1) := by decide +kernel
theorem dX2_push_45 : decode cX2_push 45 = .ok (.bastore, 1) := by decide +kernel
theorem dX2_push_46 : decode cX2_push 46 = .ok (.iinc 3 1, 3) := by decide +kernel
theorem dX2_push_49 : decode cX2_push 49 = .ok (.goto (-47), 3) := by decide +kernel
theorem dX2_push_52 : decode cX2_push 52 = .ok (.aload_n 0, 1) := by decide +kernel
theorem dX2_push_53 : decode cX2_push 53 = .ok (.iload_n 1, 1) := by decide +kernel
theorem dX2_push_54 : decode cX2_push 54 = .ok (.invokevirtual 89, 3) := by decide +kernel
theorem dX2_push_57 : decode cX2_push 57 = .ok (.istore_n 3, 1) := by decide +kernel
theorem dX2_push_58 : decode cX2_push 58 = .ok (.iconst 0, 1) := by decide +kernel
theorem dX2_push_59 : decode cX2_push 59 = .ok (.istore 4, 2) := by decide +kernel
theorem dX2_push_61 : decode cX2_push 61 = .ok (.iload 4, 2) := by decide +kernel
theorem dX2_push_63 : decode cX2_push 63 = .ok (.aload_n 0, 1) := by decide +kernel
theorem dX2_push_64 : decode cX2_push 64 = .ok (.getfield 68, 3) := by decide +kernel
theorem dX2_push_67 : decode cX2_push 67 = .ok (.if_icmp .gt 85, 3) := by decide +kernel
theorem dX2_push_70 : decode cX2_push 70 = .ok (.iload_n 3, 1) := by decide +kernel
theorem dX2_push_71 : decode cX2_push 71 = .ok (.iconst (-1), 1) := by decide +kernel
theorem dX2_push_72 : decode cX2_push 72 = .ok (.if_icmp .eq 15, 3) := by decide +kernel
theorem dX2_push_75 : decode cX2_push 75 = .ok (.aload_n 0, 1) := by decide +kernel
theorem dX2_push_76 : decode cX2_push 76 = .ok (.getfield 13, 3) := by decide +kernel
theorem dX2_push_79 : decode cX2_push 79 = .ok (.iload_n 3, 1) := by decide +kernel
theorem dX2_push_80 : decode cX2_push 80 = .ok (.aaload, 1) := by decide +kernel
theorem dX2_push_81 : decode cX2_push 81 = .ok (.iload 4, 2) := by decide +kernel
theorem dX2_push_83 : decode cX2_push 83 = .ok (.laload, 1) := by decide +kernel
theorem dX2_push_84 : decode cX2_push 84 = .ok (.goto 4, 3) := by decide +kernel
theorem dX2_push_87 : decode cX2_push 87 = .ok (.lconst 0, 1) := by decide +kernel
theorem dX2_push_88 : decode cX2_push 88 = .ok (.lstore 5, 2) := by decide +kernel
theorem dX2_push_90 : decode cX2_push 90 = .ok (.iload_n 3, 1) := by decide +kernel
theorem dX2_push_91 : decode cX2_push 91 = .ok (.iconst (-1), 1) := by decide +kernel
theorem dX2_push_92 : decode cX2_push 92 = .ok (.if_icmp .ne 30, 3) := by decide +kernel
theorem dX2_push_95 : decode cX2_push 95 = .ok (.iload 4, 2) := by decide +kernel
theorem dX2_push_97 : decode cX2_push 97 = .ok (.aload_n 0, 1) := by decide +kernel
theorem dX2_push_98 : decode cX2_push 98 = .ok (.getfield 68, 3) := by decide +kernel
theorem dX2_push_101 : decode cX2_push 101 = .ok (.if_icmp .ge 21, 3) := by decide +kernel
theorem dX2_push_104 : decode cX2_push 104 = .ok (.aload_n 0, 1) := by decide +kernel
theorem dX2_push_105 : decode cX2_push 105 = .ok (.getfield 20, 3) := by decide +kernel
theorem dX2_push_108 : decode cX2_push 108 = .ok (.iload 4, 2) := by decide +kernel
theorem dX2_push_110 : decode cX2_push 110 = .ok (.iaload, 1) := by decide +kernel
theorem dX2_push_111 : decode cX2_push 111 = .ok (.iload_n 1, 1) := by decide +kernel
theorem dX2_push_112 : decode cX2_push 112 = .ok (.if_icmp .ne 10, 3) := by decide +kernel
theorem dX2_push_115 : decode cX2_push 115 = .ok (.aload_n 0, 1) := by decide +kernel
theorem dX2_push_116 : decode cX2_push 116 = .ok (.getfield 61, 3) := by decide +kernel
theorem dX2_push_119 : decode cX2_push 119 = .ok (.lneg, 1) := by decide +kernel
theorem dX2_push_120 : decode cX2_push 120 = .ok (.lstore 5, 2) := by decide +kernel
theorem dX2_push_122 : decode cX2_push 122 = .ok (.aload_n 0, 1) := by decide +kernel
theorem dX2_push_123 : decode cX2_push 123 = .ok (.getfield 13, 3) := by decide +kernel
theorem dX2_push_126 : decode cX2_push 126 = .ok (.aload_n 0, 1) := by decide +kernel
theorem dX2_push_127 : decode cX2_push 127 = .ok (.getfield 65, 3) := by decide +kernel
theorem dX2_push_130 : decode cX2_push 130 = .ok (.aaload, 1) := by decide +kernel
theorem dX2_push_131 : decode cX2_push 131 = .ok (.iload 4, 2) := by decide +kernel
theorem dX2_push_133 : decode cX2_push 133 = .ok (.iload_n 2, 1) := by decide +kernel
theorem dX2_push_134 : decode cX2_push 134 = .ok (.ifCond .eq 8, 3) := by decide +kernel
theorem dX2_push_137 : decode cX2_push 137 = .ok (.lload 5, 2) := by decide +kernel
theorem dX2_push_139 : decode cX2_push 139 = .ok (.goto 6, 3) := by decide +kernel
theorem dX2_push_142 : decode cX2_push 142 = .ok (.lload 5, 2) := by decide +kernel
theorem dX2_push_144 : decode cX2_push 144 = .ok (.lneg, 1) := by decide +kernel
theorem dX2_push_145 : decode cX2_push 145 = .ok (.lastore, 1) := by decide +kernel
theorem dX2_push_146 : decode cX2_push 146 = .ok (.iinc 4 1, 3) := by decide +kernel
theorem dX2_push_149 : decode cX2_push 149 = .ok (.goto (-88), 3) := by decide +kernel
theorem dX2_push_152 : decode cX2_push 152 = .ok (.aload_n 0, 1) := by decide +kernel
theorem dX2_push_153 : decode cX2_push 153 = .ok (.invokevirtual 45, 3) := by decide +kernel
theorem dX2_push_156 : decode cX2_push 156 = .ok (.return_, 1) := by decide +kernel
theorem s_addRow {l : Launch} {E : aE} {N : Nat} {S : aS} {M : aM} (hfl : l.stackTraces = false) (hC : lyC S) (x v9 : Int) (w h0 : Nat) (who : Nat → Int) (hw : w ≤ 5) (hh : h0 + 1 < 32) (h7 : M 40 7 = w) (h8 : M 40 8 = h0) (hwho : ∀ k, k < w → M 77 k = who k ∧ 0 ≤ who k ∧ who k < 7) (hx : 0 ≤ x ∧ x < 128) (hv : M 35 x = v9) : aMt l E pX2_addRow [(2, 40), (0, x)] N S M (aU N S (fun M' => (∀ k : Nat, k < w → M' (42 + h0) k = if hb x (who k) = 1 then 1 else 0) ∧ M' (42 + h0) w = v9 ∧ M' 74 h0 = w + h0 ∧ M' 40 8 = h0 + 1 ∧ ∀ a i : Int, a ≠ 42 + h0 → ¬ (a = 74 ∧ i = h0) → ¬ (a = 40 ∧ i = 8) → M' a i = M a i)) := by
  refine a_met hfl rfl (by decide +kernel) (Nat.le_of_ble_eq_true rfl) ?_
  have loop := a_loop2 (α := Nat) (β := aM) (fun k M1 => k ≤ w ∧ (∀ a i : Int, a ≠ 42 + h0 → M1 a i = M a i) ∧ ∀ i : Nat, i < k → M1 (42 + h0) i = if hb x (who i) = 1 then 1 else 0) (fun k M1 => w - k) (fun k M1 => aX l E pX2_addRow (aU N S (fun M' => (∀ k : Nat, k < w → M' (42 + h0) k = if hb x (who k) = 1 then 1 else 0) ∧ M' (42 + h0) w = v9 ∧ M' 74 h0 = w + h0 ∧ M' 40 8 = h0 + 1 ∧ ∀ a i : Int, a ≠ 42 + h0 → ¬ (a = 74 ∧ i = h0) → ¬ (a = 40 ∧ i = 8) → M' a i = M a i)) 0 0 N S M1 17 [(0, (2, 40)), (1, (0, x)), (2, (0, (k : Int)))] []) (by
    intro k M1 hI ih
    obtain ⟨k1, k2, k3⟩ := hI
    refine x_iload_n (pc := 17) dX2_addRow_17 rfl rfl ?_
    refine x_aload_n (pc := 18) dX2_addRow_18 rfl rfl ?_
    refine x_getIV (jj := 7) (pc := 19) dX2_addRow_19 fX2_68 (sC_40 hC) rfl (by decide) rfl (by (repeat (first | rewrite [up_s] | rewrite [up_i (by omega)] | rewrite [up_a (by omega)] | rewrite [up_a (a := 42 + (h0 : Int)) (b := 40) (by omega)])); first | exact (k2 40 7 (by omega)).trans h7 | exact (k2 40 8 (by omega)).trans h8 | exact (k2 77 k (by omega)).trans hwk.1 | exact (k2 35 x (by omega)).trans hv | rfl) ?_
    refine x_icmp_ge (tgt := 60) (pc := 22) dX2_addRow_22 (by decide) (fun c_22 => ?_) (fun c_22 => ?_)
    · refine x_aload_n (pc := 60) dX2_addRow_60 rfl rfl ?_
      refine x_getR (jj := 2) (pc := 61) dX2_addRow_61 fX2_13 (sC_40 hC) rfl (by decide) rfl rC_40_2 ?_
      refine x_aload_n (pc := 64) dX2_addRow_64 rfl rfl ?_
      refine x_getIV (jj := 8) (pc := 65) dX2_addRow_65 fX2_65 (sC_40 hC) rfl (by decide) rfl (by (repeat (first | rewrite [up_s] | rewrite [up_i (by omega)] | rewrite [up_a (by omega)] | rewrite [up_a (a := 42 + (h0 : Int)) (b := 40) (by omega)])); first | exact (k2 40 7 (by omega)).trans h7 | exact (k2 40 8 (by omega)).trans h8 | exact (k2 77 k (by omega)).trans hwk.1 | exact (k2 35 x (by omega)).trans hv | rfl) ?_
      refine x_raload (pc := 68) dX2_addRow_68 (sC_41 hC) (by omega) ?_
      rewrite [r41_v (by omega)]
      refine x_aload_n (pc := 69) dX2_addRow_69 rfl rfl ?_
      refine x_getIV (jj := 7) (pc := 70) dX2_addRow_70 fX2_68 (sC_40 hC) rfl (by decide) rfl (by (repeat (first | rewrite [up_s] | rewrite [up_i (by omega)] | rewrite [up_a (by omega)] | rewrite [up_a (a := 42 + (h0 : Int)) (b := 40) (by omega)])); first | exact (k2 40 7 (by omega)).trans h7 | exact (k2 40 8 (by omega)).trans h8 | exact (k2 77 k (by omega)).trans hwk.1 | exact (k2 35 x (by omega)).trans hv | rfl) ?_
      refine x_aload_n (pc := 73) dX2_addRow_73 rfl rfl ?_
      refine x_getR (jj := 1) (pc := 74) dX2_addRow_74 fX2_37 (sC_40 hC) rfl (by decide) rfl rC_40_1 ?_
      refine x_getR (jj := 1) (pc := 77) dX2_addRow_77 fX2_75 (sC_34 hC) rfl (by decide) rfl rC_34_1 ?_
      refine x_iload_n (pc := 80) dX2_addRow_80 rfl rfl ?_
      refine x_ialoadV (pc := 81) dX2_addRow_81 (sC_35 hC) (by omega) (by (repeat (first | rewrite [up_s] | rewrite [up_i (by omega)] | rewrite [up_a (by omega)] | rewrite [up_a (a := 42 + (h0 : Int)) (b := 40) (by omega)])); first | exact (k2 40 7 (by omega)).trans h7 | exact (k2 40 8 (by omega)).trans h8 | exact (k2 77 k (by omega)).trans hwk.1 | exact (k2 35 x (by omega)).trans hv | rfl) (fun g_81 => ?_)
      refine x_i2l (pc := 82) dX2_addRow_82 ?_
      refine x_lastore (pc := 83) dX2_addRow_83 (hC.1 _ (by omega) (by omega)) (by omega) ?_
      refine x_aload_n (pc := 84) dX2_addRow_84 rfl rfl ?_
      refine x_getR (jj := 3) (pc := 85) dX2_addRow_85 fX2_16 (sC_40 hC) rfl (by decide) rfl rC_40_3 ?_
      refine x_aload_n (pc := 88) dX2_addRow_88 rfl rfl ?_
      refine x_getIV (jj := 8) (pc := 89) dX2_addRow_89 fX2_65 (sC_40 hC) rfl (by decide) rfl (by (repeat (first | rewrite [up_s] | rewrite [up_i (by omega)] | rewrite [up_a (by omega)] | rewrite [up_a (a := 42 + (h0 : Int)) (b := 40) (by omega)])); first | exact (k2 40 7 (by omega)).trans h7 | exact (k2 40 8 (by omega)).trans h8 | exact (k2 77 k (by omega)).trans hwk.1 | exact (k2 35 x (by omega)).trans hv | rfl) ?_
      refine x_aload_n (pc := 92) dX2_addRow_92 rfl rfl ?_
      refine x_getIV (jj := 7) (pc := 93) dX2_addRow_93 fX2_68 (sC_40 hC) rfl (by decide) rfl (by (repeat (first | rewrite [up_s] | rewrite [up_i (by omega)] | rewrite [up_a (by omega)] | rewrite [up_a (a := 42 + (h0 : Int)) (b := 40) (by omega)])); first | exact (k2 40 7 (by omega)).trans h7 | exact (k2 40 8 (by omega)).trans h8 | exact (k2 77 k (by omega)).trans hwk.1 | exact (k2 35 x (by omega)).trans hv | rfl) ?_
      refine x_aload_n (pc := 96) dX2_addRow_96 rfl rfl ?_
      refine x_getIV (jj := 8) (pc := 97) dX2_addRow_97 fX2_65 (sC_40 hC) rfl (by decide) rfl (by (repeat (first | rewrite [up_s] | rewrite [up_i (by omega)] | rewrite [up_a (by omega)] | rewrite [up_a (a := 42 + (h0 : Int)) (b := 40) (by omega)])); first | exact (k2 40 7 (by omega)).trans h7 | exact (k2 40 8 (by omega)).trans h8 | exact (k2 77 k (by omega)).trans hwk.1 | exact (k2 35 x (by omega)).trans hv | rfl) ?_
      refine x_iadd (pc := 100) dX2_addRow_100 (by omega) ?_
      refine x_iastore (pc := 101) dX2_addRow_101 (sC_74 hC) (by omega) ?_
      refine x_aload_n (pc := 102) dX2_addRow_102 rfl rfl ?_
      refine x_dup (pc := 103) dX2_addRow_103 rfl ?_
      refine x_getIV (jj := 8) (pc := 104) dX2_addRow_104 fX2_65 (sC_40 hC) rfl (by decide) rfl (by (repeat (first | rewrite [up_s] | rewrite [up_i (by omega)] | rewrite [up_a (by omega)] | rewrite [up_a (a := 42 + (h0 : Int)) (b := 40) (by omega)])); first | exact (k2 40 7 (by omega)).trans h7 | exact (k2 40 8 (by omega)).trans h8 | exact (k2 77 k (by omega)).trans hwk.1 | exact (k2 35 x (by omega)).trans hv | rfl) ?_
      refine x_iconst (pc := 107) dX2_addRow_107 (by decide) ?_
      refine x_iadd (pc := 108) dX2_addRow_108 (by omega) ?_
      refine x_putI (jj := 8) (pc := 109) dX2_addRow_109 fX2_65 (sC_40 hC) rfl (by decide) rfl ?_
      refine x_return (pc := 112) dX2_addRow_112 rfl (by decide) ?_
      refine ⟨rfl, rfl, rfl, fun i hi => ?_, ?_, ?_, ?_, fun a i q1 q2 q3 => ?_⟩
      · rw [up_a (by omega), up_a (by omega), up_i (by omega)]; exact k3 i (by omega)
      · rw [up_a (by omega), up_a (by omega), up_s]
      · rw [up_a (by omega), up_s]
      · rw [up_s]
      · by_cases e : a = 40
        · subst e
          rw [up_i (by omega), up_a (by omega), up_a (by omega)]; exact k2 _ _ q1
        · rw [up_a e]
          by_cases e2 : a = 74
          · subst e2
            rw [up_i (by omega), up_a (by omega)]; exact k2 _ _ q1
          · rw [up_a e2, up_a q1]; exact k2 _ _ q1
    · have hwk := hwho k (by omega)
      refine x_aload_n (pc := 25) dX2_addRow_25 rfl rfl ?_
      refine x_getR (jj := 2) (pc := 26) dX2_addRow_26 fX2_13 (sC_40 hC) rfl (by decide) rfl rC_40_2 ?_
      refine x_aload_n (pc := 29) dX2_addRow_29 rfl rfl ?_
      refine x_getIV (jj := 8) (pc := 30) dX2_addRow_30 fX2_65 (sC_40 hC) rfl (by decide) rfl (by (repeat (first | rewrite [up_s] | rewrite [up_i (by omega)] | rewrite [up_a (by omega)] | rewrite [up_a (a := 42 + (h0 : Int)) (b := 40) (by omega)])); first | exact (k2 40 7 (by omega)).trans h7 | exact (k2 40 8 (by omega)).trans h8 | exact (k2 77 k (by omega)).trans hwk.1 | exact (k2 35 x (by omega)).trans hv | rfl) ?_
      refine x_raload (pc := 33) dX2_addRow_33 (sC_41 hC) (by omega) ?_
      rewrite [r41_v (by omega)]
      refine x_iload_n (pc := 34) dX2_addRow_34 rfl rfl ?_
      refine x_iload_n (pc := 35) dX2_addRow_35 rfl rfl ?_
      refine x_aload_n (pc := 36) dX2_addRow_36 rfl rfl ?_
      refine x_getR (jj := 6) (pc := 37) dX2_addRow_37 fX2_27 (sC_40 hC) rfl (by decide) rfl rC_40_6 ?_
      refine x_iload_n (pc := 40) dX2_addRow_40 rfl rfl ?_
      refine x_ialoadV (pc := 41) dX2_addRow_41 (sC_77 hC) (by omega) (by (repeat (first | rewrite [up_s] | rewrite [up_i (by omega)] | rewrite [up_a (by omega)] | rewrite [up_a (a := 42 + (h0 : Int)) (b := 40) (by omega)])); first | exact (k2 40 7 (by omega)).trans h7 | exact (k2 40 8 (by omega)).trans h8 | exact (k2 77 k (by omega)).trans hwk.1 | exact (k2 35 x (by omega)).trans hv | rfl) (fun g_41 => ?_)
      refine x_callSN2 (pc := 42) dX2_addRow_42 rfl kX2_71 (s_isOf hfl _ _) rfl (Nat.le_of_ble_eq_true rfl) (k_R ?_) n_R
      have his := isOf_iff (x := x) (h := who k) hwk.2
      have his1 := isOfV01 x (who k)
      refine x_if_eq (tgt := 52) (pc := 45) dX2_addRow_45 (by decide) (fun c_45 => ?_) (fun c_45 => ?_)
      · refine x_lconst0 (pc := 52) dX2_addRow_52 ?_
        refine x_lastore (pc := 53) dX2_addRow_53 (hC.1 _ (by omega) (by omega)) (by omega) ?_
        refine x_iinc (pc := 54) dX2_addRow_54 rfl (by omega) (by decide) rfl ?_
        refine x_goto (tgt := 17) (pc := 57) dX2_addRow_57 (by decide) ?_
        refine x_lo (lo' := [(0, (2, 40)), (1, (0, x)), (2, (0, ((k + 1 : Nat) : Int)))]) ⟨rfl, rfl, rfl, trivial⟩ (ih (k + 1) _ ⟨by omega, fun a i q => (up_a q).trans (k2 a i q), fun i hi => ?_⟩ (by omega))
        by_cases e : i = k
        · subst e; rw [up_s, if_neg (by omega)]
        · rw [up_i (by omega)]; exact k3 i (by omega)
      · refine x_lconst1 (pc := 48) dX2_addRow_48 ?_
        refine x_goto (tgt := 53) (pc := 49) dX2_addRow_49 (by decide) ?_
        refine x_lastore (pc := 53) dX2_addRow_53 (hC.1 _ (by omega) (by omega)) (by omega) ?_
        refine x_iinc (pc := 54) dX2_addRow_54 rfl (by omega) (by decide) rfl ?_
        refine x_goto (tgt := 17) (pc := 57) dX2_addRow_57 (by decide) ?_
        refine x_lo (lo' := [(0, (2, 40)), (1, (0, x)), (2, (0, ((k + 1 : Nat) : Int)))]) ⟨rfl, rfl, rfl, trivial⟩ (ih (k + 1) _ ⟨by omega, fun a i q => (up_a q).trans (k2 a i q), fun i hi => ?_⟩ (by omega))
        by_cases e : i = k
        · subst e; rw [up_s, if_pos (by omega)]
        · rw [up_i (by omega)]; exact k3 i (by omega))
  refine x_aload_n (pc := 0) dX2_addRow_0 rfl rfl ?_
  refine x_getIV (jj := 8) (pc := 1) dX2_addRow_1 fX2_65 (sC_40 hC) rfl (by decide) rfl (by (repeat (first | rewrite [up_s] | rewrite [up_i (by omega)] | rewrite [up_a (by omega)])); first | exact h8 | rfl) ?_
  refine x_iconst (pc := 4) dX2_addRow_4 (by decide) ?_
  refine x_iadd (pc := 5) dX2_addRow_5 (by omega) ?_
  refine x_aload_n (pc := 6) dX2_addRow_6 rfl rfl ?_
  refine x_getR (jj := 2) (pc := 7) dX2_addRow_7 fX2_13 (sC_40 hC) rfl (by decide) rfl rC_40_2 ?_
  refine x_alen (pc := 10) dX2_addRow_10 (sC_41 hC) (by decide) (by first | decide | omega) ?_
  refine x_icmp_lt (tgt := 15) (pc := 11) dX2_addRow_11 (by decide) (fun c_11 => ?_) (fun c_11 => ?_)
  · refine x_iconst (pc := 15) dX2_addRow_15 (by decide) ?_
    refine x_istore_n (pc := 16) dX2_addRow_16 rfl (by decide) rfl ?_
    exact x_lo (lo' := [(0, (2, 40)), (1, (0, x)), (2, (0, ((0 : Nat) : Int)))]) ⟨rfl, rfl, rfl, trivial⟩ (loop 0 M ⟨by omega, fun _ _ _ => rfl, fun i hi => by omega⟩)
  · refine x_return (pc := 14) dX2_addRow_14 rfl (by decide) ?_
    exfalso
    omega
theorem s_begin {l : Launch} {E : aE} {N : Nat} {S : aS} {M : aM} (hfl : l.stackTraces = false) (hC : lyC S) (c : Int → Int) (s : Int) (hs : 0 < s ∧ s < 128) (h5 : sumN (hb s) 7 ≤ 5) (hcs : ∀ x, 0 < x → x ≤ s → b_and x (b_xor s (-1)) = 0 → M 35 x = c x) (hP : PBx (wN s) (hN c s) (FV c s) 1048576) : aMt l E pX2_begin [(2, 40), (0, s)] N S M (aU N S (fun M' => RTc M' (wN s) (hN c s) (FV c s) (st0 (wN s)) (zA (wN s)) (fun _ => false) ∧ M' 40 9 = s ∧ (∀ j : Nat, j < wN s → M' 77 j = whoV s j) ∧ ∀ a i : Int, ¬ (40 ≤ a ∧ a < 78) → M' a i = M a i)) := by
  refine a_met hfl rfl (by decide +kernel) (Nat.le_of_ble_eq_true rfl) ?_
  have hwv := wN_v (s := s) ⟨by omega, hs.2⟩
  have hw5 : wN s ≤ 5 := by omega
  have hh31 := hN_le (c := c) (s := s) ⟨by omega, hs.2⟩ h5
  have lpB := a_loop2 (α := Nat) (β := aM) (fun x M2 => (1 ≤ x ∧ x ≤ s.toNat + 1) ∧ M2 40 7 = wN s ∧ M2 40 8 = (pkN (isR c s) x : Nat) ∧ M2 40 9 = s ∧ M2 40 10 = 1 ∧ (∀ j : Nat, j < wN s → M2 77 j = whoV s j ∧ M2 75 j = j ∧ M2 76 j = 0) ∧ (∀ i : Nat, i < pkN (isR c s) x → M2 74 i = (wN s : Int) + i ∧ M2 (42 + i) (wN s) = c (pkS (isR c s) x i) ∧ ∀ k : Nat, k < wN s → M2 (42 + i) k = if hb (pkS (isR c s) x i) (whoV s k) = 1 then 1 else 0) ∧ ∀ a i : Int, ¬ (40 ≤ a ∧ a < 78) → M2 a i = M a i) (fun x M2 => s.toNat + 1 - x) (fun x M2 => aX l E pX2_begin (aU N S (fun M' => RTc M' (wN s) (hN c s) (FV c s) (st0 (wN s)) (zA (wN s)) (fun _ => false) ∧ M' 40 9 = s ∧ (∀ j : Nat, j < wN s → M' 77 j = whoV s j) ∧ ∀ a i : Int, ¬ (40 ≤ a ∧ a < 78) → M' a i = M a i)) 0 0 N S M2 95 [(0, (2, 40)), (1, (0, s)), (2, (0, (x : Int)))] []) (by
    intro x M2 hJ ih2
    obtain ⟨j1, j2, j3, j4, j5, j6, j7, j8⟩ := hJ
    refine x_iload_n (pc := 95) dX2_begin_95 rfl rfl ?_
    refine x_iload_n (pc := 96) dX2_begin_96 rfl rfl ?_
    refine x_icmp_gt (tgt := 132) (pc := 97) dX2_begin_97 (by decide) (fun c_97 => ?_) (fun c_97 => ?_)
    · have hpl : pkN (isR c s) x = hN c s := by rw [show x = s.toNat + 1 by omega]; rfl
      refine x_aload_n (pc := 132) dX2_begin_132 rfl rfl ?_
      refine x_getR (jj := 2) (pc := 133) dX2_begin_133 fX2_13 (sC_40 hC) rfl (by decide) rfl rC_40_2 ?_
      refine x_aload_n (pc := 136) dX2_begin_136 rfl rfl ?_
      refine x_getIV (jj := 8) (pc := 137) dX2_begin_137 fX2_65 (sC_40 hC) rfl (by decide) rfl (by (repeat (first | rewrite [up_s] | rewrite [up_i (by omega)] | rewrite [up_a (by omega)])); first | exact j2 | exact j3 | exact hcx | exact hw9 | exact hh9 | rfl) ?_
      refine x_raload (pc := 140) dX2_begin_140 (sC_41 hC) (by omega) ?_
      rewrite [r41_v (by omega)]
      refine x_ldc2 (n := -1) (pc := 141) cX2_81 (by decide) dX2_begin_141 ?_
      refine x_callS2 (pc := 144) dX2_begin_144 rfl kX2_83 (s_fillJ hfl (42 + ((pkN (isR c s) x : Nat) : Int)) (-1) 6 rN (hC.1 _ (by omega) (by omega)) (by omega)) rfl (Nat.le_of_ble_eq_true rfl) (k_U (fun M9 hM9 => ?_)) n_U
      have hw9 : M9 40 7 = wN s := by rw [hM9]; exact (if_neg (by omega)).trans j2
      have hh9 : M9 40 8 = (pkN (isR c s) x : Nat) := by rw [hM9]; exact (if_neg (by omega)).trans j3
      refine x_aload_n (pc := 147) dX2_begin_147 rfl rfl ?_
      refine x_getR (jj := 2) (pc := 148) dX2_begin_148 fX2_13 (sC_40 hC) rfl (by decide) rfl rC_40_2 ?_
      refine x_aload_n (pc := 151) dX2_begin_151 rfl rfl ?_
      refine x_getIV (jj := 8) (pc := 152) dX2_begin_152 fX2_65 (sC_40 hC) rfl (by decide) rfl (by (repeat (first | rewrite [up_s] | rewrite [up_i (by omega)] | rewrite [up_a (by omega)])); first | exact j2 | exact j3 | exact hcx | exact hw9 | exact hh9 | rfl) ?_
      refine x_raload (pc := 155) dX2_begin_155 (sC_41 hC) (by omega) ?_
      rewrite [r41_v (by omega)]
      refine x_aload_n (pc := 156) dX2_begin_156 rfl rfl ?_
      refine x_getIV (jj := 7) (pc := 157) dX2_begin_157 fX2_68 (sC_40 hC) rfl (by decide) rfl (by (repeat (first | rewrite [up_s] | rewrite [up_i (by omega)] | rewrite [up_a (by omega)])); first | exact j2 | exact j3 | exact hcx | exact hw9 | exact hh9 | rfl) ?_
      refine x_lconst0 (pc := 160) dX2_begin_160 ?_
      refine x_lastore (pc := 161) dX2_begin_161 (hC.1 _ (by omega) (by omega)) (by omega) ?_
      refine x_return (pc := 162) dX2_begin_162 rfl (by decide) ?_
      have ex : pkN (isR c s) x = hN c s := by rw [show x = s.toNat + 1 by omega]; rfl
      rw [ex] at hM9 j3 j7
      rw [ex]
      have n0 : ∀ a i : Int, a ≠ 42 + (hN c s : Nat) → M9 a i = M2 a i := fun a i q => by rw [hM9]; exact if_neg (fun z => q z.1)
      have n1 : ∀ k : Nat, k < 6 → M9 (42 + (hN c s : Nat)) k = -1 := fun k hk => by rw [hM9]; exact if_pos ⟨rfl, by omega, by omega⟩
      have exs : ∀ i, pkS (isR c s) x i = setV c s i := fun i => by rw [show x = s.toNat + 1 by omega]; rfl
      have p1 := hP.1
      refine ⟨rfl, rfl, rfl, ⟨⟨?_, ?_, ?_⟩, fun i k a b => ?_, fun k b => ?_, fun i a => ?_, fun j a => ?_, fun j a => ?_⟩, ?_, fun j a => ?_, fun a i q => ?_⟩
      · rw [up_a (by omega), n0 _ _ (by omega)]; exact j2
      · rw [up_a (by omega), n0 _ _ (by omega)]; exact j3
      · rw [up_a (by omega), n0 _ _ (by omega), ov_st0 p1]; exact j5
      · have q := j7 i a
        rw [exs] at q
        rw [up_a (by omega), n0 _ _ (by omega), ta_st0 p1 b]
        show _ = if k = wN s then FV c s (wN s + i) (wN s) else - FV c s (wN s + i) k
        by_cases e : k = wN s
        · rw [if_pos e, FV_w, e]; exact q.2.1
        · rw [if_neg e, FV_k (by omega), q.2.2 k (by omega)]
          split <;> rfl
      · rw [ta_st0 p1 b]
        by_cases e : k = wN s
        · subst e
          rw [up_s, if_pos rfl]
          exact (if_neg (by omega)).symm
        · rw [up_i (by omega), n1 k (by omega), if_neg e]
          unfold zA
          rw [if_pos (by omega)]
      · rw [up_a (by omega), n0 _ _ (by omega)]; exact (j7 i a).1
      · rw [up_a (by omega), n0 _ _ (by omega)]; exact (j6 j a).2.1
      · rw [up_a (by omega), n0 _ _ (by omega)]
        exact (j6 j a).2.2
      · rw [up_a (by omega), n0 _ _ (by omega)]; exact j4
      · rw [up_a (by omega), n0 _ _ (by omega)]; exact (j6 j a).1
      · rw [up_a (by omega), n0 _ _ (by omega)]; exact j8 a i q
    · refine x_iload_n (pc := 100) dX2_begin_100 rfl rfl ?_
      refine x_iload_n (pc := 101) dX2_begin_101 rfl rfl ?_
      refine x_iconst (pc := 102) dX2_begin_102 (by decide) ?_
      refine x_ixor (pc := 103) dX2_begin_103 ?_
      refine x_iand (pc := 104) dX2_begin_104 ?_
      refine x_if_ne (tgt := 126) (pc := 105) dX2_begin_105 (by decide) (fun c_105 => ?_) (fun c_105 => ?_)
      · refine x_iinc (pc := 126) dX2_begin_126 rfl (by omega) (by decide) rfl ?_
        refine x_goto (tgt := 95) (pc := 129) dX2_begin_129 (by decide) ?_
        have hn : ¬ isR c s x = true := fun q => by
          have q := of_decide_eq_true q
          omega
        have en : pkN (isR c s) (x + 1) = pkN (isR c s) x := pkN_n hn
        refine x_lo (lo' := [(0, (2, 40)), (1, (0, s)), (2, (0, ((x + 1 : Nat) : Int)))]) ⟨rfl, rfl, rfl, trivial⟩ (ih2 (x + 1) M2 ⟨by omega, j2, by rw [en]; exact j3, j4, j5, j6, fun i hi => ?_, j8⟩ (by omega))
        rw [en] at hi
        rw [pkS_st hi]
        exact j7 i hi
      · have hcx : M2 35 x = c x := (j8 _ _ (by omega)).trans (hcs x (by omega) (by omega) (by assumption))
        refine x_aload_n (pc := 108) dX2_begin_108 rfl rfl ?_
        refine x_getR (jj := 1) (pc := 109) dX2_begin_109 fX2_37 (sC_40 hC) rfl (by decide) rfl rC_40_1 ?_
        refine x_getR (jj := 1) (pc := 112) dX2_begin_112 fX2_75 (sC_34 hC) rfl (by decide) rfl rC_34_1 ?_
        refine x_iload_n (pc := 115) dX2_begin_115 rfl rfl ?_
        refine x_ialoadV (pc := 116) dX2_begin_116 (sC_35 hC) (by omega) (by (repeat (first | rewrite [up_s] | rewrite [up_i (by omega)] | rewrite [up_a (by omega)])); first | exact j2 | exact j3 | exact hcx | exact hw9 | exact hh9 | rfl) (fun g_116 => ?_)
        refine x_iconst (pc := 117) dX2_begin_117 (by decide) ?_
        refine x_icmp_eq (tgt := 126) (pc := 118) dX2_begin_118 (by decide) (fun c_118 => ?_) (fun c_118 => ?_)
        · refine x_iinc (pc := 126) dX2_begin_126 rfl (by omega) (by decide) rfl ?_
          refine x_goto (tgt := 95) (pc := 129) dX2_begin_129 (by decide) ?_
          have hn : ¬ isR c s x = true := fun q => by
            have q := of_decide_eq_true q
            exact q.2.2 (by omega)
          have en : pkN (isR c s) (x + 1) = pkN (isR c s) x := pkN_n hn
          refine x_lo (lo' := [(0, (2, 40)), (1, (0, s)), (2, (0, ((x + 1 : Nat) : Int)))]) ⟨rfl, rfl, rfl, trivial⟩ (ih2 (x + 1) M2 ⟨by omega, j2, by rw [en]; exact j3, j4, j5, j6, fun i hi => ?_, j8⟩ (by omega))
          rw [en] at hi
          rw [pkS_st hi]
          exact j7 i hi
        · refine x_aload_n (pc := 121) dX2_begin_121 rfl rfl ?_
          refine x_iload_n (pc := 122) dX2_begin_122 rfl rfl ?_
          have hy : isR c s x = true := decide_eq_true ⟨by omega, by assumption, by assumption⟩
          have en : pkN (isR c s) (x + 1) = pkN (isR c s) x + 1 := pkN_y hy
          have hup := pkN_up (p := isR c s) (x + 1) (s.toNat + 1 - (x + 1))
          rw [show x + 1 + (s.toNat + 1 - (x + 1)) = s.toNat + 1 by omega, en] at hup
          have hN1 : hN c s = pkN (isR c s) (s.toNat + 1) := rfl
          refine x_callV1 (pc := 123) dX2_begin_123 rfl kX2_78 (s_addRow hfl hC (x : Int) (c x) (wN s) (pkN (isR c s) x) (whoV s) hw5 (by omega) j2 j3 (fun k hk => ⟨(j6 k hk).1, (whoV_p hk).1⟩) ⟨by omega, by omega⟩ hcx) (sC_40 hC) rfl rfl (Nat.le_of_ble_eq_true rfl) (k_U (fun M9 hM9 => ?_)) n_U
          obtain ⟨n1, n2, n3, n4, n5⟩ := hM9
          refine x_iinc (pc := 126) dX2_begin_126 rfl (by omega) (by decide) rfl ?_
          refine x_goto (tgt := 95) (pc := 129) dX2_begin_129 (by decide) ?_
          refine x_lo (lo' := [(0, (2, 40)), (1, (0, s)), (2, (0, ((x + 1 : Nat) : Int)))]) ⟨rfl, rfl, rfl, trivial⟩ (ih2 (x + 1) M9 ⟨by omega, ?_, ?_, ?_, ?_, fun j hj => ?_, fun i hi => ?_, fun a i q => ?_⟩ (by omega))
          · exact (n5 _ _ (by omega) (by omega) (by omega)).trans j2
          · rw [n4, en]; omega
          · exact (n5 _ _ (by omega) (by omega) (by omega)).trans j4
          · exact (n5 _ _ (by omega) (by omega) (by omega)).trans j5
          · have q := j6 j hj
            exact ⟨(n5 _ _ (by omega) (by omega) (by omega)).trans q.1, (n5 _ _ (by omega) (by omega) (by omega)).trans q.2.1, (n5 _ _ (by omega) (by omega) (by omega)).trans q.2.2⟩
          · rw [en] at hi
            by_cases e : i = pkN (isR c s) x
            · subst e
              rw [pkS_new hy]
              exact ⟨n3, n2, n1⟩
            · have q := j7 i (by omega)
              rw [pkS_st (by omega)]
              exact ⟨(n5 _ _ (by omega) (by omega) (by omega)).trans q.1, (n5 _ _ (by omega) (by omega) (by omega)).trans q.2.1, fun k hk => (n5 _ _ (by omega) (by omega) (by omega)).trans (q.2.2 k hk)⟩
          · exact (n5 _ _ (by omega) (by omega) (by omega)).trans (j8 a i q))
  have lpA := a_loop2 (α := Nat) (β := aM) (fun i M1 => i ≤ 7 ∧ M1 40 7 = (pkN (isH s) i : Nat) ∧ M1 40 9 = s ∧ M1 40 10 = 1 ∧ (∀ j : Nat, j < pkN (isH s) i → M1 77 j = pkS (isH s) i j ∧ M1 75 j = j ∧ M1 76 j = 0) ∧ ∀ a i : Int, ¬ (40 ≤ a ∧ a < 78) → M1 a i = M a i) (fun i M1 => 7 - i) (fun i M1 => aX l E pX2_begin (aU N S (fun M' => RTc M' (wN s) (hN c s) (FV c s) (st0 (wN s)) (zA (wN s)) (fun _ => false) ∧ M' 40 9 = s ∧ (∀ j : Nat, j < wN s → M' 77 j = whoV s j) ∧ ∀ a i : Int, ¬ (40 ≤ a ∧ a < 78) → M' a i = M a i)) 0 0 N S M1 17 [(0, (2, 40)), (1, (0, s)), (2, (0, (i : Int)))] []) (by
    intro i M1 hI ih
    obtain ⟨k1, k2, k3, k4, k5, k6⟩ := hI
    refine x_iload_n (pc := 17) dX2_begin_17 rfl rfl ?_
    refine x_bipush (pc := 18) dX2_begin_18 (by decide) ?_
    refine x_icmp_ge (tgt := 88) (pc := 20) dX2_begin_20 (by decide) (fun c_20 => ?_) (fun c_20 => ?_)
    · refine x_aload_n (pc := 88) dX2_begin_88 rfl rfl ?_
      refine x_iconst (pc := 89) dX2_begin_89 (by decide) ?_
      refine x_putI (jj := 8) (pc := 90) dX2_begin_90 fX2_65 (sC_40 hC) rfl (by decide) rfl ?_
      refine x_iconst (pc := 93) dX2_begin_93 (by decide) ?_
      refine x_istore_n (pc := 94) dX2_begin_94 rfl (by decide) rfl ?_
      have ew : pkN (isH s) i = wN s := by
        have u := pkN_up (p := isH s) i (7 - i)
        rw [show i + (7 - i) = 7 by omega] at u
        have : wN s = pkN (isH s) 7 := rfl
        by_cases q : i = 7
        · rw [q]; rfl
        · omega
      have ek : ∀ j, j < wN s → pkS (isH s) i j = whoV s j := fun j hj => by
        have u := pkS_up (p := isH s) (n := i) (i := j) (by omega) (7 - i)
        rw [show i + (7 - i) = 7 by omega] at u
        exact u.symm
      rw [ew] at k2 k5
      refine x_lo (lo' := [(0, (2, 40)), (1, (0, s)), (2, (0, ((1 : Nat) : Int)))]) ⟨rfl, rfl, rfl, trivial⟩ (lpB 1 _ ⟨by omega, ?_, ?_, ?_, ?_, fun j hj => ?_, fun i2 hi => ?_, fun a i q => ?_⟩)
      · rw [up_i (by omega)]; exact k2
      · rw [up_s, show pkN (isR c s) 1 = 0 from pkN_n (fun q => by have := (of_decide_eq_true q).1; omega)]; rfl
      · rw [up_i (by omega)]; exact k3
      · rw [up_i (by omega)]; exact k4
      · have q := k5 j hj
        rw [up_a (by omega), up_a (by omega), up_a (by omega), ← ek j hj]
        exact q
      · rw [show pkN (isR c s) 1 = 0 from pkN_n (fun q => by have := (of_decide_eq_true q).1; omega)] at hi
        omega
      · rw [up_a (by omega)]; exact k6 a i q
    · refine x_aload_n (pc := 23) dX2_begin_23 rfl rfl ?_
      refine x_getIV (jj := 7) (pc := 24) dX2_begin_24 fX2_68 (sC_40 hC) rfl (by decide) rfl (by (repeat (first | rewrite [up_s] | rewrite [up_i (by omega)] | rewrite [up_a (by omega)])); first | exact k2 | rfl) ?_
      refine x_iconst (pc := 27) dX2_begin_27 (by decide) ?_
      refine x_icmp_ge (tgt := 88) (pc := 28) dX2_begin_28 (by decide) (fun c_28 => ?_) (fun c_28 => ?_)
      · refine x_aload_n (pc := 88) dX2_begin_88 rfl rfl ?_
        refine x_iconst (pc := 89) dX2_begin_89 (by decide) ?_
        refine x_putI (jj := 8) (pc := 90) dX2_begin_90 fX2_65 (sC_40 hC) rfl (by decide) rfl ?_
        refine x_iconst (pc := 93) dX2_begin_93 (by decide) ?_
        refine x_istore_n (pc := 94) dX2_begin_94 rfl (by decide) rfl ?_
        have ew : pkN (isH s) i = wN s := by
          have u := pkN_up (p := isH s) i (7 - i)
          rw [show i + (7 - i) = 7 by omega] at u
          have : wN s = pkN (isH s) 7 := rfl
          by_cases q : i = 7
          · rw [q]; rfl
          · omega
        have ek : ∀ j, j < wN s → pkS (isH s) i j = whoV s j := fun j hj => by
          have u := pkS_up (p := isH s) (n := i) (i := j) (by omega) (7 - i)
          rw [show i + (7 - i) = 7 by omega] at u
          exact u.symm
        rw [ew] at k2 k5
        refine x_lo (lo' := [(0, (2, 40)), (1, (0, s)), (2, (0, ((1 : Nat) : Int)))]) ⟨rfl, rfl, rfl, trivial⟩ (lpB 1 _ ⟨by omega, ?_, ?_, ?_, ?_, fun j hj => ?_, fun i2 hi => ?_, fun a i q => ?_⟩)
        · rw [up_i (by omega)]; exact k2
        · rw [up_s, show pkN (isR c s) 1 = 0 from pkN_n (fun q => by have := (of_decide_eq_true q).1; omega)]; rfl
        · rw [up_i (by omega)]; exact k3
        · rw [up_i (by omega)]; exact k4
        · have q := k5 j hj
          rw [up_a (by omega), up_a (by omega), up_a (by omega), ← ek j hj]
          exact q
        · rw [show pkN (isR c s) 1 = 0 from pkN_n (fun q => by have := (of_decide_eq_true q).1; omega)] at hi
          omega
        · rw [up_a (by omega)]; exact k6 a i q
      · refine x_iload_n (pc := 31) dX2_begin_31 rfl rfl ?_
        refine x_iload_n (pc := 32) dX2_begin_32 rfl rfl ?_
        refine x_callSN2 (pc := 33) dX2_begin_33 rfl kX2_71 (s_isOf hfl _ _) rfl (Nat.le_of_ble_eq_true rfl) (k_R ?_) n_R
        have his := isOf_iff (x := s) (h := (i : Int)) ⟨by omega, by omega⟩
        have his1 := isOfV01 s (i : Int)
        refine x_if_eq (tgt := 82) (pc := 36) dX2_begin_36 (by decide) (fun c_36 => ?_) (fun c_36 => ?_)
        · refine x_iinc (pc := 82) dX2_begin_82 rfl (by omega) (by decide) rfl ?_
          refine x_goto (tgt := 17) (pc := 85) dX2_begin_85 (by decide) ?_
          have hn : ¬ isH s i = true := fun q => by have := of_decide_eq_true q; omega
          have en : pkN (isH s) (i + 1) = pkN (isH s) i := pkN_n hn
          refine x_lo (lo' := [(0, (2, 40)), (1, (0, s)), (2, (0, ((i + 1 : Nat) : Int)))]) ⟨rfl, rfl, rfl, trivial⟩ (ih (i + 1) M1 ⟨by omega, by rw [en]; exact k2, k3, k4, fun j hj => ?_, k6⟩ (by omega))
          rw [en] at hj
          rw [pkS_st hj]
          exact k5 j hj
        · refine x_aload_n (pc := 39) dX2_begin_39 rfl rfl ?_
          refine x_getR (jj := 6) (pc := 40) dX2_begin_40 fX2_27 (sC_40 hC) rfl (by decide) rfl rC_40_6 ?_
          refine x_aload_n (pc := 43) dX2_begin_43 rfl rfl ?_
          refine x_getIV (jj := 7) (pc := 44) dX2_begin_44 fX2_68 (sC_40 hC) rfl (by decide) rfl (by (repeat (first | rewrite [up_s] | rewrite [up_i (by omega)] | rewrite [up_a (by omega)])); first | exact k2 | rfl) ?_
          refine x_iload_n (pc := 47) dX2_begin_47 rfl rfl ?_
          refine x_iastore (pc := 48) dX2_begin_48 (sC_77 hC) (by omega) ?_
          refine x_aload_n (pc := 49) dX2_begin_49 rfl rfl ?_
          refine x_getR (jj := 4) (pc := 50) dX2_begin_50 fX2_20 (sC_40 hC) rfl (by decide) rfl rC_40_4 ?_
          refine x_aload_n (pc := 53) dX2_begin_53 rfl rfl ?_
          refine x_getIV (jj := 7) (pc := 54) dX2_begin_54 fX2_68 (sC_40 hC) rfl (by decide) rfl (by (repeat (first | rewrite [up_s] | rewrite [up_i (by omega)] | rewrite [up_a (by omega)])); first | exact k2 | rfl) ?_
          refine x_aload_n (pc := 57) dX2_begin_57 rfl rfl ?_
          refine x_getIV (jj := 7) (pc := 58) dX2_begin_58 fX2_68 (sC_40 hC) rfl (by decide) rfl (by (repeat (first | rewrite [up_s] | rewrite [up_i (by omega)] | rewrite [up_a (by omega)])); first | exact k2 | rfl) ?_
          refine x_iastore (pc := 61) dX2_begin_61 (sC_75 hC) (by omega) ?_
          refine x_aload_n (pc := 62) dX2_begin_62 rfl rfl ?_
          refine x_getR (jj := 5) (pc := 63) dX2_begin_63 fX2_23 (sC_40 hC) rfl (by decide) rfl rC_40_5 ?_
          refine x_aload_n (pc := 66) dX2_begin_66 rfl rfl ?_
          refine x_getIV (jj := 7) (pc := 67) dX2_begin_67 fX2_68 (sC_40 hC) rfl (by decide) rfl (by (repeat (first | rewrite [up_s] | rewrite [up_i (by omega)] | rewrite [up_a (by omega)])); first | exact k2 | rfl) ?_
          refine x_iconst (pc := 70) dX2_begin_70 (by decide) ?_
          refine x_zastore (pc := 71) dX2_begin_71 (sC_76 hC) (by omega) (by omega) ?_
          refine x_aload_n (pc := 72) dX2_begin_72 rfl rfl ?_
          refine x_dup (pc := 73) dX2_begin_73 rfl ?_
          refine x_getIV (jj := 7) (pc := 74) dX2_begin_74 fX2_68 (sC_40 hC) rfl (by decide) rfl (by (repeat (first | rewrite [up_s] | rewrite [up_i (by omega)] | rewrite [up_a (by omega)])); first | exact k2 | rfl) ?_
          refine x_iconst (pc := 77) dX2_begin_77 (by decide) ?_
          refine x_iadd (pc := 78) dX2_begin_78 (by omega) ?_
          refine x_putI (jj := 7) (pc := 79) dX2_begin_79 fX2_68 (sC_40 hC) rfl (by decide) rfl ?_
          refine x_iinc (pc := 82) dX2_begin_82 rfl (by omega) (by decide) rfl ?_
          refine x_goto (tgt := 17) (pc := 85) dX2_begin_85 (by decide) ?_
          have hy : isH s i = true := decide_eq_true (his.mp (by omega))
          have en : pkN (isH s) (i + 1) = pkN (isH s) i + 1 := pkN_y hy
          refine x_lo (lo' := [(0, (2, 40)), (1, (0, s)), (2, (0, ((i + 1 : Nat) : Int)))]) ⟨rfl, rfl, rfl, trivial⟩ (ih (i + 1) _ ⟨by omega, ?_, ?_, ?_, fun j hj => ?_, fun a i q => ?_⟩ (by omega))
          · rw [up_s, en]; omega
          · rw [up_i (by omega), up_a (by omega), up_a (by omega), up_a (by omega)]; exact k3
          · rw [up_i (by omega), up_a (by omega), up_a (by omega), up_a (by omega)]; exact k4
          · rw [en] at hj
            by_cases e : j = pkN (isH s) i
            · subst e
              refine ⟨?_, ?_, ?_⟩
              · rw [up_a (by omega), up_a (by omega), up_a (by omega), up_s, pkS_new hy]
              · rw [up_a (by omega), up_a (by omega), up_s]
              · rw [up_a (by omega), up_s]
            · have q := k5 j (by omega)
              refine ⟨?_, ?_, ?_⟩
              · rw [up_a (by omega), up_a (by omega), up_a (by omega), up_i (by omega), pkS_st (by omega)]; exact q.1
              · rw [up_a (by omega), up_a (by omega), up_i (by omega)]; exact q.2.1
              · rw [up_a (by omega), up_i (by omega)]; exact q.2.2
          · rw [up_a (by omega), up_a (by omega), up_a (by omega), up_a (by omega)]; exact k6 a i q)
  refine x_aload_n (pc := 0) dX2_begin_0 rfl rfl ?_
  refine x_iload_n (pc := 1) dX2_begin_1 rfl rfl ?_
  refine x_putI (jj := 9) (pc := 2) dX2_begin_2 fX2_57 (sC_40 hC) rfl (by decide) rfl ?_
  refine x_aload_n (pc := 5) dX2_begin_5 rfl rfl ?_
  refine x_lconst1 (pc := 6) dX2_begin_6 ?_
  refine x_putJ (jj := 10) (pc := 7) dX2_begin_7 fX2_61 (sC_40 hC) rfl (by decide) rfl ?_
  refine x_aload_n (pc := 10) dX2_begin_10 rfl rfl ?_
  refine x_iconst (pc := 11) dX2_begin_11 (by decide) ?_
  refine x_putI (jj := 7) (pc := 12) dX2_begin_12 fX2_68 (sC_40 hC) rfl (by decide) rfl ?_
  refine x_iconst (pc := 15) dX2_begin_15 (by decide) ?_
  refine x_istore_n (pc := 16) dX2_begin_16 rfl (by decide) rfl ?_
  exact x_lo (lo' := [(0, (2, 40)), (1, (0, s)), (2, (0, ((0 : Nat) : Int)))]) ⟨rfl, rfl, rfl, trivial⟩ (lpA 0 _ ⟨by omega, up_s, by rw [up_i (by omega), up_i (by omega), up_s], by rw [up_i (by omega), up_s], fun j hj => absurd hj (by show ¬ j < 0; omega), fun a i q => by rw [up_a (by omega), up_a (by omega), up_a (by omega)]⟩)
