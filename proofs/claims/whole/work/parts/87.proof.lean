/-! a proof that no parting holds -/
def pfX (A : aM) (t k : Int) : Int := A 5 (40 * t + 2 * k)
def pfY (A : aM) (t k : Int) : Int := A 5 (40 * t + 2 * k + 1)
def pfG (A : aM) (t s k : Int) : Bool := decide (1 ≤ pfX A t k ∧ pfX A t k ≤ s ∧ b_and (pfX A t k) (b_xor s (-1)) = 0 ∧ costV (A 0) (pfX A t k) ≠ -1 ∧ 0 ≤ pfY A t k ∧ pfY A t k ≤ 100000)
def pfS (A : aM) (t : Int) (n : Nat) : Int := sumN (fun k => costV (A 0) (pfX A t k) * pfY A t k) n
def pfC (A : aM) (t h : Int) (n : Nat) : Int := sumN (fun k => if hb (pfX A t k) h = 1 then pfY A t k else 0) n
def pfV (A : aM) (t s d : Int) : Int := if A 3 t ≠ -1 ∧ A 4 t % 2 = 0 ∧ allB (pfG A t s) (A 4 t / 2).toNat = true ∧ allB (fun h => !(decide (hb s h = 1)) || decide (d ≤ pfC A t h (A 4 t / 2).toNat)) 7 = true ∧ pfS A t (A 4 t / 2).toNat < totV (costV (A 0)) s * d then 1 else 0
theorem pf_cov {A : aM} {t s d : Int} {n : Nat} : allB (fun h => !(decide (hb s h = 1)) || decide (d ≤ pfC A t h n)) 7 = true ↔ ∀ h, 0 ≤ h → h < 7 → hb s h = 1 → d ≤ pfC A t h n := by
  rw [allB_iff]
  constructor
  · intro q h a b w
    have := q h a (by omega)
    rw [Bool.or_eq_true, Bool.not_eq_true', decide_eq_false_iff_not, decide_eq_true_iff] at this
    exact this.resolve_left (fun z => z w)
  · intro q h a b
    rw [Bool.or_eq_true, Bool.not_eq_true', decide_eq_false_iff_not, decide_eq_true_iff]
    by_cases w : hb s h = 1
    · exact Or.inr (q h a (by omega) w)
    · exact Or.inl w
theorem pfV_01 (A : aM) (t s d : Int) : 0 ≤ pfV A t s d ∧ pfV A t s d ≤ 1 := by
  unfold pfV
  split <;> omega
theorem pfV_1 {A : aM} {t s d : Int} (h1 : A 3 t ≠ -1) (h2 : A 4 t % 2 = 0) (h3 : ∀ k, 0 ≤ k → k < A 4 t / 2 → pfG A t s k = true) (h4 : ∀ h, 0 ≤ h → h < 7 → hb s h = 1 → d ≤ pfC A t h (A 4 t / 2).toNat) (h5 : pfS A t (A 4 t / 2).toNat < totV (costV (A 0)) s * d) : pfV A t s d = 1 := if_pos ⟨h1, h2, allB_iff.mpr fun k a b => h3 k a (by omega), pf_cov.mpr h4, h5⟩
theorem pfV_a {A : aM} {t s d : Int} (h : A 3 t = -1 ∨ A 4 t % 2 ≠ 0) : pfV A t s d = 0 := if_neg fun q => by have := q.1; have := q.2.1; omega
theorem pfV_g {A : aM} {t s d k : Int} (h0 : 0 ≤ k) (h1 : k < A 4 t / 2) (h : pfG A t s k = false) : pfV A t s d = 0 := if_neg fun q => by
  have := allB_iff.mp q.2.2.1 k h0 (by omega)
  rw [h] at this
  cases this
theorem pfV_c {A : aM} {t s d : Int} (h : ¬ ∀ h, 0 ≤ h → h < 7 → hb s h = 1 → d ≤ pfC A t h (A 4 t / 2).toNat) : pfV A t s d = 0 := if_neg fun q => h (pf_cov.mp q.2.2.2.1)
theorem pfV_s {A : aM} {t s d : Int} (h : ¬ pfS A t (A 4 t / 2).toNat < totV (costV (A 0)) s * d) : pfV A t s d = 0 := if_neg fun q => h q.2.2.2.2
theorem pfG_iff {A : aM} {t s k : Int} : pfG A t s k = true ↔ 1 ≤ pfX A t k ∧ pfX A t k ≤ s ∧ b_and (pfX A t k) (b_xor s (-1)) = 0 ∧ costV (A 0) (pfX A t k) ≠ -1 ∧ 0 ≤ pfY A t k ∧ pfY A t k ≤ 100000 := decide_eq_true_iff
theorem pfC_r {A : aM} {t s h : Int} {n : Nat} (hg : ∀ k : Int, 0 ≤ k → k < n → pfG A t s k = true) : 0 ≤ pfC A t h n ∧ pfC A t h n ≤ n * 100000 := sumN_le fun k a b => by
  have := pfG_iff.mp (hg k a b)
  show 0 ≤ (if hb (pfX A t k) h = 1 then pfY A t k else 0) ∧ (if hb (pfX A t k) h = 1 then pfY A t k else 0) ≤ 100000
  split <;> omega
theorem pf_m {c y : Int} (hc : 0 ≤ c ∧ c ≤ 233442) (hy : 0 ≤ y ∧ y ≤ 100000) : 0 ≤ c * y ∧ c * y ≤ 23344200000 := by
  have h1 : c * y ≤ 233442 * y := Int.mul_le_mul_of_nonneg_right hc.2 hy.1
  have h2 : 0 ≤ c * y := Int.mul_nonneg hc.1 hy.1
  omega
theorem pfS_r {A : aM} {t s : Int} (hK : TQ (A 0)) (hs : s < 128) {n : Nat} (hg : ∀ k : Int, 0 ≤ k → k < n → pfG A t s k = true) : 0 ≤ pfS A t n ∧ pfS A t n ≤ n * 23344200000 := sumN_le fun k a b => by
  have g := pfG_iff.mp (hg k a b)
  have := costs_m hK (pfX A t k) ⟨by omega, by omega⟩
  exact pf_m (by omega) (by omega)
theorem land_s {x s : Int} (hx : 0 ≤ x ∧ x < 128) (hs : 0 ≤ s ∧ s < 128) : b_land x (b_xor s (-1)) = b_and x (b_xor s (-1)) := bt_fin (n := 128) (m := 128) (P := fun x s => b_land x (b_xor s (-1)) = b_and x (b_xor s (-1))) (by decide +kernel) hx hs
theorem tm2 {x : Int} (h : 0 ≤ x) : x.tmod 2 = x % 2 := Int.tmod_eq_emod_of_nonneg h
theorem RC.t8 {M M' A : aM} {N : Nat} {S : aS} (h : RC M N S A) (g : ∀ a i, a ≠ 108 → M' a i = M a i) : RC M' N S A := by
  obtain ⟨h1, h2, h3, h4, h5, h6, h7, h8, h9⟩ := h
  exact ⟨h1.cg fun a x y i => g a i (by omega), h2.cg (fun i => g 0 i (by omega)), h3.cg (fun i => g 17 i (by omega)) (fun i => g 18 i (by omega)), h4.cg (fun i => g 105 i (by omega)) (fun i => g 106 i (by omega)) (fun i => g 107 i (by omega)), h5.cg (fun i => g 16 i (by omega)) (fun a x i => g a i (by omega)), h6.cg (fun a x y i => g a i (by omega)), h7.cg (fun i => g 31 i (by omega)), h8.cg (fun a x y i => g a i (by omega)) (fun a x y i => g a i (by omega)), h9.cg (fun i => g 82 i (by omega))⟩
def spProof (A : aM) (t s d : Int) : Int × Int × aM := if ¬ (0 ≤ t ∧ t ≤ 3) then (1, 0, A) else if ¬ ((0 < s ∧ s < b_shl 1 (A 0 0)) ∧ 2 ≤ sumN (hb s) 7 ∧ sumN (hb s) 7 ≤ 5) ∨ ¬ (1 ≤ d ∧ d ≤ 1000) then (2, 0, A) else if totE (costV (A 0)) s = -1 then (3, 0, A) else (0, pfV A t s d, A)
theorem dX9_cover_0 : decode cX9_cover 0 = .ok (.iconst 0, 1) := by decide +kernel
theorem dX9_cover_1 : decode cX9_cover 1 = .ok (.istore 4, 2) := by decide +kernel
theorem dX9_cover_3 : decode cX9_cover 3 = .ok (.iload 4, 2) := by decide +kernel
theorem dX9_cover_5 : decode cX9_cover 5 = .ok (.bipush 7, 2) := by decide +kernel
theorem dX9_cover_7 : decode cX9_cover 7 = .ok (.if_icmp .ge 29, 3) := by decide +kernel
theorem dX9_cover_10 : decode cX9_cover 10 = .ok (.iload_n 1, 1) := by decide +kernel
theorem dX9_cover_11 : decode cX9_cover 11 = .ok (.iload 4, 2) := by decide +kernel
theorem dX9_cover_13 : decode cX9_cover 13 = .ok (.invokestatic 56, 3) := by decide +kernel
theorem dX9_cover_16 : decode cX9_cover 16 = .ok (.ifCond .eq 14, 3) := by decide +kernel
theorem dX9_cover_19 : decode cX9_cover 19 = .ok (.aload_n 0, 1) := by decide +kernel
theorem dX9_cover_20 : decode cX9_cover 20 = .ok (.getfield 22, 3) := by decide +kernel
theorem dX9_cover_23 : decode cX9_cover 23 = .ok (.iload 4, 2) := by decide +kernel
theorem dX9_cover_25 : decode cX9_cover 25 = .ok (.dup2, 1) := by decide +kernel
theorem dX9_cover_26 : decode cX9_cover 26 = .ok (.laload, 1) := by decide +kernel
theorem dX9_cover_27 : decode cX9_cover 27 = .ok (.lload_n 2, 1) := by decide +kernel
theorem dX9_cover_28 : decode cX9_cover 28 = .ok (.ladd, 1) := by decide +kernel
theorem dX9_cover_29 : decode cX9_cover 29 = .ok (.lastore, 1) := by decide +kernel
theorem dX9_cover_30 : decode cX9_cover 30 = .ok (.iinc 4 1, 3) := by decide +kernel
theorem dX9_cover_33 : decode cX9_cover 33 = .ok (.goto (-30), 3) := by decide +kernel
theorem dX9_cover_36 : decode cX9_cover 36 = .ok (.return_, 1) := by decide +kernel
theorem dX9_isCovered_0 : decode cX9_isCovered 0 = .ok (.iconst 0, 1) := by decide +kernel
theorem dX9_isCovered_1 : decode cX9_isCovered 1 = .ok (.istore_n 3, 1) := by decide +kernel
theorem dX9_isCovered_2 : decode cX9_isCovered 2 = .ok (.iload_n 3, 1) := by decide +kernel
theorem dX9_isCovered_3 : decode cX9_isCovered 3 = .ok (.bipush 7, 2) := by decide +kernel
theorem dX9_isCovered_5 : decode cX9_isCovered 5 = .ok (.if_icmp .ge 31, 3) := by decide +kernel
theorem dX9_isCovered_8 : decode cX9_isCovered 8 = .ok (.iload_n 1, 1) := by decide +kernel
theorem dX9_isCovered_9 : decode cX9_isCovered 9 = .ok (.iload_n 3, 1) := by decide +kernel
theorem dX9_isCovered_10 : decode cX9_isCovered 10 = .ok (.invokestatic 56, 3) := by decide +kernel
theorem dX9_isCovered_13 : decode cX9_isCovered 13 = .ok (.ifCond .eq 17, 3) := by decide +kernel
theorem dX9_isCovered_16 : decode cX9_isCovered 16 = .ok (.aload_n 0, 1) := by decide +kernel
theorem dX9_isCovered_17 : decode cX9_isCovered 17 = .ok (.getfield 22, 3) := by decide +kernel
theorem dX9_isCovered_20 : decode cX9_isCovered 20 = .ok (.iload_n 3, 1) := by decide +kernel
theorem dX9_isCovered_21 : decode cX9_isCovered 21 = .ok (.laload, 1) := by decide +kernel
theorem dX9_isCovered_22 : decode cX9_isCovered 22 = .ok (.iload_n 2, 1) := by decide +kernel
theorem dX9_isCovered_23 : decode cX9_isCovered 23 = .ok (.i2l, 1) := by decide +kernel
theorem dX9_isCovered_24 : decode cX9_isCovered 24 = .ok (.lcmp, 1) := by decide +kernel
theorem dX9_isCovered_25 : decode cX9_isCovered 25 = .ok (.ifCond .ge 5, 3) := by decide +kernel
theorem dX9_isCovered_28 : decode cX9_isCovered 28 = .ok (.iconst 0, 1) := by decide +kernel
theorem dX9_isCovered_29 : decode cX9_isCovered 29 = .ok (.ireturn, 1) := by decide +kernel
theorem dX9_isCovered_30 : decode cX9_isCovered 30 = .ok (.iinc 3 1, 3) := by decide +kernel
theorem dX9_isCovered_33 : decode cX9_isCovered 33 = .ok (.goto (-31), 3) := by decide +kernel
theorem dX9_isCovered_36 : decode cX9_isCovered 36 = .ok (.iconst 1, 1) := by decide +kernel
theorem dX9_isCovered_37 : decode cX9_isCovered 37 = .ok (.ireturn, 1) := by decide +kernel
theorem dX9_proves_0 : decode cX9_proves 0 = .ok (.aload_n 0, 1) := by decide +kernel
theorem dX9_proves_1 : decode cX9_proves 1 = .ok (.getfield 9, 3) := by decide +kernel
theorem dX9_proves_4 : decode cX9_proves 4 = .ok (.iload_n 1, 1) := by decide +kernel
theorem dX9_proves_5 : decode cX9_proves 5 = .ok (.iaload, 1) := by decide +kernel
theorem dX9_proves_6 : decode cX9_proves 6 = .ok (.istore 5, 2) := by decide +kernel
theorem dX9_proves_8 : decode cX9_proves 8 = .ok (.iload 5, 2) := by decide +kernel
theorem dX9_proves_10 : decode cX9_proves 10 = .ok (.iconst (-1), 1) := by decide +kernel
theorem dX9_proves_11 : decode cX9_proves 11 = .ok (.if_icmp .eq 10, 3) := by decide +kernel
theorem dX9_proves_14 : decode cX9_proves 14 = .ok (.iload 5, 2) := by decide +kernel
theorem dX9_proves_16 : decode cX9_proves 16 = .ok (.iconst 2, 1) := by decide +kernel
theorem dX9_proves_17 : decode cX9_proves 17 = .ok (.irem, 1) := by decide +kernel
theorem dX9_proves_18 : decode cX9_proves 18 = .ok (.ifCond .eq 5, 3) := by decide +kernel
theorem dX9_proves_21 : decode cX9_proves 21 = .ok (.iconst 0, 1) := by decide +kernel
theorem dX9_proves_22 : decode cX9_proves 22 = .ok (.ireturn, 1) := by decide +kernel
theorem dX9_proves_23 : decode cX9_proves 23 = .ok (.aload_n 0, 1) := by decide +kernel
theorem dX9_proves_24 : decode cX9_proves 24 = .ok (.getfield 22, 3) := by decide +kernel
theorem dX9_proves_27 : decode cX9_proves 27 = .ok (.lconst 0, 1) := by decide +kernel
theorem dX9_proves_28 : decode cX9_proves 28 = .ok (.invokestatic 31, 3) := by decide +kernel
theorem dX9_proves_31 : decode cX9_proves 31 = .ok (.lconst 0, 1) := by decide +kernel
theorem dX9_proves_32 : decode cX9_proves 32 = .ok (.lstore 6, 2) := by decide +kernel
theorem dX9_proves_34 : decode cX9_proves 34 = .ok (.iconst 0, 1) := by decide +kernel
theorem dX9_proves_35 : decode cX9_proves 35 = .ok (.istore 8, 2) := by decide +kernel
theorem dX9_proves_37 : decode cX9_proves 37 = .ok (.iload 8, 2) := by decide +kernel
theorem dX9_proves_39 : decode cX9_proves 39 = .ok (.iload 5, 2) := by decide +kernel
theorem dX9_proves_41 : decode cX9_proves 41 = .ok (.if_icmp .ge 113, 3) := by decide +kernel
theorem dX9_proves_44 : decode cX9_proves 44 = .ok (.aload_n 0, 1) := by decide +kernel
theorem dX9_proves_45 : decode cX9_proves 45 = .ok (.iload_n 1, 1) := by decide +kernel
theorem dX9_proves_46 : decode cX9_proves 46 = .ok (.iload 8, 2) := by decide +kernel
theorem dX9_proves_48 : decode cX9_proves 48 = .ok (.invokevirtual 34, 3) := by decide +kernel
theorem dX9_proves_51 : decode cX9_proves 51 = .ok (.lstore 9, 2) := by decide +kernel
theorem dX9_proves_53 : decode cX9_proves 53 = .ok (.aload_n 0, 1) := by decide +kernel
theorem dX9_proves_54 : decode cX9_proves 54 = .ok (.iload_n 1, 1) := by decide +kernel
theorem dX9_proves_55 : decode cX9_proves 55 = .ok (.iload 8, 2) := by decide +kernel
theorem dX9_proves_57 : decode cX9_proves 57 = .ok (.iconst 1, 1) := by decide +kernel
theorem dX9_proves_58 : decode cX9_proves 58 = .ok (.iadd, 1) := by decide +kernel
theorem dX9_proves_59 : decode cX9_proves 59 = .ok (.invokevirtual 34, 3) := by decide +kernel
theorem dX9_proves_62 : decode cX9_proves 62 = .ok (.lstore 11, 2) := by decide +kernel
theorem dX9_proves_64 : decode cX9_proves 64 = .ok (.lload 9, 2) := by decide +kernel
theorem dX9_proves_66 : decode cX9_proves 66 = .ok (.lconst 1, 1) := by decide +kernel
theorem dX9_proves_67 : decode cX9_proves 67 = .ok (.lcmp, 1) := by decide +kernel
theorem dX9_proves_68 : decode cX9_proves 68 = .ok (.ifCond .lt 39, 3) := by decide +kernel
theorem dX9_proves_71 : decode cX9_proves 71 = .ok (.lload 9, 2) := by decide +kernel
theorem dX9_proves_73 : decode cX9_proves 73 = .ok (.iload_n 2, 1) := by decide +kernel
theorem dX9_proves_74 : decode cX9_proves 74 = .ok (.i2l, 1) := by decide +kernel
theorem dX9_proves_75 : decode cX9_proves 75 = .ok (.lcmp, 1) := by decide +kernel
theorem dX9_proves_76 : decode cX9_proves 76 = .ok (.ifCond .gt 31, 3) := by decide +kernel
theorem dX9_proves_79 : decode cX9_proves 79 = .ok (.lload 9, 2) := by decide +kernel
theorem dX9_proves_81 : decode cX9_proves 81 = .ok (.iload_n 2, 1) := by decide +kernel
theorem dX9_proves_82 : decode cX9_proves 82 = .ok (.iconst (-1), 1) := by decide +kernel
theorem dX9_proves_83 : decode cX9_proves 83 = .ok (.ixor, 1) := by decide +kernel
theorem dX9_proves_84 : decode cX9_proves 84 = .ok (.i2l, 1) := by decide +kernel
theorem dX9_proves_85 : decode cX9_proves 85 = .ok (.land, 1) := by decide +kernel
theorem dX9_proves_86 : decode cX9_proves 86 = .ok (.lconst 0, 1) := by decide +kernel
theorem dX9_proves_87 : decode cX9_proves 87 = .ok (.lcmp, 1) := by decide +kernel
theorem dX9_proves_88 : decode cX9_proves 88 = .ok (.ifCond .ne 19, 3) := by decide +kernel
theorem dX9_proves_91 : decode cX9_proves 91 = .ok (.lload 11, 2) := by decide +kernel
theorem dX9_proves_93 : decode cX9_proves 93 = .ok (.lconst 0, 1) := by decide +kernel
theorem dX9_proves_94 : decode cX9_proves 94 = .ok (.lcmp, 1) := by decide +kernel
theorem dX9_proves_95 : decode cX9_proves 95 = .ok (.ifCond .lt 12, 3) := by decide +kernel
theorem dX9_proves_98 : decode cX9_proves 98 = .ok (.lload 11, 2) := by decide +kernel
theorem dX9_proves_100 : decode cX9_proves 100 = .ok (.ldc2_w 38, 3) := by decide +kernel
theorem dX9_proves_103 : decode cX9_proves 103 = .ok (.lcmp, 1) := by decide +kernel
theorem dX9_proves_104 : decode cX9_proves 104 = .ok (.ifCond .le 5, 3) := by decide +kernel
theorem dX9_proves_107 : decode cX9_proves 107 = .ok (.iconst 0, 1) := by decide +kernel
theorem dX9_proves_108 : decode cX9_proves 108 = .ok (.ireturn, 1) := by decide +kernel
theorem dX9_proves_109 : decode cX9_proves 109 = .ok (.aload 4, 2) := by decide +kernel
theorem dX9_proves_111 : decode cX9_proves 111 = .ok (.getfield 40, 3) := by decide +kernel
theorem dX9_proves_114 : decode cX9_proves 114 = .ok (.lload 9, 2) := by decide +kernel
theorem dX9_proves_116 : decode cX9_proves 116 = .ok (.l2i, 1) := by decide +kernel
theorem dX9_proves_117 : decode cX9_proves 117 = .ok (.iaload, 1) := by decide +kernel
theorem dX9_proves_118 : decode cX9_proves 118 = .ok (.istore 13, 2) := by decide +kernel
theorem dX9_proves_120 : decode cX9_proves 120 = .ok (.iload 13, 2) := by decide +kernel
theorem dX9_proves_122 : decode cX9_proves 122 = .ok (.iconst (-1), 1) := by decide +kernel
theorem dX9_proves_123 : decode cX9_proves 123 = .ok (.if_icmp .ne 5, 3) := by decide +kernel
theorem dX9_proves_126 : decode cX9_proves 126 = .ok (.iconst 0, 1) := by decide +kernel
theorem dX9_proves_127 : decode cX9_proves 127 = .ok (.ireturn, 1) := by decide +kernel
theorem dX9_proves_128 : decode cX9_proves 128 = .ok (.lload 6, 2) := by decide +kernel
theorem dX9_proves_130 : decode cX9_proves 130 = .ok (.iload 13, 2) := by decide +kernel
theorem dX9_proves_132 : decode cX9_proves 132 = .ok (.i2l, 1) := by decide +kernel
theorem dX9_proves_133 : decode cX9_proves 133 = .ok (.lload 11, 2) := by decide +kernel
theorem dX9_proves_135 : decode cX9_proves 135 = .ok (.lmul, 1) := by decide +kernel
theorem dX9_proves_136 : decode cX9_proves 136 = .ok (.ladd, 1) := by decide +kernel
theorem dX9_proves_137 : decode cX9_proves 137 = .ok (.lstore 6, 2) := by decide +kernel
theorem dX9_proves_139 : decode cX9_proves 139 = .ok (.aload_n 0, 1) := by decide +kernel
theorem dX9_proves_140 : decode cX9_proves 140 = .ok (.lload 9, 2) := by decide +kernel
theorem dX9_proves_142 : decode cX9_proves 142 = .ok (.l2i, 1) := by decide +kernel
theorem dX9_proves_143 : decode cX9_proves 143 = .ok (.lload 11, 2) := by decide +kernel
theorem dX9_proves_145 : decode cX9_proves 145 = .ok (.invokevirtual 45, 3) := by decide +kernel
theorem dX9_proves_148 : decode cX9_proves 148 = .ok (.iinc 8 2, 3) := by decide +kernel
theorem dX9_proves_151 : decode cX9_proves 151 = .ok (.goto (-114), 3) := by decide +kernel
theorem dX9_proves_154 : decode cX9_proves 154 = .ok (.aload_n 0, 1) := by decide +kernel
theorem dX9_proves_155 : decode cX9_proves 155 = .ok (.iload_n 2, 1) := by decide +kernel
theorem dX9_proves_156 : decode cX9_proves 156 = .ok (.iload_n 3, 1) := by decide +kernel
theorem dX9_proves_157 : decode cX9_proves 157 = .ok (.invokevirtual 49, 3) := by decide +kernel
theorem dX9_proves_160 : decode cX9_proves 160 = .ok (.ifCond .eq 24, 3) := by decide +kernel
theorem dX9_proves_163 : decode cX9_proves 163 = .ok (.lload 6, 2) := by decide +kernel
theorem dX9_proves_165 : decode cX9_proves 165 = .ok (.aload 4, 2) := by decide +kernel
theorem dX9_proves_167 : decode cX9_proves 167 = .ok (.getfield 53, 3) := by decide +kernel
theorem dX9_proves_170 : decode cX9_proves 170 = .ok (.iload_n 2, 1) := by decide +kernel
theorem dX9_proves_171 : decode cX9_proves 171 = .ok (.iaload, 1) := by decide +kernel
theorem dX9_proves_172 : decode cX9_proves 172 = .ok (.i2l, 1) := by decide +kernel
theorem dX9_proves_173 : decode cX9_proves 173 = .ok (.iload_n 3, 1) := by decide +kernel
theorem dX9_proves_174 : decode cX9_proves 174 = .ok (.i2l, 1) := by decide +kernel
theorem dX9_proves_175 : decode cX9_proves 175 = .ok (.lmul, 1) := by decide +kernel
theorem dX9_proves_176 : decode cX9_proves 176 = .ok (.lcmp, 1) := by decide +kernel
theorem dX9_proves_177 : decode cX9_proves 177 = .ok (.ifCond .ge 7, 3) := by decide +kernel
theorem dX9_proves_180 : decode cX9_proves 180 = .ok (.iconst 1, 1) := by decide +kernel
theorem dX9_proves_181 : decode cX9_proves 181 = .ok (.goto 4, 3) := by decide +kernel
theorem dX9_proves_184 : decode cX9_proves 184 = .ok (.iconst 0, 1) := by decide +kernel
theorem dX9_proves_185 : decode cX9_proves 185 = .ok (.ireturn, 1) := by decide +kernel
theorem dX11_needFew_0 : decode cX11_needFew 0 = .ok (.aload_n 0, 1) := by decide +kernel
theorem dX11_needFew_1 : decode cX11_needFew 1 = .ok (.iload_n 1, 1) := by decide +kernel
theorem dX11_needFew_2 : decode cX11_needFew 2 = .ok (.invokevirtual 131, 3) := by decide +kernel
theorem dX11_needFew_5 : decode cX11_needFew 5 = .ok (.aload_n 0, 1) := by decide +kernel
theorem dX11_needFew_6 : decode cX11_needFew 6 = .ok (.iload_n 1, 1) := by decide +kernel
theorem dX11_needFew_7 : decode cX11_needFew 7 = .ok (.invokestatic 296, 3) := by decide +kernel
theorem dX11_needFew_10 : decode cX11_needFew 10 = .ok (.iconst 2, 1) := by decide +kernel
theorem dX11_needFew_11 : decode cX11_needFew 11 = .ok (.iconst 5, 1) := by decide +kernel
theorem dX11_needFew_12 : decode cX11_needFew 12 = .ok (.invokevirtual 175, 3) := by decide +kernel
theorem dX11_needFew_15 : decode cX11_needFew 15 = .ok (.return_, 1) := by decide +kernel
theorem dX11_proof_0 : decode cX11_proof 0 = .ok (.aload_n 0, 1) := by decide +kernel
theorem dX11_proof_1 : decode cX11_proof 1 = .ok (.iload_n 1, 1) := by decide +kernel
theorem dX11_proof_2 : decode cX11_proof 2 = .ok (.invokevirtual 273, 3) := by decide +kernel
theorem dX11_proof_5 : decode cX11_proof 5 = .ok (.aload_n 0, 1) := by decide +kernel
theorem dX11_proof_6 : decode cX11_proof 6 = .ok (.iload_n 2, 1) := by decide +kernel
theorem dX11_proof_7 : decode cX11_proof 7 = .ok (.invokevirtual 240, 3) := by decide +kernel
theorem dX11_proof_10 : decode cX11_proof 10 = .ok (.aload_n 0, 1) := by decide +kernel
theorem dX11_proof_11 : decode cX11_proof 11 = .ok (.iload_n 3, 1) := by decide +kernel
theorem dX11_proof_12 : decode cX11_proof 12 = .ok (.iconst 1, 1) := by decide +kernel
theorem dX11_proof_13 : decode cX11_proof 13 = .ok (.sipush 1000, 3) := by decide +kernel
theorem dX11_proof_16 : decode cX11_proof 16 = .ok (.invokevirtual 175, 3) := by decide +kernel
theorem dX11_proof_19 : decode cX11_proof 19 = .ok (.aload_n 0, 1) := by decide +kernel
theorem dX11_proof_20 : decode cX11_proof 20 = .ok (.iload_n 2, 1) := by decide +kernel
theorem dX11_proof_21 : decode cX11_proof 21 = .ok (.invokevirtual 234, 3) := by decide +kernel
theorem dX11_proof_24 : decode cX11_proof 24 = .ok (.aload_n 0, 1) := by decide +kernel
theorem dX11_proof_25 : decode cX11_proof 25 = .ok (.getfield 86, 3) := by decide +kernel
theorem dX11_proof_28 : decode cX11_proof 28 = .ok (.iload_n 1, 1) := by decide +kernel
theorem dX11_proof_29 : decode cX11_proof 29 = .ok (.iload_n 2, 1) := by decide +kernel
theorem dX11_proof_30 : decode cX11_proof 30 = .ok (.iload_n 3, 1) := by decide +kernel
theorem dX11_proof_31 : decode cX11_proof 31 = .ok (.aload_n 0, 1) := by decide +kernel
theorem dX11_proof_32 : decode cX11_proof 32 = .ok (.getfield 54, 3) := by decide +kernel
theorem dX11_proof_35 : decode cX11_proof 35 = .ok (.invokevirtual 276, 3) := by decide +kernel
theorem dX11_proof_38 : decode cX11_proof 38 = .ok (.ireturn, 1) := by decide +kernel
theorem dX12_isFew_0 : decode cX12_isFew 0 = .ok (.aload_n 0, 1) := by decide +kernel
theorem dX12_isFew_1 : decode cX12_isFew 1 = .ok (.iload_n 1, 1) := by decide +kernel
theorem dX12_isFew_2 : decode cX12_isFew 2 = .ok (.invokevirtual 143, 3) := by decide +kernel
theorem dX12_isFew_5 : decode cX12_isFew 5 = .ok (.ifCond .eq 24, 3) := by decide +kernel
theorem dX12_isFew_8 : decode cX12_isFew 8 = .ok (.iload_n 1, 1) := by decide +kernel
theorem dX12_isFew_9 : decode cX12_isFew 9 = .ok (.invokestatic 304, 3) := by decide +kernel
theorem dX12_isFew_12 : decode cX12_isFew 12 = .ok (.i2l, 1) := by decide +kernel
theorem dX12_isFew_13 : decode cX12_isFew 13 = .ok (.ldc2_w 356, 3) := by decide +kernel
theorem dX12_isFew_16 : decode cX12_isFew 16 = .ok (.ldc2_w 127, 3) := by decide +kernel
theorem dX12_isFew_19 : decode cX12_isFew 19 = .ok (.invokestatic 106, 3) := by decide +kernel
theorem dX12_isFew_22 : decode cX12_isFew 22 = .ok (.ifCond .eq 7, 3) := by decide +kernel
theorem dX12_isFew_25 : decode cX12_isFew 25 = .ok (.iconst 1, 1) := by decide +kernel
theorem dX12_isFew_26 : decode cX12_isFew 26 = .ok (.goto 4, 3) := by decide +kernel
theorem dX12_isFew_29 : decode cX12_isFew 29 = .ok (.iconst 0, 1) := by decide +kernel
theorem dX12_isFew_30 : decode cX12_isFew 30 = .ok (.ireturn, 1) := by decide +kernel
theorem dX12_proof_0 : decode cX12_proof 0 = .ok (.aload_n 0, 1) := by decide +kernel
theorem dX12_proof_1 : decode cX12_proof 1 = .ok (.iconst 0, 1) := by decide +kernel
theorem dX12_proof_2 : decode cX12_proof 2 = .ok (.putfield 103, 3) := by decide +kernel
theorem dX12_proof_5 : decode cX12_proof 5 = .ok (.iload_n 1, 1) := by decide +kernel
theorem dX12_proof_6 : decode cX12_proof 6 = .ok (.invokestatic 405, 3) := by decide +kernel
theorem dX12_proof_9 : decode cX12_proof 9 = .ok (.ifCond .ne 9, 3) := by decide +kernel
theorem dX12_proof_12 : decode cX12_proof 12 = .ok (.aload_n 0, 1) := by decide +kernel
theorem dX12_proof_13 : decode cX12_proof 13 = .ok (.iconst 1, 1) := by decide +kernel
theorem dX12_proof_14 : decode cX12_proof 14 = .ok (.invokevirtual 133, 3) := by decide +kernel
theorem dX12_proof_17 : decode cX12_proof 17 = .ok (.ireturn, 1) := by decide +kernel
theorem dX12_proof_18 : decode cX12_proof 18 = .ok (.aload_n 0, 1) := by decide +kernel
theorem dX12_proof_19 : decode cX12_proof 19 = .ok (.iload_n 2, 1) := by decide +kernel
theorem dX12_proof_20 : decode cX12_proof 20 = .ok (.invokevirtual 383, 3) := by decide +kernel
theorem dX12_proof_23 : decode cX12_proof 23 = .ok (.ifCond .eq 15, 3) := by decide +kernel
theorem dX12_proof_26 : decode cX12_proof 26 = .ok (.iload_n 3, 1) := by decide +kernel
theorem dX12_proof_27 : decode cX12_proof 27 = .ok (.i2l, 1) := by decide +kernel
theorem dX12_proof_28 : decode cX12_proof 28 = .ok (.lconst 1, 1) := by decide +kernel
theorem dX12_proof_29 : decode cX12_proof 29 = .ok (.ldc2_w 346, 3) := by decide +kernel
theorem dX12_proof_32 : decode cX12_proof 32 = .ok (.invokestatic 106, 3) := by decide +kernel
theorem dX12_proof_35 : decode cX12_proof 35 = .ok (.ifCond .ne 9, 3) := by decide +kernel
theorem dX12_proof_38 : decode cX12_proof 38 = .ok (.aload_n 0, 1) := by decide +kernel
theorem dX12_proof_39 : decode cX12_proof 39 = .ok (.iconst 2, 1) := by decide +kernel
theorem dX12_proof_40 : decode cX12_proof 40 = .ok (.invokevirtual 133, 3) := by decide +kernel
theorem dX12_proof_43 : decode cX12_proof 43 = .ok (.ireturn, 1) := by decide +kernel
theorem dX12_proof_44 : decode cX12_proof 44 = .ok (.aload_n 0, 1) := by decide +kernel
theorem dX12_proof_45 : decode cX12_proof 45 = .ok (.iload_n 2, 1) := by decide +kernel
theorem dX12_proof_46 : decode cX12_proof 46 = .ok (.invokevirtual 328, 3) := by decide +kernel
theorem dX12_proof_49 : decode cX12_proof 49 = .ok (.istore 4, 2) := by decide +kernel
theorem dX12_proof_51 : decode cX12_proof 51 = .ok (.iload 4, 2) := by decide +kernel
theorem dX12_proof_53 : decode cX12_proof 53 = .ok (.iconst (-1), 1) := by decide +kernel
theorem dX12_proof_54 : decode cX12_proof 54 = .ok (.if_icmp .ne 9, 3) := by decide +kernel
theorem dX12_proof_57 : decode cX12_proof 57 = .ok (.aload_n 0, 1) := by decide +kernel
theorem dX12_proof_58 : decode cX12_proof 58 = .ok (.iconst 3, 1) := by decide +kernel
theorem dX12_proof_59 : decode cX12_proof 59 = .ok (.invokevirtual 133, 3) := by decide +kernel
theorem dX12_proof_62 : decode cX12_proof 62 = .ok (.ireturn, 1) := by decide +kernel
theorem dX12_proof_63 : decode cX12_proof 63 = .ok (.aload_n 0, 1) := by decide +kernel
theorem dX12_proof_64 : decode cX12_proof 64 = .ok (.getfield 94, 3) := by decide +kernel
theorem dX12_proof_67 : decode cX12_proof 67 = .ok (.iload_n 1, 1) := by decide +kernel
theorem dX12_proof_68 : decode cX12_proof 68 = .ok (.iaload, 1) := by decide +kernel
theorem dX12_proof_69 : decode cX12_proof 69 = .ok (.iconst (-1), 1) := by decide +kernel
theorem dX12_proof_70 : decode cX12_proof 70 = .ok (.if_icmp .eq 14, 3) := by decide +kernel
theorem dX12_proof_73 : decode cX12_proof 73 = .ok (.aload_n 0, 1) := by decide +kernel
theorem dX12_proof_74 : decode cX12_proof 74 = .ok (.getfield 97, 3) := by decide +kernel
theorem dX12_proof_77 : decode cX12_proof 77 = .ok (.iload_n 1, 1) := by decide +kernel
theorem dX12_proof_78 : decode cX12_proof 78 = .ok (.iaload, 1) := by decide +kernel
theorem dX12_proof_79 : decode cX12_proof 79 = .ok (.iconst 2, 1) := by decide +kernel
theorem dX12_proof_80 : decode cX12_proof 80 = .ok (.irem, 1) := by decide +kernel
theorem dX12_proof_81 : decode cX12_proof 81 = .ok (.ifCond .eq 5, 3) := by decide +kernel
theorem dX12_proof_84 : decode cX12_proof 84 = .ok (.iconst 0, 1) := by decide +kernel
theorem dX12_proof_85 : decode cX12_proof 85 = .ok (.ireturn, 1) := by decide +kernel
theorem dX12_proof_86 : decode cX12_proof 86 = .ok (.iconst 0, 1) := by decide +kernel
theorem dX12_proof_87 : decode cX12_proof 87 = .ok (.istore 5, 2) := by decide +kernel
theorem dX12_proof_89 : decode cX12_proof 89 = .ok (.iload 5, 2) := by decide +kernel
theorem dX12_proof_91 : decode cX12_proof 91 = .ok (.bipush 7, 2) := by decide +kernel
theorem dX12_proof_93 : decode cX12_proof 93 = .ok (.if_icmp .ge 17, 3) := by decide +kernel
theorem dX12_proof_96 : decode cX12_proof 96 = .ok (.aload_n 0, 1) := by decide +kernel
theorem dX12_proof_97 : decode cX12_proof 97 = .ok (.getfield 69, 3) := by decide +kernel
theorem dX12_proof_100 : decode cX12_proof 100 = .ok (.iload 5, 2) := by decide +kernel
theorem dX12_proof_102 : decode cX12_proof 102 = .ok (.lconst 0, 1) := by decide +kernel
theorem dX12_proof_103 : decode cX12_proof 103 = .ok (.lastore, 1) := by decide +kernel
theorem dX12_proof_104 : decode cX12_proof 104 = .ok (.iinc 5 1, 3) := by decide +kernel
theorem dX12_proof_107 : decode cX12_proof 107 = .ok (.goto (-18), 3) := by decide +kernel
theorem dX12_proof_110 : decode cX12_proof 110 = .ok (.lconst 0, 1) := by decide +kernel
theorem dX12_proof_111 : decode cX12_proof 111 = .ok (.lstore 5, 2) := by decide +kernel
theorem dX12_proof_113 : decode cX12_proof 113 = .ok (.bipush 40, 2) := by decide +kernel
theorem dX12_proof_115 : decode cX12_proof 115 = .ok (.iload_n 1, 1) := by decide +kernel
theorem dX12_proof_116 : decode cX12_proof 116 = .ok (.imul, 1) := by decide +kernel
theorem dX12_proof_117 : decode cX12_proof 117 = .ok (.istore 7, 2) := by decide +kernel
theorem dX12_proof_119 : decode cX12_proof 119 = .ok (.iload 7, 2) := by decide +kernel
theorem dX12_proof_121 : decode cX12_proof 121 = .ok (.bipush 40, 2) := by decide +kernel
theorem dX12_proof_123 : decode cX12_proof 123 = .ok (.iload_n 1, 1) := by decide +kernel
theorem dX12_proof_124 : decode cX12_proof 124 = .ok (.imul, 1) := by decide +kernel
theorem dX12_proof_125 : decode cX12_proof 125 = .ok (.aload_n 0, 1) := by decide +kernel
theorem dX12_proof_126 : decode cX12_proof 126 = .ok (.getfield 97, 3) := by decide +kernel
theorem dX12_proof_129 : decode cX12_proof 129 = .ok (.iload_n 1, 1) := by decide +kernel
theorem dX12_proof_130 : decode cX12_proof 130 = .ok (.iaload, 1) := by decide +kernel
theorem dX12_proof_131 : decode cX12_proof 131 = .ok (.iadd, 1) := by decide +kernel
theorem dX12_proof_132 : decode cX12_proof 132 = .ok (.if_icmp .ge 160, 3) := by decide +kernel
theorem dX12_proof_135 : decode cX12_proof 135 = .ok (.aload_n 0, 1) := by decide +kernel
theorem dX12_proof_136 : decode cX12_proof 136 = .ok (.getfield 100, 3) := by decide +kernel
theorem dX12_proof_139 : decode cX12_proof 139 = .ok (.iload 7, 2) := by decide +kernel
theorem dX12_proof_141 : decode cX12_proof 141 = .ok (.laload, 1) := by decide +kernel
theorem dX12_proof_142 : decode cX12_proof 142 = .ok (.lconst 1, 1) := by decide +kernel
theorem dX12_proof_143 : decode cX12_proof 143 = .ok (.iload_n 2, 1) := by decide +kernel
theorem dX12_proof_144 : decode cX12_proof 144 = .ok (.i2l, 1) := by decide +kernel
theorem dX12_proof_145 : decode cX12_proof 145 = .ok (.invokestatic 106, 3) := by decide +kernel
theorem dX12_proof_148 : decode cX12_proof 148 = .ok (.ifCond .eq 53, 3) := by decide +kernel
theorem dX12_proof_151 : decode cX12_proof 151 = .ok (.aload_n 0, 1) := by decide +kernel
theorem dX12_proof_152 : decode cX12_proof 152 = .ok (.getfield 100, 3) := by decide +kernel
theorem dX12_proof_155 : decode cX12_proof 155 = .ok (.iload 7, 2) := by decide +kernel
theorem dX12_proof_157 : decode cX12_proof 157 = .ok (.laload, 1) := by decide +kernel
theorem dX12_proof_158 : decode cX12_proof 158 = .ok (.l2i, 1) := by decide +kernel
theorem dX12_proof_159 : decode cX12_proof 159 = .ok (.iload_n 2, 1) := by decide +kernel
theorem dX12_proof_160 : decode cX12_proof 160 = .ok (.iconst (-1), 1) := by decide +kernel
theorem dX12_proof_161 : decode cX12_proof 161 = .ok (.ixor, 1) := by decide +kernel
theorem dX12_proof_162 : decode cX12_proof 162 = .ok (.iand, 1) := by decide +kernel
theorem dX12_proof_163 : decode cX12_proof 163 = .ok (.ifCond .ne 38, 3) := by decide +kernel
theorem dX12_proof_166 : decode cX12_proof 166 = .ok (.aload_n 0, 1) := by decide +kernel
theorem dX12_proof_167 : decode cX12_proof 167 = .ok (.aload_n 0, 1) := by decide +kernel
theorem dX12_proof_168 : decode cX12_proof 168 = .ok (.getfield 100, 3) := by decide +kernel
theorem dX12_proof_171 : decode cX12_proof 171 = .ok (.iload 7, 2) := by decide +kernel
theorem dX12_proof_173 : decode cX12_proof 173 = .ok (.laload, 1) := by decide +kernel
theorem dX12_proof_174 : decode cX12_proof 174 = .ok (.l2i, 1) := by decide +kernel
theorem dX12_proof_175 : decode cX12_proof 175 = .ok (.invokevirtual 307, 3) := by decide +kernel
theorem dX12_proof_178 : decode cX12_proof 178 = .ok (.iconst (-1), 1) := by decide +kernel
theorem dX12_proof_179 : decode cX12_proof 179 = .ok (.if_icmp .eq 22, 3) := by decide +kernel
theorem dX12_proof_182 : decode cX12_proof 182 = .ok (.aload_n 0, 1) := by decide +kernel
theorem dX12_proof_183 : decode cX12_proof 183 = .ok (.getfield 100, 3) := by decide +kernel
theorem dX12_proof_186 : decode cX12_proof 186 = .ok (.iload 7, 2) := by decide +kernel
theorem dX12_proof_188 : decode cX12_proof 188 = .ok (.iconst 1, 1) := by decide +kernel
theorem dX12_proof_189 : decode cX12_proof 189 = .ok (.iadd, 1) := by decide +kernel
theorem dX12_proof_190 : decode cX12_proof 190 = .ok (.laload, 1) := by decide +kernel
theorem dX12_proof_191 : decode cX12_proof 191 = .ok (.lconst 0, 1) := by decide +kernel
theorem dX12_proof_192 : decode cX12_proof 192 = .ok (.ldc2_w 336, 3) := by decide +kernel
theorem dX12_proof_195 : decode cX12_proof 195 = .ok (.invokestatic 106, 3) := by decide +kernel
theorem dX12_proof_198 : decode cX12_proof 198 = .ok (.ifCond .ne 5, 3) := by decide +kernel
theorem dX12_proof_201 : decode cX12_proof 201 = .ok (.iconst 0, 1) := by decide +kernel
theorem dX12_proof_202 : decode cX12_proof 202 = .ok (.ireturn, 1) := by decide +kernel
theorem dX12_proof_203 : decode cX12_proof 203 = .ok (.lload 5, 2) := by decide +kernel
theorem dX12_proof_205 : decode cX12_proof 205 = .ok (.aload_n 0, 1) := by decide +kernel
theorem dX12_proof_206 : decode cX12_proof 206 = .ok (.getfield 100, 3) := by decide +kernel
theorem dX12_proof_209 : decode cX12_proof 209 = .ok (.iload 7, 2) := by decide +kernel
theorem dX12_proof_211 : decode cX12_proof 211 = .ok (.iconst 1, 1) := by decide +kernel
theorem dX12_proof_212 : decode cX12_proof 212 = .ok (.iadd, 1) := by decide +kernel
theorem dX12_proof_213 : decode cX12_proof 213 = .ok (.laload, 1) := by decide +kernel
theorem dX12_proof_214 : decode cX12_proof 214 = .ok (.aload_n 0, 1) := by decide +kernel
theorem dX12_proof_215 : decode cX12_proof 215 = .ok (.aload_n 0, 1) := by decide +kernel
theorem dX12_proof_216 : decode cX12_proof 216 = .ok (.getfield 100, 3) := by decide +kernel
theorem dX12_proof_219 : decode cX12_proof 219 = .ok (.iload 7, 2) := by decide +kernel
theorem dX12_proof_221 : decode cX12_proof 221 = .ok (.laload, 1) := by decide +kernel
theorem dX12_proof_222 : decode cX12_proof 222 = .ok (.l2i, 1) := by decide +kernel
theorem dX12_proof_223 : decode cX12_proof 223 = .ok (.invokevirtual 307, 3) := by decide +kernel
theorem dX12_proof_226 : decode cX12_proof 226 = .ok (.i2l, 1) := by decide +kernel
theorem dX12_proof_227 : decode cX12_proof 227 = .ok (.lmul, 1) := by decide +kernel
theorem dX12_proof_228 : decode cX12_proof 228 = .ok (.ladd, 1) := by decide +kernel
theorem dX12_proof_229 : decode cX12_proof 229 = .ok (.lstore 5, 2) := by decide +kernel
theorem dX12_proof_231 : decode cX12_proof 231 = .ok (.iconst 0, 1) := by decide +kernel
theorem dX12_proof_232 : decode cX12_proof 232 = .ok (.istore 8, 2) := by decide +kernel
theorem dX12_proof_234 : decode cX12_proof 234 = .ok (.iload 8, 2) := by decide +kernel
theorem dX12_proof_236 : decode cX12_proof 236 = .ok (.bipush 7, 2) := by decide +kernel
theorem dX12_proof_238 : decode cX12_proof 238 = .ok (.if_icmp .ge 48, 3) := by decide +kernel
theorem dX12_proof_241 : decode cX12_proof 241 = .ok (.aload_n 0, 1) := by decide +kernel
theorem dX12_proof_242 : decode cX12_proof 242 = .ok (.getfield 69, 3) := by decide +kernel
theorem dX12_proof_245 : decode cX12_proof 245 = .ok (.iload 8, 2) := by decide +kernel
theorem dX12_proof_247 : decode cX12_proof 247 = .ok (.dup2, 1) := by decide +kernel
theorem dX12_proof_248 : decode cX12_proof 248 = .ok (.laload, 1) := by decide +kernel
theorem dX12_proof_249 : decode cX12_proof 249 = .ok (.aload_n 0, 1) := by decide +kernel
theorem dX12_proof_250 : decode cX12_proof 250 = .ok (.getfield 100, 3) := by decide +kernel
theorem dX12_proof_253 : decode cX12_proof 253 = .ok (.iload 7, 2) := by decide +kernel
theorem dX12_proof_255 : decode cX12_proof 255 = .ok (.laload, 1) := by decide +kernel
theorem dX12_proof_256 : decode cX12_proof 256 = .ok (.l2i, 1) := by decide +kernel
theorem dX12_proof_257 : decode cX12_proof 257 = .ok (.iload 8, 2) := by decide +kernel
theorem dX12_proof_259 : decode cX12_proof 259 = .ok (.invokestatic 136, 3) := by decide +kernel
theorem dX12_proof_262 : decode cX12_proof 262 = .ok (.ifCond .eq 15, 3) := by decide +kernel
theorem dX12_proof_265 : decode cX12_proof 265 = .ok (.aload_n 0, 1) := by decide +kernel
theorem dX12_proof_266 : decode cX12_proof 266 = .ok (.getfield 100, 3) := by decide +kernel
theorem dX12_proof_269 : decode cX12_proof 269 = .ok (.iload 7, 2) := by decide +kernel
theorem dX12_proof_271 : decode cX12_proof 271 = .ok (.iconst 1, 1) := by decide +kernel
theorem dX12_proof_272 : decode cX12_proof 272 = .ok (.iadd, 1) := by decide +kernel
theorem dX12_proof_273 : decode cX12_proof 273 = .ok (.laload, 1) := by decide +kernel
theorem dX12_proof_274 : decode cX12_proof 274 = .ok (.goto 4, 3) := by decide +kernel
theorem dX12_proof_277 : decode cX12_proof 277 = .ok (.lconst 0, 1) := by decide +kernel
theorem dX12_proof_278 : decode cX12_proof 278 = .ok (.ladd, 1) := by decide +kernel
theorem dX12_proof_279 : decode cX12_proof 279 = .ok (.lastore, 1) := by decide +kernel
theorem dX12_proof_280 : decode cX12_proof 280 = .ok (.iinc 8 1, 3) := by decide +kernel
theorem dX12_proof_283 : decode cX12_proof 283 = .ok (.goto (-49), 3) := by decide +kernel
theorem dX12_proof_286 : decode cX12_proof 286 = .ok (.iinc 7 2, 3) := by decide +kernel
theorem dX12_proof_289 : decode cX12_proof 289 = .ok (.goto (-170), 3) := by decide +kernel
theorem dX12_proof_292 : decode cX12_proof 292 = .ok (.lload 5, 2) := by decide +kernel
theorem dX12_proof_294 : decode cX12_proof 294 = .ok (.iload 4, 2) := by decide +kernel
theorem dX12_proof_296 : decode cX12_proof 296 = .ok (.i2l, 1) := by decide +kernel
theorem dX12_proof_297 : decode cX12_proof 297 = .ok (.iload_n 3, 1) := by decide +kernel
theorem dX12_proof_298 : decode cX12_proof 298 = .ok (.i2l, 1) := by decide +kernel
theorem dX12_proof_299 : decode cX12_proof 299 = .ok (.lmul, 1) := by decide +kernel
theorem dX12_proof_300 : decode cX12_proof 300 = .ok (.lcmp, 1) := by decide +kernel
theorem dX12_proof_301 : decode cX12_proof 301 = .ok (.ifCond .ge 7, 3) := by decide +kernel
theorem dX12_proof_304 : decode cX12_proof 304 = .ok (.iconst 1, 1) := by decide +kernel
theorem dX12_proof_305 : decode cX12_proof 305 = .ok (.goto 4, 3) := by decide +kernel
theorem dX12_proof_308 : decode cX12_proof 308 = .ok (.iconst 0, 1) := by decide +kernel
theorem dX12_proof_309 : decode cX12_proof 309 = .ok (.istore 7, 2) := by decide +kernel
theorem dX12_proof_311 : decode cX12_proof 311 = .ok (.iconst 0, 1) := by decide +kernel
theorem dX12_proof_312 : decode cX12_proof 312 = .ok (.istore 8, 2) := by decide +kernel
theorem dX12_proof_314 : decode cX12_proof 314 = .ok (.iload 8, 2) := by decide +kernel
theorem dX12_proof_316 : decode cX12_proof 316 = .ok (.bipush 7, 2) := by decide +kernel
theorem dX12_proof_318 : decode cX12_proof 318 = .ok (.if_icmp .ge 43, 3) := by decide +kernel
theorem dX12_proof_321 : decode cX12_proof 321 = .ok (.iload 7, 2) := by decide +kernel
theorem dX12_proof_323 : decode cX12_proof 323 = .ok (.ifCond .eq 29, 3) := by decide +kernel
theorem dX12_proof_326 : decode cX12_proof 326 = .ok (.iload_n 2, 1) := by decide +kernel
theorem dX12_proof_327 : decode cX12_proof 327 = .ok (.iload 8, 2) := by decide +kernel
theorem dX12_proof_329 : decode cX12_proof 329 = .ok (.invokestatic 136, 3) := by decide +kernel
theorem dX12_proof_332 : decode cX12_proof 332 = .ok (.ifCond .eq 16, 3) := by decide +kernel
theorem dX12_proof_335 : decode cX12_proof 335 = .ok (.aload_n 0, 1) := by decide +kernel
theorem dX12_proof_336 : decode cX12_proof 336 = .ok (.getfield 69, 3) := by decide +kernel
theorem dX12_proof_339 : decode cX12_proof 339 = .ok (.iload 8, 2) := by decide +kernel
theorem dX12_proof_341 : decode cX12_proof 341 = .ok (.laload, 1) := by decide +kernel
theorem dX12_proof_342 : decode cX12_proof 342 = .ok (.iload_n 3, 1) := by decide +kernel
theorem dX12_proof_343 : decode cX12_proof 343 = .ok (.i2l, 1) := by decide +kernel
theorem dX12_proof_344 : decode cX12_proof 344 = .ok (.lcmp, 1) := by decide +kernel
theorem dX12_proof_345 : decode cX12_proof 345 = .ok (.ifCond .lt 7, 3) := by decide +kernel
theorem dX12_proof_348 : decode cX12_proof 348 = .ok (.iconst 1, 1) := by decide +kernel
theorem dX12_proof_349 : decode cX12_proof 349 = .ok (.goto 4, 3) := by decide +kernel
theorem dX12_proof_352 : decode cX12_proof 352 = .ok (.iconst 0, 1) := by decide +kernel
theorem dX12_proof_353 : decode cX12_proof 353 = .ok (.istore 7, 2) := by decide +kernel
theorem dX12_proof_355 : decode cX12_proof 355 = .ok (.iinc 8 1, 3) := by decide +kernel
theorem dX12_proof_358 : decode cX12_proof 358 = .ok (.goto (-44), 3) := by decide +kernel
theorem dX12_proof_361 : decode cX12_proof 361 = .ok (.iload 7, 2) := by decide +kernel
theorem dX12_proof_363 : decode cX12_proof 363 = .ok (.ireturn, 1) := by decide +kernel
theorem s_cover {l : Launch} {E : aE} {N : Nat} {S : aS} {M : aM} (hfl : l.stackTraces = false) (x y : Int) (hC : lyC S) (hx : 0 ≤ x ∧ x < 128) (hy : 0 ≤ y ∧ y ≤ 100000) (hz : ∀ h, 0 ≤ h → h < 7 → 0 ≤ M 108 h ∧ M 108 h ≤ 4000000) : aMt l E pX9_cover [(2, 104), (0, x), (1, y)] N S M (aU N S (fun M' => (∀ a i, a ≠ 108 → M' a i = M a i) ∧ ∀ h, 0 ≤ h → h < 7 → M' 108 h = M 108 h + if hb x h = 1 then y else 0)) := by
  refine a_met hfl rfl (by decide +kernel) (Nat.le_of_ble_eq_true rfl) ?_
  have loop := a_loop2 (fun h M1 => (0 ≤ h ∧ h ≤ 7) ∧ (∀ a i, a ≠ 108 → M1 a i = M a i) ∧ (∀ i, 0 ≤ i → i < h → M1 108 i = M 108 i + if hb x i = 1 then y else 0) ∧ ∀ i, h ≤ i → i < 7 → M1 108 i = M 108 i) (fun h M1 => (7 - h).toNat) (fun h M1 => aX l E pX9_cover (aU N S (fun M' => (∀ a i, a ≠ 108 → M' a i = M a i) ∧ ∀ h, 0 ≤ h → h < 7 → M' 108 h = M 108 h + if hb x h = 1 then y else 0)) 0 0 N S M1 3 [(0, (2, 104)), (1, (0, x)), (2, (1, y)), (4, (0, h))] []) (by
    intro h M1 hI ih
    obtain ⟨k1, k2, k3, k4⟩ := hI
    refine x_iload (pc := 3) dX9_cover_3 rfl ?_
    refine x_bipush (pc := 5) dX9_cover_5 (by decide) ?_
    refine x_icmp_ge (tgt := 36) (pc := 7) dX9_cover_7 (by decide) (fun c_7 => ?_) (fun c_7 => ?_)
    · refine x_return (pc := 36) dX9_cover_36 rfl (by decide) ?_
      exact ⟨rfl, rfl, rfl, k2, fun i a b => k3 i a (by omega)⟩
    · refine x_iload_n (pc := 10) dX9_cover_10 rfl rfl ?_
      refine x_iload (pc := 11) dX9_cover_11 rfl ?_
      refine x_callSN2 (pc := 13) dX9_cover_13 rfl kX9_56 (s_isOf hfl _ _) rfl (Nat.le_of_ble_eq_true rfl) (k_R ?_) n_R
      have his := isOf_iff (x := x) (h := h) ⟨by omega, by omega⟩
      have his1 := isOfV01 x h
      refine x_if_eq (tgt := 30) (pc := 16) dX9_cover_16 (by decide) (fun c_16 => ?_) (fun c_16 => ?_)
      · refine x_iinc (pc := 30) dX9_cover_30 rfl (by omega) (by decide) rfl ?_
        refine x_goto (tgt := 3) (pc := 33) dX9_cover_33 (by decide) ?_
        refine x_lo (lo' := [(0, (2, 104)), (1, (0, x)), (2, (1, y)), (4, (0, (h + 1)))]) ⟨rfl, rfl, rfl, rfl, trivial⟩ (ih (h + 1) (M1) ⟨by omega, k2, fun i a b => ?_, fun i a b => k4 i (by omega) b⟩ (by omega))
        by_cases e : i = h
        · subst e; rw [if_neg (by omega), Int.add_zero]; exact k4 i (by omega) (by omega)
        · exact k3 i a (by omega)
      · refine x_aload_n (pc := 19) dX9_cover_19 rfl rfl ?_
        refine x_getR (jj := 3) (pc := 20) dX9_cover_20 fX9_22 (sC_104 hC) rfl (by decide) rfl rC_104_3 ?_
        refine x_iload (pc := 23) dX9_cover_23 rfl ?_
        refine x_dup2 (pc := 25) dX9_cover_25 rfl rfl ?_
        have hz9 := hz h k1.1 (by omega)
        refine x_laloadV (pc := 26) dX9_cover_26 (sC_108 hC) (by omega) (by (repeat (first | rewrite [up_s] | rewrite [up_i (by omega)] | rewrite [up_a (by omega)])); first | exact k4 h (by omega) (by omega) | rfl) (fun g_26 => ?_)
        refine x_lload_n (pc := 27) dX9_cover_27 rfl rfl ?_
        refine x_ladd (pc := 28) dX9_cover_28 (by omega) ?_
        refine x_lastore (pc := 29) dX9_cover_29 (sC_108 hC) (by omega) ?_
        refine x_iinc (pc := 30) dX9_cover_30 rfl (by omega) (by decide) rfl ?_
        refine x_goto (tgt := 3) (pc := 33) dX9_cover_33 (by decide) ?_
        refine x_lo (lo' := [(0, (2, 104)), (1, (0, x)), (2, (1, y)), (4, (0, (h + 1)))]) ⟨rfl, rfl, rfl, rfl, trivial⟩ (ih (h + 1) _ ⟨by omega, fun a i x => (up_a x).trans (k2 a i x), fun i a b => ?_, fun i a b => (up_i (by omega)).trans (k4 i (by omega) b)⟩ (by omega))
        by_cases e : i = h
        · subst e; rw [up_s, if_pos (by omega)]
        · exact (up_i e).trans (k3 i a (by omega)))
  refine x_iconst (pc := 0) dX9_cover_0 (by decide) ?_
  refine x_istore (pc := 1) dX9_cover_1 (by decide) rfl ?_
  refine x_lo (lo' := [(0, (2, 104)), (1, (0, x)), (2, (1, y)), (4, (0, 0))]) ⟨rfl, rfl, rfl, rfl, trivial⟩ (loop (0) _ ⟨by omega, fun _ _ _ => rfl, fun i a b => by omega, fun _ _ _ => rfl⟩)
theorem s_isCovered {l : Launch} {E : aE} {N : Nat} {S : aS} {M : aM} (hfl : l.stackTraces = false) (s d : Int) (hC : lyC S) (hs : 0 ≤ s ∧ s < 128) : aMt l E pX9_isCovered [(2, 104), (0, s), (0, d)] N S M (aB (∀ h, 0 ≤ h → h < 7 → hb s h = 1 → d ≤ M 108 h) N S M) := by
  refine a_met hfl rfl (by decide +kernel) (Nat.le_of_ble_eq_true rfl) ?_
  have loop := a_loop1 (fun h => (0 ≤ h ∧ h ≤ 7) ∧ ∀ i, 0 ≤ i → i < h → hb s i = 1 → d ≤ M 108 i) (fun h => (7 - h).toNat) (fun h => aX l E pX9_isCovered (aB (∀ h, 0 ≤ h → h < 7 → hb s h = 1 → d ≤ M 108 h) N S M) 0 0 N S M 2 [(0, (2, 104)), (1, (0, s)), (2, (0, d)), (3, (0, h))] []) (by
    intro h hI ih
    obtain ⟨k1, k2⟩ := hI
    refine x_iload_n (pc := 2) dX9_isCovered_2 rfl rfl ?_
    refine x_bipush (pc := 3) dX9_isCovered_3 (by decide) ?_
    refine x_icmp_ge (tgt := 36) (pc := 5) dX9_isCovered_5 (by decide) (fun c_5 => ?_) (fun c_5 => ?_)
    · refine x_iconst (pc := 36) dX9_isCovered_36 (by decide) ?_
      refine x_zreturn (pc := 37) dX9_isCovered_37 rfl (by omega) (by decide) ?_
      exact b_1 fun i a b w => k2 i a (by omega) w
    · refine x_iload_n (pc := 8) dX9_isCovered_8 rfl rfl ?_
      refine x_iload_n (pc := 9) dX9_isCovered_9 rfl rfl ?_
      refine x_callSN2 (pc := 10) dX9_isCovered_10 rfl kX9_56 (s_isOf hfl _ _) rfl (Nat.le_of_ble_eq_true rfl) (k_R ?_) n_R
      have his := isOf_iff (x := s) (h := h) ⟨by omega, by omega⟩
      have his1 := isOfV01 s h
      refine x_if_eq (tgt := 30) (pc := 13) dX9_isCovered_13 (by decide) (fun c_13 => ?_) (fun c_13 => ?_)
      · refine x_iinc (pc := 30) dX9_isCovered_30 rfl (by omega) (by decide) rfl ?_
        refine x_goto (tgt := 2) (pc := 33) dX9_isCovered_33 (by decide) ?_
        refine x_lo (lo' := [(0, (2, 104)), (1, (0, s)), (2, (0, d)), (3, (0, (h + 1)))]) ⟨rfl, rfl, rfl, rfl, trivial⟩ (ih (h + 1) ⟨by omega, fun i a b w => ?_⟩ (by omega))
        by_cases e : i = h
        · subst e; exfalso; omega
        · exact k2 i a (by omega) w
      · refine x_aload_n (pc := 16) dX9_isCovered_16 rfl rfl ?_
        refine x_getR (jj := 3) (pc := 17) dX9_isCovered_17 fX9_22 (sC_104 hC) rfl (by decide) rfl rC_104_3 ?_
        refine x_iload_n (pc := 20) dX9_isCovered_20 rfl rfl ?_
        refine x_laloadV (pc := 21) dX9_isCovered_21 (sC_108 hC) (by omega) (by (repeat (first | rewrite [up_s] | rewrite [up_i (by omega)] | rewrite [up_a (by omega)])); rfl) (fun g_21 => ?_)
        refine x_iload_n (pc := 22) dX9_isCovered_22 rfl rfl ?_
        refine x_i2l (pc := 23) dX9_isCovered_23 ?_
        refine x_lge (tgt := 30) (pc := 24) dX9_isCovered_24 dX9_isCovered_25 (by decide) (fun c_24 => ?_) (fun c_24 => ?_)
        · refine x_iinc (pc := 30) dX9_isCovered_30 rfl (by omega) (by decide) rfl ?_
          refine x_goto (tgt := 2) (pc := 33) dX9_isCovered_33 (by decide) ?_
          refine x_lo (lo' := [(0, (2, 104)), (1, (0, s)), (2, (0, d)), (3, (0, (h + 1)))]) ⟨rfl, rfl, rfl, rfl, trivial⟩ (ih (h + 1) ⟨by omega, fun i a b w => ?_⟩ (by omega))
          by_cases e : i = h
          · subst e; omega
          · exact k2 i a (by omega) w
        · refine x_iconst (pc := 28) dX9_isCovered_28 (by decide) ?_
          refine x_zreturn (pc := 29) dX9_isCovered_29 rfl (by omega) (by decide) ?_
          exact b_0 fun q => by have := q h k1.1 (by omega) (by omega); omega)
  refine x_iconst (pc := 0) dX9_isCovered_0 (by decide) ?_
  refine x_istore_n (pc := 1) dX9_isCovered_1 rfl (by decide) rfl ?_
  refine x_lo (lo' := [(0, (2, 104)), (1, (0, s)), (2, (0, d)), (3, (0, 0))]) ⟨rfl, rfl, rfl, rfl, trivial⟩ (loop (0) ⟨by omega, fun i a b => by omega⟩)
theorem s_proves {l : Launch} {E : aE} {N : Nat} {S : aS} {M : aM} (hfl : l.stackTraces = false) (t s d : Int) (hC : lyC S) (A : aM) (hTy : RTy M A) (hD : ∀ i, 0 ≤ i → i < 4 → (-1 ≤ A 3 i ∧ A 3 i ≤ 3) ∧ (0 ≤ A 4 i ∧ A 4 i ≤ 40)) (hK : TQ (A 0)) (ht : 0 ≤ t ∧ t ≤ 3) (hs : 0 < s ∧ s < 128) (hd : 1 ≤ d ∧ d ≤ 1000) (htt : totE (costV (A 0)) s ≠ -1) (hA : GA M 25 (A 0) s) : aMt l E pX9_proves [(2, 104), (0, t), (0, s), (0, d), (2, 34)] N S M (aG N S (fun v M' => v = (0, pfV A t s d) ∧ ∀ a i, a ≠ 108 → M' a i = M a i)) := by
  refine a_met hfl rfl (by decide +kernel) (Nat.le_of_ble_eq_true rfl) ?_
  have hS34 := sC_34 hC
  have hS35 := sC_35 hC
  have hS36 := sC_36 hC
  have h35 := rC_34_1
  have h36 := rC_34_2
  have hto := totV_or (c := costV (A 0)) s
  have hlt := totE_lt (costs_t hK) (s := s) (by omega)
  have hm3 : totV (costV (A 0)) s * d ≤ totV (costV (A 0)) s * 1000 := Int.mul_le_mul_of_nonneg_left hd.2 (by omega)
  have hm4 : 0 ≤ totV (costV (A 0)) s * d := Int.mul_nonneg (by omega) (by omega)
  have het : encT (totE (costV (A 0)) s) = totV (costV (A 0)) s := by omega
  have hDt := hD t ht.1 (by omega)
  have hT1 := (hTy.1 t ht.1 (by omega)).1
  refine x_aload_n (pc := 0) dX9_proves_0 rfl rfl ?_
  refine x_getR (jj := 0) (pc := 1) dX9_proves_1 fX9_9 (sC_104 hC) rfl (by decide) rfl rC_104_0 ?_
  refine x_iload_n (pc := 4) dX9_proves_4 rfl rfl ?_
  refine x_ialoadV (pc := 5) dX9_proves_5 (sC_105 hC) (by omega) (by (repeat (first | rewrite [up_s] | rewrite [up_i (by omega)] | rewrite [up_a (by omega)])); rfl) (fun g_5 => ?_)
  refine x_istore (pc := 6) dX9_proves_6 (by decide) rfl ?_
  refine x_iload (pc := 8) dX9_proves_8 rfl ?_
  refine x_iconst (pc := 10) dX9_proves_10 (by decide) ?_
  refine x_icmp_eq (tgt := 21) (pc := 11) dX9_proves_11 (by decide) (fun c_11 => ?_) (fun c_11 => ?_)
  · refine x_iconst (pc := 21) dX9_proves_21 (by decide) ?_
    refine x_zreturn (pc := 22) dX9_proves_22 rfl (by omega) (by decide) ?_
    refine ⟨_, rfl, rfl, rfl, ?_, fun _ _ _ => rfl⟩
    rw [pfV_a ?_]
    by_cases h3 : A 3 t = -1
    · exact Or.inl h3
    · refine Or.inr fun q => ?_
      rw [if_neg h3] at hT1
      omega
  · refine x_iload (pc := 14) dX9_proves_14 rfl ?_
    refine x_iconst (pc := 16) dX9_proves_16 (by decide) ?_
    refine x_irem (pc := 17) dX9_proves_17 (by omega) ?_
    refine x_if_eq (tgt := 23) (pc := 18) dX9_proves_18 (by decide) (fun c_18 => ?_) (fun c_18 => ?_)
    · have h3 : A 3 t ≠ -1 := fun q => by rw [if_pos q] at hT1; omega
      rw [if_neg h3] at hT1
      rewrite [hT1]
      have hev : A 4 t % 2 = 0 := by rw [← tm2 hDt.2.1, ← hT1]; assumption
      have loop := a_loop2 (fun k M1 => (0 ≤ k ∧ 2 * k ≤ A 4 t) ∧ (∀ a i, a ≠ 108 → M1 a i = M a i) ∧ (∀ j, 0 ≤ j → j < k → pfG A t s j = true) ∧ ∀ h, 0 ≤ h → h < 7 → M1 108 h = pfC A t h k.toNat) (fun k M1 => (A 4 t - 2 * k).toNat) (fun k M1 => aX l E pX9_proves (aG N S (fun v M' => v = (0, pfV A t s d) ∧ ∀ a i, a ≠ 108 → M' a i = M a i)) 0 0 N S M1 37 [(0, (2, 104)), (1, (0, t)), (2, (0, s)), (3, (0, d)), (4, (2, 34)), (5, (0, A 4 t)), (6, (1, pfS A t k.toNat)), (8, (0, 2 * k))] []) (by
        intro k M1 hI ih
        obtain ⟨k1, k2, k3, k4⟩ := hI
        refine x_iload (pc := 37) dX9_proves_37 rfl ?_
        refine x_iload (pc := 39) dX9_proves_39 rfl ?_
        refine x_icmp_ge (tgt := 154) (pc := 41) dX9_proves_41 (by decide) (fun c_41 => ?_) (fun c_41 => ?_)
        · have hk : k.toNat = (A 4 t / 2).toNat := by omega
          rewrite [hk]
          refine x_aload_n (pc := 154) dX9_proves_154 rfl rfl ?_
          refine x_iload_n (pc := 155) dX9_proves_155 rfl rfl ?_
          refine x_iload_n (pc := 156) dX9_proves_156 rfl rfl ?_
          refine x_callV2 (pc := 157) dX9_proves_157 rfl kX9_49 (s_isCovered hfl s d hC ⟨by omega, by omega⟩) (sC_104 hC) rfl rfl (Nat.le_of_ble_eq_true rfl) (k_B (fun q_157 => ?_) (fun q_157 => ?_)) n_B
          · refine x_if_eq (tgt := 184) (pc := 160) dX9_proves_160 (by decide) (fun c => absurd c (by decide)) (fun _ => ?_)
            have hgs := (hA.cg (M' := M1) fun a i x y => k2 a i (by omega)) s hs.1 (Int.le_refl s) (sub_rf (by omega))
            have hps := pfS_r (t := t) hK hs.2 (n := k.toNat) (fun j a b => k3 j a (by omega))
            rewrite [hk] at hps
            refine x_lload (pc := 163) dX9_proves_163 rfl ?_
            refine x_aload (pc := 165) dX9_proves_165 rfl ?_
            refine x_getR (jj := 2) (pc := 167) dX9_proves_167 fX9_53 (by assumption) rfl (by decide) rfl (by first | assumption | rfl) ?_
            refine x_iload_n (pc := 170) dX9_proves_170 rfl rfl ?_
            refine x_ialoadV (pc := 171) dX9_proves_171 (by assumption) (by omega) (by (repeat (first | rewrite [up_s] | rewrite [up_i (by omega)] | rewrite [up_a (by omega)])); first | exact hgx.1.1 | exact hgs.1.2.1.trans het | rfl) (fun g_171 => ?_)
            refine x_i2l (pc := 172) dX9_proves_172 ?_
            refine x_iload_n (pc := 173) dX9_proves_173 rfl rfl ?_
            refine x_i2l (pc := 174) dX9_proves_174 ?_
            refine x_lmul (pc := 175) dX9_proves_175 (by omega) ?_
            refine x_lge (tgt := 184) (pc := 176) dX9_proves_176 dX9_proves_177 (by decide) (fun c_176 => ?_) (fun c_176 => ?_)
            · refine x_iconst (pc := 184) dX9_proves_184 (by decide) ?_
              refine x_zreturn (pc := 185) dX9_proves_185 rfl (by omega) (by decide) ?_
              refine ⟨_, rfl, rfl, rfl, ?_, k2⟩
              rw [pfV_s (by omega)]
            · refine x_iconst (pc := 180) dX9_proves_180 (by decide) ?_
              refine x_goto (tgt := 185) (pc := 181) dX9_proves_181 (by decide) ?_
              refine x_zreturn (pc := 185) dX9_proves_185 rfl (by omega) (by decide) ?_
              refine ⟨_, rfl, rfl, rfl, ?_, k2⟩
              rw [pfV_1 h3 (by omega) (fun j a b => k3 j a (by omega)) (fun h a b w => by rw [← hk, ← k4 h a b]; exact q_157 h a b w) (by omega)]
          · refine x_if_eq (tgt := 184) (pc := 160) dX9_proves_160 (by decide) (fun _ => ?_) (fun c => absurd c (by decide))
            refine x_iconst (pc := 184) dX9_proves_184 (by decide) ?_
            refine x_zreturn (pc := 185) dX9_proves_185 rfl (by omega) (by decide) ?_
            refine ⟨_, rfl, rfl, rfl, ?_, k2⟩
            rw [pfV_c (fun q => q_157 fun h a b w => by rw [k4 h a b, hk]; exact q h a b w)]
        · refine x_aload_n (pc := 44) dX9_proves_44 rfl rfl ?_
          refine x_iload_n (pc := 45) dX9_proves_45 rfl rfl ?_
          refine x_iload (pc := 46) dX9_proves_46 rfl ?_
          refine x_callV2 (pc := 48) dX9_proves_48 rfl kX9_34 (s_at hfl t (2 * k) hC (by omega) (by omega)) (sC_104 hC) rfl rfl (Nat.le_of_ble_eq_true rfl) (k_R ?_) n_R
          have eX : M1 107 (t * 40 + (2 * k)) = pfX A t k := by
            rw [k2 _ _ (by omega), hTy.2 _ (by omega) (by omega)]
            unfold pfX
            exact congrArg _ (by omega)
          rewrite [eX]
          refine x_lstore (pc := 51) dX9_proves_51 (by decide) rfl ?_
          refine x_aload_n (pc := 53) dX9_proves_53 rfl rfl ?_
          refine x_iload_n (pc := 54) dX9_proves_54 rfl rfl ?_
          refine x_iload (pc := 55) dX9_proves_55 rfl ?_
          refine x_iconst (pc := 57) dX9_proves_57 (by decide) ?_
          refine x_iadd (pc := 58) dX9_proves_58 (by omega) ?_
          refine x_callV2 (pc := 59) dX9_proves_59 rfl kX9_34 (s_at hfl t (2 * k + 1) hC (by omega) (by omega)) (sC_104 hC) rfl rfl (Nat.le_of_ble_eq_true rfl) (k_R ?_) n_R
          have eY : M1 107 (t * 40 + (2 * k + 1)) = pfY A t k := by
            rw [k2 _ _ (by omega), hTy.2 _ (by omega) (by omega)]
            unfold pfY
            exact congrArg _ (by omega)
          rewrite [eY]
          refine x_lstore (pc := 62) dX9_proves_62 (by decide) rfl ?_
          refine x_lload (pc := 64) dX9_proves_64 rfl ?_
          refine x_lconst1 (pc := 66) dX9_proves_66 ?_
          refine x_llt (tgt := 107) (pc := 67) dX9_proves_67 dX9_proves_68 (by decide) (fun c_67 => ?_) (fun c_67 => ?_)
          · refine x_iconst (pc := 107) dX9_proves_107 (by decide) ?_
            refine x_zreturn (pc := 108) dX9_proves_108 rfl (by omega) (by decide) ?_
            refine ⟨_, rfl, rfl, rfl, ?_, k2⟩
            rw [pfV_g (k := k) k1.1 (by omega) (decide_eq_false (by rintro ⟨u1, u2, u3, u4, u5, u6⟩; omega))]
          · refine x_lload (pc := 71) dX9_proves_71 rfl ?_
            refine x_iload_n (pc := 73) dX9_proves_73 rfl rfl ?_
            refine x_i2l (pc := 74) dX9_proves_74 ?_
            refine x_lgt (tgt := 107) (pc := 75) dX9_proves_75 dX9_proves_76 (by decide) (fun c_75 => ?_) (fun c_75 => ?_)
            · refine x_iconst (pc := 107) dX9_proves_107 (by decide) ?_
              refine x_zreturn (pc := 108) dX9_proves_108 rfl (by omega) (by decide) ?_
              refine ⟨_, rfl, rfl, rfl, ?_, k2⟩
              rw [pfV_g (k := k) k1.1 (by omega) (decide_eq_false (by rintro ⟨u1, u2, u3, u4, u5, u6⟩; omega))]
            · refine x_lload (pc := 79) dX9_proves_79 rfl ?_
              refine x_iload_n (pc := 81) dX9_proves_81 rfl rfl ?_
              refine x_iconst (pc := 82) dX9_proves_82 (by decide) ?_
              refine x_ixor (pc := 83) dX9_proves_83 ?_
              refine x_i2l (pc := 84) dX9_proves_84 ?_
              refine x_land (pc := 85) dX9_proves_85 ?_
              rewrite [land_s ⟨by omega, by omega⟩ ⟨by omega, by omega⟩]
              refine x_lconst0 (pc := 86) dX9_proves_86 ?_
              refine x_lne (tgt := 107) (pc := 87) dX9_proves_87 dX9_proves_88 (by decide) (fun c_87 => ?_) (fun c_87 => ?_)
              · refine x_iconst (pc := 107) dX9_proves_107 (by decide) ?_
                refine x_zreturn (pc := 108) dX9_proves_108 rfl (by omega) (by decide) ?_
                refine ⟨_, rfl, rfl, rfl, ?_, k2⟩
                rw [pfV_g (k := k) k1.1 (by omega) (decide_eq_false (by rintro ⟨u1, u2, u3, u4, u5, u6⟩; omega))]
              · refine x_lload (pc := 91) dX9_proves_91 rfl ?_
                refine x_lconst0 (pc := 93) dX9_proves_93 ?_
                refine x_llt (tgt := 107) (pc := 94) dX9_proves_94 dX9_proves_95 (by decide) (fun c_94 => ?_) (fun c_94 => ?_)
                · refine x_iconst (pc := 107) dX9_proves_107 (by decide) ?_
                  refine x_zreturn (pc := 108) dX9_proves_108 rfl (by omega) (by decide) ?_
                  refine ⟨_, rfl, rfl, rfl, ?_, k2⟩
                  rw [pfV_g (k := k) k1.1 (by omega) (decide_eq_false (by rintro ⟨u1, u2, u3, u4, u5, u6⟩; omega))]
                · refine x_lload (pc := 98) dX9_proves_98 rfl ?_
                  refine x_ldc2 (n := 100000) (pc := 100) cX9_38 (by decide) dX9_proves_100 ?_
                  refine x_lle (tgt := 109) (pc := 103) dX9_proves_103 dX9_proves_104 (by decide) (fun c_103 => ?_) (fun c_103 => ?_)
                  · refine x_aload (pc := 109) dX9_proves_109 rfl ?_
                    refine x_getR (jj := 1) (pc := 111) dX9_proves_111 fX9_40 (by assumption) rfl (by decide) rfl (by first | assumption | rfl) ?_
                    refine x_lload (pc := 114) dX9_proves_114 rfl ?_
                    refine x_l2i (pc := 116) dX9_proves_116 ?_
                    rewrite [b_l2i_id ⟨by omega, by omega⟩]
                    have hgx := (hA.cg (M' := M1) fun a i x y => k2 a i (by omega)) (pfX A t k) (by omega) (by omega) (by assumption)
                    have hcx := costs_m hK (pfX A t k) ⟨by omega, by omega⟩
                    refine x_ialoadV (pc := 117) dX9_proves_117 (by assumption) (by omega) (by (repeat (first | rewrite [up_s] | rewrite [up_i (by omega)] | rewrite [up_a (by omega)])); first | exact hgx.1.1 | exact hgs.1.2.1.trans het | rfl) (fun g_117 => ?_)
                    refine x_istore (pc := 118) dX9_proves_118 (by decide) rfl ?_
                    refine x_iload (pc := 120) dX9_proves_120 rfl ?_
                    refine x_iconst (pc := 122) dX9_proves_122 (by decide) ?_
                    refine x_icmp_ne (tgt := 128) (pc := 123) dX9_proves_123 (by decide) (fun c_123 => ?_) (fun c_123 => ?_)
                    · have hgk : pfG A t s k = true := decide_eq_true ⟨by omega, by omega, by assumption, by assumption, by omega, by omega⟩
                      have hpm := pf_m (c := costV (A 0) (pfX A t k)) (y := pfY A t k) ⟨by omega, by omega⟩ ⟨by omega, by omega⟩
                      have hps := pfS_r (t := t) hK hs.2 (n := k.toNat) (fun j a b => k3 j a (by omega))
                      refine x_lload (pc := 128) dX9_proves_128 rfl ?_
                      refine x_iload (pc := 130) dX9_proves_130 rfl ?_
                      refine x_i2l (pc := 132) dX9_proves_132 ?_
                      refine x_lload (pc := 133) dX9_proves_133 rfl ?_
                      refine x_lmul (pc := 135) dX9_proves_135 (by omega) ?_
                      refine x_ladd (pc := 136) dX9_proves_136 (by omega) ?_
                      refine x_lstore (pc := 137) dX9_proves_137 (by decide) rfl ?_
                      refine x_aload_n (pc := 139) dX9_proves_139 rfl rfl ?_
                      refine x_lload (pc := 140) dX9_proves_140 rfl ?_
                      refine x_l2i (pc := 142) dX9_proves_142 ?_
                      refine x_lload (pc := 143) dX9_proves_143 rfl ?_
                      rewrite [b_l2i_id ⟨by omega, by omega⟩]
                      refine x_callV2 (pc := 145) dX9_proves_145 rfl kX9_45 (s_cover hfl (pfX A t k) (pfY A t k) hC ⟨by omega, by omega⟩ ⟨by omega, by omega⟩ (fun h a b => by have := pfC_r (A := A) (t := t) (s := s) (h := h) (n := k.toNat) (fun j a b => k3 j a (by omega)); rw [k4 h a b]; omega)) (sC_104 hC) rfl rfl (Nat.le_of_ble_eq_true rfl) (k_U (fun M2 hM2 => ?_)) n_U
                      obtain ⟨s1, s2⟩ := hM2
                      refine x_iinc (pc := 148) dX9_proves_148 rfl (by omega) (by decide) rfl ?_
                      refine x_goto (tgt := 37) (pc := 151) dX9_proves_151 (by decide) ?_
                      have e := sumN_1 (fun k => costV (A 0) (pfX A t k) * pfY A t k) k1.1
                      refine x_lo (lo' := [(0, (2, 104)), (1, (0, t)), (2, (0, s)), (3, (0, d)), (4, (2, 34)), (5, (0, A 4 t)), (6, (1, pfS A t (k + 1).toNat)), (8, (0, 2 * k + 2))]) ⟨rfl, rfl, rfl, rfl, rfl, rfl, ?_, rfl, trivial⟩ ?_
                      · show some (1, pfS A t k.toNat + costV (A 0) (pfX A t k) * pfY A t k) = some (1, pfS A t (k + 1).toNat)
                        exact congrArg (fun z => some (1, z)) e.symm
                      rewrite [show 2 * k + 2 = 2 * (k + 1) by omega]
                      refine ih (k + 1) M2 ⟨by omega, fun a i x => (s1 a i x).trans (k2 a i x), fun j a b => ?_, fun h a b => ?_⟩ (by omega)
                      · by_cases e2 : j = k
                        · subst e2; exact hgk
                        · exact k3 j a (by omega)
                      · rw [s2 h a b, k4 h a b]
                        exact (sumN_1 (fun k => if hb (pfX A t k) h = 1 then pfY A t k else 0) k1.1).symm
                    · refine x_iconst (pc := 126) dX9_proves_126 (by decide) ?_
                      refine x_zreturn (pc := 127) dX9_proves_127 rfl (by omega) (by decide) ?_
                      refine ⟨_, rfl, rfl, rfl, ?_, k2⟩
                      rw [pfV_g (k := k) k1.1 (by omega) (decide_eq_false (by rintro ⟨u1, u2, u3, u4, u5, u6⟩; omega))]
                  · refine x_iconst (pc := 107) dX9_proves_107 (by decide) ?_
                    refine x_zreturn (pc := 108) dX9_proves_108 rfl (by omega) (by decide) ?_
                    refine ⟨_, rfl, rfl, rfl, ?_, k2⟩
                    rw [pfV_g (k := k) k1.1 (by omega) (decide_eq_false (by rintro ⟨u1, u2, u3, u4, u5, u6⟩; omega))])
      refine x_aload_n (pc := 23) dX9_proves_23 rfl rfl ?_
      refine x_getR (jj := 3) (pc := 24) dX9_proves_24 fX9_22 (sC_104 hC) rfl (by decide) rfl rC_104_3 ?_
      refine x_lconst0 (pc := 27) dX9_proves_27 ?_
      refine x_callS2 (pc := 28) dX9_proves_28 rfl kX9_31 (s_fillJ hfl 108 0 7 rN (sC_108 hC) (by omega)) rfl (Nat.le_of_ble_eq_true rfl) (k_U (fun M9 hM9 => ?_)) n_U
      refine x_lconst0 (pc := 31) dX9_proves_31 ?_
      refine x_lstore (pc := 32) dX9_proves_32 (by decide) rfl ?_
      refine x_iconst (pc := 34) dX9_proves_34 (by decide) ?_
      refine x_istore (pc := 35) dX9_proves_35 (by decide) rfl ?_
      refine x_lo (lo' := [(0, (2, 104)), (1, (0, t)), (2, (0, s)), (3, (0, d)), (4, (2, 34)), (5, (0, A 4 t)), (6, (1, pfS A t (0 : Int).toNat)), (8, (0, 2 * 0))]) ⟨rfl, rfl, rfl, rfl, rfl, rfl, rfl, rfl, trivial⟩ (loop (0) _ ⟨by omega, fun a i x => by rw [hM9]; exact if_neg (fun q => x q.1), fun j a b => by omega, fun h a b => by rw [hM9]; exact if_pos ⟨rfl, a, b⟩⟩)
    · refine x_iconst (pc := 21) dX9_proves_21 (by decide) ?_
      refine x_zreturn (pc := 22) dX9_proves_22 rfl (by omega) (by decide) ?_
      refine ⟨_, rfl, rfl, rfl, ?_, fun _ _ _ => rfl⟩
      rw [pfV_a ?_]
      by_cases h3 : A 3 t = -1
      · exact Or.inl h3
      · refine Or.inr fun q => ?_
        rw [if_neg h3] at hT1
        rw [← tm2 hDt.2.1, ← hT1] at q
        exact absurd q (by assumption)
theorem s_needFew {l : Launch} {E : aE} {N : Nat} {S : aS} {M : aM} (hfl : l.stackTraces = false) (v : Int) (hC : lyC S) (h0 : 0 ≤ M 1 1 ∧ M 1 1 ≤ 7) : aMt l E pX11_needFew [(2, 0), (0, v)] N S M (aN ((0 < v ∧ v < b_shl 1 (M 1 1)) ∧ 2 ≤ sumN (hb v) 7 ∧ sumN (hb v) 7 ≤ 5) 0 N S M) := by
  refine a_met hfl rfl (by decide +kernel) (Nat.le_of_ble_eq_true rfl) ?_
  have hs := bt_fin (n := 8) (m := 1) (P := fun i _ => 1 ≤ b_shl 1 i ∧ b_shl 1 i ≤ 128) (by decide +kernel) (a := M 1 1) (by omega) (b := 0) (by omega)
  refine x_aload_n (pc := 0) dX11_needFew_0 rfl rfl ?_
  refine x_iload_n (pc := 1) dX11_needFew_1 rfl rfl ?_
  refine x_callV1 (pc := 2) dX11_needFew_2 rfl kX11_131 (s_needSet hfl _ hC h0) (sC_0 hC) rfl rfl (Nat.le_of_ble_eq_true rfl) (k_N (fun h_2 => ?_)) (n_N (fun h_2 => ⟨rfl, rfl, rfl, Or.inr ⟨by omega, rfl⟩⟩))
  refine x_aload_n (pc := 5) dX11_needFew_5 rfl rfl ?_
  refine x_iload_n (pc := 6) dX11_needFew_6 rfl rfl ?_
  refine x_callS1 (pc := 7) dX11_needFew_7 rfl kX11_296 (s_bitCount hfl v ⟨by omega, by omega⟩) rfl (Nat.le_of_ble_eq_true rfl) (k_R ?_) n_R
  refine x_iconst (pc := 10) dX11_needFew_10 (by decide) ?_
  refine x_iconst (pc := 11) dX11_needFew_11 (by decide) ?_
  refine x_callV3 (pc := 12) dX11_needFew_12 rfl kX11_175 (s_needWithin hfl _ _ _) (sC_0 hC) rfl rfl (Nat.le_of_ble_eq_true rfl) (k_N (fun h_12 => ?_)) (n_N (fun h_12 => ⟨rfl, rfl, rfl, Or.inr ⟨by omega, rfl⟩⟩))
  refine x_return (pc := 15) dX11_needFew_15 rfl (by decide) ?_
  first | exact ⟨rfl, rfl, rfl, Or.inl ⟨by omega, rfl⟩⟩ | exact ⟨rfl, rfl, rfl, Or.inr ⟨by omega, rfl⟩⟩
theorem s_Cproof {l : Launch} {E : aE} {N : Nat} {S : aS} {M : aM} (hfl : l.stackTraces = false) (t s d : Int) (hC : lyC S) (A : aM) (hR : RC M N S A) (hA : TOK (A 0)) (hB : TB (A 0)) (hD : ∀ i, 0 ≤ i → i < 4 → (-1 ≤ A 3 i ∧ A 3 i ≤ 3) ∧ (0 ≤ A 4 i ∧ A 4 i ≤ 40)) : aMt l E pX11_proof [(2, 0), (0, t), (0, s), (0, d)] N S M (opC M N S 0 (spProof A t s d) (fun k => if k = 1 then 2 else if k = 2 then 0 else 1)) := by
  refine a_met hfl rfl (by decide +kernel) (Nat.le_of_ble_eq_true rfl) ?_
  have c0 : M 1 1 = A 0 0 := hR.1.1.1
  have t0 := hA.1
  have t9 := hA.2.2.2.2.2.2.2.2.2.2.2.2.2.2.2.2.2.1
  refine x_aload_n (pc := 0) dX11_proof_0 rfl rfl ?_
  refine x_iload_n (pc := 1) dX11_proof_1 rfl rfl ?_
  refine x_callV1 (pc := 2) dX11_proof_2 rfl kX11_273 (s_needTray hfl _) (sC_0 hC) rfl rfl (Nat.le_of_ble_eq_true rfl) (k_N (fun h_2 => ?_)) (n_N (fun h_2 => (by have e9 : spProof A t s d = (1, 0, A) := (by unfold spProof; (repeat' split) <;> first | rfl | (exfalso; omega)); rw [e9]; exact ⟨rfl, rfl, fun _ _ _ _ => rfl, hR, Or.inr ⟨show ¬ (1 : Int) = 0 by decide, rfl⟩⟩)))
  refine x_aload_n (pc := 5) dX11_proof_5 rfl rfl ?_
  refine x_iload_n (pc := 6) dX11_proof_6 rfl rfl ?_
  refine x_callV1 (pc := 7) dX11_proof_7 rfl kX11_240 (s_needFew hfl _ hC (by omega)) (sC_0 hC) rfl rfl (Nat.le_of_ble_eq_true rfl) (k_N (fun h_7 => ?_)) (n_N (fun h_7 => (by rw [c0] at h_7; have e9 : spProof A t s d = (2, 0, A) := (by unfold spProof; (repeat' split) <;> first | rfl | (exfalso; omega)); rw [e9]; exact ⟨rfl, rfl, fun _ _ _ _ => rfl, hR, Or.inr ⟨show ¬ (2 : Int) = 0 by decide, rfl⟩⟩)))
  rw [c0] at h_7
  have hsl := isSet_lt hA h_7.1
  refine x_aload_n (pc := 10) dX11_proof_10 rfl rfl ?_
  refine x_iload_n (pc := 11) dX11_proof_11 rfl rfl ?_
  refine x_iconst (pc := 12) dX11_proof_12 (by decide) ?_
  refine x_sipush (pc := 13) dX11_proof_13 (by decide) ?_
  refine x_callV3 (pc := 16) dX11_proof_16 rfl kX11_175 (s_needWithin hfl _ _ _) (sC_0 hC) rfl rfl (Nat.le_of_ble_eq_true rfl) (k_N (fun h_16 => ?_)) (n_N (fun h_16 => (by have e9 : spProof A t s d = (2, 0, A) := (by unfold spProof; (repeat' split) <;> first | rfl | (exfalso; omega)); rw [e9]; exact ⟨rfl, rfl, fun _ _ _ _ => rfl, hR, Or.inr ⟨show ¬ (2 : Int) = 0 by decide, rfl⟩⟩)))
  refine x_aload_n (pc := 19) dX11_proof_19 rfl rfl ?_
  refine x_iload_n (pc := 20) dX11_proof_20 rfl rfl ?_
  refine x_callV1 (pc := 21) dX11_proof_21 rfl kX11_234 (s_needTotal hfl s hC A hR hA hB hsl) (sC_0 hC) rfl rfl (Nat.le_of_ble_eq_true rfl) (k_W (fun M9 h9 ht9 => ?_)) (n_W (fun M9 h9 h8 => by obtain ⟨hR9, FC9, g9⟩ := h9; have e9 : spProof A t s d = (3, 0, A) := (by unfold spProof; rw [if_neg (by omega), if_neg (by omega), if_pos (by omega)]); rw [e9]; exact ⟨rfl, rfl, FC9, hR9, Or.inr ⟨show ¬ (3 : Int) = 0 by decide, rfl⟩⟩))
  obtain ⟨hR9, FC9, g9⟩ := h9
  refine x_aload_n (pc := 24) dX11_proof_24 rfl rfl ?_
  refine x_getR (jj := 9) (pc := 25) dX11_proof_25 fX11_86 (sC_0 hC) rfl (by decide) rfl rC_0_9 ?_
  refine x_iload_n (pc := 28) dX11_proof_28 rfl rfl ?_
  refine x_iload_n (pc := 29) dX11_proof_29 rfl rfl ?_
  refine x_iload_n (pc := 30) dX11_proof_30 rfl rfl ?_
  refine x_aload_n (pc := 31) dX11_proof_31 rfl rfl ?_
  refine x_getR (jj := 5) (pc := 32) dX11_proof_32 fX11_54 (sC_0 hC) rfl (by decide) rfl rC_0_5 ?_
  refine x_callV4 (pc := 35) dX11_proof_35 rfl kX11_276 (s_proves hfl t s d hC A hR9.2.2.2.1 hD hA.tq (by omega) hsl (by omega) ht9 g9) (sC_104 hC) rfl rfl (Nat.le_of_ble_eq_true rfl) (k_G (fun v8 M8 hM8 => ?_)) n_G
  obtain ⟨rfl, s8⟩ := hM8
  have hR8 := hR9.t8 s8
  have h01 := pfV_01 A t s d
  refine x_zreturn (pc := 38) dX11_proof_38 rfl (by omega) (by decide) ?_
  have e9 : spProof A t s d = (0, pfV A t s d, A) := by
    unfold spProof
    rw [if_neg (by omega), if_neg (by omega), if_neg (by omega)]
  rw [e9]
  exact ⟨rfl, rfl, fun a j x y => (s8 a j (by omega)).trans (FC9 a j x y), hR8, Or.inl ⟨rfl, rfl⟩⟩
theorem s_isFew {l : Launch} {E : aE} {N : Nat} {S : aS} {M : aM} (hfl : l.stackTraces = false) (m s : Int) (hS : lyM S m) (h0 : 0 ≤ M (m + 1) 0 ∧ M (m + 1) 0 ≤ 7) : aMt l E pX12_isFew [(2, m), (0, s)] N S M (aB ((0 < s ∧ s < b_shl 1 (M (m + 1) 0)) ∧ 2 ≤ sumN (hb s) 7 ∧ sumN (hb s) 7 ≤ 5) N S M) := by
  refine a_met hfl rfl (by decide +kernel) (Nat.le_of_ble_eq_true rfl) ?_
  have hs := bt_fin (n := 8) (m := 1) (P := fun i _ => 1 ≤ b_shl 1 i ∧ b_shl 1 i ≤ 128) (by decide +kernel) (a := M (m + 1) 0) (by omega) (b := 0) (by omega)
  refine x_aload_n (pc := 0) dX12_isFew_0 rfl rfl ?_
  refine x_iload_n (pc := 1) dX12_isFew_1 rfl rfl ?_
  refine x_callV1 (pc := 2) dX12_isFew_2 rfl kX12_143 (s_isSet hfl m s hS) hS.1 rfl rfl (Nat.le_of_ble_eq_true rfl) (k_B (fun q_2 => ?_) (fun q_2 => ?_)) n_B
  · refine x_if_eq (tgt := 29) (pc := 5) dX12_isFew_5 (by decide) (fun c => absurd c (by decide)) (fun _ => ?_)
    refine x_iload_n (pc := 8) dX12_isFew_8 rfl rfl ?_
    refine x_callS1 (pc := 9) dX12_isFew_9 rfl kX12_304 (s_sizeOf hfl s ⟨by omega, by omega⟩) rfl (Nat.le_of_ble_eq_true rfl) (k_R ?_) n_R
    refine x_i2l (pc := 12) dX12_isFew_12 ?_
    refine x_ldc2 (n := 2) (pc := 13) cX12_356 (by decide) dX12_isFew_13 ?_
    refine x_ldc2 (n := 5) (pc := 16) cX12_127 (by decide) dX12_isFew_16 ?_
    refine x_callS3 (pc := 19) dX12_isFew_19 rfl kX12_106 (s_within hfl _ _ _) rfl (Nat.le_of_ble_eq_true rfl) (k_B (fun q_19 => ?_) (fun q_19 => ?_)) n_B
    · refine x_if_eq (tgt := 29) (pc := 22) dX12_isFew_22 (by decide) (fun c => absurd c (by decide)) (fun _ => ?_)
      refine x_iconst (pc := 25) dX12_isFew_25 (by decide) ?_
      refine x_goto (tgt := 30) (pc := 26) dX12_isFew_26 (by decide) ?_
      refine x_zreturn (pc := 30) dX12_isFew_30 rfl (by omega) (by decide) ?_
      exact b_1 ⟨by omega, by omega⟩
    · refine x_if_eq (tgt := 29) (pc := 22) dX12_isFew_22 (by decide) (fun _ => ?_) (fun c => absurd c (by decide))
      refine x_iconst (pc := 29) dX12_isFew_29 (by decide) ?_
      refine x_zreturn (pc := 30) dX12_isFew_30 rfl (by omega) (by decide) ?_
      exact b_0 (by rintro ⟨u1, u2⟩; omega)
  · refine x_if_eq (tgt := 29) (pc := 5) dX12_isFew_5 (by decide) (fun _ => ?_) (fun c => absurd c (by decide))
    refine x_iconst (pc := 29) dX12_isFew_29 (by decide) ?_
    refine x_zreturn (pc := 30) dX12_isFew_30 rfl (by omega) (by decide) ?_
    exact b_0 (by rintro ⟨u1, u2⟩; omega)
