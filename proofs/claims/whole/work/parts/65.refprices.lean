/-! the reference's prices -/
/-- told stands for t: as it is, or with the steps of a seller -/
def RE (M : aM) (m : Int) (t : Int → Int) : Prop := (∀ i, 0 ≤ i → i < 148 → M (m + 1) i = t i) ∧ (∀ i, 219 ≤ i → i < 253 → ¬ (220 ≤ i ∧ i < 233) → M (m + 1) i = t i) ∧ (0 ≤ M m 20 ∧ M m 20 ≤ 2) ∧ (0 < M m 20 → M m 20 = t 220 ∧ ∀ k, 0 ≤ k → k < t 220 → M (m + 9) k = t (221 + k) ∧ M (m + 10) k = t (227 + k)) ∧ (¬ 0 < M m 20 → ∀ i, 220 ≤ i → i < 233 → M (m + 1) i = t i)
/-- what of the reference's may change in what it reckons -/
def frK (M M' : aM) (m : Int) : Prop := ∀ a i : Int, (a = m → i = 3 ∨ i = 6 ∨ i = 14 ∨ i = 15 ∨ i = 20 ∨ i = 34 ∨ i = 35) → ¬ (m + 6 ≤ a ∧ a < m + 9) → ¬ (m + 11 ≤ a ∧ a < m + 27) → M' a i = M a i
theorem frK.rf {M : aM} {m : Int} : frK M M m := fun _ _ _ _ _ => rfl
theorem frK.tr {M M' M'' : aM} {m : Int} (h : frK M M' m) (h' : frK M' M'' m) : frK M M'' m := fun a i x y z => (h' a i x y z).trans (h a i x y z)
theorem frK.fr {M M' : aM} {m : Int} (h : frK M M' m) : frM M M' m := fun a i q => h a i (by omega) (by omega) (by omega)
/-- just the prices -/
def frZ (M M' : aM) (m : Int) : Prop := ∀ a i : Int, (a = m → i ≠ 19) → ¬ (m + 6 ≤ a ∧ a < m + 9) → M' a i = M a i
theorem frZ.rf {M : aM} {m : Int} : frZ M M m := fun _ _ _ _ => rfl
theorem frZ.tr {M M' M'' : aM} {m : Int} (h : frZ M M' m) (h' : frZ M' M'' m) : frZ M M'' m := fun a i x y => (h' a i x y).trans (h a i x y)
theorem frZ.k {M M' : aM} {m : Int} (h : frZ M M' m) : frK M M' m := fun a i x y z => h a i (by omega) y
theorem frZ.up {M M' : aM} {m a i v : Int} (h : frZ M M' m) (ha : (a = m ∧ i = 19) ∨ (m + 6 ≤ a ∧ a < m + 9)) : frZ M (up M' a i v) m := fun b j x y => (if_neg (by omega)).trans (h b j x y)
theorem RE.cg {M M' : aM} {m : Int} {t : Int → Int} (h : RE M m t) (f : frK M M' m) : RE M' m t := by
  obtain ⟨h1, h2, h3, h4, h5⟩ := h
  have e := f m 20 (by omega) (by omega) (by omega)
  unfold RE
  rw [e]
  refine ⟨fun i x y => ?_, fun i x y z => ?_, h3, fun x => ⟨(h4 x).1, fun k y z => ⟨?_, ?_⟩⟩, fun x i y z => ?_⟩
  · rw [f _ _ (by omega) (by omega) (by omega)]; exact h1 i x y
  · rw [f _ _ (by omega) (by omega) (by omega)]; exact h2 i x y z
  · rw [f _ _ (by omega) (by omega) (by omega)]; exact ((h4 x).2 k y z).1
  · rw [f _ _ (by omega) (by omega) (by omega)]; exact ((h4 x).2 k y z).2
  · rw [f _ _ (by omega) (by omega) (by omega)]; exact h5 x i y z
def RP (M : aM) (m : Int) (t : Int → Int) : Prop := M m 19 = 1 ∧ ∀ q, 0 ≤ q → q ≤ 200 → M (m + 8) q = encF FAR2 (sevV t q) ∧ (1 ≤ q → M (m + 6) q = encF FAR2 (singleV t q))
def RP0 (M : aM) (m : Int) (t : Int → Int) : Prop := (M m 19 = 0 ∨ RP M m t) ∧ z78 M m
theorem encF_or2 (v : Int) : (v = -1 ∧ encF FAR2 v = 1000000000) ∨ (v ≠ -1 ∧ encF FAR2 v = v) := by
  unfold encF
  by_cases e : v = -1
  · rw [if_pos e]; exact Or.inl ⟨e, rfl⟩
  · rw [if_neg e]; exact Or.inr ⟨e, rfl⟩
theorem enc_min2 {s a b z : Int} (hs : s = -1 ∨ 0 ≤ s ∧ s ≤ 100000) (ha : a = -1 ∨ 0 ≤ a ∧ a ≤ 100000) (hb : b = -1 ∨ 0 ≤ b ∧ b ≤ 100000) (hz : z = -1 ∨ 0 ≤ z ∧ z ≤ 100000) : encF FAR2 (omin (omin s (oadd a b)) z) = if a = -1 ∨ b = -1 then encF FAR2 (omin s z) else min (encF FAR2 (omin s z)) (a + b) := by
  unfold encF FAR2 omin oadd
  (repeat' split) <;> first | omega | (exfalso; omega)
theorem omin_r {a b c : Int} (ha : a = -1 ∨ 0 ≤ a ∧ a ≤ c) (hb : b = -1 ∨ 0 ≤ b ∧ b ≤ c) : omin a b = -1 ∨ 0 ≤ omin a b ∧ omin a b ≤ c := by
  unfold omin
  (repeat' split) <;> omega
theorem core_tt {t : Int → Int} (h : TT t) : TT (core t) := by
  unfold TT core
  obtain ⟨h1, h2, h3, h4, h5⟩ := h
  refine ⟨?_, ?_, fun k a b => ?_, ?_, fun k a b => ?_⟩
  · rw [if_neg (by omega)]; exact h1
  · rw [if_neg (by omega)]; exact h2
  · rw [if_neg (by omega)] at b
    rw [if_neg (by omega), if_neg (by omega)]; exact h3 k a b
  · rw [if_neg (by omega)]; exact h4
  · rw [if_neg (by omega)] at b
    rw [if_neg (by omega), if_neg (by omega)]; exact h5 k a b
theorem core_hi {t : Int → Int} {j : Int} (h : 219 ≤ j) : core t j = t j := if_neg (by omega)
theorem RM.re {M A : aM} {m : Int} (h : RM M m A) : RE M m (core (A 0)) := by
  have e20 : M m 20 = 0 := h.1.2.2.2.2.2.2.2.2
  refine ⟨fun i x y => ?_, fun i x y z => ?_, by omega, fun x => absurd x (by omega), fun _ i x y => ?_⟩
  · rw [h.1.1 i x (by omega)]; exact (if_neg (by omega)).symm
  · rw [h.1.1 i (by omega) y]; exact (if_neg (by omega)).symm
  · rw [h.1.1 i (by omega) (by omega)]; exact (if_neg (by omega)).symm
theorem RMs.fk {M M' A : aM} {m : Int} (h : RMs M m A) (f : frK M M' m) : RMs M' m A := by
  obtain ⟨h1, h2, h3, ⟨h4, h5, h6, h7⟩, h8, h9, h10, h11, h12⟩ := h
  have g : ∀ i, i = 6 ∨ i = 14 ∨ i = 15 ∨ i = 20 ∨ i = 34 ∨ i = 35 → M' m i = M m i := fun i q => f m i (by omega) (by omega) (by omega)
  have k : ∀ a i, (m + 1 ≤ a ∧ a < m + 5) ∨ (m + 27 ≤ a ∧ a < m + 30) → M' a i = M a i := fun a i q => f a i (by omega) (by omega) (by omega)
  refine ⟨fun i x y => (k _ _ (by omega)).trans (h1 i x y), (g 6 (by omega)).trans h2, fun i x y => (k _ _ (by omega)).trans (h3 i x y), ⟨(g 14 (by omega)).trans h4, (g 15 (by omega)).trans h5, (g 34 (by omega)).trans h6, (g 35 (by omega)).trans h7⟩, fun i x y => ⟨(k _ _ (by omega)).trans (h8 i x y).1, (k _ _ (by omega)).trans (h8 i x y).2⟩, fun i x y => (k _ _ (by omega)).trans (h9 i x y), fun i x y => (k _ _ (by omega)).trans (h10 i x y), fun i x y => (k _ _ (by omega)).trans (h11 i x y), (g 20 (by omega)).trans h12⟩
theorem buysV_lt {t : Int → Int} {q k : Int} (hK : TT t) (hq : 0 ≤ q ∧ q ≤ 200) (ht : 0 ≤ t (245 + k) ∧ t (245 + k) ≤ 99) : buysV t q k = -1 ∨ 0 ≤ buysV t q k ∧ buysV t q k ≤ 60000 := by
  have h1 := sevV_r hK q.toNat q hq.1 (by omega)
  have a1 : q * t (245 + k) ≤ q * 99 := Int.mul_le_mul_of_nonneg_left ht.2 hq.1
  have a2 : 0 ≤ q * t (245 + k) := Int.mul_nonneg hq.1 ht.1
  unfold buysV
  split
  · exact Or.inl rfl
  · right; omega
theorem RM.rp0 {M A : aM} {m : Int} (h : RM M m A) : RP0 M m (core (A 0)) := ⟨h.2.1, h.2.2.2⟩
/-- the costs that are kept are right -/
def RCs (M : aM) (m : Int) (t : Int → Int) : Prop := ∀ s, 0 ≤ s → s < 128 → M (m + 15) s = -2 ∨ M (m + 15) s = costV t s
theorem RM.mk9w {M M' A : aM} {m : Int} (h : RM M m A) (f : frK M M' m) (p : RP0 M' m (core (A 0))) (c : RCw M' m (core (A 0))) : RM M' m A := ⟨h.1.fk f, p.1, c, p.2⟩
theorem RM.mk9 {M M' A : aM} {m : Int} (h : RM M m A) (f : frK M M' m) (p : RP0 M' m (core (A 0))) (c : RCs M' m (core (A 0))) : RM M' m A := ⟨h.1.fk f, p.1, Or.inr c, p.2⟩
theorem RCw.cg {M M' : aM} {m : Int} {t : Int → Int} (h : RCw M m t) (f : ∀ i, M' (m + 15) i = M (m + 15) i) : RCw M' m t := h.imp id fun g s a b => by rw [f]; exact g s a b
theorem RCw.st {M : aM} {m : Int} {u : Int → Int} (h : RCw M m (core u)) (h0 : u 0 ≠ 0) : RCs M m (core u) := h.resolve_left h0
theorem isSet_0 {s n : Int} (h : 0 < s ∧ s < b_shl 1 n) : n ≠ 0 := fun e => by
  rw [e, show b_shl 1 0 = 1 from by decide +kernel] at h
  omega
theorem RCs.cg {M M' : aM} {m : Int} {t : Int → Int} (h : RCs M m t) (f : ∀ i, M' (m + 15) i = M (m + 15) i) : RCs M' m t := fun s a b => by rw [f]; exact h s a b
theorem dX12_priceAt_0 : decode cX12_priceAt 0 = .ok (.iconst (-1), 1) := by decide +kernel
theorem dX12_priceAt_1 : decode cX12_priceAt 1 = .ok (.istore_n 2, 1) := by decide +kernel
theorem dX12_priceAt_2 : decode cX12_priceAt 2 = .ok (.iconst 0, 1) := by decide +kernel
theorem dX12_priceAt_3 : decode cX12_priceAt 3 = .ok (.istore_n 3, 1) := by decide +kernel
theorem dX12_priceAt_4 : decode cX12_priceAt 4 = .ok (.aload_n 0, 1) := by decide +kernel
theorem dX12_priceAt_5 : decode cX12_priceAt 5 = .ok (.getfield 259, 3) := by decide +kernel
theorem dX12_priceAt_8 : decode cX12_priceAt 8 = .ok (.ifCond .le 10, 3) := by decide +kernel
theorem dX12_priceAt_11 : decode cX12_priceAt 11 = .ok (.aload_n 0, 1) := by decide +kernel
theorem dX12_priceAt_12 : decode cX12_priceAt 12 = .ok (.getfield 259, 3) := by decide +kernel
theorem dX12_priceAt_15 : decode cX12_priceAt 15 = .ok (.goto 11, 3) := by decide +kernel
theorem dX12_priceAt_18 : decode cX12_priceAt 18 = .ok (.aload_n 0, 1) := by decide +kernel
theorem dX12_priceAt_19 : decode cX12_priceAt 19 = .ok (.getfield 9, 3) := by decide +kernel
theorem dX12_priceAt_22 : decode cX12_priceAt 22 = .ok (.sipush 220, 3) := by decide +kernel
theorem dX12_priceAt_25 : decode cX12_priceAt 25 = .ok (.iaload, 1) := by decide +kernel
theorem dX12_priceAt_26 : decode cX12_priceAt 26 = .ok (.istore 4, 2) := by decide +kernel
theorem dX12_priceAt_28 : decode cX12_priceAt 28 = .ok (.iconst 0, 1) := by decide +kernel
theorem dX12_priceAt_29 : decode cX12_priceAt 29 = .ok (.istore 5, 2) := by decide +kernel
theorem dX12_priceAt_31 : decode cX12_priceAt 31 = .ok (.iload 5, 2) := by decide +kernel
theorem dX12_priceAt_33 : decode cX12_priceAt 33 = .ok (.iload 4, 2) := by decide +kernel
theorem dX12_priceAt_35 : decode cX12_priceAt 35 = .ok (.if_icmp .ge 86, 3) := by decide +kernel
theorem dX12_priceAt_38 : decode cX12_priceAt 38 = .ok (.aload_n 0, 1) := by decide +kernel
theorem dX12_priceAt_39 : decode cX12_priceAt 39 = .ok (.getfield 259, 3) := by decide +kernel
theorem dX12_priceAt_42 : decode cX12_priceAt 42 = .ok (.ifCond .le 13, 3) := by decide +kernel
theorem dX12_priceAt_45 : decode cX12_priceAt 45 = .ok (.aload_n 0, 1) := by decide +kernel
theorem dX12_priceAt_46 : decode cX12_priceAt 46 = .ok (.getfield 39, 3) := by decide +kernel
theorem dX12_priceAt_49 : decode cX12_priceAt 49 = .ok (.iload 5, 2) := by decide +kernel
theorem dX12_priceAt_51 : decode cX12_priceAt 51 = .ok (.iaload, 1) := by decide +kernel
theorem dX12_priceAt_52 : decode cX12_priceAt 52 = .ok (.goto 14, 3) := by decide +kernel
theorem dX12_priceAt_55 : decode cX12_priceAt 55 = .ok (.aload_n 0, 1) := by decide +kernel
theorem dX12_priceAt_56 : decode cX12_priceAt 56 = .ok (.getfield 9, 3) := by decide +kernel
theorem dX12_priceAt_59 : decode cX12_priceAt 59 = .ok (.sipush 221, 3) := by decide +kernel
theorem dX12_priceAt_62 : decode cX12_priceAt 62 = .ok (.iload 5, 2) := by decide +kernel
theorem dX12_priceAt_64 : decode cX12_priceAt 64 = .ok (.iadd, 1) := by decide +kernel
theorem dX12_priceAt_65 : decode cX12_priceAt 65 = .ok (.iaload, 1) := by decide +kernel
theorem dX12_priceAt_66 : decode cX12_priceAt 66 = .ok (.istore 6, 2) := by decide +kernel
theorem dX12_priceAt_68 : decode cX12_priceAt 68 = .ok (.iload 6, 2) := by decide +kernel
theorem dX12_priceAt_70 : decode cX12_priceAt 70 = .ok (.iload_n 1, 1) := by decide +kernel
theorem dX12_priceAt_71 : decode cX12_priceAt 71 = .ok (.if_icmp .gt 44, 3) := by decide +kernel
theorem dX12_priceAt_74 : decode cX12_priceAt 74 = .ok (.iload 6, 2) := by decide +kernel
theorem dX12_priceAt_76 : decode cX12_priceAt 76 = .ok (.iload_n 3, 1) := by decide +kernel
theorem dX12_priceAt_77 : decode cX12_priceAt 77 = .ok (.if_icmp .gt 6, 3) := by decide +kernel
theorem dX12_priceAt_80 : decode cX12_priceAt 80 = .ok (.goto 35, 3) := by decide +kernel
theorem dX12_priceAt_83 : decode cX12_priceAt 83 = .ok (.iload 6, 2) := by decide +kernel
theorem dX12_priceAt_85 : decode cX12_priceAt 85 = .ok (.istore_n 3, 1) := by decide +kernel
theorem dX12_priceAt_86 : decode cX12_priceAt 86 = .ok (.aload_n 0, 1) := by decide +kernel
theorem dX12_priceAt_87 : decode cX12_priceAt 87 = .ok (.getfield 259, 3) := by decide +kernel
theorem dX12_priceAt_90 : decode cX12_priceAt 90 = .ok (.ifCond .le 13, 3) := by decide +kernel
theorem dX12_priceAt_93 : decode cX12_priceAt 93 = .ok (.aload_n 0, 1) := by decide +kernel
theorem dX12_priceAt_94 : decode cX12_priceAt 94 = .ok (.getfield 42, 3) := by decide +kernel
theorem dX12_priceAt_97 : decode cX12_priceAt 97 = .ok (.iload 5, 2) := by decide +kernel
theorem dX12_priceAt_99 : decode cX12_priceAt 99 = .ok (.iaload, 1) := by decide +kernel
theorem dX12_priceAt_100 : decode cX12_priceAt 100 = .ok (.goto 14, 3) := by decide +kernel
theorem dX12_priceAt_103 : decode cX12_priceAt 103 = .ok (.aload_n 0, 1) := by decide +kernel
theorem dX12_priceAt_104 : decode cX12_priceAt 104 = .ok (.getfield 9, 3) := by decide +kernel
theorem dX12_priceAt_107 : decode cX12_priceAt 107 = .ok (.sipush 227, 3) := by decide +kernel
theorem dX12_priceAt_110 : decode cX12_priceAt 110 = .ok (.iload 5, 2) := by decide +kernel
theorem dX12_priceAt_112 : decode cX12_priceAt 112 = .ok (.iadd, 1) := by decide +kernel
theorem dX12_priceAt_113 : decode cX12_priceAt 113 = .ok (.iaload, 1) := by decide +kernel
theorem dX12_priceAt_114 : decode cX12_priceAt 114 = .ok (.istore_n 2, 1) := by decide +kernel
theorem dX12_priceAt_115 : decode cX12_priceAt 115 = .ok (.iinc 5 1, 3) := by decide +kernel
theorem dX12_priceAt_118 : decode cX12_priceAt 118 = .ok (.goto (-87), 3) := by decide +kernel
theorem dX12_priceAt_121 : decode cX12_priceAt 121 = .ok (.iload_n 2, 1) := by decide +kernel
theorem dX12_priceAt_122 : decode cX12_priceAt 122 = .ok (.ireturn, 1) := by decide +kernel
theorem dX12_layPrices_0 : decode cX12_layPrices 0 = .ok (.aload_n 0, 1) := by decide +kernel
theorem dX12_layPrices_1 : decode cX12_layPrices 1 = .ok (.getfield 110, 3) := by decide +kernel
theorem dX12_layPrices_4 : decode cX12_layPrices 4 = .ok (.ifCond .eq 4, 3) := by decide +kernel
theorem dX12_layPrices_7 : decode cX12_layPrices 7 = .ok (.return_, 1) := by decide +kernel
theorem dX12_layPrices_8 : decode cX12_layPrices 8 = .ok (.aload_n 0, 1) := by decide +kernel
theorem dX12_layPrices_9 : decode cX12_layPrices 9 = .ok (.iconst 1, 1) := by decide +kernel
theorem dX12_layPrices_10 : decode cX12_layPrices 10 = .ok (.putfield 110, 3) := by decide +kernel
theorem dX12_layPrices_13 : decode cX12_layPrices 13 = .ok (.iconst 0, 1) := by decide +kernel
theorem dX12_layPrices_14 : decode cX12_layPrices 14 = .ok (.istore_n 1, 1) := by decide +kernel
theorem dX12_layPrices_15 : decode cX12_layPrices 15 = .ok (.iconst 1, 1) := by decide +kernel
theorem dX12_layPrices_16 : decode cX12_layPrices 16 = .ok (.istore_n 2, 1) := by decide +kernel
theorem dX12_layPrices_17 : decode cX12_layPrices 17 = .ok (.iload_n 2, 1) := by decide +kernel
theorem dX12_layPrices_18 : decode cX12_layPrices 18 = .ok (.sipush 200, 3) := by decide +kernel
theorem dX12_layPrices_21 : decode cX12_layPrices 21 = .ok (.if_icmp .gt 185, 3) := by decide +kernel
theorem dX12_layPrices_24 : decode cX12_layPrices 24 = .ok (.aload_n 0, 1) := by decide +kernel
theorem dX12_layPrices_25 : decode cX12_layPrices 25 = .ok (.iload_n 2, 1) := by decide +kernel
theorem dX12_layPrices_26 : decode cX12_layPrices 26 = .ok (.invokevirtual 262, 3) := by decide +kernel
theorem dX12_layPrices_29 : decode cX12_layPrices 29 = .ok (.istore_n 3, 1) := by decide +kernel
theorem dX12_layPrices_30 : decode cX12_layPrices 30 = .ok (.iload_n 3, 1) := by decide +kernel
theorem dX12_layPrices_31 : decode cX12_layPrices 31 = .ok (.iconst (-1), 1) := by decide +kernel
theorem dX12_layPrices_32 : decode cX12_layPrices 32 = .ok (.if_icmp .eq 10, 3) := by decide +kernel
theorem dX12_layPrices_35 : decode cX12_layPrices 35 = .ok (.iload_n 1, 1) := by decide +kernel
theorem dX12_layPrices_36 : decode cX12_layPrices 36 = .ok (.ldc_w 265, 3) := by decide +kernel
theorem dX12_layPrices_39 : decode cX12_layPrices 39 = .ok (.if_icmp .ne 9, 3) := by decide +kernel
theorem dX12_layPrices_42 : decode cX12_layPrices 42 = .ok (.ldc_w 265, 3) := by decide +kernel
theorem dX12_layPrices_45 : decode cX12_layPrices 45 = .ok (.goto 6, 3) := by decide +kernel
theorem dX12_layPrices_48 : decode cX12_layPrices 48 = .ok (.iload_n 1, 1) := by decide +kernel
theorem dX12_layPrices_49 : decode cX12_layPrices 49 = .ok (.iload_n 3, 1) := by decide +kernel
theorem dX12_layPrices_50 : decode cX12_layPrices 50 = .ok (.iadd, 1) := by decide +kernel
theorem dX12_layPrices_51 : decode cX12_layPrices 51 = .ok (.istore_n 1, 1) := by decide +kernel
theorem dX12_layPrices_52 : decode cX12_layPrices 52 = .ok (.aload_n 0, 1) := by decide +kernel
theorem dX12_layPrices_53 : decode cX12_layPrices 53 = .ok (.getfield 9, 3) := by decide +kernel
theorem dX12_layPrices_56 : decode cX12_layPrices 56 = .ok (.sipush 219, 3) := by decide +kernel
theorem dX12_layPrices_59 : decode cX12_layPrices 59 = .ok (.iaload, 1) := by decide +kernel
theorem dX12_layPrices_60 : decode cX12_layPrices 60 = .ok (.iconst 1, 1) := by decide +kernel
theorem dX12_layPrices_61 : decode cX12_layPrices 61 = .ok (.if_icmp .ne 7, 3) := by decide +kernel
theorem dX12_layPrices_64 : decode cX12_layPrices 64 = .ok (.iload_n 1, 1) := by decide +kernel
theorem dX12_layPrices_65 : decode cX12_layPrices 65 = .ok (.goto 17, 3) := by decide +kernel
theorem dX12_layPrices_68 : decode cX12_layPrices 68 = .ok (.iload_n 3, 1) := by decide +kernel
theorem dX12_layPrices_69 : decode cX12_layPrices 69 = .ok (.iconst (-1), 1) := by decide +kernel
theorem dX12_layPrices_70 : decode cX12_layPrices 70 = .ok (.if_icmp .ne 9, 3) := by decide +kernel
theorem dX12_layPrices_73 : decode cX12_layPrices 73 = .ok (.ldc_w 265, 3) := by decide +kernel
theorem dX12_layPrices_76 : decode cX12_layPrices 76 = .ok (.goto 6, 3) := by decide +kernel
theorem dX12_layPrices_79 : decode cX12_layPrices 79 = .ok (.iload_n 2, 1) := by decide +kernel
theorem dX12_layPrices_80 : decode cX12_layPrices 80 = .ok (.iload_n 3, 1) := by decide +kernel
theorem dX12_layPrices_81 : decode cX12_layPrices 81 = .ok (.imul, 1) := by decide +kernel
theorem dX12_layPrices_82 : decode cX12_layPrices 82 = .ok (.istore 4, 2) := by decide +kernel
theorem dX12_layPrices_84 : decode cX12_layPrices 84 = .ok (.aload_n 0, 1) := by decide +kernel
theorem dX12_layPrices_85 : decode cX12_layPrices 85 = .ok (.getfield 9, 3) := by decide +kernel
theorem dX12_layPrices_88 : decode cX12_layPrices 88 = .ok (.sipush 233, 3) := by decide +kernel
theorem dX12_layPrices_91 : decode cX12_layPrices 91 = .ok (.iaload, 1) := by decide +kernel
theorem dX12_layPrices_92 : decode cX12_layPrices 92 = .ok (.ifCond .ne 7, 3) := by decide +kernel
theorem dX12_layPrices_95 : decode cX12_layPrices 95 = .ok (.iconst 0, 1) := by decide +kernel
theorem dX12_layPrices_96 : decode cX12_layPrices 96 = .ok (.goto 6, 3) := by decide +kernel
theorem dX12_layPrices_99 : decode cX12_layPrices 99 = .ok (.ldc_w 265, 3) := by decide +kernel
theorem dX12_layPrices_102 : decode cX12_layPrices 102 = .ok (.istore 5, 2) := by decide +kernel
theorem dX12_layPrices_104 : decode cX12_layPrices 104 = .ok (.iconst 0, 1) := by decide +kernel
theorem dX12_layPrices_105 : decode cX12_layPrices 105 = .ok (.istore 6, 2) := by decide +kernel
theorem dX12_layPrices_107 : decode cX12_layPrices 107 = .ok (.iload 6, 2) := by decide +kernel
theorem dX12_layPrices_109 : decode cX12_layPrices 109 = .ok (.aload_n 0, 1) := by decide +kernel
theorem dX12_layPrices_110 : decode cX12_layPrices 110 = .ok (.getfield 9, 3) := by decide +kernel
theorem dX12_layPrices_113 : decode cX12_layPrices 113 = .ok (.sipush 233, 3) := by decide +kernel
theorem dX12_layPrices_116 : decode cX12_layPrices 116 = .ok (.iaload, 1) := by decide +kernel
theorem dX12_layPrices_117 : decode cX12_layPrices 117 = .ok (.if_icmp .ge 50, 3) := by decide +kernel
theorem dX12_layPrices_120 : decode cX12_layPrices 120 = .ok (.iload 5, 2) := by decide +kernel
theorem dX12_layPrices_122 : decode cX12_layPrices 122 = .ok (.aload_n 0, 1) := by decide +kernel
theorem dX12_layPrices_123 : decode cX12_layPrices 123 = .ok (.getfield 9, 3) := by decide +kernel
theorem dX12_layPrices_126 : decode cX12_layPrices 126 = .ok (.sipush 238, 3) := by decide +kernel
theorem dX12_layPrices_129 : decode cX12_layPrices 129 = .ok (.iload 6, 2) := by decide +kernel
theorem dX12_layPrices_131 : decode cX12_layPrices 131 = .ok (.iadd, 1) := by decide +kernel
theorem dX12_layPrices_132 : decode cX12_layPrices 132 = .ok (.iaload, 1) := by decide +kernel
theorem dX12_layPrices_133 : decode cX12_layPrices 133 = .ok (.aload_n 0, 1) := by decide +kernel
theorem dX12_layPrices_134 : decode cX12_layPrices 134 = .ok (.getfield 33, 3) := by decide +kernel
theorem dX12_layPrices_137 : decode cX12_layPrices 137 = .ok (.iconst 0, 1) := by decide +kernel
theorem dX12_layPrices_138 : decode cX12_layPrices 138 = .ok (.iload_n 2, 1) := by decide +kernel
theorem dX12_layPrices_139 : decode cX12_layPrices 139 = .ok (.aload_n 0, 1) := by decide +kernel
theorem dX12_layPrices_140 : decode cX12_layPrices 140 = .ok (.getfield 9, 3) := by decide +kernel
theorem dX12_layPrices_143 : decode cX12_layPrices 143 = .ok (.sipush 234, 3) := by decide +kernel
theorem dX12_layPrices_146 : decode cX12_layPrices 146 = .ok (.iload 6, 2) := by decide +kernel
theorem dX12_layPrices_148 : decode cX12_layPrices 148 = .ok (.iadd, 1) := by decide +kernel
theorem dX12_layPrices_149 : decode cX12_layPrices 149 = .ok (.iaload, 1) := by decide +kernel
theorem dX12_layPrices_150 : decode cX12_layPrices 150 = .ok (.isub, 1) := by decide +kernel
theorem dX12_layPrices_151 : decode cX12_layPrices 151 = .ok (.invokestatic 266, 3) := by decide +kernel
theorem dX12_layPrices_154 : decode cX12_layPrices 154 = .ok (.iaload, 1) := by decide +kernel
theorem dX12_layPrices_155 : decode cX12_layPrices 155 = .ok (.iadd, 1) := by decide +kernel
theorem dX12_layPrices_156 : decode cX12_layPrices 156 = .ok (.invokestatic 271, 3) := by decide +kernel
theorem dX12_layPrices_159 : decode cX12_layPrices 159 = .ok (.istore 5, 2) := by decide +kernel
theorem dX12_layPrices_161 : decode cX12_layPrices 161 = .ok (.iinc 6 1, 3) := by decide +kernel
theorem dX12_layPrices_164 : decode cX12_layPrices 164 = .ok (.goto (-57), 3) := by decide +kernel
theorem dX12_layPrices_167 : decode cX12_layPrices 167 = .ok (.aload_n 0, 1) := by decide +kernel
theorem dX12_layPrices_168 : decode cX12_layPrices 168 = .ok (.getfield 33, 3) := by decide +kernel
theorem dX12_layPrices_171 : decode cX12_layPrices 171 = .ok (.iload_n 2, 1) := by decide +kernel
theorem dX12_layPrices_172 : decode cX12_layPrices 172 = .ok (.iload 5, 2) := by decide +kernel
theorem dX12_layPrices_174 : decode cX12_layPrices 174 = .ok (.iastore, 1) := by decide +kernel
theorem dX12_layPrices_175 : decode cX12_layPrices 175 = .ok (.aload_n 0, 1) := by decide +kernel
theorem dX12_layPrices_176 : decode cX12_layPrices 176 = .ok (.getfield 30, 3) := by decide +kernel
theorem dX12_layPrices_179 : decode cX12_layPrices 179 = .ok (.iload_n 2, 1) := by decide +kernel
theorem dX12_layPrices_180 : decode cX12_layPrices 180 = .ok (.iload 4, 2) := by decide +kernel
theorem dX12_layPrices_182 : decode cX12_layPrices 182 = .ok (.ldc_w 265, 3) := by decide +kernel
theorem dX12_layPrices_185 : decode cX12_layPrices 185 = .ok (.if_icmp .ne 9, 3) := by decide +kernel
theorem dX12_layPrices_188 : decode cX12_layPrices 188 = .ok (.ldc_w 265, 3) := by decide +kernel
theorem dX12_layPrices_191 : decode cX12_layPrices 191 = .ok (.goto 8, 3) := by decide +kernel
theorem dX12_layPrices_194 : decode cX12_layPrices 194 = .ok (.iload 4, 2) := by decide +kernel
theorem dX12_layPrices_196 : decode cX12_layPrices 196 = .ok (.iload 5, 2) := by decide +kernel
theorem dX12_layPrices_198 : decode cX12_layPrices 198 = .ok (.iadd, 1) := by decide +kernel
theorem dX12_layPrices_199 : decode cX12_layPrices 199 = .ok (.iastore, 1) := by decide +kernel
theorem dX12_layPrices_200 : decode cX12_layPrices 200 = .ok (.iinc 2 1, 3) := by decide +kernel
theorem dX12_layPrices_203 : decode cX12_layPrices 203 = .ok (.goto (-186), 3) := by decide +kernel
theorem dX12_layPrices_206 : decode cX12_layPrices 206 = .ok (.iconst 1, 1) := by decide +kernel
theorem dX12_layPrices_207 : decode cX12_layPrices 207 = .ok (.istore_n 2, 1) := by decide +kernel
theorem dX12_layPrices_208 : decode cX12_layPrices 208 = .ok (.iload_n 2, 1) := by decide +kernel
theorem dX12_layPrices_209 : decode cX12_layPrices 209 = .ok (.sipush 200, 3) := by decide +kernel
theorem dX12_layPrices_212 : decode cX12_layPrices 212 = .ok (.if_icmp .gt 90, 3) := by decide +kernel
theorem dX12_layPrices_215 : decode cX12_layPrices 215 = .ok (.aload_n 0, 1) := by decide +kernel
theorem dX12_layPrices_216 : decode cX12_layPrices 216 = .ok (.getfield 36, 3) := by decide +kernel
theorem dX12_layPrices_219 : decode cX12_layPrices 219 = .ok (.iload_n 2, 1) := by decide +kernel
theorem dX12_layPrices_220 : decode cX12_layPrices 220 = .ok (.aload_n 0, 1) := by decide +kernel
theorem dX12_layPrices_221 : decode cX12_layPrices 221 = .ok (.getfield 30, 3) := by decide +kernel
theorem dX12_layPrices_224 : decode cX12_layPrices 224 = .ok (.iload_n 2, 1) := by decide +kernel
theorem dX12_layPrices_225 : decode cX12_layPrices 225 = .ok (.iaload, 1) := by decide +kernel
theorem dX12_layPrices_226 : decode cX12_layPrices 226 = .ok (.iastore, 1) := by decide +kernel
theorem dX12_layPrices_227 : decode cX12_layPrices 227 = .ok (.iconst 1, 1) := by decide +kernel
theorem dX12_layPrices_228 : decode cX12_layPrices 228 = .ok (.istore_n 3, 1) := by decide +kernel
theorem dX12_layPrices_229 : decode cX12_layPrices 229 = .ok (.iload_n 3, 1) := by decide +kernel
theorem dX12_layPrices_230 : decode cX12_layPrices 230 = .ok (.iload_n 2, 1) := by decide +kernel
theorem dX12_layPrices_231 : decode cX12_layPrices 231 = .ok (.if_icmp .ge 65, 3) := by decide +kernel
theorem dX12_layPrices_234 : decode cX12_layPrices 234 = .ok (.aload_n 0, 1) := by decide +kernel
theorem dX12_layPrices_235 : decode cX12_layPrices 235 = .ok (.getfield 30, 3) := by decide +kernel
theorem dX12_layPrices_238 : decode cX12_layPrices 238 = .ok (.iload_n 3, 1) := by decide +kernel
theorem dX12_layPrices_239 : decode cX12_layPrices 239 = .ok (.iaload, 1) := by decide +kernel
theorem dX12_layPrices_240 : decode cX12_layPrices 240 = .ok (.ldc_w 265, 3) := by decide +kernel
theorem dX12_layPrices_243 : decode cX12_layPrices 243 = .ok (.if_icmp .eq 47, 3) := by decide +kernel
theorem dX12_layPrices_246 : decode cX12_layPrices 246 = .ok (.aload_n 0, 1) := by decide +kernel
theorem dX12_layPrices_247 : decode cX12_layPrices 247 = .ok (.getfield 36, 3) := by decide +kernel
theorem dX12_layPrices_250 : decode cX12_layPrices 250 = .ok (.iload_n 2, 1) := by decide +kernel
theorem dX12_layPrices_251 : decode cX12_layPrices 251 = .ok (.iload_n 3, 1) := by decide +kernel
theorem dX12_layPrices_252 : decode cX12_layPrices 252 = .ok (.isub, 1) := by decide +kernel
theorem dX12_layPrices_253 : decode cX12_layPrices 253 = .ok (.iaload, 1) := by decide +kernel
theorem dX12_layPrices_254 : decode cX12_layPrices 254 = .ok (.ldc_w 265, 3) := by decide +kernel
theorem dX12_layPrices_257 : decode cX12_layPrices 257 = .ok (.if_icmp .eq 33, 3) := by decide +kernel
theorem dX12_layPrices_260 : decode cX12_layPrices 260 = .ok (.aload_n 0, 1) := by decide +kernel
theorem dX12_layPrices_261 : decode cX12_layPrices 261 = .ok (.getfield 36, 3) := by decide +kernel
theorem dX12_layPrices_264 : decode cX12_layPrices 264 = .ok (.iload_n 2, 1) := by decide +kernel
theorem dX12_layPrices_265 : decode cX12_layPrices 265 = .ok (.aload_n 0, 1) := by decide +kernel
theorem dX12_layPrices_266 : decode cX12_layPrices 266 = .ok (.getfield 36, 3) := by decide +kernel
theorem dX12_layPrices_269 : decode cX12_layPrices 269 = .ok (.iload_n 2, 1) := by decide +kernel
theorem dX12_layPrices_270 : decode cX12_layPrices 270 = .ok (.iaload, 1) := by decide +kernel
theorem dX12_layPrices_271 : decode cX12_layPrices 271 = .ok (.aload_n 0, 1) := by decide +kernel
theorem dX12_layPrices_272 : decode cX12_layPrices 272 = .ok (.getfield 30, 3) := by decide +kernel
theorem dX12_layPrices_275 : decode cX12_layPrices 275 = .ok (.iload_n 3, 1) := by decide +kernel
theorem dX12_layPrices_276 : decode cX12_layPrices 276 = .ok (.iaload, 1) := by decide +kernel
theorem dX12_layPrices_277 : decode cX12_layPrices 277 = .ok (.aload_n 0, 1) := by decide +kernel
theorem dX12_layPrices_278 : decode cX12_layPrices 278 = .ok (.getfield 36, 3) := by decide +kernel
theorem dX12_layPrices_281 : decode cX12_layPrices 281 = .ok (.iload_n 2, 1) := by decide +kernel
theorem dX12_layPrices_282 : decode cX12_layPrices 282 = .ok (.iload_n 3, 1) := by decide +kernel
theorem dX12_layPrices_283 : decode cX12_layPrices 283 = .ok (.isub, 1) := by decide +kernel
theorem dX12_layPrices_284 : decode cX12_layPrices 284 = .ok (.iaload, 1) := by decide +kernel
theorem dX12_layPrices_285 : decode cX12_layPrices 285 = .ok (.iadd, 1) := by decide +kernel
theorem dX12_layPrices_286 : decode cX12_layPrices 286 = .ok (.invokestatic 271, 3) := by decide +kernel
theorem dX12_layPrices_289 : decode cX12_layPrices 289 = .ok (.iastore, 1) := by decide +kernel
theorem dX12_layPrices_290 : decode cX12_layPrices 290 = .ok (.iinc 3 1, 3) := by decide +kernel
theorem dX12_layPrices_293 : decode cX12_layPrices 293 = .ok (.goto (-64), 3) := by decide +kernel
theorem dX12_layPrices_296 : decode cX12_layPrices 296 = .ok (.iinc 2 1, 3) := by decide +kernel
theorem dX12_layPrices_299 : decode cX12_layPrices 299 = .ok (.goto (-91), 3) := by decide +kernel
theorem dX12_layPrices_302 : decode cX12_layPrices 302 = .ok (.return_, 1) := by decide +kernel
theorem dX12_buysOf_0 : decode cX12_buysOf 0 = .ok (.aload_n 0, 1) := by decide +kernel
theorem dX12_buysOf_1 : decode cX12_buysOf 1 = .ok (.invokevirtual 276, 3) := by decide +kernel
theorem dX12_buysOf_4 : decode cX12_buysOf 4 = .ok (.aload_n 0, 1) := by decide +kernel
theorem dX12_buysOf_5 : decode cX12_buysOf 5 = .ok (.getfield 36, 3) := by decide +kernel
theorem dX12_buysOf_8 : decode cX12_buysOf 8 = .ok (.iload_n 1, 1) := by decide +kernel
theorem dX12_buysOf_9 : decode cX12_buysOf 9 = .ok (.iaload, 1) := by decide +kernel
theorem dX12_buysOf_10 : decode cX12_buysOf 10 = .ok (.ldc_w 265, 3) := by decide +kernel
theorem dX12_buysOf_13 : decode cX12_buysOf 13 = .ok (.if_icmp .ne 9, 3) := by decide +kernel
theorem dX12_buysOf_16 : decode cX12_buysOf 16 = .ok (.ldc_w 265, 3) := by decide +kernel
theorem dX12_buysOf_19 : decode cX12_buysOf 19 = .ok (.goto 22, 3) := by decide +kernel
theorem dX12_buysOf_22 : decode cX12_buysOf 22 = .ok (.aload_n 0, 1) := by decide +kernel
theorem dX12_buysOf_23 : decode cX12_buysOf 23 = .ok (.getfield 36, 3) := by decide +kernel
theorem dX12_buysOf_26 : decode cX12_buysOf 26 = .ok (.iload_n 1, 1) := by decide +kernel
theorem dX12_buysOf_27 : decode cX12_buysOf 27 = .ok (.iaload, 1) := by decide +kernel
theorem dX12_buysOf_28 : decode cX12_buysOf 28 = .ok (.iload_n 1, 1) := by decide +kernel
theorem dX12_buysOf_29 : decode cX12_buysOf 29 = .ok (.aload_n 0, 1) := by decide +kernel
theorem dX12_buysOf_30 : decode cX12_buysOf 30 = .ok (.getfield 9, 3) := by decide +kernel
theorem dX12_buysOf_33 : decode cX12_buysOf 33 = .ok (.sipush 245, 3) := by decide +kernel
theorem dX12_buysOf_36 : decode cX12_buysOf 36 = .ok (.iload_n 2, 1) := by decide +kernel
theorem dX12_buysOf_37 : decode cX12_buysOf 37 = .ok (.iadd, 1) := by decide +kernel
theorem dX12_buysOf_38 : decode cX12_buysOf 38 = .ok (.iaload, 1) := by decide +kernel
theorem dX12_buysOf_39 : decode cX12_buysOf 39 = .ok (.imul, 1) := by decide +kernel
theorem dX12_buysOf_40 : decode cX12_buysOf 40 = .ok (.iadd, 1) := by decide +kernel
theorem dX12_buysOf_41 : decode cX12_buysOf 41 = .ok (.ireturn, 1) := by decide +kernel
theorem dX12_price_0 : decode cX12_price 0 = .ok (.aload_n 0, 1) := by decide +kernel
theorem dX12_price_1 : decode cX12_price 1 = .ok (.iconst 0, 1) := by decide +kernel
theorem dX12_price_2 : decode cX12_price 2 = .ok (.putfield 103, 3) := by decide +kernel
theorem dX12_price_5 : decode cX12_price 5 = .ok (.iload_n 1, 1) := by decide +kernel
theorem dX12_price_6 : decode cX12_price 6 = .ok (.i2l, 1) := by decide +kernel
theorem dX12_price_7 : decode cX12_price 7 = .ok (.lconst 1, 1) := by decide +kernel
theorem dX12_price_8 : decode cX12_price 8 = .ok (.ldc2_w 274, 3) := by decide +kernel
theorem dX12_price_11 : decode cX12_price 11 = .ok (.invokestatic 106, 3) := by decide +kernel
theorem dX12_price_14 : decode cX12_price 14 = .ok (.ifCond .ne 9, 3) := by decide +kernel
theorem dX12_price_17 : decode cX12_price 17 = .ok (.aload_n 0, 1) := by decide +kernel
theorem dX12_price_18 : decode cX12_price 18 = .ok (.iconst 1, 1) := by decide +kernel
theorem dX12_price_19 : decode cX12_price 19 = .ok (.invokevirtual 116, 3) := by decide +kernel
theorem dX12_price_22 : decode cX12_price 22 = .ok (.ireturn, 1) := by decide +kernel
theorem dX12_price_23 : decode cX12_price 23 = .ok (.aload_n 0, 1) := by decide +kernel
theorem dX12_price_24 : decode cX12_price 24 = .ok (.invokevirtual 276, 3) := by decide +kernel
theorem dX12_price_27 : decode cX12_price 27 = .ok (.aload_n 0, 1) := by decide +kernel
theorem dX12_price_28 : decode cX12_price 28 = .ok (.getfield 30, 3) := by decide +kernel
theorem dX12_price_31 : decode cX12_price 31 = .ok (.iload_n 1, 1) := by decide +kernel
theorem dX12_price_32 : decode cX12_price 32 = .ok (.iaload, 1) := by decide +kernel
theorem dX12_price_33 : decode cX12_price 33 = .ok (.ldc_w 265, 3) := by decide +kernel
theorem dX12_price_36 : decode cX12_price 36 = .ok (.if_icmp .ne 7, 3) := by decide +kernel
theorem dX12_price_39 : decode cX12_price 39 = .ok (.iconst (-1), 1) := by decide +kernel
theorem dX12_price_40 : decode cX12_price 40 = .ok (.goto 9, 3) := by decide +kernel
theorem dX12_price_43 : decode cX12_price 43 = .ok (.aload_n 0, 1) := by decide +kernel
theorem dX12_price_44 : decode cX12_price 44 = .ok (.getfield 30, 3) := by decide +kernel
theorem dX12_price_47 : decode cX12_price 47 = .ok (.iload_n 1, 1) := by decide +kernel
theorem dX12_price_48 : decode cX12_price 48 = .ok (.iaload, 1) := by decide +kernel
theorem dX12_price_49 : decode cX12_price 49 = .ok (.ireturn, 1) := by decide +kernel
theorem dX12_buys_0 : decode cX12_buys 0 = .ok (.aload_n 0, 1) := by decide +kernel
theorem dX12_buys_1 : decode cX12_buys 1 = .ok (.iconst 0, 1) := by decide +kernel
theorem dX12_buys_2 : decode cX12_buys 2 = .ok (.putfield 103, 3) := by decide +kernel
theorem dX12_buys_5 : decode cX12_buys 5 = .ok (.iload_n 2, 1) := by decide +kernel
theorem dX12_buys_6 : decode cX12_buys 6 = .ok (.i2l, 1) := by decide +kernel
theorem dX12_buys_7 : decode cX12_buys 7 = .ok (.lconst 0, 1) := by decide +kernel
theorem dX12_buys_8 : decode cX12_buys 8 = .ok (.ldc2_w 127, 3) := by decide +kernel
theorem dX12_buys_11 : decode cX12_buys 11 = .ok (.invokestatic 106, 3) := by decide +kernel
theorem dX12_buys_14 : decode cX12_buys 14 = .ok (.ifCond .ne 9, 3) := by decide +kernel
theorem dX12_buys_17 : decode cX12_buys 17 = .ok (.aload_n 0, 1) := by decide +kernel
theorem dX12_buys_18 : decode cX12_buys 18 = .ok (.iconst 1, 1) := by decide +kernel
theorem dX12_buys_19 : decode cX12_buys 19 = .ok (.invokevirtual 116, 3) := by decide +kernel
theorem dX12_buys_22 : decode cX12_buys 22 = .ok (.ireturn, 1) := by decide +kernel
theorem dX12_buys_23 : decode cX12_buys 23 = .ok (.iload_n 1, 1) := by decide +kernel
theorem dX12_buys_24 : decode cX12_buys 24 = .ok (.i2l, 1) := by decide +kernel
theorem dX12_buys_25 : decode cX12_buys 25 = .ok (.lconst 0, 1) := by decide +kernel
theorem dX12_buys_26 : decode cX12_buys 26 = .ok (.ldc2_w 274, 3) := by decide +kernel
theorem dX12_buys_29 : decode cX12_buys 29 = .ok (.invokestatic 106, 3) := by decide +kernel
theorem dX12_buys_32 : decode cX12_buys 32 = .ok (.ifCond .ne 9, 3) := by decide +kernel
theorem dX12_buys_35 : decode cX12_buys 35 = .ok (.aload_n 0, 1) := by decide +kernel
theorem dX12_buys_36 : decode cX12_buys 36 = .ok (.iconst 2, 1) := by decide +kernel
theorem dX12_buys_37 : decode cX12_buys 37 = .ok (.invokevirtual 116, 3) := by decide +kernel
theorem dX12_buys_40 : decode cX12_buys 40 = .ok (.ireturn, 1) := by decide +kernel
theorem dX12_buys_41 : decode cX12_buys 41 = .ok (.aload_n 0, 1) := by decide +kernel
theorem dX12_buys_42 : decode cX12_buys 42 = .ok (.iload_n 1, 1) := by decide +kernel
theorem dX12_buys_43 : decode cX12_buys 43 = .ok (.iload_n 2, 1) := by decide +kernel
theorem dX12_buys_44 : decode cX12_buys 44 = .ok (.invokevirtual 279, 3) := by decide +kernel
theorem dX12_buys_47 : decode cX12_buys 47 = .ok (.ldc_w 265, 3) := by decide +kernel
theorem dX12_buys_50 : decode cX12_buys 50 = .ok (.if_icmp .ne 7, 3) := by decide +kernel
theorem dX12_buys_53 : decode cX12_buys 53 = .ok (.iconst (-1), 1) := by decide +kernel
theorem dX12_buys_54 : decode cX12_buys 54 = .ok (.goto 9, 3) := by decide +kernel
theorem dX12_buys_57 : decode cX12_buys 57 = .ok (.aload_n 0, 1) := by decide +kernel
theorem dX12_buys_58 : decode cX12_buys 58 = .ok (.iload_n 1, 1) := by decide +kernel
theorem dX12_buys_59 : decode cX12_buys 59 = .ok (.iload_n 2, 1) := by decide +kernel
theorem dX12_buys_60 : decode cX12_buys 60 = .ok (.invokevirtual 279, 3) := by decide +kernel
theorem dX12_buys_63 : decode cX12_buys 63 = .ok (.ireturn, 1) := by decide +kernel
theorem s_priceAt {l : Launch} {E : aE} {N : Nat} {S : aS} {M : aM} (hfl : l.stackTraces = false) (m : Int) (t : Int → Int) (hS : lyM S m) (hE : RE M m t) (hK : TT t) (n : Int) : aMt l E pX12_priceAt [(2, m), (0, n)] N S M (aR (0, priceV t n) N S M) := by
  refine a_met hfl rfl (by decide +kernel) (Nat.le_of_ble_eq_true rfl) ?_
  obtain ⟨h1, h2, h3, h4, h5⟩ := hE
  have loop := a_loop3 (fun k b x => 0 ≤ k ∧ k ≤ t 220 ∧ b = (stepV t n k.toNat).1 ∧ x = (stepV t n k.toNat).2) (fun k _ _ => (t 220 - k).toNat) (fun k b x => aX l E pX12_priceAt (aR (0, priceV t n) N S M) 0 0 N S M 31 [(0, (2, m)), (1, (0, n)), (2, (0, x)), (3, (0, b)), (4, (0, t 220)), (5, (0, k))] []) (by
    intro k b x hI ih
    have k0 := hI.1
    have k1 := hI.2.1
    have hb := hI.2.2.1
    have hk := fun z : k < t 220 => hK.2.2.1 k k0 z
    have k6 := hK.2.1
    refine x_iload (pc := 31) dX12_priceAt_31 rfl ?_
    refine x_iload (pc := 33) dX12_priceAt_33 rfl ?_
    refine x_icmp_ge (tgt := 121) (pc := 35) dX12_priceAt_35 (by decide) (fun c_35 => ?_) (fun c_35 => ?_)
    · refine x_iload_n (pc := 121) dX12_priceAt_121 rfl rfl ?_
      refine x_ireturn (pc := 122) dX12_priceAt_122 rfl (by decide) ?_
      refine ⟨?_, rfl, rfl, rfl⟩
      rw [hI.2.2.2, show k = t 220 by omega]
      rfl
    · refine x_aload_n (pc := 38) dX12_priceAt_38 rfl rfl ?_
      refine x_getIV (jj := 20) (pc := 39) dX12_priceAt_39 fX12_259 hS.1 rfl (by decide) rfl (by (repeat (first | rewrite [up_s] | rewrite [up_i (by omega)] | rewrite [up_a (by omega)] | rewrite [stM_a (by omega) (by omega)])); first | exact ((h4 (by omega)).2 _ (by omega) (by omega)).1 | exact ((h4 (by omega)).2 _ (by omega) (by omega)).2 | exact h5 (by omega) _ (by omega) (by omega) | exact (h4 (by omega)).1 | rfl) ?_
      refine x_if_le (tgt := 55) (pc := 42) dX12_priceAt_42 (by decide) (fun c_42 => ?_) (fun c_42 => ?_)
      · refine x_aload_n (pc := 55) dX12_priceAt_55 rfl rfl ?_
        refine x_getR (jj := 0) (pc := 56) dX12_priceAt_56 fX12_9 hS.1 rfl (by decide) rfl rM_0 ?_
        refine x_sipush (pc := 59) dX12_priceAt_59 (by decide) ?_
        refine x_iload (pc := 62) dX12_priceAt_62 rfl ?_
        refine x_iadd (pc := 64) dX12_priceAt_64 (by omega) ?_
        refine x_ialoadV (pc := 65) dX12_priceAt_65 (sM_0 hS) (by omega) (by (repeat (first | rewrite [up_s] | rewrite [up_i (by omega)] | rewrite [up_a (by omega)] | rewrite [stM_a (by omega) (by omega)])); first | exact ((h4 (by omega)).2 _ (by omega) (by omega)).1 | exact ((h4 (by omega)).2 _ (by omega) (by omega)).2 | exact h5 (by omega) _ (by omega) (by omega) | exact (h4 (by omega)).1 | rfl) (fun g_65 => ?_)
        refine x_istore (pc := 66) dX12_priceAt_66 (by decide) rfl ?_
        refine x_iload (pc := 68) dX12_priceAt_68 rfl ?_
        refine x_iload_n (pc := 70) dX12_priceAt_70 rfl rfl ?_
        refine x_icmp_gt (tgt := 115) (pc := 71) dX12_priceAt_71 (by decide) (fun c_71 => ?_) (fun c_71 => ?_)
        · refine x_iinc (pc := 115) dX12_priceAt_115 rfl (by omega) (by decide) rfl ?_
          refine x_goto (tgt := 31) (pc := 118) dX12_priceAt_118 (by decide) ?_
          first
            | (refine x_lo (lo' := [(0, (2, m)), (1, (0, n)), (2, (0, x)), (3, (0, b)), (4, (0, t 220)), (5, (0, k + 1))]) ⟨rfl, rfl, rfl, rfl, rfl, rfl, trivial⟩ (ih (k + 1) b x ⟨by omega, by omega, ?_, ?_⟩ (by omega)) <;> rw [stepV_1 k0, if_neg (by omega)] <;> first | exact hI.2.2.1 | exact hI.2.2.2)
            | (refine x_lo (lo' := [(0, (2, m)), (1, (0, n)), (2, (0, t (227 + k))), (3, (0, t (221 + k))), (4, (0, t 220)), (5, (0, k + 1))]) ⟨rfl, rfl, rfl, rfl, rfl, rfl, trivial⟩ (ih (k + 1) (t (221 + k)) (t (227 + k)) ⟨by omega, by omega, ?_, ?_⟩ (by omega)) <;> rw [stepV_1 k0, if_pos (by omega)])
        · refine x_iload (pc := 74) dX12_priceAt_74 rfl ?_
          refine x_iload_n (pc := 76) dX12_priceAt_76 rfl rfl ?_
          refine x_icmp_gt (tgt := 83) (pc := 77) dX12_priceAt_77 (by decide) (fun c_77 => ?_) (fun c_77 => ?_)
          · refine x_iload (pc := 83) dX12_priceAt_83 rfl ?_
            refine x_istore_n (pc := 85) dX12_priceAt_85 rfl (by decide) rfl ?_
            refine x_aload_n (pc := 86) dX12_priceAt_86 rfl rfl ?_
            refine x_getIV (jj := 20) (pc := 87) dX12_priceAt_87 fX12_259 hS.1 rfl (by decide) rfl (by (repeat (first | rewrite [up_s] | rewrite [up_i (by omega)] | rewrite [up_a (by omega)] | rewrite [stM_a (by omega) (by omega)])); first | exact ((h4 (by omega)).2 _ (by omega) (by omega)).1 | exact ((h4 (by omega)).2 _ (by omega) (by omega)).2 | exact h5 (by omega) _ (by omega) (by omega) | exact (h4 (by omega)).1 | rfl) ?_
            refine x_if_le (tgt := 103) (pc := 90) dX12_priceAt_90 (by decide) (fun c_90 => ?_) (fun c_90 => ?_)
            · refine x_aload_n (pc := 103) dX12_priceAt_103 rfl rfl ?_
              refine x_getR (jj := 0) (pc := 104) dX12_priceAt_104 fX12_9 hS.1 rfl (by decide) rfl rM_0 ?_
              refine x_sipush (pc := 107) dX12_priceAt_107 (by decide) ?_
              refine x_iload (pc := 110) dX12_priceAt_110 rfl ?_
              refine x_iadd (pc := 112) dX12_priceAt_112 (by omega) ?_
              refine x_ialoadV (pc := 113) dX12_priceAt_113 (sM_0 hS) (by omega) (by (repeat (first | rewrite [up_s] | rewrite [up_i (by omega)] | rewrite [up_a (by omega)] | rewrite [stM_a (by omega) (by omega)])); first | exact ((h4 (by omega)).2 _ (by omega) (by omega)).1 | exact ((h4 (by omega)).2 _ (by omega) (by omega)).2 | exact h5 (by omega) _ (by omega) (by omega) | exact (h4 (by omega)).1 | rfl) (fun g_113 => ?_)
              refine x_istore_n (pc := 114) dX12_priceAt_114 rfl (by decide) rfl ?_
              refine x_iinc (pc := 115) dX12_priceAt_115 rfl (by omega) (by decide) rfl ?_
              refine x_goto (tgt := 31) (pc := 118) dX12_priceAt_118 (by decide) ?_
              first
                | (refine x_lo (lo' := [(0, (2, m)), (1, (0, n)), (2, (0, x)), (3, (0, b)), (4, (0, t 220)), (5, (0, k + 1))]) ⟨rfl, rfl, rfl, rfl, rfl, rfl, trivial⟩ (ih (k + 1) b x ⟨by omega, by omega, ?_, ?_⟩ (by omega)) <;> rw [stepV_1 k0, if_neg (by omega)] <;> first | exact hI.2.2.1 | exact hI.2.2.2)
                | (refine x_lo (lo' := [(0, (2, m)), (1, (0, n)), (2, (0, t (227 + k))), (3, (0, t (221 + k))), (4, (0, t 220)), (5, (0, k + 1))]) ⟨rfl, rfl, rfl, rfl, rfl, rfl, trivial⟩ (ih (k + 1) (t (221 + k)) (t (227 + k)) ⟨by omega, by omega, ?_, ?_⟩ (by omega)) <;> rw [stepV_1 k0, if_pos (by omega)])
            · refine x_aload_n (pc := 93) dX12_priceAt_93 rfl rfl ?_
              refine x_getR (jj := 22) (pc := 94) dX12_priceAt_94 fX12_42 hS.1 rfl (by decide) rfl rM_22 ?_
              refine x_iload (pc := 97) dX12_priceAt_97 rfl ?_
              refine x_ialoadV (pc := 99) dX12_priceAt_99 (sM_22 hS) (by omega) (by (repeat (first | rewrite [up_s] | rewrite [up_i (by omega)] | rewrite [up_a (by omega)] | rewrite [stM_a (by omega) (by omega)])); first | exact ((h4 (by omega)).2 _ (by omega) (by omega)).1 | exact ((h4 (by omega)).2 _ (by omega) (by omega)).2 | exact h5 (by omega) _ (by omega) (by omega) | exact (h4 (by omega)).1 | rfl) (fun g_99 => ?_)
              refine x_goto (tgt := 114) (pc := 100) dX12_priceAt_100 (by decide) ?_
              refine x_istore_n (pc := 114) dX12_priceAt_114 rfl (by decide) rfl ?_
              refine x_iinc (pc := 115) dX12_priceAt_115 rfl (by omega) (by decide) rfl ?_
              refine x_goto (tgt := 31) (pc := 118) dX12_priceAt_118 (by decide) ?_
              first
                | (refine x_lo (lo' := [(0, (2, m)), (1, (0, n)), (2, (0, x)), (3, (0, b)), (4, (0, t 220)), (5, (0, k + 1))]) ⟨rfl, rfl, rfl, rfl, rfl, rfl, trivial⟩ (ih (k + 1) b x ⟨by omega, by omega, ?_, ?_⟩ (by omega)) <;> rw [stepV_1 k0, if_neg (by omega)] <;> first | exact hI.2.2.1 | exact hI.2.2.2)
                | (refine x_lo (lo' := [(0, (2, m)), (1, (0, n)), (2, (0, t (227 + k))), (3, (0, t (221 + k))), (4, (0, t 220)), (5, (0, k + 1))]) ⟨rfl, rfl, rfl, rfl, rfl, rfl, trivial⟩ (ih (k + 1) (t (221 + k)) (t (227 + k)) ⟨by omega, by omega, ?_, ?_⟩ (by omega)) <;> rw [stepV_1 k0, if_pos (by omega)])
          · refine x_goto (tgt := 115) (pc := 80) dX12_priceAt_80 (by decide) ?_
            refine x_iinc (pc := 115) dX12_priceAt_115 rfl (by omega) (by decide) rfl ?_
            refine x_goto (tgt := 31) (pc := 118) dX12_priceAt_118 (by decide) ?_
            first
              | (refine x_lo (lo' := [(0, (2, m)), (1, (0, n)), (2, (0, x)), (3, (0, b)), (4, (0, t 220)), (5, (0, k + 1))]) ⟨rfl, rfl, rfl, rfl, rfl, rfl, trivial⟩ (ih (k + 1) b x ⟨by omega, by omega, ?_, ?_⟩ (by omega)) <;> rw [stepV_1 k0, if_neg (by omega)] <;> first | exact hI.2.2.1 | exact hI.2.2.2)
              | (refine x_lo (lo' := [(0, (2, m)), (1, (0, n)), (2, (0, t (227 + k))), (3, (0, t (221 + k))), (4, (0, t 220)), (5, (0, k + 1))]) ⟨rfl, rfl, rfl, rfl, rfl, rfl, trivial⟩ (ih (k + 1) (t (221 + k)) (t (227 + k)) ⟨by omega, by omega, ?_, ?_⟩ (by omega)) <;> rw [stepV_1 k0, if_pos (by omega)])
      · refine x_aload_n (pc := 45) dX12_priceAt_45 rfl rfl ?_
        refine x_getR (jj := 21) (pc := 46) dX12_priceAt_46 fX12_39 hS.1 rfl (by decide) rfl rM_21 ?_
        refine x_iload (pc := 49) dX12_priceAt_49 rfl ?_
        refine x_ialoadV (pc := 51) dX12_priceAt_51 (sM_21 hS) (by omega) (by (repeat (first | rewrite [up_s] | rewrite [up_i (by omega)] | rewrite [up_a (by omega)] | rewrite [stM_a (by omega) (by omega)])); first | exact ((h4 (by omega)).2 _ (by omega) (by omega)).1 | exact ((h4 (by omega)).2 _ (by omega) (by omega)).2 | exact h5 (by omega) _ (by omega) (by omega) | exact (h4 (by omega)).1 | rfl) (fun g_51 => ?_)
        refine x_goto (tgt := 66) (pc := 52) dX12_priceAt_52 (by decide) ?_
        refine x_istore (pc := 66) dX12_priceAt_66 (by decide) rfl ?_
        refine x_iload (pc := 68) dX12_priceAt_68 rfl ?_
        refine x_iload_n (pc := 70) dX12_priceAt_70 rfl rfl ?_
        refine x_icmp_gt (tgt := 115) (pc := 71) dX12_priceAt_71 (by decide) (fun c_71 => ?_) (fun c_71 => ?_)
        · refine x_iinc (pc := 115) dX12_priceAt_115 rfl (by omega) (by decide) rfl ?_
          refine x_goto (tgt := 31) (pc := 118) dX12_priceAt_118 (by decide) ?_
          first
            | (refine x_lo (lo' := [(0, (2, m)), (1, (0, n)), (2, (0, x)), (3, (0, b)), (4, (0, t 220)), (5, (0, k + 1))]) ⟨rfl, rfl, rfl, rfl, rfl, rfl, trivial⟩ (ih (k + 1) b x ⟨by omega, by omega, ?_, ?_⟩ (by omega)) <;> rw [stepV_1 k0, if_neg (by omega)] <;> first | exact hI.2.2.1 | exact hI.2.2.2)
            | (refine x_lo (lo' := [(0, (2, m)), (1, (0, n)), (2, (0, t (227 + k))), (3, (0, t (221 + k))), (4, (0, t 220)), (5, (0, k + 1))]) ⟨rfl, rfl, rfl, rfl, rfl, rfl, trivial⟩ (ih (k + 1) (t (221 + k)) (t (227 + k)) ⟨by omega, by omega, ?_, ?_⟩ (by omega)) <;> rw [stepV_1 k0, if_pos (by omega)])
        · refine x_iload (pc := 74) dX12_priceAt_74 rfl ?_
          refine x_iload_n (pc := 76) dX12_priceAt_76 rfl rfl ?_
          refine x_icmp_gt (tgt := 83) (pc := 77) dX12_priceAt_77 (by decide) (fun c_77 => ?_) (fun c_77 => ?_)
          · refine x_iload (pc := 83) dX12_priceAt_83 rfl ?_
            refine x_istore_n (pc := 85) dX12_priceAt_85 rfl (by decide) rfl ?_
            refine x_aload_n (pc := 86) dX12_priceAt_86 rfl rfl ?_
            refine x_getIV (jj := 20) (pc := 87) dX12_priceAt_87 fX12_259 hS.1 rfl (by decide) rfl (by (repeat (first | rewrite [up_s] | rewrite [up_i (by omega)] | rewrite [up_a (by omega)] | rewrite [stM_a (by omega) (by omega)])); first | exact ((h4 (by omega)).2 _ (by omega) (by omega)).1 | exact ((h4 (by omega)).2 _ (by omega) (by omega)).2 | exact h5 (by omega) _ (by omega) (by omega) | exact (h4 (by omega)).1 | rfl) ?_
            refine x_if_le (tgt := 103) (pc := 90) dX12_priceAt_90 (by decide) (fun c_90 => ?_) (fun c_90 => ?_)
            · refine x_aload_n (pc := 103) dX12_priceAt_103 rfl rfl ?_
              refine x_getR (jj := 0) (pc := 104) dX12_priceAt_104 fX12_9 hS.1 rfl (by decide) rfl rM_0 ?_
              refine x_sipush (pc := 107) dX12_priceAt_107 (by decide) ?_
              refine x_iload (pc := 110) dX12_priceAt_110 rfl ?_
              refine x_iadd (pc := 112) dX12_priceAt_112 (by omega) ?_
              refine x_ialoadV (pc := 113) dX12_priceAt_113 (sM_0 hS) (by omega) (by (repeat (first | rewrite [up_s] | rewrite [up_i (by omega)] | rewrite [up_a (by omega)] | rewrite [stM_a (by omega) (by omega)])); first | exact ((h4 (by omega)).2 _ (by omega) (by omega)).1 | exact ((h4 (by omega)).2 _ (by omega) (by omega)).2 | exact h5 (by omega) _ (by omega) (by omega) | exact (h4 (by omega)).1 | rfl) (fun g_113 => ?_)
              refine x_istore_n (pc := 114) dX12_priceAt_114 rfl (by decide) rfl ?_
              refine x_iinc (pc := 115) dX12_priceAt_115 rfl (by omega) (by decide) rfl ?_
              refine x_goto (tgt := 31) (pc := 118) dX12_priceAt_118 (by decide) ?_
              first
                | (refine x_lo (lo' := [(0, (2, m)), (1, (0, n)), (2, (0, x)), (3, (0, b)), (4, (0, t 220)), (5, (0, k + 1))]) ⟨rfl, rfl, rfl, rfl, rfl, rfl, trivial⟩ (ih (k + 1) b x ⟨by omega, by omega, ?_, ?_⟩ (by omega)) <;> rw [stepV_1 k0, if_neg (by omega)] <;> first | exact hI.2.2.1 | exact hI.2.2.2)
                | (refine x_lo (lo' := [(0, (2, m)), (1, (0, n)), (2, (0, t (227 + k))), (3, (0, t (221 + k))), (4, (0, t 220)), (5, (0, k + 1))]) ⟨rfl, rfl, rfl, rfl, rfl, rfl, trivial⟩ (ih (k + 1) (t (221 + k)) (t (227 + k)) ⟨by omega, by omega, ?_, ?_⟩ (by omega)) <;> rw [stepV_1 k0, if_pos (by omega)])
            · refine x_aload_n (pc := 93) dX12_priceAt_93 rfl rfl ?_
              refine x_getR (jj := 22) (pc := 94) dX12_priceAt_94 fX12_42 hS.1 rfl (by decide) rfl rM_22 ?_
              refine x_iload (pc := 97) dX12_priceAt_97 rfl ?_
              refine x_ialoadV (pc := 99) dX12_priceAt_99 (sM_22 hS) (by omega) (by (repeat (first | rewrite [up_s] | rewrite [up_i (by omega)] | rewrite [up_a (by omega)] | rewrite [stM_a (by omega) (by omega)])); first | exact ((h4 (by omega)).2 _ (by omega) (by omega)).1 | exact ((h4 (by omega)).2 _ (by omega) (by omega)).2 | exact h5 (by omega) _ (by omega) (by omega) | exact (h4 (by omega)).1 | rfl) (fun g_99 => ?_)
              refine x_goto (tgt := 114) (pc := 100) dX12_priceAt_100 (by decide) ?_
              refine x_istore_n (pc := 114) dX12_priceAt_114 rfl (by decide) rfl ?_
              refine x_iinc (pc := 115) dX12_priceAt_115 rfl (by omega) (by decide) rfl ?_
              refine x_goto (tgt := 31) (pc := 118) dX12_priceAt_118 (by decide) ?_
              first
                | (refine x_lo (lo' := [(0, (2, m)), (1, (0, n)), (2, (0, x)), (3, (0, b)), (4, (0, t 220)), (5, (0, k + 1))]) ⟨rfl, rfl, rfl, rfl, rfl, rfl, trivial⟩ (ih (k + 1) b x ⟨by omega, by omega, ?_, ?_⟩ (by omega)) <;> rw [stepV_1 k0, if_neg (by omega)] <;> first | exact hI.2.2.1 | exact hI.2.2.2)
                | (refine x_lo (lo' := [(0, (2, m)), (1, (0, n)), (2, (0, t (227 + k))), (3, (0, t (221 + k))), (4, (0, t 220)), (5, (0, k + 1))]) ⟨rfl, rfl, rfl, rfl, rfl, rfl, trivial⟩ (ih (k + 1) (t (221 + k)) (t (227 + k)) ⟨by omega, by omega, ?_, ?_⟩ (by omega)) <;> rw [stepV_1 k0, if_pos (by omega)])
          · refine x_goto (tgt := 115) (pc := 80) dX12_priceAt_80 (by decide) ?_
            refine x_iinc (pc := 115) dX12_priceAt_115 rfl (by omega) (by decide) rfl ?_
            refine x_goto (tgt := 31) (pc := 118) dX12_priceAt_118 (by decide) ?_
            first
              | (refine x_lo (lo' := [(0, (2, m)), (1, (0, n)), (2, (0, x)), (3, (0, b)), (4, (0, t 220)), (5, (0, k + 1))]) ⟨rfl, rfl, rfl, rfl, rfl, rfl, trivial⟩ (ih (k + 1) b x ⟨by omega, by omega, ?_, ?_⟩ (by omega)) <;> rw [stepV_1 k0, if_neg (by omega)] <;> first | exact hI.2.2.1 | exact hI.2.2.2)
              | (refine x_lo (lo' := [(0, (2, m)), (1, (0, n)), (2, (0, t (227 + k))), (3, (0, t (221 + k))), (4, (0, t 220)), (5, (0, k + 1))]) ⟨rfl, rfl, rfl, rfl, rfl, rfl, trivial⟩ (ih (k + 1) (t (221 + k)) (t (227 + k)) ⟨by omega, by omega, ?_, ?_⟩ (by omega)) <;> rw [stepV_1 k0, if_pos (by omega)]))
  refine x_iconst (pc := 0) dX12_priceAt_0 (by decide) ?_
  refine x_istore_n (pc := 1) dX12_priceAt_1 rfl (by decide) rfl ?_
  refine x_iconst (pc := 2) dX12_priceAt_2 (by decide) ?_
  refine x_istore_n (pc := 3) dX12_priceAt_3 rfl (by decide) rfl ?_
  refine x_aload_n (pc := 4) dX12_priceAt_4 rfl rfl ?_
  refine x_getIV (jj := 20) (pc := 5) dX12_priceAt_5 fX12_259 hS.1 rfl (by decide) rfl (by (repeat (first | rewrite [up_s] | rewrite [up_i (by omega)] | rewrite [up_a (by omega)] | rewrite [stM_a (by omega) (by omega)])); first | exact ((h4 (by omega)).2 _ (by omega) (by omega)).1 | exact ((h4 (by omega)).2 _ (by omega) (by omega)).2 | exact h5 (by omega) _ (by omega) (by omega) | exact (h4 (by omega)).1 | rfl) ?_
  refine x_if_le (tgt := 18) (pc := 8) dX12_priceAt_8 (by decide) (fun c_8 => ?_) (fun c_8 => ?_)
  · refine x_aload_n (pc := 18) dX12_priceAt_18 rfl rfl ?_
    refine x_getR (jj := 0) (pc := 19) dX12_priceAt_19 fX12_9 hS.1 rfl (by decide) rfl rM_0 ?_
    refine x_sipush (pc := 22) dX12_priceAt_22 (by decide) ?_
    refine x_ialoadV (pc := 25) dX12_priceAt_25 (sM_0 hS) (by omega) (by (repeat (first | rewrite [up_s] | rewrite [up_i (by omega)] | rewrite [up_a (by omega)] | rewrite [stM_a (by omega) (by omega)])); first | exact ((h4 (by omega)).2 _ (by omega) (by omega)).1 | exact ((h4 (by omega)).2 _ (by omega) (by omega)).2 | exact h5 (by omega) _ (by omega) (by omega) | exact (h4 (by omega)).1 | rfl) (fun g_25 => ?_)
    refine x_istore (pc := 26) dX12_priceAt_26 (by decide) rfl ?_
    refine x_iconst (pc := 28) dX12_priceAt_28 (by decide) ?_
    refine x_istore (pc := 29) dX12_priceAt_29 (by decide) rfl ?_
    exact x_lo (lo' := [(0, (2, m)), (1, (0, n)), (2, (0, -1)), (3, (0, 0)), (4, (0, t 220)), (5, (0, 0))]) ⟨rfl, rfl, rfl, rfl, rfl, rfl, trivial⟩ (loop 0 0 (-1) ⟨by omega, by have := hK.2.1; omega, rfl, rfl⟩)
  · refine x_aload_n (pc := 11) dX12_priceAt_11 rfl rfl ?_
    refine x_getIV (jj := 20) (pc := 12) dX12_priceAt_12 fX12_259 hS.1 rfl (by decide) rfl (by (repeat (first | rewrite [up_s] | rewrite [up_i (by omega)] | rewrite [up_a (by omega)] | rewrite [stM_a (by omega) (by omega)])); first | exact ((h4 (by omega)).2 _ (by omega) (by omega)).1 | exact ((h4 (by omega)).2 _ (by omega) (by omega)).2 | exact h5 (by omega) _ (by omega) (by omega) | exact (h4 (by omega)).1 | rfl) ?_
    refine x_goto (tgt := 26) (pc := 15) dX12_priceAt_15 (by decide) ?_
    refine x_istore (pc := 26) dX12_priceAt_26 (by decide) rfl ?_
    refine x_iconst (pc := 28) dX12_priceAt_28 (by decide) ?_
    refine x_istore (pc := 29) dX12_priceAt_29 (by decide) rfl ?_
    exact x_lo (lo' := [(0, (2, m)), (1, (0, n)), (2, (0, -1)), (3, (0, 0)), (4, (0, t 220)), (5, (0, 0))]) ⟨rfl, rfl, rfl, rfl, rfl, rfl, trivial⟩ (loop 0 0 (-1) ⟨by omega, by have := hK.2.1; omega, rfl, rfl⟩)
theorem s_layPrices {l : Launch} {E : aE} {N : Nat} {S : aS} {M : aM} (hfl : l.stackTraces = false) (m : Int) (t : Int → Int) (hS : lyM S m) (hE : RE M m t) (hK : TT t) (hP : RP0 M m t) : aMt l E pX12_layPrices [(2, m)] N S M ((aU N S (fun M' => frZ M M' m ∧ RP M' m t ∧ z78 M' m))) := by
  refine a_met hfl rfl (by decide +kernel) (Nat.le_of_ble_eq_true rfl) ?_
  have loop2 := a_loop2 (fun q M1 => 1 ≤ q ∧ q ≤ 201 ∧ frZ M M1 m ∧ M1 m 19 = 1 ∧ M1 (m + 7) 0 = 0 ∧ (∀ j, 1 ≤ j → j ≤ 200 → M1 (m + 6) j = encF FAR2 (singleV t j)) ∧ ∀ j, 0 ≤ j → j < q → M1 (m + 8) j = encF FAR2 (sevV t j)) (fun q _ => (201 - q).toNat) (fun q M1 => aX l E pX12_layPrices (aU N S (fun M' => frZ M M' m ∧ RP M' m t ∧ z78 M' m)) 0 0 N S M1 208 [(0, (2, m)), (2, (0, q))] []) (by
    intro q M1 hI2 ih2
    obtain ⟨j1, j2, j3, j4, j5, j6, j7⟩ := hI2
    have loop3 := fun hq : q ≤ 200 => (show _ from by
      have loop3 := a_loop2 (fun k M2 => 1 ≤ k ∧ k ≤ q ∧ frZ M M2 m ∧ M2 m 19 = 1 ∧ M2 (m + 7) 0 = 0 ∧ (∀ j, 1 ≤ j → j ≤ 200 → M2 (m + 6) j = encF FAR2 (singleV t j)) ∧ (∀ j, 0 ≤ j → j < q → M2 (m + 8) j = encF FAR2 (sevV t j)) ∧ M2 (m + 8) q = encF FAR2 (omin (splitL t (sevV t) q (k - 1).toNat) (singleV t q))) (fun k _ => (q - k).toNat) (fun k M2 => aX l E pX12_layPrices (aU N S (fun M' => frZ M M' m ∧ RP M' m t ∧ z78 M' m)) 0 0 N S M2 229 [(0, (2, m)), (2, (0, q)), (3, (0, k))] []) (by
        intro k M2 hI3 ih3
        obtain ⟨i1, i2, i3, i4, i5, i6, i7, i8⟩ := hI3
        have s1 := splitL_r (t := t) (f := sevV t) (q := q) hK (fun j a b => sevV_r hK j.toNat j a (by omega)) (k - 1).toNat (by omega)
        have s2 := fun z : k ≤ q => singleV_r (t := t) (q := k) hK (by omega)
        have s3 := sevV_r (t := t) hK (q - k).toNat (q - k) (by omega) (by omega)
        have s4 := singleV_r (t := t) (q := q) hK (by omega)
        have s5 := omin_r (c := 100000) (a := splitL t (sevV t) q (k - 1).toNat) (b := singleV t q) (by omega) (by omega)
        have e1 := encF_or2 (singleV t k)
        have e2 := encF_or2 (sevV t (q - k))
        have e3 := encF_or2 (omin (splitL t (sevV t) q (k - 1).toNat) (singleV t q))
        have s2 := s2 (by omega)
        refine x_iload_n (pc := 229) dX12_layPrices_229 rfl rfl ?_
        refine x_iload_n (pc := 230) dX12_layPrices_230 rfl rfl ?_
        refine x_icmp_ge (tgt := 296) (pc := 231) dX12_layPrices_231 (by decide) (fun c_231 => ?_) (fun c_231 => ?_)
        · refine x_iinc (pc := 296) dX12_layPrices_296 rfl (by omega) (by decide) rfl ?_
          refine x_goto (tgt := 208) (pc := 299) dX12_layPrices_299 (by decide) ?_
          refine x_lo (lo' := [(0, (2, m)), (2, (0, q + 1))]) ⟨rfl, rfl, trivial⟩ (ih2 (q + 1) _ ⟨by omega, by omega, i3, i4, i5, i6, fun j x y => ?_⟩ (by omega))
          by_cases e : j = q
          · subst e
            have hse := sevV_eq (t := t) (q := j) (by omega)
            have h1 := splitL_1 (t := t) (f := sevV t) (q := j) (i := j - 1) (by omega)
            rw [show j - 1 + 1 = j by omega, show j - j = (0 : Int) by omega, show sevV t 0 = 0 from rfl] at h1
            rw [i8, hse, h1, show k = j by omega]
            congr 2
            unfold oadd
            (repeat' split) <;> omega
          · exact i7 j x (by omega)
        · refine x_aload_n (pc := 234) dX12_layPrices_234 rfl rfl ?_
          refine x_getR (jj := 16) (pc := 235) dX12_layPrices_235 fX12_30 hS.1 rfl (by decide) rfl rM_16 ?_
          refine x_iload_n (pc := 238) dX12_layPrices_238 rfl rfl ?_
          refine x_ialoadV (pc := 239) dX12_layPrices_239 (sM_16 hS) (by omega) (by (repeat (first | rewrite [up_s] | rewrite [up_i (by omega)] | rewrite [up_a (by omega)] | rewrite [stM_a (by omega) (by omega)])); first | exact i6 _ (by omega) (by omega) | exact i7 _ (by omega) (by omega) | exact i8 | rfl) (fun g_239 => ?_)
          refine x_ldcw (n := 1000000000) (pc := 240) cX12_265 (by decide) dX12_layPrices_240 ?_
          refine x_icmp_eq (tgt := 290) (pc := 243) dX12_layPrices_243 (by decide) (fun c_243 => ?_) (fun c_243 => ?_)
          · refine x_iinc (pc := 290) dX12_layPrices_290 rfl (by omega) (by decide) rfl ?_
            refine x_goto (tgt := 229) (pc := 293) dX12_layPrices_293 (by decide) ?_
            refine x_lo (lo' := [(0, (2, m)), (2, (0, q)), (3, (0, k + 1))]) ⟨rfl, rfl, rfl, trivial⟩ (ih3 (k + 1) _ ⟨by omega, by omega, i3, i4, i5, i6, i7, ?_⟩ (by omega))
            rw [show k + 1 - 1 = k - 1 + 1 by omega, splitL_1 (by omega), show k - 1 + 1 = k by omega, enc_min2 (by omega) (by omega) (by omega) (by omega), if_pos (by omega)]
            exact i8
          · refine x_aload_n (pc := 246) dX12_layPrices_246 rfl rfl ?_
            refine x_getR (jj := 18) (pc := 247) dX12_layPrices_247 fX12_36 hS.1 rfl (by decide) rfl rM_18 ?_
            refine x_iload_n (pc := 250) dX12_layPrices_250 rfl rfl ?_
            refine x_iload_n (pc := 251) dX12_layPrices_251 rfl rfl ?_
            refine x_isub (pc := 252) dX12_layPrices_252 (by omega) ?_
            refine x_ialoadV (pc := 253) dX12_layPrices_253 (sM_18 hS) (by omega) (by (repeat (first | rewrite [up_s] | rewrite [up_i (by omega)] | rewrite [up_a (by omega)] | rewrite [stM_a (by omega) (by omega)])); first | exact i6 _ (by omega) (by omega) | exact i7 _ (by omega) (by omega) | exact i8 | rfl) (fun g_253 => ?_)
            refine x_ldcw (n := 1000000000) (pc := 254) cX12_265 (by decide) dX12_layPrices_254 ?_
            refine x_icmp_eq (tgt := 290) (pc := 257) dX12_layPrices_257 (by decide) (fun c_257 => ?_) (fun c_257 => ?_)
            · refine x_iinc (pc := 290) dX12_layPrices_290 rfl (by omega) (by decide) rfl ?_
              refine x_goto (tgt := 229) (pc := 293) dX12_layPrices_293 (by decide) ?_
              refine x_lo (lo' := [(0, (2, m)), (2, (0, q)), (3, (0, k + 1))]) ⟨rfl, rfl, rfl, trivial⟩ (ih3 (k + 1) _ ⟨by omega, by omega, i3, i4, i5, i6, i7, ?_⟩ (by omega))
              rw [show k + 1 - 1 = k - 1 + 1 by omega, splitL_1 (by omega), show k - 1 + 1 = k by omega, enc_min2 (by omega) (by omega) (by omega) (by omega), if_pos (by omega)]
              exact i8
            · refine x_aload_n (pc := 260) dX12_layPrices_260 rfl rfl ?_
              refine x_getR (jj := 18) (pc := 261) dX12_layPrices_261 fX12_36 hS.1 rfl (by decide) rfl rM_18 ?_
              refine x_iload_n (pc := 264) dX12_layPrices_264 rfl rfl ?_
              refine x_aload_n (pc := 265) dX12_layPrices_265 rfl rfl ?_
              refine x_getR (jj := 18) (pc := 266) dX12_layPrices_266 fX12_36 hS.1 rfl (by decide) rfl rM_18 ?_
              refine x_iload_n (pc := 269) dX12_layPrices_269 rfl rfl ?_
              refine x_ialoadV (pc := 270) dX12_layPrices_270 (sM_18 hS) (by omega) (by (repeat (first | rewrite [up_s] | rewrite [up_i (by omega)] | rewrite [up_a (by omega)] | rewrite [stM_a (by omega) (by omega)])); first | exact i6 _ (by omega) (by omega) | exact i7 _ (by omega) (by omega) | exact i8 | rfl) (fun g_270 => ?_)
              refine x_aload_n (pc := 271) dX12_layPrices_271 rfl rfl ?_
              refine x_getR (jj := 16) (pc := 272) dX12_layPrices_272 fX12_30 hS.1 rfl (by decide) rfl rM_16 ?_
              refine x_iload_n (pc := 275) dX12_layPrices_275 rfl rfl ?_
              refine x_ialoadV (pc := 276) dX12_layPrices_276 (sM_16 hS) (by omega) (by (repeat (first | rewrite [up_s] | rewrite [up_i (by omega)] | rewrite [up_a (by omega)] | rewrite [stM_a (by omega) (by omega)])); first | exact i6 _ (by omega) (by omega) | exact i7 _ (by omega) (by omega) | exact i8 | rfl) (fun g_276 => ?_)
              refine x_aload_n (pc := 277) dX12_layPrices_277 rfl rfl ?_
              refine x_getR (jj := 18) (pc := 278) dX12_layPrices_278 fX12_36 hS.1 rfl (by decide) rfl rM_18 ?_
              refine x_iload_n (pc := 281) dX12_layPrices_281 rfl rfl ?_
              refine x_iload_n (pc := 282) dX12_layPrices_282 rfl rfl ?_
              refine x_isub (pc := 283) dX12_layPrices_283 (by omega) ?_
              refine x_ialoadV (pc := 284) dX12_layPrices_284 (sM_18 hS) (by omega) (by (repeat (first | rewrite [up_s] | rewrite [up_i (by omega)] | rewrite [up_a (by omega)] | rewrite [stM_a (by omega) (by omega)])); first | exact i6 _ (by omega) (by omega) | exact i7 _ (by omega) (by omega) | exact i8 | rfl) (fun g_284 => ?_)
              refine x_iadd (pc := 285) dX12_layPrices_285 (by omega) ?_
              refine x_min (pc := 286) mtX12_271 dX12_layPrices_286 (by decide) (Nat.le_of_ble_eq_true rfl) ?_
              refine x_iastore (pc := 289) dX12_layPrices_289 (sM_18 hS) (by omega) ?_
              refine x_iinc (pc := 290) dX12_layPrices_290 rfl (by omega) (by decide) rfl ?_
              refine x_goto (tgt := 229) (pc := 293) dX12_layPrices_293 (by decide) ?_
              refine x_lo (lo' := [(0, (2, m)), (2, (0, q)), (3, (0, k + 1))]) ⟨rfl, rfl, rfl, trivial⟩ (ih3 (k + 1) _ ⟨by omega, by omega, i3.up (by omega), (up_a (by omega)).trans i4, (up_a (by omega)).trans i5, fun j x y => (up_a (by omega)).trans (i6 j x y), fun j x y => (up_i (by omega)).trans (i7 j x y), ?_⟩ (by omega))
              rw [show k + 1 - 1 = k - 1 + 1 by omega, splitL_1 (by omega), show k - 1 + 1 = k by omega, enc_min2 (by omega) (by omega) (by omega) (by omega), if_neg (by omega), up_s]
              try omega)
      exact loop3 : ∀ (k : Int) (M2 : aM), (fun k M2 => 1 ≤ k ∧ k ≤ q ∧ frZ M M2 m ∧ M2 m 19 = 1 ∧ M2 (m + 7) 0 = 0 ∧ (∀ j, 1 ≤ j → j ≤ 200 → M2 (m + 6) j = encF FAR2 (singleV t j)) ∧ (∀ j, 0 ≤ j → j < q → M2 (m + 8) j = encF FAR2 (sevV t j)) ∧ M2 (m + 8) q = encF FAR2 (omin (splitL t (sevV t) q (k - 1).toNat) (singleV t q))) k M2 → aX l E pX12_layPrices (aU N S (fun M' => frZ M M' m ∧ RP M' m t ∧ z78 M' m)) 0 0 N S M2 229 [(0, (2, m)), (2, (0, q)), (3, (0, k))] [])
    refine x_iload_n (pc := 208) dX12_layPrices_208 rfl rfl ?_
    refine x_sipush (pc := 209) dX12_layPrices_209 (by decide) ?_
    refine x_icmp_gt (tgt := 302) (pc := 212) dX12_layPrices_212 (by decide) (fun c_212 => ?_) (fun c_212 => ?_)
    · refine x_return (pc := 302) dX12_layPrices_302 rfl (by decide) ?_
      refine ⟨rfl, rfl, rfl, j3, ⟨j4, fun j x y => ⟨j7 j x (by omega), fun z => j6 j z y⟩⟩, j5, j7 0 (by omega) (by omega)⟩
    · refine x_aload_n (pc := 215) dX12_layPrices_215 rfl rfl ?_
      refine x_getR (jj := 18) (pc := 216) dX12_layPrices_216 fX12_36 hS.1 rfl (by decide) rfl rM_18 ?_
      refine x_iload_n (pc := 219) dX12_layPrices_219 rfl rfl ?_
      refine x_aload_n (pc := 220) dX12_layPrices_220 rfl rfl ?_
      refine x_getR (jj := 16) (pc := 221) dX12_layPrices_221 fX12_30 hS.1 rfl (by decide) rfl rM_16 ?_
      refine x_iload_n (pc := 224) dX12_layPrices_224 rfl rfl ?_
      refine x_ialoadV (pc := 225) dX12_layPrices_225 (sM_16 hS) (by omega) (by (repeat (first | rewrite [up_s] | rewrite [up_i (by omega)] | rewrite [up_a (by omega)] | rewrite [stM_a (by omega) (by omega)])); first | exact j6 _ (by omega) (by omega) | rfl) (fun g_225 => ?_)
      refine x_iastore (pc := 226) dX12_layPrices_226 (sM_18 hS) (by omega) ?_
      refine x_iconst (pc := 227) dX12_layPrices_227 (by decide) ?_
      refine x_istore_n (pc := 228) dX12_layPrices_228 rfl (by decide) rfl ?_
      refine x_lo (lo' := [(0, (2, m)), (2, (0, q)), (3, (0, 1))]) ⟨rfl, rfl, rfl, trivial⟩ (loop3 (by omega) 1 _ ⟨by omega, by omega, j3.up (by omega), (up_a (by omega)).trans j4, (up_a (by omega)).trans j5, fun j x y => (up_a (by omega)).trans (j6 j x y), fun j x y => (up_i (by omega)).trans (j7 j x y), ?_⟩)
      rw [up_s]
      unfold omin
      rw [if_pos (show splitL t (sevV t) q (1 - 1 : Int).toNat = -1 from rfl)])
  have loop1 := a_loop3 (fun q s M1 => 1 ≤ q ∧ q ≤ 201 ∧ s = encF FAR2 (sumV t (q - 1).toNat) ∧ frZ M M1 m ∧ M1 m 19 = 1 ∧ M1 (m + 8) 0 = 0 ∧ (∀ j, 0 ≤ j → j < q → M1 (m + 7) j = cartV t j) ∧ (∀ j, 1 ≤ j → j < q → M1 (m + 6) j = encF FAR2 (singleV t j))) (fun q _ _ => (201 - q).toNat) (fun q s M1 => aX l E pX12_layPrices (aU N S (fun M' => frZ M M' m ∧ RP M' m t ∧ z78 M' m)) 0 0 N S M1 17 [(0, (2, m)), (1, (0, s)), (2, (0, q))] []) (by
    intro q s M1 hI1 ih1
    obtain ⟨i1, i2, i3, i4, i5, i6, i7, i8⟩ := hI1
    have hE1 : RE M1 m t := hE.cg i4.k
    have J51 := fun hq : q ≤ 200 => (show _ from by
      have hcr : ∀ j, 0 ≤ j → j < q → 0 ≤ cartV t j ∧ cartV t j ≤ 99 * j := fun j a b => cartV_r hK j.toNat j a (by omega)
      have J82 : ∀ s1 pl : Int, s1 = encF FAR2 (sumV t q.toNat) → pl = encF FAR2 (plainV t q) → aX l E pX12_layPrices (aU N S (fun M' => frZ M M' m ∧ RP M' m t ∧ z78 M' m)) 0 0 N S M1 82 [(0, (2, m)), (1, (0, s1)), (2, (0, q)), (3, (0, priceV t q))] [(0, pl)] := by
        intro s1 pl hs1 hpl
        have loopc := a_loop2 (fun c y => 0 ≤ c ∧ c ≤ t 233 ∧ y = (if c = 0 then (if t 233 = 0 then 0 else 1000000000) else cartL t (cartV t) q c.toNat) ∧ 0 ≤ y ∧ y ≤ 1000000000) (fun c _ => (t 233 - c).toNat) (fun c y => aX l E pX12_layPrices (aU N S (fun M' => frZ M M' m ∧ RP M' m t ∧ z78 M' m)) 0 0 N S M1 107 [(0, (2, m)), (1, (0, s1)), (2, (0, q)), (3, (0, priceV t q)), (4, (0, pl)), (5, (0, y)), (6, (0, c))] []) (by
          intro c y hIc ihc
          obtain ⟨c0, c1, hx, y0, y1⟩ := hIc
          have hk := fun z : c < t 233 => hK.2.2.2.2 c c0 z
          have k4 := hK.2.2.2.1
          refine x_iload (pc := 107) dX12_layPrices_107 rfl ?_
          refine x_aload_n (pc := 109) dX12_layPrices_109 rfl rfl ?_
          refine x_getR (jj := 0) (pc := 110) dX12_layPrices_110 fX12_9 hS.1 rfl (by decide) rfl rM_0 ?_
          refine x_sipush (pc := 113) dX12_layPrices_113 (by decide) ?_
          refine x_ialoadV (pc := 116) dX12_layPrices_116 (sM_0 hS) (by omega) (by (repeat (first | rewrite [up_s] | rewrite [up_i (by omega)] | rewrite [up_a (by omega)] | rewrite [stM_a (by omega) (by omega)])); first | exact hE1.2.1 _ (by omega) (by omega) (by omega) | exact i7 _ (by omega) (by omega) | rfl) (fun g_116 => ?_)
          refine x_icmp_ge (tgt := 167) (pc := 117) dX12_layPrices_117 (by decide) (fun c_117 => ?_) (fun c_117 => ?_)
          · have hy : y = cartV t q := by
              rw [cartV_eq hK (by omega)]
              by_cases e : t 233 = 0
              · rw [if_pos (by omega), if_pos e] at hx
                rw [hx, e]
                rfl
              · rw [if_neg (by omega)] at hx
                rw [hx, show c = t 233 by omega]
            have hcq := cartV_r hK q.toNat q (by omega) (by omega)
            have hpr := plainV_r (t := t) (q := q) hK (by omega)
            have epl := encF_or2 (plainV t q)
            have esg := encF_or2 (singleV t q)
            refine x_aload_n (pc := 167) dX12_layPrices_167 rfl rfl ?_
            refine x_getR (jj := 17) (pc := 168) dX12_layPrices_168 fX12_33 hS.1 rfl (by decide) rfl rM_17 ?_
            refine x_iload_n (pc := 171) dX12_layPrices_171 rfl rfl ?_
            refine x_iload (pc := 172) dX12_layPrices_172 rfl ?_
            refine x_iastore (pc := 174) dX12_layPrices_174 (sM_17 hS) (by omega) ?_
            refine x_aload_n (pc := 175) dX12_layPrices_175 rfl rfl ?_
            refine x_getR (jj := 16) (pc := 176) dX12_layPrices_176 fX12_30 hS.1 rfl (by decide) rfl rM_16 ?_
            refine x_iload_n (pc := 179) dX12_layPrices_179 rfl rfl ?_
            refine x_iload (pc := 180) dX12_layPrices_180 rfl ?_
            refine x_ldcw (n := 1000000000) (pc := 182) cX12_265 (by decide) dX12_layPrices_182 ?_
            refine x_icmp_ne (tgt := 194) (pc := 185) dX12_layPrices_185 (by decide) (fun c_185 => ?_) (fun c_185 => ?_)
            · have hsg : pl + y = encF FAR2 (singleV t q) := by
                have hz : singleV t q = plainV t q + cartV t q := by
                  unfold singleV
                  rw [if_neg (by omega)]
                omega
              refine x_iload (pc := 194) dX12_layPrices_194 rfl ?_
              refine x_iload (pc := 196) dX12_layPrices_196 rfl ?_
              refine x_iadd (pc := 198) dX12_layPrices_198 (by omega) ?_
              refine x_iastore (pc := 199) dX12_layPrices_199 (sM_16 hS) (by omega) ?_
              refine x_iinc (pc := 200) dX12_layPrices_200 rfl (by omega) (by decide) rfl ?_
              refine x_goto (tgt := 17) (pc := 203) dX12_layPrices_203 (by decide) ?_
              refine x_lo (lo' := [(0, (2, m)), (1, (0, s1)), (2, (0, q + 1))]) ⟨rfl, rfl, rfl, trivial⟩ (ih1 (q + 1) _ _ ⟨by omega, by omega, ?_, (i4.up (by omega)).up (by omega), ?_, ?_, fun j x z => ?_, fun j x z => ?_⟩ (by omega))
              · rw [show q + 1 - 1 = q by omega]; exact hs1
              · rw [up_a (by omega), up_a (by omega)]; exact i5
              · rw [up_a (by omega), up_a (by omega)]; exact i6
              · rw [up_a (by omega)]
                by_cases e : j = q
                · subst e; rw [up_s]; exact hy
                · rw [up_i e]; exact i7 j x (by omega)
              · by_cases e : j = q
                · subst e; rw [up_s]; exact hsg
                · rw [up_i e, up_a (by omega)]; exact i8 j x (by omega)
            · have hsg : (1000000000 : Int) = encF FAR2 (singleV t q) := by
                have hz : singleV t q = -1 := by
                  unfold singleV
                  rw [if_pos (by omega)]
                omega
              refine x_ldcw (n := 1000000000) (pc := 188) cX12_265 (by decide) dX12_layPrices_188 ?_
              refine x_goto (tgt := 199) (pc := 191) dX12_layPrices_191 (by decide) ?_
              refine x_iastore (pc := 199) dX12_layPrices_199 (sM_16 hS) (by omega) ?_
              refine x_iinc (pc := 200) dX12_layPrices_200 rfl (by omega) (by decide) rfl ?_
              refine x_goto (tgt := 17) (pc := 203) dX12_layPrices_203 (by decide) ?_
              refine x_lo (lo' := [(0, (2, m)), (1, (0, s1)), (2, (0, q + 1))]) ⟨rfl, rfl, rfl, trivial⟩ (ih1 (q + 1) _ _ ⟨by omega, by omega, ?_, (i4.up (by omega)).up (by omega), ?_, ?_, fun j x z => ?_, fun j x z => ?_⟩ (by omega))
              · rw [show q + 1 - 1 = q by omega]; exact hs1
              · rw [up_a (by omega), up_a (by omega)]; exact i5
              · rw [up_a (by omega), up_a (by omega)]; exact i6
              · rw [up_a (by omega)]
                by_cases e : j = q
                · subst e; rw [up_s]; exact hy
                · rw [up_i e]; exact i7 j x (by omega)
              · by_cases e : j = q
                · subst e; rw [up_s]; exact hsg
                · rw [up_i e, up_a (by omega)]; exact i8 j x (by omega)
          · refine x_iload (pc := 120) dX12_layPrices_120 rfl ?_
            refine x_aload_n (pc := 122) dX12_layPrices_122 rfl rfl ?_
            refine x_getR (jj := 0) (pc := 123) dX12_layPrices_123 fX12_9 hS.1 rfl (by decide) rfl rM_0 ?_
            refine x_sipush (pc := 126) dX12_layPrices_126 (by decide) ?_
            refine x_iload (pc := 129) dX12_layPrices_129 rfl ?_
            refine x_iadd (pc := 131) dX12_layPrices_131 (by omega) ?_
            refine x_ialoadV (pc := 132) dX12_layPrices_132 (sM_0 hS) (by omega) (by (repeat (first | rewrite [up_s] | rewrite [up_i (by omega)] | rewrite [up_a (by omega)] | rewrite [stM_a (by omega) (by omega)])); first | exact hE1.2.1 _ (by omega) (by omega) (by omega) | exact i7 _ (by omega) (by omega) | rfl) (fun g_132 => ?_)
            refine x_aload_n (pc := 133) dX12_layPrices_133 rfl rfl ?_
            refine x_getR (jj := 17) (pc := 134) dX12_layPrices_134 fX12_33 hS.1 rfl (by decide) rfl rM_17 ?_
            refine x_iconst (pc := 137) dX12_layPrices_137 (by decide) ?_
            refine x_iload_n (pc := 138) dX12_layPrices_138 rfl rfl ?_
            refine x_aload_n (pc := 139) dX12_layPrices_139 rfl rfl ?_
            refine x_getR (jj := 0) (pc := 140) dX12_layPrices_140 fX12_9 hS.1 rfl (by decide) rfl rM_0 ?_
            refine x_sipush (pc := 143) dX12_layPrices_143 (by decide) ?_
            refine x_iload (pc := 146) dX12_layPrices_146 rfl ?_
            refine x_iadd (pc := 148) dX12_layPrices_148 (by omega) ?_
            refine x_ialoadV (pc := 149) dX12_layPrices_149 (sM_0 hS) (by omega) (by (repeat (first | rewrite [up_s] | rewrite [up_i (by omega)] | rewrite [up_a (by omega)] | rewrite [stM_a (by omega) (by omega)])); first | exact hE1.2.1 _ (by omega) (by omega) (by omega) | exact i7 _ (by omega) (by omega) | rfl) (fun g_149 => ?_)
            refine x_isub (pc := 150) dX12_layPrices_150 (by omega) ?_
            refine x_max (pc := 151) mtX12_266 dX12_layPrices_151 (by decide) (Nat.le_of_ble_eq_true rfl) ?_
            refine x_ialoadV (pc := 154) dX12_layPrices_154 (sM_17 hS) (by omega) (by (repeat (first | rewrite [up_s] | rewrite [up_i (by omega)] | rewrite [up_a (by omega)] | rewrite [stM_a (by omega) (by omega)])); first | exact hE1.2.1 _ (by omega) (by omega) (by omega) | exact i7 _ (by omega) (by omega) | rfl) (fun g_154 => ?_)
            refine x_iadd (pc := 155) dX12_layPrices_155 (by have hc := hcr (max 0 (q - t (234 + c))) (by omega) (by omega); omega) ?_
            refine x_min (pc := 156) mtX12_271 dX12_layPrices_156 (by decide) (Nat.le_of_ble_eq_true rfl) ?_
            refine x_istore (pc := 159) dX12_layPrices_159 (by decide) rfl ?_
            refine x_iinc (pc := 161) dX12_layPrices_161 rfl (by omega) (by decide) rfl ?_
            refine x_goto (tgt := 107) (pc := 164) dX12_layPrices_164 (by decide) ?_
            refine x_lo (lo' := [(0, (2, m)), (1, (0, s1)), (2, (0, q)), (3, (0, priceV t q)), (4, (0, pl)), (5, (0, min y (t (238 + c) + cartV t (max 0 (q - t (234 + c)))))), (6, (0, c + 1))]) ⟨rfl, rfl, rfl, rfl, rfl, rfl, rfl, trivial⟩ (ihc (c + 1) _ ⟨by omega, by omega, ?_, ?_⟩ (by omega))
            · rw [cartL_1 c0, if_neg (show ¬ c + 1 = 0 by omega)]
              by_cases e : c = 0
              · rw [if_pos e, if_neg (by omega)] at hx
                subst e
                rw [if_pos rfl, hx, Int.min_eq_right]
                · rfl
                · have hc := hcr (max 0 (q - t (234 + 0))) (by omega) (by omega)
                  omega
              · rw [if_neg e] at hx
                rw [if_neg e, hx]
            · have hc := hcr (max 0 (q - t (234 + c))) (by omega) (by omega)
              omega)
        have k4 := hK.2.2.2.1
        refine x_istore (pc := 82) dX12_layPrices_82 (by decide) rfl ?_
        refine x_aload_n (pc := 84) dX12_layPrices_84 rfl rfl ?_
        refine x_getR (jj := 0) (pc := 85) dX12_layPrices_85 fX12_9 hS.1 rfl (by decide) rfl rM_0 ?_
        refine x_sipush (pc := 88) dX12_layPrices_88 (by decide) ?_
        refine x_ialoadV (pc := 91) dX12_layPrices_91 (sM_0 hS) (by omega) (by (repeat (first | rewrite [up_s] | rewrite [up_i (by omega)] | rewrite [up_a (by omega)] | rewrite [stM_a (by omega) (by omega)])); first | exact hE1.2.1 _ (by omega) (by omega) (by omega) | rfl) (fun g_91 => ?_)
        refine x_if_ne (tgt := 99) (pc := 92) dX12_layPrices_92 (by decide) (fun c_92 => ?_) (fun c_92 => ?_)
        · refine x_ldcw (n := 1000000000) (pc := 99) cX12_265 (by decide) dX12_layPrices_99 ?_
          refine x_istore (pc := 102) dX12_layPrices_102 (by decide) rfl ?_
          refine x_iconst (pc := 104) dX12_layPrices_104 (by decide) ?_
          refine x_istore (pc := 105) dX12_layPrices_105 (by decide) rfl ?_
          first
            | exact x_lo (lo' := [(0, (2, m)), (1, (0, s1)), (2, (0, q)), (3, (0, priceV t q)), (4, (0, pl)), (5, (0, 0)), (6, (0, 0))]) ⟨rfl, rfl, rfl, rfl, rfl, rfl, rfl, trivial⟩ (loopc 0 0 ⟨by omega, by omega, by rw [if_pos rfl, if_pos (by omega)], by omega, by omega⟩)
            | exact x_lo (lo' := [(0, (2, m)), (1, (0, s1)), (2, (0, q)), (3, (0, priceV t q)), (4, (0, pl)), (5, (0, 1000000000)), (6, (0, 0))]) ⟨rfl, rfl, rfl, rfl, rfl, rfl, rfl, trivial⟩ (loopc 0 1000000000 ⟨by omega, by omega, by rw [if_pos rfl, if_neg (by omega)], by omega, by omega⟩)
        · refine x_iconst (pc := 95) dX12_layPrices_95 (by decide) ?_
          refine x_goto (tgt := 102) (pc := 96) dX12_layPrices_96 (by decide) ?_
          refine x_istore (pc := 102) dX12_layPrices_102 (by decide) rfl ?_
          refine x_iconst (pc := 104) dX12_layPrices_104 (by decide) ?_
          refine x_istore (pc := 105) dX12_layPrices_105 (by decide) rfl ?_
          first
            | exact x_lo (lo' := [(0, (2, m)), (1, (0, s1)), (2, (0, q)), (3, (0, priceV t q)), (4, (0, pl)), (5, (0, 0)), (6, (0, 0))]) ⟨rfl, rfl, rfl, rfl, rfl, rfl, rfl, trivial⟩ (loopc 0 0 ⟨by omega, by omega, by rw [if_pos rfl, if_pos (by omega)], by omega, by omega⟩)
            | exact x_lo (lo' := [(0, (2, m)), (1, (0, s1)), (2, (0, q)), (3, (0, priceV t q)), (4, (0, pl)), (5, (0, 1000000000)), (6, (0, 0))]) ⟨rfl, rfl, rfl, rfl, rfl, rfl, rfl, trivial⟩ (loopc 0 1000000000 ⟨by omega, by omega, by rw [if_pos rfl, if_neg (by omega)], by omega, by omega⟩)
      have J51 : ∀ s1 : Int, s1 = encF FAR2 (sumV t q.toNat) → aX l E pX12_layPrices (aU N S (fun M' => frZ M M' m ∧ RP M' m t ∧ z78 M' m)) 0 0 N S M1 51 [(0, (2, m)), (2, (0, q)), (3, (0, priceV t q))] [(0, s1)] := by
        intro s1 hs1
        have hp := priceV_r (t := t) (q := q) hK
        refine x_istore_n (pc := 51) dX12_layPrices_51 rfl (by decide) rfl ?_
        refine x_aload_n (pc := 52) dX12_layPrices_52 rfl rfl ?_
        refine x_getR (jj := 0) (pc := 53) dX12_layPrices_53 fX12_9 hS.1 rfl (by decide) rfl rM_0 ?_
        refine x_sipush (pc := 56) dX12_layPrices_56 (by decide) ?_
        refine x_ialoadV (pc := 59) dX12_layPrices_59 (sM_0 hS) (by omega) (by (repeat (first | rewrite [up_s] | rewrite [up_i (by omega)] | rewrite [up_a (by omega)] | rewrite [stM_a (by omega) (by omega)])); first | exact hE1.2.1 _ (by omega) (by omega) (by omega) | rfl) (fun g_59 => ?_)
        refine x_iconst (pc := 60) dX12_layPrices_60 (by decide) ?_
        refine x_icmp_ne (tgt := 68) (pc := 61) dX12_layPrices_61 (by decide) (fun c_61 => ?_) (fun c_61 => ?_)
        · refine x_iload_n (pc := 68) dX12_layPrices_68 rfl rfl ?_
          refine x_iconst (pc := 69) dX12_layPrices_69 (by decide) ?_
          refine x_icmp_ne (tgt := 79) (pc := 70) dX12_layPrices_70 (by decide) (fun c_70 => ?_) (fun c_70 => ?_)
          · refine x_iload_n (pc := 79) dX12_layPrices_79 rfl rfl ?_
            refine x_iload_n (pc := 80) dX12_layPrices_80 rfl rfl ?_
            refine x_imul (pc := 81) dX12_layPrices_81 (by have a1 : q * priceV t q ≤ q * 99 := Int.mul_le_mul_of_nonneg_left (by omega) (by omega); have a2 : q * 1 ≤ q * priceV t q := Int.mul_le_mul_of_nonneg_left (by omega) (by omega); omega) ?_
            refine x_lo (lo' := [(0, (2, m)), (1, (0, s1)), (2, (0, q)), (3, (0, priceV t q))]) ⟨rfl, rfl, rfl, rfl, trivial⟩ (J82 s1 _ hs1 ?_)
            have hz : plainV t q = q * priceV t q := by
              unfold plainV
              rw [if_neg (by omega), if_neg (by omega)]
            rw [hz]
            have a1 : q * 1 ≤ q * priceV t q := Int.mul_le_mul_of_nonneg_left (by omega) (by omega)
            exact (if_neg (by omega)).symm
          · refine x_ldcw (n := 1000000000) (pc := 73) cX12_265 (by decide) dX12_layPrices_73 ?_
            refine x_goto (tgt := 82) (pc := 76) dX12_layPrices_76 (by decide) ?_
            refine x_lo (lo' := [(0, (2, m)), (1, (0, s1)), (2, (0, q)), (3, (0, priceV t q))]) ⟨rfl, rfl, rfl, rfl, trivial⟩ (J82 s1 _ hs1 ?_)
            have hz : plainV t q = -1 := by
              unfold plainV
              rw [if_neg (by omega), if_pos (by omega)]
            rw [hz]
            rfl
        · refine x_iload_n (pc := 64) dX12_layPrices_64 rfl rfl ?_
          refine x_goto (tgt := 82) (pc := 65) dX12_layPrices_65 (by decide) ?_
          refine x_lo (lo' := [(0, (2, m)), (1, (0, s1)), (2, (0, q)), (3, (0, priceV t q))]) ⟨rfl, rfl, rfl, rfl, trivial⟩ (J82 s1 _ hs1 ?_)
          have hz : plainV t q = sumV t q.toNat := by
            unfold plainV
            rw [if_pos (by omega)]
          rw [hz]
          exact hs1
      exact J51 : ∀ s1 : Int, s1 = encF FAR2 (sumV t q.toNat) → aX l E pX12_layPrices (aU N S (fun M' => frZ M M' m ∧ RP M' m t ∧ z78 M' m)) 0 0 N S M1 51 [(0, (2, m)), (2, (0, q)), (3, (0, priceV t q))] [(0, s1)])
    have hp := priceV_r (t := t) (q := q) hK
    have hsr := sumV_r (t := t) hK (q - 1).toNat
    have esr := encF_or2 (sumV t (q - 1).toNat)
    rw [← i3] at esr
    have esq := encF_or2 (sumV t q.toNat)
    refine x_iload_n (pc := 17) dX12_layPrices_17 rfl rfl ?_
    refine x_sipush (pc := 18) dX12_layPrices_18 (by decide) ?_
    refine x_icmp_gt (tgt := 206) (pc := 21) dX12_layPrices_21 (by decide) (fun c_21 => ?_) (fun c_21 => ?_)
    · refine x_iconst (pc := 206) dX12_layPrices_206 (by decide) ?_
      refine x_istore_n (pc := 207) dX12_layPrices_207 rfl (by decide) rfl ?_
      exact x_lo (lo' := [(0, (2, m)), (2, (0, 1))]) ⟨rfl, rfl, trivial⟩ (loop2 1 M1 ⟨by omega, by omega, i4, i5, by rw [i7 0 (by omega) (by omega)]; rfl, fun j x y => i8 j x (by omega), fun j x y => by rw [show j = 0 by omega, i6]; rfl⟩)
    · refine x_aload_n (pc := 24) dX12_layPrices_24 rfl rfl ?_
      refine x_iload_n (pc := 25) dX12_layPrices_25 rfl rfl ?_
      refine x_callV1 (pc := 26) dX12_layPrices_26 rfl kX12_262 (s_priceAt hfl m t hS hE1 hK q) hS.1 rfl rfl (Nat.le_of_ble_eq_true rfl) (k_R ?_) n_R
      refine x_istore_n (pc := 29) dX12_layPrices_29 rfl (by decide) rfl ?_
      refine x_iload_n (pc := 30) dX12_layPrices_30 rfl rfl ?_
      refine x_iconst (pc := 31) dX12_layPrices_31 (by decide) ?_
      refine x_icmp_eq (tgt := 42) (pc := 32) dX12_layPrices_32 (by decide) (fun c_32 => ?_) (fun c_32 => ?_)
      · refine x_ldcw (n := 1000000000) (pc := 42) cX12_265 (by decide) dX12_layPrices_42 ?_
        refine x_goto (tgt := 51) (pc := 45) dX12_layPrices_45 (by decide) ?_
        refine x_lo (lo' := [(0, (2, m)), (2, (0, q)), (3, (0, priceV t q))]) ⟨rfl, rfl, rfl, trivial⟩ (J51 (by omega) _ ?_)
        have hz := sumV_1 (t := t) (q := q) (by omega)
        first
          | (rw [if_pos (by omega)] at hz; rw [hz]; rfl)
          | (rw [if_neg (by omega)] at hz; omega)
      · refine x_iload_n (pc := 35) dX12_layPrices_35 rfl rfl ?_
        refine x_ldcw (n := 1000000000) (pc := 36) cX12_265 (by decide) dX12_layPrices_36 ?_
        refine x_icmp_ne (tgt := 48) (pc := 39) dX12_layPrices_39 (by decide) (fun c_39 => ?_) (fun c_39 => ?_)
        · refine x_iload_n (pc := 48) dX12_layPrices_48 rfl rfl ?_
          refine x_iload_n (pc := 49) dX12_layPrices_49 rfl rfl ?_
          refine x_iadd (pc := 50) dX12_layPrices_50 (by have hsr := sumV_r (t := t) hK (q - 1).toNat; omega) ?_
          refine x_lo (lo' := [(0, (2, m)), (2, (0, q)), (3, (0, priceV t q))]) ⟨rfl, rfl, rfl, trivial⟩ (J51 (by omega) _ ?_)
          have hz := sumV_1 (t := t) (q := q) (by omega)
          first
            | (rw [if_pos (by omega)] at hz; rw [hz]; rfl)
            | (rw [if_neg (by omega)] at hz; omega)
        · refine x_ldcw (n := 1000000000) (pc := 42) cX12_265 (by decide) dX12_layPrices_42 ?_
          refine x_goto (tgt := 51) (pc := 45) dX12_layPrices_45 (by decide) ?_
          refine x_lo (lo' := [(0, (2, m)), (2, (0, q)), (3, (0, priceV t q))]) ⟨rfl, rfl, rfl, trivial⟩ (J51 (by omega) _ ?_)
          have hz := sumV_1 (t := t) (q := q) (by omega)
          first
            | (rw [if_pos (by omega)] at hz; rw [hz]; rfl)
            | (rw [if_neg (by omega)] at hz; omega))
  refine x_aload_n (pc := 0) dX12_layPrices_0 rfl rfl ?_
  refine x_getIV (jj := 19) (pc := 1) dX12_layPrices_1 fX12_110 hS.1 rfl (by decide) rfl (by (repeat (first | rewrite [up_s] | rewrite [up_i (by omega)] | rewrite [up_a (by omega)] | rewrite [stM_a (by omega) (by omega)])); rfl) ?_
  refine x_if_eq (tgt := 8) (pc := 4) dX12_layPrices_4 (by decide) (fun c_4 => ?_) (fun c_4 => ?_)
  · refine x_aload_n (pc := 8) dX12_layPrices_8 rfl rfl ?_
    refine x_iconst (pc := 9) dX12_layPrices_9 (by decide) ?_
    refine x_putZ (jj := 19) (pc := 10) dX12_layPrices_10 fX12_110 hS.1 rfl (by decide) rfl (by omega) ?_
    refine x_iconst (pc := 13) dX12_layPrices_13 (by decide) ?_
    refine x_istore_n (pc := 14) dX12_layPrices_14 rfl (by decide) rfl ?_
    refine x_iconst (pc := 15) dX12_layPrices_15 (by decide) ?_
    refine x_istore_n (pc := 16) dX12_layPrices_16 rfl (by decide) rfl ?_
    exact x_lo (lo' := [(0, (2, m)), (1, (0, 0)), (2, (0, 1))]) ⟨rfl, rfl, rfl, trivial⟩ (loop1 1 0 _ ⟨by omega, by omega, rfl, frZ.rf.up (by omega), up_s, (up_a (by omega)).trans hP.2.2, fun j x y => by rw [show j = 0 by omega, up_a (by omega), hP.2.1]; rfl, fun j x y => absurd x (by omega)⟩)
  · refine x_return (pc := 7) dX12_layPrices_7 rfl (by decide) ?_
    refine ⟨rfl, rfl, rfl, frZ.rf, ?_, hP.2⟩
    rcases hP.1 with h9 | h9
    · exact absurd h9 (by omega)
    · exact h9
theorem s_layPrices2 {l : Launch} {E : aE} {N : Nat} {S : aS} {M : aM} (hfl : l.stackTraces = false) (m : Int) (hS : lyM S m) (h9 : M m 19 = 1) : aMt l E pX12_layPrices [(2, m)] N S M (aU N S (fun M' => M' = M)) := by
  refine a_met hfl rfl (by decide +kernel) (Nat.le_of_ble_eq_true rfl) ?_
  refine x_aload_n (pc := 0) dX12_layPrices_0 rfl rfl ?_
  refine x_getIV (jj := 19) (pc := 1) dX12_layPrices_1 fX12_110 hS.1 rfl (by decide) rfl (by (repeat (first | rewrite [up_s] | rewrite [up_i (by omega)] | rewrite [up_a (by omega)] | rewrite [stM_a (by omega) (by omega)])); rfl) ?_
  refine x_if_eq (tgt := 8) (pc := 4) dX12_layPrices_4 (by decide) (fun c_4 => ?_) (fun c_4 => ?_)
  · exfalso; omega
  · refine x_return (pc := 7) dX12_layPrices_7 rfl (by decide) ?_
    exact ⟨rfl, rfl, rfl, rfl⟩
theorem s_buysOf {l : Launch} {E : aE} {N : Nat} {S : aS} {M : aM} (hfl : l.stackTraces = false) (m : Int) (t : Int → Int) (hS : lyM S m) (hE : RE M m t) (hK : TT t) (hP : RP0 M m t) (q k : Int) (hq : 0 ≤ q ∧ q ≤ 200) (hk : 0 ≤ k ∧ k < 6) (ht : 0 ≤ t (245 + k) ∧ t (245 + k) ≤ 99) : aMt l E pX12_buysOf [(2, m), (0, q), (0, k)] N S M (aG N S (fun v M' => v = (0, encF FAR2 (buysV t q k)) ∧ frZ M M' m ∧ RP M' m t ∧ z78 M' m)) := by
  refine a_met hfl rfl (by decide +kernel) (Nat.le_of_ble_eq_true rfl) ?_
  refine x_aload_n (pc := 0) dX12_buysOf_0 rfl rfl ?_
  refine x_callV0 (pc := 1) dX12_buysOf_1 rfl kX12_276 (s_layPrices hfl m t hS hE hK hP) hS.1 rfl rfl (Nat.le_of_ble_eq_true rfl) (k_U (fun M9 hM9 => ?_)) n_U
  obtain ⟨f9, p9, z9⟩ := hM9
  have hE9 := hE.cg f9.k
  have hv9 := (p9.2 q hq.1 hq.2).1
  have hr9 := sevV_r (t := t) hK q.toNat q (by omega) (by omega)
  have he9 := encF_or2 (sevV t q)
  have a1 : q * t (245 + k) ≤ q * 99 := Int.mul_le_mul_of_nonneg_left ht.2 (by omega)
  have a2 : 0 ≤ q * t (245 + k) := Int.mul_nonneg (by omega) ht.1
  refine x_aload_n (pc := 4) dX12_buysOf_4 rfl rfl ?_
  refine x_getR (jj := 18) (pc := 5) dX12_buysOf_5 fX12_36 hS.1 rfl (by decide) rfl rM_18 ?_
  refine x_iload_n (pc := 8) dX12_buysOf_8 rfl rfl ?_
  refine x_ialoadV (pc := 9) dX12_buysOf_9 (sM_18 hS) (by omega) (by (repeat (first | rewrite [up_s] | rewrite [up_i (by omega)] | rewrite [up_a (by omega)] | rewrite [stM_a (by omega) (by omega)])); first | exact hv9 | exact hE9.2.1 _ (by omega) (by omega) (by omega) | rfl) (fun g_9 => ?_)
  refine x_ldcw (n := 1000000000) (pc := 10) cX12_265 (by decide) dX12_buysOf_10 ?_
  refine x_icmp_ne (tgt := 22) (pc := 13) dX12_buysOf_13 (by decide) (fun c_13 => ?_) (fun c_13 => ?_)
  · refine x_aload_n (pc := 22) dX12_buysOf_22 rfl rfl ?_
    refine x_getR (jj := 18) (pc := 23) dX12_buysOf_23 fX12_36 hS.1 rfl (by decide) rfl rM_18 ?_
    refine x_iload_n (pc := 26) dX12_buysOf_26 rfl rfl ?_
    refine x_ialoadV (pc := 27) dX12_buysOf_27 (sM_18 hS) (by omega) (by (repeat (first | rewrite [up_s] | rewrite [up_i (by omega)] | rewrite [up_a (by omega)] | rewrite [stM_a (by omega) (by omega)])); first | exact hv9 | exact hE9.2.1 _ (by omega) (by omega) (by omega) | rfl) (fun g_27 => ?_)
    refine x_iload_n (pc := 28) dX12_buysOf_28 rfl rfl ?_
    refine x_aload_n (pc := 29) dX12_buysOf_29 rfl rfl ?_
    refine x_getR (jj := 0) (pc := 30) dX12_buysOf_30 fX12_9 hS.1 rfl (by decide) rfl rM_0 ?_
    refine x_sipush (pc := 33) dX12_buysOf_33 (by decide) ?_
    refine x_iload_n (pc := 36) dX12_buysOf_36 rfl rfl ?_
    refine x_iadd (pc := 37) dX12_buysOf_37 (by omega) ?_
    refine x_ialoadV (pc := 38) dX12_buysOf_38 (sM_0 hS) (by omega) (by (repeat (first | rewrite [up_s] | rewrite [up_i (by omega)] | rewrite [up_a (by omega)] | rewrite [stM_a (by omega) (by omega)])); first | exact hv9 | exact hE9.2.1 _ (by omega) (by omega) (by omega) | rfl) (fun g_38 => ?_)
    refine x_imul (pc := 39) dX12_buysOf_39 (by omega) ?_
    refine x_iadd (pc := 40) dX12_buysOf_40 (by omega) ?_
    refine x_ireturn (pc := 41) dX12_buysOf_41 rfl (by decide) ?_
    refine ⟨_, rfl, rfl, rfl, ?_, f9, p9, z9⟩
    unfold buysV
    rw [if_neg (by omega)]
    rw [show encF FAR2 (sevV t q + q * t (245 + k)) = sevV t q + q * t (245 + k) from if_neg (by omega), show encF FAR2 (sevV t q) = sevV t q by omega]
  · refine x_ldcw (n := 1000000000) (pc := 16) cX12_265 (by decide) dX12_buysOf_16 ?_
    refine x_goto (tgt := 41) (pc := 19) dX12_buysOf_19 (by decide) ?_
    refine x_ireturn (pc := 41) dX12_buysOf_41 rfl (by decide) ?_
    refine ⟨_, rfl, rfl, rfl, ?_, f9, p9, z9⟩
    unfold buysV
    rw [if_pos (by omega)]
    rfl
theorem s_buysOf2 {l : Launch} {E : aE} {N : Nat} {S : aS} {M : aM} (hfl : l.stackTraces = false) (m : Int) (t : Int → Int) (hS : lyM S m) (hE : RE M m t) (hK : TT t) (hP : RP M m t) (q k : Int) (hq : 0 ≤ q ∧ q ≤ 200) (hk : 0 ≤ k ∧ k < 6) (ht : 0 ≤ t (245 + k) ∧ t (245 + k) ≤ 99) : aMt l E pX12_buysOf [(2, m), (0, q), (0, k)] N S M (aR (0, encF FAR2 (buysV t q k)) N S M) := by
  refine a_met hfl rfl (by decide +kernel) (Nat.le_of_ble_eq_true rfl) ?_
  refine x_aload_n (pc := 0) dX12_buysOf_0 rfl rfl ?_
  refine x_callV0 (pc := 1) dX12_buysOf_1 rfl kX12_276 (s_layPrices2 hfl m hS hP.1) hS.1 rfl rfl (Nat.le_of_ble_eq_true rfl) (k_U (fun M9 hM9 => ?_)) n_U
  subst hM9
  have hv9 := (hP.2 q hq.1 hq.2).1
  have hr9 := sevV_r (t := t) hK q.toNat q (by omega) (by omega)
  have he9 := encF_or2 (sevV t q)
  have a1 : q * t (245 + k) ≤ q * 99 := Int.mul_le_mul_of_nonneg_left ht.2 (by omega)
  have a2 : 0 ≤ q * t (245 + k) := Int.mul_nonneg (by omega) ht.1
  refine x_aload_n (pc := 4) dX12_buysOf_4 rfl rfl ?_
  refine x_getR (jj := 18) (pc := 5) dX12_buysOf_5 fX12_36 hS.1 rfl (by decide) rfl rM_18 ?_
  refine x_iload_n (pc := 8) dX12_buysOf_8 rfl rfl ?_
  refine x_ialoadV (pc := 9) dX12_buysOf_9 (sM_18 hS) (by omega) (by (repeat (first | rewrite [up_s] | rewrite [up_i (by omega)] | rewrite [up_a (by omega)] | rewrite [stM_a (by omega) (by omega)])); first | exact hv9 | exact hE.2.1 _ (by omega) (by omega) (by omega) | rfl) (fun g_9 => ?_)
  refine x_ldcw (n := 1000000000) (pc := 10) cX12_265 (by decide) dX12_buysOf_10 ?_
  refine x_icmp_ne (tgt := 22) (pc := 13) dX12_buysOf_13 (by decide) (fun c_13 => ?_) (fun c_13 => ?_)
  · refine x_aload_n (pc := 22) dX12_buysOf_22 rfl rfl ?_
    refine x_getR (jj := 18) (pc := 23) dX12_buysOf_23 fX12_36 hS.1 rfl (by decide) rfl rM_18 ?_
    refine x_iload_n (pc := 26) dX12_buysOf_26 rfl rfl ?_
    refine x_ialoadV (pc := 27) dX12_buysOf_27 (sM_18 hS) (by omega) (by (repeat (first | rewrite [up_s] | rewrite [up_i (by omega)] | rewrite [up_a (by omega)] | rewrite [stM_a (by omega) (by omega)])); first | exact hv9 | exact hE.2.1 _ (by omega) (by omega) (by omega) | rfl) (fun g_27 => ?_)
    refine x_iload_n (pc := 28) dX12_buysOf_28 rfl rfl ?_
    refine x_aload_n (pc := 29) dX12_buysOf_29 rfl rfl ?_
    refine x_getR (jj := 0) (pc := 30) dX12_buysOf_30 fX12_9 hS.1 rfl (by decide) rfl rM_0 ?_
    refine x_sipush (pc := 33) dX12_buysOf_33 (by decide) ?_
    refine x_iload_n (pc := 36) dX12_buysOf_36 rfl rfl ?_
    refine x_iadd (pc := 37) dX12_buysOf_37 (by omega) ?_
    refine x_ialoadV (pc := 38) dX12_buysOf_38 (sM_0 hS) (by omega) (by (repeat (first | rewrite [up_s] | rewrite [up_i (by omega)] | rewrite [up_a (by omega)] | rewrite [stM_a (by omega) (by omega)])); first | exact hv9 | exact hE.2.1 _ (by omega) (by omega) (by omega) | rfl) (fun g_38 => ?_)
    refine x_imul (pc := 39) dX12_buysOf_39 (by omega) ?_
    refine x_iadd (pc := 40) dX12_buysOf_40 (by omega) ?_
    refine x_ireturn (pc := 41) dX12_buysOf_41 rfl (by decide) ?_
    refine ⟨?_, rfl, rfl, rfl⟩
    unfold buysV
    rw [if_neg (by omega)]
    rw [show encF FAR2 (sevV t q + q * t (245 + k)) = sevV t q + q * t (245 + k) from if_neg (by omega), show encF FAR2 (sevV t q) = sevV t q by omega]
  · refine x_ldcw (n := 1000000000) (pc := 16) cX12_265 (by decide) dX12_buysOf_16 ?_
    refine x_goto (tgt := 41) (pc := 19) dX12_buysOf_19 (by decide) ?_
    refine x_ireturn (pc := 41) dX12_buysOf_41 rfl (by decide) ?_
    refine ⟨?_, rfl, rfl, rfl⟩
    unfold buysV
    rw [if_pos (by omega)]
    rfl
theorem s_Mprice {l : Launch} {E : aE} {N : Nat} {S : aS} {M : aM} (hfl : l.stackTraces = false) (q : Int) (m : Int) (A : aM) (hS : lyM S m) (hR : RM M m A) (hA : TOK (A 0)) : aMt l E pX12_price [(2, m), (0, q)] N S M (aG N S (opM M m 0 (spPrice A q))) := by
  refine a_met hfl rfl (by decide +kernel) (Nat.le_of_ble_eq_true rfl) ?_
  refine x_aload_n (pc := 0) dX12_price_0 rfl rfl ?_
  refine x_iconst (pc := 1) dX12_price_1 (by decide) ?_
  refine x_putI (jj := 3) (pc := 2) dX12_price_2 fX12_103 hS.1 rfl (by decide) rfl ?_
  refine x_memI (fun M1 hM1 => ?_)
  have R1 : RM M1 m A := by rw [hM1]; exact hR.up3
  have F1 : frM M M1 m := by rw [hM1]; exact frM.rf.up (by omega)
  have T1 : M1 m 3 = 0 := by rw [hM1]; exact up_s
  clear hM1
  have e0 : M1 (m + 1) 0 = A 0 0 := R1.1.1 0 (by omega) (by omega)
  have t0 := hA.1
  refine x_iload_n (pc := 5) dX12_price_5 rfl rfl ?_
  refine x_i2l (pc := 6) dX12_price_6 ?_
  refine x_lconst1 (pc := 7) dX12_price_7 ?_
  refine x_ldc2 (n := 200) (pc := 8) cX12_274 (by decide) dX12_price_8 ?_
  refine x_callS3 (pc := 11) dX12_price_11 rfl kX12_106 (s_within hfl _ _ _) rfl (Nat.le_of_ble_eq_true rfl) (k_B (fun q_11 => ?_) (fun q_11 => ?_)) n_B
  · refine x_if_ne (tgt := 23) (pc := 14) dX12_price_14 (by decide) (fun _ => ?_) (fun c => absurd c (by decide))
    refine x_aload_n (pc := 23) dX12_price_23 rfl rfl ?_
    refine x_callV0 (pc := 24) dX12_price_24 rfl kX12_276 (s_layPrices hfl m (core (A 0)) hS R1.re (core_tt hA.tt) R1.rp0) hS.1 rfl rfl (Nat.le_of_ble_eq_true rfl) (k_U (fun M9 hM9 => ?_)) n_U
    obtain ⟨f9, p9, z9⟩ := hM9
    have R9 : RM M9 m A := R1.mk9w f9.k ⟨Or.inr p9, z9⟩ (RCw.cg R1.2.2.1 (fun i => f9 _ _ (by omega) (by omega)))
    have hv9 := (p9.2 q (by omega) (by omega)).2 (by omega)
    rw [singleV_cg (u := A 0) (fun j hj => core_hi hj)] at hv9
    have he9 := encF_or2 (singleV (A 0) q)
    have T9 : M9 m 3 = 0 := (f9 m 3 (by omega) (by omega)).trans T1
    have hr9 := singleV_r (t := A 0) (q := q) hA.tt (by omega)
    refine x_aload_n (pc := 27) dX12_price_27 rfl rfl ?_
    refine x_getR (jj := 16) (pc := 28) dX12_price_28 fX12_30 hS.1 rfl (by decide) rfl rM_16 ?_
    refine x_iload_n (pc := 31) dX12_price_31 rfl rfl ?_
    refine x_ialoadV (pc := 32) dX12_price_32 (sM_16 hS) (by omega) (by (repeat (first | rewrite [up_s] | rewrite [up_i (by omega)] | rewrite [up_a (by omega)] | rewrite [stM_a (by omega) (by omega)])); first | exact hv9 | exact R1.1.1 _ (by omega) (by omega) | rfl) (fun g_32 => ?_)
    refine x_ldcw (n := 1000000000) (pc := 33) cX12_265 (by decide) dX12_price_33 ?_
    refine x_icmp_ne (tgt := 43) (pc := 36) dX12_price_36 (by decide) (fun c_36 => ?_) (fun c_36 => ?_)
    · refine x_aload_n (pc := 43) dX12_price_43 rfl rfl ?_
      refine x_getR (jj := 16) (pc := 44) dX12_price_44 fX12_30 hS.1 rfl (by decide) rfl rM_16 ?_
      refine x_iload_n (pc := 47) dX12_price_47 rfl rfl ?_
      refine x_ialoadV (pc := 48) dX12_price_48 (sM_16 hS) (by omega) (by (repeat (first | rewrite [up_s] | rewrite [up_i (by omega)] | rewrite [up_a (by omega)] | rewrite [stM_a (by omega) (by omega)])); first | exact hv9 | exact R1.1.1 _ (by omega) (by omega) | rfl) (fun g_48 => ?_)
      refine x_ireturn (pc := 49) dX12_price_49 rfl (by decide) ?_
      have e9 : spPrice A q = (0, singleV (A 0) q, A) := by
        unfold spPrice
        (repeat' split) <;> first | rfl | (exfalso; omega)
      rw [e9]
      exact ⟨_, rfl, rfl, rfl, rfl, T9, fun _ => by rw [show encF FAR2 (singleV (A 0) q) = singleV (A 0) q by omega], R9, F1.tr f9.k.fr⟩
    · refine x_iconst (pc := 39) dX12_price_39 (by decide) ?_
      refine x_goto (tgt := 49) (pc := 40) dX12_price_40 (by decide) ?_
      refine x_ireturn (pc := 49) dX12_price_49 rfl (by decide) ?_
      have e9 : spPrice A q = (0, singleV (A 0) q, A) := by
        unfold spPrice
        (repeat' split) <;> first | rfl | (exfalso; omega)
      rw [e9]
      exact ⟨_, rfl, rfl, rfl, rfl, T9, fun _ => by rw [show singleV (A 0) q = -1 by omega], R9, F1.tr f9.k.fr⟩
  · refine x_if_ne (tgt := 23) (pc := 14) dX12_price_14 (by decide) (fun c => absurd c (by decide)) (fun _ => ?_)
    refine x_aload_n (pc := 17) dX12_price_17 rfl rfl ?_
    refine x_iconst (pc := 18) dX12_price_18 (by decide) ?_
    refine x_callV1 (pc := 19) dX12_price_19 rfl kX12_116 (s_fails hfl m _ hS) hS.1 rfl rfl (Nat.le_of_ble_eq_true rfl) (k_G (fun v9 M9 hM9 => ?_)) n_G
    obtain ⟨rfl, rfl⟩ := hM9
    refine x_ireturn (pc := 22) dX12_price_22 rfl (by decide) ?_
    have e9 : spPrice A q = (1, 0, A) := by
      unfold spPrice
      (repeat' split) <;> first | rfl | (exfalso; omega)
    rw [e9]
    exact ⟨_, rfl, rfl, rfl, rfl, up_s, fun q => absurd q (show ¬ (1 : Int) = 0 by decide), R1.up3, F1.up (by omega)⟩
theorem s_Mbuys {l : Launch} {E : aE} {N : Nat} {S : aS} {M : aM} (hfl : l.stackTraces = false) (q k : Int) (m : Int) (A : aM) (hS : lyM S m) (hR : RM M m A) (hA : TOK (A 0)) : aMt l E pX12_buys [(2, m), (0, q), (0, k)] N S M (aG N S (opM M m 0 (spBuys A q k))) := by
  refine a_met hfl rfl (by decide +kernel) (Nat.le_of_ble_eq_true rfl) ?_
  refine x_aload_n (pc := 0) dX12_buys_0 rfl rfl ?_
  refine x_iconst (pc := 1) dX12_buys_1 (by decide) ?_
  refine x_putI (jj := 3) (pc := 2) dX12_buys_2 fX12_103 hS.1 rfl (by decide) rfl ?_
  refine x_memI (fun M1 hM1 => ?_)
  have R1 : RM M1 m A := by rw [hM1]; exact hR.up3
  have F1 : frM M M1 m := by rw [hM1]; exact frM.rf.up (by omega)
  have T1 : M1 m 3 = 0 := by rw [hM1]; exact up_s
  clear hM1
  have e0 : M1 (m + 1) 0 = A 0 0 := R1.1.1 0 (by omega) (by omega)
  have t0 := hA.1
  refine x_iload_n (pc := 5) dX12_buys_5 rfl rfl ?_
  refine x_i2l (pc := 6) dX12_buys_6 ?_
  refine x_lconst0 (pc := 7) dX12_buys_7 ?_
  refine x_ldc2 (n := 5) (pc := 8) cX12_127 (by decide) dX12_buys_8 ?_
  refine x_callS3 (pc := 11) dX12_buys_11 rfl kX12_106 (s_within hfl _ _ _) rfl (Nat.le_of_ble_eq_true rfl) (k_B (fun q_11 => ?_) (fun q_11 => ?_)) n_B
  · refine x_if_ne (tgt := 23) (pc := 14) dX12_buys_14 (by decide) (fun _ => ?_) (fun c => absurd c (by decide))
    refine x_iload_n (pc := 23) dX12_buys_23 rfl rfl ?_
    refine x_i2l (pc := 24) dX12_buys_24 ?_
    refine x_lconst0 (pc := 25) dX12_buys_25 ?_
    refine x_ldc2 (n := 200) (pc := 26) cX12_274 (by decide) dX12_buys_26 ?_
    refine x_callS3 (pc := 29) dX12_buys_29 rfl kX12_106 (s_within hfl _ _ _) rfl (Nat.le_of_ble_eq_true rfl) (k_B (fun q_29 => ?_) (fun q_29 => ?_)) n_B
    · refine x_if_ne (tgt := 41) (pc := 32) dX12_buys_32 (by decide) (fun _ => ?_) (fun c => absurd c (by decide))
      refine x_aload_n (pc := 41) dX12_buys_41 rfl rfl ?_
      refine x_iload_n (pc := 42) dX12_buys_42 rfl rfl ?_
      refine x_iload_n (pc := 43) dX12_buys_43 rfl rfl ?_
      refine x_callV2 (pc := 44) dX12_buys_44 rfl kX12_279 (s_buysOf hfl m (core (A 0)) hS R1.re (core_tt hA.tt) R1.rp0 q k (by omega) (by omega) (by rw [core_hi (by omega)]; exact hA.2.2.2.2.2.2.2.2.2.2.2.2.2.2.2.2.2.2.1 k (by omega) (by omega))) hS.1 rfl rfl (Nat.le_of_ble_eq_true rfl) (k_G (fun v9 M9 hM9 => ?_)) n_G
      obtain ⟨rfl, f9, p9, z9⟩ := hM9
      have R9 : RM M9 m A := R1.mk9w f9.k ⟨Or.inr p9, z9⟩ (RCw.cg R1.2.2.1 (fun i => f9 _ _ (by omega) (by omega)))
      rewrite [buysV_cg (u := A 0) (fun j hj => core_hi hj) _ _ (by omega)]
      have he9 := encF_or2 (buysV (A 0) q k)
      have hr9 := buysV_lt (t := A 0) (q := q) (k := k) hA.tt (by omega) (hA.2.2.2.2.2.2.2.2.2.2.2.2.2.2.2.2.2.2.1 k (by omega) (by omega))
      have T9 : M9 m 3 = 0 := (f9 m 3 (by omega) (by omega)).trans T1
      refine x_ldcw (n := 1000000000) (pc := 47) cX12_265 (by decide) dX12_buys_47 ?_
      refine x_icmp_ne (tgt := 57) (pc := 50) dX12_buys_50 (by decide) (fun c_50 => ?_) (fun c_50 => ?_)
      · refine x_aload_n (pc := 57) dX12_buys_57 rfl rfl ?_
        refine x_iload_n (pc := 58) dX12_buys_58 rfl rfl ?_
        refine x_iload_n (pc := 59) dX12_buys_59 rfl rfl ?_
        refine x_callV2 (pc := 60) dX12_buys_60 rfl kX12_279 (s_buysOf2 hfl m (core (A 0)) hS R9.re (core_tt hA.tt) p9 q k (by omega) (by omega) (by rw [core_hi (by omega)]; exact hA.2.2.2.2.2.2.2.2.2.2.2.2.2.2.2.2.2.2.1 k (by omega) (by omega))) hS.1 rfl rfl (Nat.le_of_ble_eq_true rfl) (k_R ?_) n_R
        rewrite [buysV_cg (u := A 0) (fun j hj => core_hi hj) _ _ (by omega)]
        refine x_ireturn (pc := 63) dX12_buys_63 rfl (by decide) ?_
        have e9 : spBuys A q k = (0, buysV (A 0) q k, A) := by
          unfold spBuys
          (repeat' split) <;> first | rfl | (exfalso; omega)
        rw [e9]
        exact ⟨_, rfl, rfl, rfl, rfl, T9, fun _ => by rw [show encF FAR2 (buysV (A 0) q k) = buysV (A 0) q k by omega], R9, F1.tr f9.k.fr⟩
      · refine x_iconst (pc := 53) dX12_buys_53 (by decide) ?_
        refine x_goto (tgt := 63) (pc := 54) dX12_buys_54 (by decide) ?_
        refine x_ireturn (pc := 63) dX12_buys_63 rfl (by decide) ?_
        have e9 : spBuys A q k = (0, buysV (A 0) q k, A) := by
          unfold spBuys
          (repeat' split) <;> first | rfl | (exfalso; omega)
        rw [e9]
        exact ⟨_, rfl, rfl, rfl, rfl, T9, fun _ => by rw [show buysV (A 0) q k = -1 by omega], R9, F1.tr f9.k.fr⟩
    · refine x_if_ne (tgt := 41) (pc := 32) dX12_buys_32 (by decide) (fun c => absurd c (by decide)) (fun _ => ?_)
      refine x_aload_n (pc := 35) dX12_buys_35 rfl rfl ?_
      refine x_iconst (pc := 36) dX12_buys_36 (by decide) ?_
      refine x_callV1 (pc := 37) dX12_buys_37 rfl kX12_116 (s_fails hfl m _ hS) hS.1 rfl rfl (Nat.le_of_ble_eq_true rfl) (k_G (fun v9 M9 hM9 => ?_)) n_G
      obtain ⟨rfl, rfl⟩ := hM9
      refine x_ireturn (pc := 40) dX12_buys_40 rfl (by decide) ?_
      have e9 : spBuys A q k = (2, 0, A) := by
        unfold spBuys
        (repeat' split) <;> first | rfl | (exfalso; omega)
      rw [e9]
      exact ⟨_, rfl, rfl, rfl, rfl, up_s, fun q => absurd q (show ¬ (2 : Int) = 0 by decide), R1.up3, F1.up (by omega)⟩
  · refine x_if_ne (tgt := 23) (pc := 14) dX12_buys_14 (by decide) (fun c => absurd c (by decide)) (fun _ => ?_)
    refine x_aload_n (pc := 17) dX12_buys_17 rfl rfl ?_
    refine x_iconst (pc := 18) dX12_buys_18 (by decide) ?_
    refine x_callV1 (pc := 19) dX12_buys_19 rfl kX12_116 (s_fails hfl m _ hS) hS.1 rfl rfl (Nat.le_of_ble_eq_true rfl) (k_G (fun v9 M9 hM9 => ?_)) n_G
    obtain ⟨rfl, rfl⟩ := hM9
    refine x_ireturn (pc := 22) dX12_buys_22 rfl (by decide) ?_
    have e9 : spBuys A q k = (1, 0, A) := by
      unfold spBuys
      (repeat' split) <;> first | rfl | (exfalso; omega)
    rw [e9]
    exact ⟨_, rfl, rfl, rfl, rfl, up_s, fun q => absurd q (show ¬ (1 : Int) = 0 by decide), R1.up3, F1.up (by omega)⟩
