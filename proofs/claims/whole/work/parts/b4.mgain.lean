/-! sellers: the reference -/
section GS9
variable {c : Int → Int} {s : Int} {n : Nat}
theorem grp_rest (hc : costs9 c) (hs : 0 ≤ s ∧ s < 128) (ht : totE c s ≠ -1) (hn : OKR c s (digV c s) n) {g : Nat} (hg : g ≤ n) : grp s (digV c s) (g : Int) = firstG c (restF c s g) := by
  obtain ⟨h1, h2, h3, h4, h5⟩ := rest_ok hc hs ht hn g hg
  refine hb_ext grp_lt (grp_lt (ρ := digV c (restF c s g)) (s := restF c s g) (g := 0)) fun j a b => ?_
  have e : hb (firstG c (restF c s g)) j = 1 ↔ hb (restF c s g) j = 1 ∧ digV c (restF c s g) j = 0 := grp_hb (ρ := digV c (restF c s g)) ⟨a, b⟩
  rw [grp_hb ⟨a, b⟩, e]
  constructor
  · rintro ⟨u, v⟩
    have w1 := (h2 j a b).mpr ⟨u, by omega⟩
    have w := h4 j a b w1
    exact ⟨w1, by omega⟩
  · rintro ⟨u, z⟩
    have w := h4 j a b u
    exact ⟨((h2 j a b).mp u).1, by omega⟩
theorem rest_pos (hc : costs9 c) (hs : 0 ≤ s ∧ s < 128) (ht : totE c s ≠ -1) (hn : OKR c s (digV c s) n) {g : Nat} (hg : g < n) : 0 < restF c s g := by
  obtain ⟨h1, h2, -⟩ := rest_ok hc hs ht hn g (by omega)
  obtain ⟨j, j0, j1, j2, j3⟩ := hn.1.2 g (by omega) (by omega)
  have w := (h2 j j0 j1).mpr ⟨j2, by omega⟩
  by_cases e : restF c s g = 0
  · rw [e] at w; exact absurd w (hb_0 ⟨j0, j1⟩)
  · omega
theorem rest_nil (hc : costs9 c) (hs : 0 ≤ s ∧ s < 128) (ht : totE c s ≠ -1) (hn : OKR c s (digV c s) n) : restF c s n = 0 := by
  obtain ⟨h1, h2, -⟩ := rest_ok hc hs ht hn n (by omega)
  refine hb_ext h1 (by omega) fun j a b => ⟨fun w => ?_, fun w => absurd w (hb_0 ⟨a, b⟩)⟩
  have u := (h2 j a b).mp w
  have v := (hn.1.1 j a b u.1).2.1
  omega
end GS9
def RT0 (M : aM) (m : Int) (t : Int → Int) : Prop := (∀ i, 0 ≤ i → i < 148 → M (m + 1) i = t i) ∧ ∀ i, 219 ≤ i → i < 253 → ¬ (220 ≤ i ∧ i < 233) → M (m + 1) i = t i
/-- what a seller's gain may change -/
def frS (M M' : aM) (m : Int) : Prop := ∀ a i : Int, (a = m → i ≠ 19 ∧ i ≠ 20 ∧ i ≠ 28 ∧ i ≠ 32 ∧ i ≠ 33) → ¬ (m + 6 ≤ a ∧ a < m + 19) → M' a i = M a i
theorem frS.rf {M : aM} {m : Int} : frS M M m := fun _ _ _ _ => rfl
theorem frS.tr {M M' M'' : aM} {m : Int} (h : frS M M' m) (h' : frS M' M'' m) : frS M M'' m := fun a i x y => (h' a i x y).trans (h a i x y)
theorem frG.s {M M' : aM} {m : Int} (h : frG M M' m) : frS M M' m := fun a i x y => h a i (fun q => by have := x q; omega) (by omega) (by omega)
theorem frN.s {M M' : aM} {m : Int} (h : frN M M' m) : frS M M' m := fun a i x y => h a i (fun q => by have := x q; omega) (by omega) (by omega)
theorem RT0.cg {M M' : aM} {m : Int} {t : Int → Int} (h : RT0 M m t) (f : frS M M' m) : RT0 M' m t := ⟨fun i a b => (f _ i (by omega) (by omega)).trans (h.1 i a b), fun i a b z => (f _ i (by omega) (by omega)).trans (h.2 i a b z)⟩
theorem frS.m {M M' : aM} {m : Int} (h : frS M M' m) : frM M M' m := fun a i q => h a i (by omega) (by omega)
theorem RMs.sl {M M' A : aM} {m : Int} (h : RMs M m A) (f : frS M M' m) : RMs (up M' m 20 0) m A := by
  obtain ⟨h1, h2, h3, ⟨h4, h5, h6, h7⟩, h8, h9, h10, h11, h12⟩ := h
  have g : ∀ i, i = 6 ∨ i = 14 ∨ i = 15 ∨ i = 34 ∨ i = 35 → up M' m 20 0 m i = M m i := fun i q => by rw [up_i (by omega)]; exact f m i (by omega) (by omega)
  have k : ∀ a i, (m + 1 ≤ a ∧ a < m + 5) ∨ (m + 27 ≤ a ∧ a < m + 30) → up M' m 20 0 a i = M a i := fun a i q => by rw [up_a (by omega)]; exact f a i (by omega) (by omega)
  refine ⟨fun i x y => (k _ _ (by omega)).trans (h1 i x y), (g 6 (by omega)).trans h2, fun i x y => (k _ _ (by omega)).trans (h3 i x y), ⟨(g 14 (by omega)).trans h4, (g 15 (by omega)).trans h5, (g 34 (by omega)).trans h6, (g 35 (by omega)).trans h7⟩, fun i x y => ⟨(k _ _ (by omega)).trans (h8 i x y).1, (k _ _ (by omega)).trans (h8 i x y).2⟩, fun i x y => (k _ _ (by omega)).trans (h9 i x y), fun i x y => (k _ _ (by omega)).trans (h10 i x y), fun i x y => (k _ _ (by omega)).trans (h11 i x y), up_s⟩
/-- the memory when a seller's steps are laid -/
theorem gain_mem {M M' : aM} {m so p n r : Int} {t : Int → Int} (hM : M' = stM (up (up (up (up (up M m 20 so) (m + 9) 0 1) (m + 10) 0 p) (m + 9) 1 n) (m + 10) 1 r) m) (hso : so = if n = 0 then 1 else 2) (hT : RT0 M m t) (hZ : z78 M m) : frS M M' m ∧ RE M' m (stepT t p n r) ∧ RP0 M' m (stepT t p n r) ∧ RCs M' m (stepT t p n r) := by
  have f : frS M M' m := fun a i x y => by
    rw [hM, stM_a (by omega) (by omega), up_a (by omega), up_a (by omega), up_a (by omega), up_a (by omega), up_w (by omega)]
  have e20 : M' m 20 = so := by rw [hM, stM_a (by omega) (by omega), up_a (by omega), up_a (by omega), up_a (by omega), up_a (by omega), up_s]
  have e2 : stepT t p n r 220 = so := hso.symm
  have hz : z78 M' m := ⟨by rw [hM, stM_a (by omega) (by omega), up_a (by omega), up_a (by omega), up_a (by omega), up_a (by omega), up_a (by omega)]; exact hZ.1, by rw [hM, stM_a (by omega) (by omega), up_a (by omega), up_a (by omega), up_a (by omega), up_a (by omega), up_a (by omega)]; exact hZ.2⟩
  have g1 : M' (m + 9) 0 = 1 ∧ M' (m + 9) 1 = n ∧ M' (m + 10) 0 = p ∧ M' (m + 10) 1 = r := by
    refine ⟨?_, ?_, ?_, ?_⟩
    · rw [hM, stM_a (by omega) (by omega), up_a (by omega), up_i (by omega), up_a (by omega), up_s]
    · rw [hM, stM_a (by omega) (by omega), up_a (by omega), up_s]
    · rw [hM, stM_a (by omega) (by omega), up_i (by omega), up_a (by omega), up_s]
    · rw [hM, stM_a (by omega) (by omega), up_s]
  have s2 : so = 1 ∨ so = 2 := by rw [hso]; split <;> omega
  refine ⟨f, ⟨fun i x y => ?_, fun i x y z => ?_, by omega, fun _ => ⟨by omega, fun k x y => ?_⟩, fun z => absurd z (by omega)⟩, ⟨Or.inl ?_, hz⟩, fun s a b => Or.inl ?_⟩
  · rw [stepT_o (by omega), f _ _ (by omega) (by omega)]; exact hT.1 i x y
  · rw [stepT_o (by omega), f _ _ (by omega) (by omega)]; exact hT.2 i x y z
  · rw [e2] at y
    by_cases k0 : k = 0
    · rw [k0]; exact ⟨g1.1, g1.2.2.1⟩
    · rw [show k = 1 by omega]; exact ⟨g1.2.1, g1.2.2.2⟩
  · rw [hM]; unfold stM; rw [if_pos ⟨rfl, rfl⟩]
  · rw [hM]; unfold stM; rw [if_neg (by omega), if_pos ⟨rfl, a, b⟩]
theorem dX12_gain_0 : decode cX12_gain 0 = .ok (.aload_n 0, 1) := by decide +kernel
theorem dX12_gain_1 : decode cX12_gain 1 = .ok (.iload_n 3, 1) := by decide +kernel
theorem dX12_gain_2 : decode cX12_gain 2 = .ok (.ifCond .ne 7, 3) := by decide +kernel
theorem dX12_gain_5 : decode cX12_gain 5 = .ok (.iconst 1, 1) := by decide +kernel
theorem dX12_gain_6 : decode cX12_gain 6 = .ok (.goto 4, 3) := by decide +kernel
theorem dX12_gain_9 : decode cX12_gain 9 = .ok (.iconst 2, 1) := by decide +kernel
theorem dX12_gain_10 : decode cX12_gain 10 = .ok (.putfield 259, 3) := by decide +kernel
theorem dX12_gain_13 : decode cX12_gain 13 = .ok (.aload_n 0, 1) := by decide +kernel
theorem dX12_gain_14 : decode cX12_gain 14 = .ok (.getfield 39, 3) := by decide +kernel
theorem dX12_gain_17 : decode cX12_gain 17 = .ok (.iconst 0, 1) := by decide +kernel
theorem dX12_gain_18 : decode cX12_gain 18 = .ok (.iconst 1, 1) := by decide +kernel
theorem dX12_gain_19 : decode cX12_gain 19 = .ok (.iastore, 1) := by decide +kernel
theorem dX12_gain_20 : decode cX12_gain 20 = .ok (.aload_n 0, 1) := by decide +kernel
theorem dX12_gain_21 : decode cX12_gain 21 = .ok (.getfield 42, 3) := by decide +kernel
theorem dX12_gain_24 : decode cX12_gain 24 = .ok (.iconst 0, 1) := by decide +kernel
theorem dX12_gain_25 : decode cX12_gain 25 = .ok (.iload_n 2, 1) := by decide +kernel
theorem dX12_gain_26 : decode cX12_gain 26 = .ok (.iastore, 1) := by decide +kernel
theorem dX12_gain_27 : decode cX12_gain 27 = .ok (.aload_n 0, 1) := by decide +kernel
theorem dX12_gain_28 : decode cX12_gain 28 = .ok (.getfield 39, 3) := by decide +kernel
theorem dX12_gain_31 : decode cX12_gain 31 = .ok (.iconst 1, 1) := by decide +kernel
theorem dX12_gain_32 : decode cX12_gain 32 = .ok (.iload_n 3, 1) := by decide +kernel
theorem dX12_gain_33 : decode cX12_gain 33 = .ok (.iastore, 1) := by decide +kernel
theorem dX12_gain_34 : decode cX12_gain 34 = .ok (.aload_n 0, 1) := by decide +kernel
theorem dX12_gain_35 : decode cX12_gain 35 = .ok (.getfield 42, 3) := by decide +kernel
theorem dX12_gain_38 : decode cX12_gain 38 = .ok (.iconst 1, 1) := by decide +kernel
theorem dX12_gain_39 : decode cX12_gain 39 = .ok (.iload 4, 2) := by decide +kernel
theorem dX12_gain_41 : decode cX12_gain 41 = .ok (.iastore, 1) := by decide +kernel
theorem dX12_gain_42 : decode cX12_gain 42 = .ok (.aload_n 0, 1) := by decide +kernel
theorem dX12_gain_43 : decode cX12_gain 43 = .ok (.invokevirtual 120, 3) := by decide +kernel
theorem dX12_gain_46 : decode cX12_gain 46 = .ok (.aload_n 0, 1) := by decide +kernel
theorem dX12_gain_47 : decode cX12_gain 47 = .ok (.iload_n 1, 1) := by decide +kernel
theorem dX12_gain_48 : decode cX12_gain 48 = .ok (.invokevirtual 328, 3) := by decide +kernel
theorem dX12_gain_51 : decode cX12_gain 51 = .ok (.istore 6, 2) := by decide +kernel
theorem dX12_gain_53 : decode cX12_gain 53 = .ok (.iconst 0, 1) := by decide +kernel
theorem dX12_gain_54 : decode cX12_gain 54 = .ok (.istore 7, 2) := by decide +kernel
theorem dX12_gain_56 : decode cX12_gain 56 = .ok (.iconst 0, 1) := by decide +kernel
theorem dX12_gain_57 : decode cX12_gain 57 = .ok (.istore 8, 2) := by decide +kernel
theorem dX12_gain_59 : decode cX12_gain 59 = .ok (.iload 8, 2) := by decide +kernel
theorem dX12_gain_61 : decode cX12_gain 61 = .ok (.aload_n 0, 1) := by decide +kernel
theorem dX12_gain_62 : decode cX12_gain 62 = .ok (.getfield 319, 3) := by decide +kernel
theorem dX12_gain_65 : decode cX12_gain 65 = .ok (.if_icmp .ge 31, 3) := by decide +kernel
theorem dX12_gain_68 : decode cX12_gain 68 = .ok (.iload 6, 2) := by decide +kernel
theorem dX12_gain_70 : decode cX12_gain 70 = .ok (.iconst (-1), 1) := by decide +kernel
theorem dX12_gain_71 : decode cX12_gain 71 = .ok (.if_icmp .eq 25, 3) := by decide +kernel
theorem dX12_gain_74 : decode cX12_gain 74 = .ok (.iload 7, 2) := by decide +kernel
theorem dX12_gain_76 : decode cX12_gain 76 = .ok (.aload_n 0, 1) := by decide +kernel
theorem dX12_gain_77 : decode cX12_gain 77 = .ok (.aload_n 0, 1) := by decide +kernel
theorem dX12_gain_78 : decode cX12_gain 78 = .ok (.iload_n 1, 1) := by decide +kernel
theorem dX12_gain_79 : decode cX12_gain 79 = .ok (.iload 8, 2) := by decide +kernel
theorem dX12_gain_81 : decode cX12_gain 81 = .ok (.invokevirtual 333, 3) := by decide +kernel
theorem dX12_gain_84 : decode cX12_gain 84 = .ok (.invokevirtual 313, 3) := by decide +kernel
theorem dX12_gain_87 : decode cX12_gain 87 = .ok (.iadd, 1) := by decide +kernel
theorem dX12_gain_88 : decode cX12_gain 88 = .ok (.istore 7, 2) := by decide +kernel
theorem dX12_gain_90 : decode cX12_gain 90 = .ok (.iinc 8 1, 3) := by decide +kernel
theorem dX12_gain_93 : decode cX12_gain 93 = .ok (.goto (-34), 3) := by decide +kernel
theorem dX12_gain_96 : decode cX12_gain 96 = .ok (.iload 6, 2) := by decide +kernel
theorem dX12_gain_98 : decode cX12_gain 98 = .ok (.iconst (-1), 1) := by decide +kernel
theorem dX12_gain_99 : decode cX12_gain 99 = .ok (.if_icmp .ne 9, 3) := by decide +kernel
theorem dX12_gain_102 : decode cX12_gain 102 = .ok (.ldc_w 338, 3) := by decide +kernel
theorem dX12_gain_105 : decode cX12_gain 105 = .ok (.goto 11, 3) := by decide +kernel
theorem dX12_gain_108 : decode cX12_gain 108 = .ok (.iload 6, 2) := by decide +kernel
theorem dX12_gain_110 : decode cX12_gain 110 = .ok (.iload 5, 2) := by decide +kernel
theorem dX12_gain_112 : decode cX12_gain 112 = .ok (.iload 7, 2) := by decide +kernel
theorem dX12_gain_114 : decode cX12_gain 114 = .ok (.imul, 1) := by decide +kernel
theorem dX12_gain_115 : decode cX12_gain 115 = .ok (.isub, 1) := by decide +kernel
theorem dX12_gain_116 : decode cX12_gain 116 = .ok (.ireturn, 1) := by decide +kernel
theorem dX12_seller_0 : decode cX12_seller 0 = .ok (.aload_n 0, 1) := by decide +kernel
theorem dX12_seller_1 : decode cX12_seller 1 = .ok (.iconst 0, 1) := by decide +kernel
theorem dX12_seller_2 : decode cX12_seller 2 = .ok (.putfield 103, 3) := by decide +kernel
theorem dX12_seller_5 : decode cX12_seller 5 = .ok (.aload_n 0, 1) := by decide +kernel
theorem dX12_seller_6 : decode cX12_seller 6 = .ok (.iload_n 1, 1) := by decide +kernel
theorem dX12_seller_7 : decode cX12_seller 7 = .ok (.invokevirtual 143, 3) := by decide +kernel
theorem dX12_seller_10 : decode cX12_seller 10 = .ok (.ifCond .eq 50, 3) := by decide +kernel
theorem dX12_seller_13 : decode cX12_seller 13 = .ok (.iload_n 1, 1) := by decide +kernel
theorem dX12_seller_14 : decode cX12_seller 14 = .ok (.invokestatic 304, 3) := by decide +kernel
theorem dX12_seller_17 : decode cX12_seller 17 = .ok (.iconst 4, 1) := by decide +kernel
theorem dX12_seller_18 : decode cX12_seller 18 = .ok (.if_icmp .gt 42, 3) := by decide +kernel
theorem dX12_seller_21 : decode cX12_seller 21 = .ok (.iload_n 2, 1) := by decide +kernel
theorem dX12_seller_22 : decode cX12_seller 22 = .ok (.i2l, 1) := by decide +kernel
theorem dX12_seller_23 : decode cX12_seller 23 = .ok (.ldc2_w 356, 3) := by decide +kernel
theorem dX12_seller_26 : decode cX12_seller 26 = .ok (.ldc2_w 426, 3) := by decide +kernel
theorem dX12_seller_29 : decode cX12_seller 29 = .ok (.invokestatic 106, 3) := by decide +kernel
theorem dX12_seller_32 : decode cX12_seller 32 = .ok (.ifCond .eq 28, 3) := by decide +kernel
theorem dX12_seller_35 : decode cX12_seller 35 = .ok (.iload_n 3, 1) := by decide +kernel
theorem dX12_seller_36 : decode cX12_seller 36 = .ok (.i2l, 1) := by decide +kernel
theorem dX12_seller_37 : decode cX12_seller 37 = .ok (.lconst 0, 1) := by decide +kernel
theorem dX12_seller_38 : decode cX12_seller 38 = .ok (.ldc2_w 426, 3) := by decide +kernel
theorem dX12_seller_41 : decode cX12_seller 41 = .ok (.invokestatic 106, 3) := by decide +kernel
theorem dX12_seller_44 : decode cX12_seller 44 = .ok (.ifCond .eq 16, 3) := by decide +kernel
theorem dX12_seller_47 : decode cX12_seller 47 = .ok (.iload 4, 2) := by decide +kernel
theorem dX12_seller_49 : decode cX12_seller 49 = .ok (.i2l, 1) := by decide +kernel
theorem dX12_seller_50 : decode cX12_seller 50 = .ok (.lconst 0, 1) := by decide +kernel
theorem dX12_seller_51 : decode cX12_seller 51 = .ok (.ldc2_w 428, 3) := by decide +kernel
theorem dX12_seller_54 : decode cX12_seller 54 = .ok (.invokestatic 106, 3) := by decide +kernel
theorem dX12_seller_57 : decode cX12_seller 57 = .ok (.ifCond .ne 9, 3) := by decide +kernel
theorem dX12_seller_60 : decode cX12_seller 60 = .ok (.aload_n 0, 1) := by decide +kernel
theorem dX12_seller_61 : decode cX12_seller 61 = .ok (.iconst 1, 1) := by decide +kernel
theorem dX12_seller_62 : decode cX12_seller 62 = .ok (.invokevirtual 116, 3) := by decide +kernel
theorem dX12_seller_65 : decode cX12_seller 65 = .ok (.ireturn, 1) := by decide +kernel
theorem dX12_seller_66 : decode cX12_seller 66 = .ok (.ldc_w 338, 3) := by decide +kernel
theorem dX12_seller_69 : decode cX12_seller 69 = .ok (.istore 5, 2) := by decide +kernel
theorem dX12_seller_71 : decode cX12_seller 71 = .ok (.iconst (-1), 1) := by decide +kernel
theorem dX12_seller_72 : decode cX12_seller 72 = .ok (.istore 6, 2) := by decide +kernel
theorem dX12_seller_74 : decode cX12_seller 74 = .ok (.iconst (-1), 1) := by decide +kernel
theorem dX12_seller_75 : decode cX12_seller 75 = .ok (.istore 7, 2) := by decide +kernel
theorem dX12_seller_77 : decode cX12_seller 77 = .ok (.iload 4, 2) := by decide +kernel
theorem dX12_seller_79 : decode cX12_seller 79 = .ok (.iconst 3, 1) := by decide +kernel
theorem dX12_seller_80 : decode cX12_seller 80 = .ok (.if_icmp .ne 14, 3) := by decide +kernel
theorem dX12_seller_83 : decode cX12_seller 83 = .ok (.aload_n 0, 1) := by decide +kernel
theorem dX12_seller_84 : decode cX12_seller 84 = .ok (.iload_n 1, 1) := by decide +kernel
theorem dX12_seller_85 : decode cX12_seller 85 = .ok (.iload_n 2, 1) := by decide +kernel
theorem dX12_seller_86 : decode cX12_seller 86 = .ok (.iconst 0, 1) := by decide +kernel
theorem dX12_seller_87 : decode cX12_seller 87 = .ok (.iconst 0, 1) := by decide +kernel
theorem dX12_seller_88 : decode cX12_seller 88 = .ok (.iload_n 3, 1) := by decide +kernel
theorem dX12_seller_89 : decode cX12_seller 89 = .ok (.invokevirtual 430, 3) := by decide +kernel
theorem dX12_seller_92 : decode cX12_seller 92 = .ok (.istore 5, 2) := by decide +kernel
theorem dX12_seller_94 : decode cX12_seller 94 = .ok (.iconst 2, 1) := by decide +kernel
theorem dX12_seller_95 : decode cX12_seller 95 = .ok (.istore 8, 2) := by decide +kernel
theorem dX12_seller_97 : decode cX12_seller 97 = .ok (.iload 8, 2) := by decide +kernel
theorem dX12_seller_99 : decode cX12_seller 99 = .ok (.bipush 12, 2) := by decide +kernel
theorem dX12_seller_101 : decode cX12_seller 101 = .ok (.if_icmp .gt 79, 3) := by decide +kernel
theorem dX12_seller_104 : decode cX12_seller 104 = .ok (.iload 4, 2) := by decide +kernel
theorem dX12_seller_106 : decode cX12_seller 106 = .ok (.iconst 3, 1) := by decide +kernel
theorem dX12_seller_107 : decode cX12_seller 107 = .ok (.if_icmp .ge 73, 3) := by decide +kernel
theorem dX12_seller_110 : decode cX12_seller 110 = .ok (.iconst 1, 1) := by decide +kernel
theorem dX12_seller_111 : decode cX12_seller 111 = .ok (.istore 9, 2) := by decide +kernel
theorem dX12_seller_113 : decode cX12_seller 113 = .ok (.iload 9, 2) := by decide +kernel
theorem dX12_seller_115 : decode cX12_seller 115 = .ok (.iload_n 2, 1) := by decide +kernel
theorem dX12_seller_116 : decode cX12_seller 116 = .ok (.if_icmp .ge 58, 3) := by decide +kernel
theorem dX12_seller_119 : decode cX12_seller 119 = .ok (.aload_n 0, 1) := by decide +kernel
theorem dX12_seller_120 : decode cX12_seller 120 = .ok (.iload_n 1, 1) := by decide +kernel
theorem dX12_seller_121 : decode cX12_seller 121 = .ok (.iload_n 2, 1) := by decide +kernel
theorem dX12_seller_122 : decode cX12_seller 122 = .ok (.iload 8, 2) := by decide +kernel
theorem dX12_seller_124 : decode cX12_seller 124 = .ok (.iload 9, 2) := by decide +kernel
theorem dX12_seller_126 : decode cX12_seller 126 = .ok (.iload_n 3, 1) := by decide +kernel
theorem dX12_seller_127 : decode cX12_seller 127 = .ok (.invokevirtual 430, 3) := by decide +kernel
theorem dX12_seller_130 : decode cX12_seller 130 = .ok (.istore 10, 2) := by decide +kernel
theorem dX12_seller_132 : decode cX12_seller 132 = .ok (.iload 10, 2) := by decide +kernel
theorem dX12_seller_134 : decode cX12_seller 134 = .ok (.ldc_w 338, 3) := by decide +kernel
theorem dX12_seller_137 : decode cX12_seller 137 = .ok (.if_icmp .eq 31, 3) := by decide +kernel
theorem dX12_seller_140 : decode cX12_seller 140 = .ok (.iload 6, 2) := by decide +kernel
theorem dX12_seller_142 : decode cX12_seller 142 = .ok (.iconst (-1), 1) := by decide +kernel
theorem dX12_seller_143 : decode cX12_seller 143 = .ok (.if_icmp .eq 13, 3) := by decide +kernel
theorem dX12_seller_146 : decode cX12_seller 146 = .ok (.iload 10, 2) := by decide +kernel
theorem dX12_seller_148 : decode cX12_seller 148 = .ok (.iload 5, 2) := by decide +kernel
theorem dX12_seller_150 : decode cX12_seller 150 = .ok (.if_icmp .gt 6, 3) := by decide +kernel
theorem dX12_seller_153 : decode cX12_seller 153 = .ok (.goto 15, 3) := by decide +kernel
theorem dX12_seller_156 : decode cX12_seller 156 = .ok (.iload 10, 2) := by decide +kernel
theorem dX12_seller_158 : decode cX12_seller 158 = .ok (.istore 5, 2) := by decide +kernel
theorem dX12_seller_160 : decode cX12_seller 160 = .ok (.iload 8, 2) := by decide +kernel
theorem dX12_seller_162 : decode cX12_seller 162 = .ok (.istore 6, 2) := by decide +kernel
theorem dX12_seller_164 : decode cX12_seller 164 = .ok (.iload 9, 2) := by decide +kernel
theorem dX12_seller_166 : decode cX12_seller 166 = .ok (.istore 7, 2) := by decide +kernel
theorem dX12_seller_168 : decode cX12_seller 168 = .ok (.iinc 9 1, 3) := by decide +kernel
theorem dX12_seller_171 : decode cX12_seller 171 = .ok (.goto (-58), 3) := by decide +kernel
theorem dX12_seller_174 : decode cX12_seller 174 = .ok (.iinc 8 1, 3) := by decide +kernel
theorem dX12_seller_177 : decode cX12_seller 177 = .ok (.goto (-80), 3) := by decide +kernel
theorem dX12_seller_180 : decode cX12_seller 180 = .ok (.aload_n 0, 1) := by decide +kernel
theorem dX12_seller_181 : decode cX12_seller 181 = .ok (.iconst 0, 1) := by decide +kernel
theorem dX12_seller_182 : decode cX12_seller 182 = .ok (.putfield 259, 3) := by decide +kernel
theorem dX12_seller_185 : decode cX12_seller 185 = .ok (.aload_n 0, 1) := by decide +kernel
theorem dX12_seller_186 : decode cX12_seller 186 = .ok (.invokevirtual 120, 3) := by decide +kernel
theorem dX12_seller_189 : decode cX12_seller 189 = .ok (.iload 4, 2) := by decide +kernel
theorem dX12_seller_191 : decode cX12_seller 191 = .ok (.ifCond .ne 8, 3) := by decide +kernel
theorem dX12_seller_194 : decode cX12_seller 194 = .ok (.iload 6, 2) := by decide +kernel
theorem dX12_seller_196 : decode cX12_seller 196 = .ok (.goto 16, 3) := by decide +kernel
theorem dX12_seller_199 : decode cX12_seller 199 = .ok (.iload 4, 2) := by decide +kernel
theorem dX12_seller_201 : decode cX12_seller 201 = .ok (.iconst 1, 1) := by decide +kernel
theorem dX12_seller_202 : decode cX12_seller 202 = .ok (.if_icmp .ne 8, 3) := by decide +kernel
theorem dX12_seller_205 : decode cX12_seller 205 = .ok (.iload 7, 2) := by decide +kernel
theorem dX12_seller_207 : decode cX12_seller 207 = .ok (.goto 5, 3) := by decide +kernel
theorem dX12_seller_210 : decode cX12_seller 210 = .ok (.iload 5, 2) := by decide +kernel
theorem dX12_seller_212 : decode cX12_seller 212 = .ok (.ireturn, 1) := by decide +kernel
theorem s_gainM {l : Launch} {E : aE} {N : Nat} {S : aS} {M : aM} (hfl : l.stackTraces = false) (m : Int) (t : Int → Int) (s p n r k : Int) (hS : lyM S m) (hT : RT0 M m t) (hZ : z78 M m) (hK : TQ t) (hs : 0 < s ∧ s < 128) (hp : 1 ≤ p ∧ p ≤ 99) (hn : n = 0 ∨ (1 ≤ n ∧ n ≤ 60 ∧ 1 ≤ r ∧ r ≤ 99)) (hk : 0 ≤ k ∧ k ≤ 20) : aMt l E pX12_gain [(2, m), (0, s), (0, p), (0, n), (0, r), (0, k)] N S M (aG N S (fun v M' => v = (0, gainT (stepT t p n r) s k) ∧ frS M M' m ∧ z78 M' m)) := by
  refine a_met hfl rfl (by decide +kernel) (Nat.le_of_ble_eq_true rfl) ?_
  have hK9 : TQ (stepT t p n r) := stepT_tq hK hp hn
  have hc := costs_t hK9
  have rest : ∀ so : Int, so = (if n = 0 then 1 else 2) → aX l E pX12_gain (aG N S (fun v M' => v = (0, gainT (stepT t p n r) s k) ∧ frS M M' m ∧ z78 M' m)) 0 0 N S M 10 [(0, (2, m)), (1, (0, s)), (2, (0, p)), (3, (0, n)), (4, (0, r)), (5, (0, k))] [(0, so), (2, m)] := by
    intro so hso
    refine x_putI (jj := 20) (pc := 10) dX12_gain_10 fX12_259 hS.1 rfl (by decide) rfl ?_
    refine x_aload_n (pc := 13) dX12_gain_13 rfl rfl ?_
    refine x_getR (jj := 21) (pc := 14) dX12_gain_14 fX12_39 hS.1 rfl (by decide) rfl rM_21 ?_
    refine x_iconst (pc := 17) dX12_gain_17 (by decide) ?_
    refine x_iconst (pc := 18) dX12_gain_18 (by decide) ?_
    refine x_iastore (pc := 19) dX12_gain_19 (sM_21 hS) (by omega) ?_
    refine x_aload_n (pc := 20) dX12_gain_20 rfl rfl ?_
    refine x_getR (jj := 22) (pc := 21) dX12_gain_21 fX12_42 hS.1 rfl (by decide) rfl rM_22 ?_
    refine x_iconst (pc := 24) dX12_gain_24 (by decide) ?_
    refine x_iload_n (pc := 25) dX12_gain_25 rfl rfl ?_
    refine x_iastore (pc := 26) dX12_gain_26 (sM_22 hS) (by omega) ?_
    refine x_aload_n (pc := 27) dX12_gain_27 rfl rfl ?_
    refine x_getR (jj := 21) (pc := 28) dX12_gain_28 fX12_39 hS.1 rfl (by decide) rfl rM_21 ?_
    refine x_iconst (pc := 31) dX12_gain_31 (by decide) ?_
    refine x_iload_n (pc := 32) dX12_gain_32 rfl rfl ?_
    refine x_iastore (pc := 33) dX12_gain_33 (sM_21 hS) (by omega) ?_
    refine x_aload_n (pc := 34) dX12_gain_34 rfl rfl ?_
    refine x_getR (jj := 22) (pc := 35) dX12_gain_35 fX12_42 hS.1 rfl (by decide) rfl rM_22 ?_
    refine x_iconst (pc := 38) dX12_gain_38 (by decide) ?_
    refine x_iload (pc := 39) dX12_gain_39 rfl ?_
    refine x_iastore (pc := 41) dX12_gain_41 (sM_22 hS) (by omega) ?_
    refine x_aload_n (pc := 42) dX12_gain_42 rfl rfl ?_
    refine x_callV0 (pc := 43) dX12_gain_43 rfl kX12_120 (s_stale hfl m hS) hS.1 rfl rfl (Nat.le_of_ble_eq_true rfl) (k_U (fun M9 hM9 => ?_)) n_U
    obtain ⟨f9, E9, P9, R9⟩ := gain_mem hM9 hso hT hZ
    clear hM9
    refine x_aload_n (pc := 46) dX12_gain_46 rfl rfl ?_
    refine x_iload_n (pc := 47) dX12_gain_47 rfl rfl ?_
    refine x_callV1 (pc := 48) dX12_gain_48 rfl kX12_328 (s_totalOf hfl m (stepT t p n r) hS E9 hK9 P9 R9 s ⟨by omega, hs.2⟩) hS.1 rfl rfl (Nat.le_of_ble_eq_true rfl) (k_G (fun v8 M8 hM8 => ?_)) n_G
    obtain ⟨rfl, f8, p8, c8, b8⟩ := hM8
    have b8 := b8.tot hc ⟨by omega, hs.2⟩
    have E8 := E9.cg f8.k
    have hto := totV_or (c := (costV (stepT t p n r))) s
    have hlt := totE_lt hc (s := s) ⟨by omega, hs.2⟩
    have hgr := gainT_r hK9 hs hk
    refine x_istore (pc := 51) dX12_gain_51 (by decide) rfl ?_
    refine x_iconst (pc := 53) dX12_gain_53 (by decide) ?_
    refine x_istore (pc := 54) dX12_gain_54 (by decide) rfl ?_
    refine x_iconst (pc := 56) dX12_gain_56 (by decide) ?_
    refine x_istore (pc := 57) dX12_gain_57 (by decide) rfl ?_
    by_cases ht : totE (costV (stepT t p n r)) s = -1
    · refine x_iload (pc := 59) dX12_gain_59 rfl ?_
      refine x_aload_n (pc := 61) dX12_gain_61 rfl rfl ?_
      refine x_getIV (jj := 33) (pc := 62) dX12_gain_62 fX12_319 hS.1 rfl (by decide) rfl (by (repeat (first | rewrite [up_s] | rewrite [up_i (by omega)] | rewrite [up_a (by omega)] | rewrite [stM_a (by omega) (by omega)])); rfl) ?_
      refine x_icmp_ge (tgt := 96) (pc := 65) dX12_gain_65 (by decide) (fun c_65 => ?_) (fun c_65 => ?_)
      · refine x_iload (pc := 96) dX12_gain_96 rfl ?_
        refine x_iconst (pc := 98) dX12_gain_98 (by decide) ?_
        refine x_icmp_ne (tgt := 108) (pc := 99) dX12_gain_99 (by decide) (fun c_99 => ?_) (fun c_99 => ?_)
        · refine x_iload (pc := 108) dX12_gain_108 rfl ?_
          refine x_iload (pc := 110) dX12_gain_110 rfl ?_
          refine x_iload (pc := 112) dX12_gain_112 rfl ?_
          refine x_imul (pc := 114) dX12_gain_114 (by omega) ?_
          refine x_isub (pc := 115) dX12_gain_115 (by omega) ?_
          refine x_ireturn (pc := 116) dX12_gain_116 rfl (by decide) ?_
          first
            | (exfalso; omega)
            | (refine ⟨_, rfl, rfl, rfl, ?_, f9.tr f8.s, p8.2⟩
               unfold gainT
               rw [if_pos ht])
        · refine x_ldcw (n := -1000000) (pc := 102) cX12_338 (by decide) dX12_gain_102 ?_
          refine x_goto (tgt := 116) (pc := 105) dX12_gain_105 (by decide) ?_
          refine x_ireturn (pc := 116) dX12_gain_116 rfl (by decide) ?_
          first
            | (exfalso; omega)
            | (refine ⟨_, rfl, rfl, rfl, ?_, f9.tr f8.s, p8.2⟩
               unfold gainT
               rw [if_pos ht])
      · refine x_iload (pc := 68) dX12_gain_68 rfl ?_
        refine x_iconst (pc := 70) dX12_gain_70 (by decide) ?_
        refine x_icmp_eq (tgt := 96) (pc := 71) dX12_gain_71 (by decide) (fun c_71 => ?_) (fun c_71 => ?_)
        · refine x_iload (pc := 96) dX12_gain_96 rfl ?_
          refine x_iconst (pc := 98) dX12_gain_98 (by decide) ?_
          refine x_icmp_ne (tgt := 108) (pc := 99) dX12_gain_99 (by decide) (fun c_99 => ?_) (fun c_99 => ?_)
          · refine x_iload (pc := 108) dX12_gain_108 rfl ?_
            refine x_iload (pc := 110) dX12_gain_110 rfl ?_
            refine x_iload (pc := 112) dX12_gain_112 rfl ?_
            refine x_imul (pc := 114) dX12_gain_114 (by omega) ?_
            refine x_isub (pc := 115) dX12_gain_115 (by omega) ?_
            refine x_ireturn (pc := 116) dX12_gain_116 rfl (by decide) ?_
            first
              | (exfalso; omega)
              | (refine ⟨_, rfl, rfl, rfl, ?_, f9.tr f8.s, p8.2⟩
                 unfold gainT
                 rw [if_pos ht])
          · refine x_ldcw (n := -1000000) (pc := 102) cX12_338 (by decide) dX12_gain_102 ?_
            refine x_goto (tgt := 116) (pc := 105) dX12_gain_105 (by decide) ?_
            refine x_ireturn (pc := 116) dX12_gain_116 rfl (by decide) ?_
            first
              | (exfalso; omega)
              | (refine ⟨_, rfl, rfl, rfl, ?_, f9.tr f8.s, p8.2⟩
                 unfold gainT
                 rw [if_pos ht])
        · exfalso; omega
    
    · obtain ⟨n9, hn9, -⟩ := dig_ok hc ⟨by omega, hs.2⟩ ht
      have hmn := many_ok hc 7 s n9 (by omega) hs.2 (size_r ⟨by omega, hs.2⟩).2 ht hn9
      obtain ⟨hg33, hdg⟩ := b8.2 ht
      rw [hmn] at hg33
      have hn7 : (n9 : Int) ≤ 7 := by
        obtain ⟨r1, r2, r3, r4, r5⟩ := rest_ok hc ⟨by omega, hs.2⟩ ht hn9 n9 (by omega)
        have := size_r r1
        omega
      have loop := a_loop3 (fun i a9 M1 => i ≤ n9 ∧ frN M8 M1 m ∧ RP0 M1 m (stepT t p n r) ∧ (0 ≤ a9 ∧ a9 ≤ 511 * (i : Int)) ∧ a9 + sackF (costV (stepT t p n r)) (fun g => allV (stepT t p n r) g % 512) (7 - i) (restF (costV (stepT t p n r)) s i) = sackF (costV (stepT t p n r)) (fun g => allV (stepT t p n r) g % 512) 7 s) (fun i a9 M1 => n9 - i) (fun i a9 M1 => aX l E pX12_gain (aG N S (fun v M' => v = (0, gainT (stepT t p n r) s k) ∧ frS M M' m ∧ z78 M' m)) 0 0 N S M1 59 [(0, (2, m)), (1, (0, s)), (2, (0, p)), (3, (0, n)), (4, (0, r)), (5, (0, k)), (6, (0, totV (costV (stepT t p n r)) s)), (7, (0, a9)), (8, (0, (i : Int)))] []) (by
        intro i a9 M1 hI ih
        obtain ⟨k1, k2, k3, k4, k5⟩ := hI
        refine x_iload (pc := 59) dX12_gain_59 rfl ?_
        refine x_aload_n (pc := 61) dX12_gain_61 rfl rfl ?_
        refine x_getIV (jj := 33) (pc := 62) dX12_gain_62 fX12_319 hS.1 rfl (by decide) rfl (by (repeat (first | rewrite [up_s] | rewrite [up_i (by omega)] | rewrite [up_a (by omega)] | rewrite [stM_a (by omega) (by omega)])); first | exact hg33 | exact (k2 m 33 (by omega) (by omega) (by omega)).trans hg33 | rfl) ?_
        refine x_icmp_ge (tgt := 96) (pc := 65) dX12_gain_65 (by decide) (fun c_65 => ?_) (fun c_65 => ?_)
        · have ei : i = n9 := by omega
          subst ei
          rw [rest_nil hc ⟨by omega, hs.2⟩ ht hn9, sackF_0, Int.add_zero] at k5
          subst k5
          refine x_iload (pc := 96) dX12_gain_96 rfl ?_
          refine x_iconst (pc := 98) dX12_gain_98 (by decide) ?_
          refine x_icmp_ne (tgt := 108) (pc := 99) dX12_gain_99 (by decide) (fun c_99 => ?_) (fun c_99 => ?_)
          · refine x_iload (pc := 108) dX12_gain_108 rfl ?_
            refine x_iload (pc := 110) dX12_gain_110 rfl ?_
            refine x_iload (pc := 112) dX12_gain_112 rfl ?_
            refine x_imul (pc := 114) dX12_gain_114 (by omega) ?_
            refine x_isub (pc := 115) dX12_gain_115 (by omega) ?_
            refine x_ireturn (pc := 116) dX12_gain_116 rfl (by decide) ?_
            first
              | (exfalso; omega)
              | (refine ⟨_, rfl, rfl, rfl, ?_, (f9.tr f8.s).tr k2.s, k3.2⟩
                 unfold gainT
                 rw [if_neg ht])
          · refine x_ldcw (n := -1000000) (pc := 102) cX12_338 (by decide) dX12_gain_102 ?_
            refine x_goto (tgt := 116) (pc := 105) dX12_gain_105 (by decide) ?_
            refine x_ireturn (pc := 116) dX12_gain_116 rfl (by decide) ?_
            first
              | (exfalso; omega)
              | (refine ⟨_, rfl, rfl, rfl, ?_, (f9.tr f8.s).tr k2.s, k3.2⟩
                 unfold gainT
                 rw [if_neg ht])
        · refine x_iload (pc := 68) dX12_gain_68 rfl ?_
          refine x_iconst (pc := 70) dX12_gain_70 (by decide) ?_
          refine x_icmp_eq (tgt := 96) (pc := 71) dX12_gain_71 (by decide) (fun c_71 => ?_) (fun c_71 => ?_)
          · have ei : i = n9 := by omega
            subst ei
            rw [rest_nil hc ⟨by omega, hs.2⟩ ht hn9, sackF_0, Int.add_zero] at k5
            subst k5
            refine x_iload (pc := 96) dX12_gain_96 rfl ?_
            refine x_iconst (pc := 98) dX12_gain_98 (by decide) ?_
            refine x_icmp_ne (tgt := 108) (pc := 99) dX12_gain_99 (by decide) (fun c_99 => ?_) (fun c_99 => ?_)
            · refine x_iload (pc := 108) dX12_gain_108 rfl ?_
              refine x_iload (pc := 110) dX12_gain_110 rfl ?_
              refine x_iload (pc := 112) dX12_gain_112 rfl ?_
              refine x_imul (pc := 114) dX12_gain_114 (by omega) ?_
              refine x_isub (pc := 115) dX12_gain_115 (by omega) ?_
              refine x_ireturn (pc := 116) dX12_gain_116 rfl (by decide) ?_
              first
                | (exfalso; omega)
                | (refine ⟨_, rfl, rfl, rfl, ?_, (f9.tr f8.s).tr k2.s, k3.2⟩
                   unfold gainT
                   rw [if_neg ht])
            · refine x_ldcw (n := -1000000) (pc := 102) cX12_338 (by decide) dX12_gain_102 ?_
              refine x_goto (tgt := 116) (pc := 105) dX12_gain_105 (by decide) ?_
              refine x_ireturn (pc := 116) dX12_gain_116 rfl (by decide) ?_
              first
                | (exfalso; omega)
                | (refine ⟨_, rfl, rfl, rfl, ?_, (f9.tr f8.s).tr k2.s, k3.2⟩
                   unfold gainT
                   rw [if_neg ht])
          · refine x_iload (pc := 74) dX12_gain_74 rfl ?_
            refine x_aload_n (pc := 76) dX12_gain_76 rfl rfl ?_
            refine x_aload_n (pc := 77) dX12_gain_77 rfl rfl ?_
            refine x_iload_n (pc := 78) dX12_gain_78 rfl rfl ?_
            refine x_iload (pc := 79) dX12_gain_79 rfl ?_
            have hi9 : i < n9 := by omega
            obtain ⟨r1, r2, r3, r4, r5⟩ := rest_ok hc ⟨by omega, hs.2⟩ ht hn9 i (by omega)
            have rp := rest_pos hc ⟨by omega, hs.2⟩ ht hn9 hi9
            obtain ⟨w1, w2, w3, w4, w5, w6, w7, w8⟩ := first_ok hc ⟨rp, r1.2⟩ r3
            have hgp : grp s (M1 (m + 17)) (i : Int) = firstG (costV (stepT t p n r)) (restF (costV (stepT t p n r)) s i) := (grp_cg fun j a b w => (k2 _ _ (by omega) (by omega) (by omega)).trans (hdg j a b w)).trans (grp_rest hc ⟨by omega, hs.2⟩ ht hn9 (by omega))
            refine x_callV2 (pc := 81) dX12_gain_81 rfl kX12_333 (s_groupAt hfl m hS s (i : Int)) hS.1 rfl rfl (Nat.le_of_ble_eq_true rfl) (k_R ?_) n_R
            rewrite [hgp]
            refine x_callV1 (pc := 84) dX12_gain_84 rfl kX12_313 (s_sacksOf hfl m (stepT t p n r) hS (E8.cg k2.k) hK9 k3 (firstG (costV (stepT t p n r)) (restF (costV (stepT t p n r)) s i)) ⟨by omega, w1.2⟩ (all_of_cost w4)) hS.1 rfl rfl (Nat.le_of_ble_eq_true rfl) (k_G (fun v7 M7 hM7 => ?_)) n_G
            obtain ⟨rfl, f7, p7, -⟩ := hM7
            have h512 := m512 (stepT t p n r) (firstG (costV (stepT t p n r)) (restF (costV (stepT t p n r)) s i))
            have hn7 : (i : Int) ≤ 6 := by omega
            refine x_iadd (pc := 87) dX12_gain_87 (by omega) ?_
            refine x_istore (pc := 88) dX12_gain_88 (by decide) rfl ?_
            refine x_iinc (pc := 90) dX12_gain_90 rfl (by omega) (by decide) rfl ?_
            refine x_goto (tgt := 59) (pc := 93) dX12_gain_93 (by decide) ?_
            refine x_lo (lo' := [(0, (2, m)), (1, (0, s)), (2, (0, p)), (3, (0, n)), (4, (0, r)), (5, (0, k)), (6, (0, totV (costV (stepT t p n r)) s)), (7, (0, a9 + allV (stepT t p n r) (firstG (costV (stepT t p n r)) (restF (costV (stepT t p n r)) s i)) % 512)), (8, (0, ((i + 1 : Nat) : Int)))]) ⟨rfl, rfl, rfl, rfl, rfl, rfl, rfl, rfl, rfl, trivial⟩ (ih (i + 1) _ M7 ⟨by omega, k2.tr f7, p7, ⟨by omega, by omega⟩, ?_⟩ (by omega))
            rw [show 7 - i = (7 - (i + 1)) + 1 by omega, sackF_1 (by omega)] at k5
            show _ + sackF _ _ _ (b_xor (restF (costV (stepT t p n r)) s i) (firstG (costV (stepT t p n r)) (restF (costV (stepT t p n r)) s i))) = _
            rw [← k5, Int.add_assoc])
      exact x_lo (lo' := [(0, (2, m)), (1, (0, s)), (2, (0, p)), (3, (0, n)), (4, (0, r)), (5, (0, k)), (6, (0, totV (costV (stepT t p n r)) s)), (7, (0, 0)), (8, (0, ((0 : Nat) : Int)))]) ⟨rfl, rfl, rfl, rfl, rfl, rfl, rfl, rfl, rfl, trivial⟩ (loop 0 0 M8 ⟨by omega, frN.rf, p8, ⟨by omega, by omega⟩, Int.zero_add _⟩)
    
  refine x_aload_n (pc := 0) dX12_gain_0 rfl rfl ?_
  refine x_iload_n (pc := 1) dX12_gain_1 rfl rfl ?_
  refine x_if_ne (tgt := 9) (pc := 2) dX12_gain_2 (by decide) (fun c_2 => ?_) (fun c_2 => ?_)
  · refine x_iconst (pc := 9) dX12_gain_9 (by decide) ?_
    exact rest 2 (by rw [if_neg (by omega)])
  · refine x_iconst (pc := 5) dX12_gain_5 (by decide) ?_
    refine x_goto (tgt := 10) (pc := 6) dX12_gain_6 (by decide) ?_
    exact rest 1 (by rw [if_pos (by omega)])
def selJ (y : Int × Int × Int) : Prop := (y.1 = -1 ∧ y.2.2 = -1000000) ∨ (y.1 ≠ -1 ∧ -1000000 < y.2.2)
theorem selJ.up {y : Int × Int × Int} {n r v : Int} (h : selJ y) (hn : n ≠ -1) : selJ (upG y n r v) := by
  unfold upG
  by_cases e : y.2.2 < v
  · rw [if_pos e]
    rcases h with ⟨h1, h2⟩ | ⟨h1, h2⟩
    · exact Or.inr ⟨hn, by show -1000000 < v; omega⟩
    · exact Or.inr ⟨hn, by show -1000000 < v; omega⟩
  · rw [if_neg e]; exact h
theorem selR_J {t : Int → Int} {s p k n : Int} (hn : n ≠ -1) : ∀ (j : Nat) (y : Int × Int × Int), selJ y → selJ (selR t s p k n j y)
  | 0, _, h => h
  | j + 1, y, h => (selR_J hn j y h).up hn
theorem selN_J {t : Int → Int} {s p k : Int} : ∀ i : Nat, selJ (selN t s p k i)
  | 0 => Or.inl ⟨rfl, rfl⟩
  | i + 1 => selR_J (by omega) _ _ (selN_J i)
theorem upG_no {y : Int × Int × Int} {n r v : Int} (h : ¬ y.2.2 < v) : upG y n r v = y := if_neg h
theorem upG_yes {y : Int × Int × Int} {n r v : Int} (h : y.2.2 < v) : upG y n r v = (n, r, v) := if_pos h
theorem RM.rt0 {M A : aM} {m : Int} (h : RM M m A) : RT0 M m (core (A 0)) := ⟨h.re.1, h.re.2.1⟩
theorem s_Mseller {l : Launch} {E : aE} {N : Nat} {S : aS} {M : aM} (hfl : l.stackTraces = false) (s p k x : Int) (m : Int) (A : aM) (hS : lyM S m) (hR : RM M m A) (hA : TOK (A 0)) : aMt l E pX12_seller [(2, m), (0, s), (0, p), (0, k), (0, x)] N S M (aG N S (opM M m 0 (spSeller A s p k x))) := by
  refine a_met hfl rfl (by decide +kernel) (Nat.le_of_ble_eq_true rfl) ?_
  refine x_aload_n (pc := 0) dX12_seller_0 rfl rfl ?_
  refine x_iconst (pc := 1) dX12_seller_1 (by decide) ?_
  refine x_putI (jj := 3) (pc := 2) dX12_seller_2 fX12_103 hS.1 rfl (by decide) rfl ?_
  refine x_memI (fun M1 hM1 => ?_)
  have R1 : RM M1 m A := by rw [hM1]; exact hR.up3
  have F1 : frM M M1 m := by rw [hM1]; exact frM.rf.up (by omega)
  have T1 : M1 m 3 = 0 := by rw [hM1]; exact up_s
  clear hM1
  have e0 : M1 (m + 1) 0 = A 0 0 := R1.1.1 0 (by omega) (by omega)
  have t0 := hA.1
  refine x_aload_n (pc := 5) dX12_seller_5 rfl rfl ?_
  refine x_iload_n (pc := 6) dX12_seller_6 rfl rfl ?_
  refine x_callV1 (pc := 7) dX12_seller_7 rfl kX12_143 (s_isSet hfl m s hS) hS.1 rfl rfl (Nat.le_of_ble_eq_true rfl) (k_B (fun q_7 => ?_) (fun q_7 => ?_)) n_B
  · rw [e0] at q_7
    refine x_if_eq (tgt := 60) (pc := 10) dX12_seller_10 (by decide) (fun c => absurd c (by decide)) (fun _ => ?_)
    refine x_iload_n (pc := 13) dX12_seller_13 rfl rfl ?_
    refine x_callS1 (pc := 14) dX12_seller_14 rfl kX12_304 (s_sizeOf hfl s ⟨by have := isSet_lt hA (s := s) (by omega); omega, by have := isSet_lt hA (s := s) (by omega); omega⟩) rfl (Nat.le_of_ble_eq_true rfl) (k_R ?_) n_R
    refine x_iconst (pc := 17) dX12_seller_17 (by decide) ?_
    refine x_icmp_gt (tgt := 60) (pc := 18) dX12_seller_18 (by decide) (fun c_18 => ?_) (fun c_18 => ?_)
    · refine x_aload_n (pc := 60) dX12_seller_60 rfl rfl ?_
      refine x_iconst (pc := 61) dX12_seller_61 (by decide) ?_
      refine x_callV1 (pc := 62) dX12_seller_62 rfl kX12_116 (s_fails hfl m _ hS) hS.1 rfl rfl (Nat.le_of_ble_eq_true rfl) (k_G (fun v9 M9 hM9 => ?_)) n_G
      obtain ⟨rfl, rfl⟩ := hM9
      refine x_ireturn (pc := 65) dX12_seller_65 rfl (by decide) ?_
      have e9 : spSeller A s p k x = (1, 0, A) := by
        unfold spSeller
        (repeat' split) <;> first | rfl | (exfalso; omega)
      rw [e9]
      exact ⟨_, rfl, rfl, rfl, rfl, up_s, fun q => absurd q (show ¬ (1 : Int) = 0 by decide), R1.up3, F1.up (by omega)⟩
    · refine x_iload_n (pc := 21) dX12_seller_21 rfl rfl ?_
      refine x_i2l (pc := 22) dX12_seller_22 ?_
      refine x_ldc2 (n := 2) (pc := 23) cX12_356 (by decide) dX12_seller_23 ?_
      refine x_ldc2 (n := 20) (pc := 26) cX12_426 (by decide) dX12_seller_26 ?_
      refine x_callS3 (pc := 29) dX12_seller_29 rfl kX12_106 (s_within hfl _ _ _) rfl (Nat.le_of_ble_eq_true rfl) (k_B (fun q_29 => ?_) (fun q_29 => ?_)) n_B
      · refine x_if_eq (tgt := 60) (pc := 32) dX12_seller_32 (by decide) (fun c => absurd c (by decide)) (fun _ => ?_)
        refine x_iload_n (pc := 35) dX12_seller_35 rfl rfl ?_
        refine x_i2l (pc := 36) dX12_seller_36 ?_
        refine x_lconst0 (pc := 37) dX12_seller_37 ?_
        refine x_ldc2 (n := 20) (pc := 38) cX12_426 (by decide) dX12_seller_38 ?_
        refine x_callS3 (pc := 41) dX12_seller_41 rfl kX12_106 (s_within hfl _ _ _) rfl (Nat.le_of_ble_eq_true rfl) (k_B (fun q_41 => ?_) (fun q_41 => ?_)) n_B
        · refine x_if_eq (tgt := 60) (pc := 44) dX12_seller_44 (by decide) (fun c => absurd c (by decide)) (fun _ => ?_)
          refine x_iload (pc := 47) dX12_seller_47 rfl ?_
          refine x_i2l (pc := 49) dX12_seller_49 ?_
          refine x_lconst0 (pc := 50) dX12_seller_50 ?_
          refine x_ldc2 (n := 3) (pc := 51) cX12_428 (by decide) dX12_seller_51 ?_
          refine x_callS3 (pc := 54) dX12_seller_54 rfl kX12_106 (s_within hfl _ _ _) rfl (Nat.le_of_ble_eq_true rfl) (k_B (fun q_54 => ?_) (fun q_54 => ?_)) n_B
          · refine x_if_ne (tgt := 66) (pc := 57) dX12_seller_57 (by decide) (fun _ => ?_) (fun c => absurd c (by decide))
            have hsl := isSet_lt hA (s := s) (by omega)
            have h6 := hA.tq.2.2.2.2.2.1
            have h6c : 0 ≤ core (A 0) 244 ∧ core (A 0) 244 ≤ 6 := by rw [core_hi (by omega)]; omega
            have hsel : selV (A 0) s p k = selN (core (A 0)) s p k 11 := (selN_cg (core_same (A 0)) h6c s p k 11).symm
            have hpl : plainG (A 0) s p k = gainT (stepT (core (A 0)) p 0 0) s k := (gainT_cg (stepT_same (core_same (A 0)) p 0 0) (by rw [stepT_o (by omega)]; exact h6c) s k).symm
            have z1 : z78 M1 m := R1.z
            have hnn : ¬ (¬ (0 < s ∧ s < b_shl 1 (A 0 0)) ∨ ¬ (sumN (hb s) 7 ≤ 4) ∨ ¬ (2 ≤ p ∧ p ≤ 20) ∨ ¬ (0 ≤ k ∧ k ≤ 20) ∨ ¬ (0 ≤ x ∧ x ≤ 3)) := by omega
            have J180 : ∀ (f e v : Int) (M2 : aM), (frS M1 M2 m ∧ z78 M2 m) → (x = 0 → f = (selV (A 0) s p k).1) → (x = 1 → e = (selV (A 0) s p k).2.1) → (x = 2 → v = (selV (A 0) s p k).2.2) → (x = 3 → v = plainG (A 0) s p k) → aX l E pX12_seller (aG N S (opM M m 0 (spSeller A s p k x))) 0 0 N S M2 180 [(0, (2, m)), (1, (0, s)), (2, (0, p)), (3, (0, k)), (4, (0, x)), (5, (0, v)), (6, (0, f)), (7, (0, e))] [] := by
              intro f e v M2 hM2 u0 u1 u2 u3
              refine x_aload_n (pc := 180) dX12_seller_180 rfl rfl ?_
              refine x_iconst (pc := 181) dX12_seller_181 (by decide) ?_
              refine x_putI (jj := 20) (pc := 182) dX12_seller_182 fX12_259 hS.1 rfl (by decide) rfl ?_
              refine x_aload_n (pc := 185) dX12_seller_185 rfl rfl ?_
              refine x_callV0 (pc := 186) dX12_seller_186 rfl kX12_120 (s_stale hfl m hS) hS.1 rfl rfl (Nat.le_of_ble_eq_true rfl) (k_U (fun M9 hM9 => ?_)) n_U
              have R9 : RM M9 m A := by
                rw [hM9]; exact RM.stale (R1.1.sl hM2.1) (hM2.2.up (by omega))
              have T9 : M9 m 3 = 0 := by
                rw [hM9, stM_a (by omega) (by omega), up_i (by omega)]; exact (hM2.1 m 3 (by omega) (by omega)).trans T1
              have F9 : frM M M9 m := by
                rw [hM9]; exact ((F1.tr hM2.1.m).up (by omega)).st
              clear hM9
              refine x_iload (pc := 189) dX12_seller_189 rfl ?_
              refine x_if_ne (tgt := 199) (pc := 191) dX12_seller_191 (by decide) (fun c_191 => ?_) (fun c_191 => ?_)
              · refine x_iload (pc := 199) dX12_seller_199 rfl ?_
                refine x_iconst (pc := 201) dX12_seller_201 (by decide) ?_
                refine x_icmp_ne (tgt := 210) (pc := 202) dX12_seller_202 (by decide) (fun c_202 => ?_) (fun c_202 => ?_)
                · refine x_iload (pc := 210) dX12_seller_210 rfl ?_
                  refine x_ireturn (pc := 212) dX12_seller_212 rfl (by decide) ?_
                  have e9 : spSeller A s p k x = (0, v, A) := by
                    unfold spSeller
                    rw [if_neg hnn, if_neg (show ¬ x = 0 by omega), if_neg (show ¬ x = 1 by omega)]
                    by_cases q : x = 2
                    · rw [if_pos q, u2 q]
                    · rw [if_neg q, u3 (by omega)]
                  rw [e9]
                  exact ⟨_, rfl, rfl, rfl, rfl, T9, fun _ => rfl, R9, F9⟩
                · refine x_iload (pc := 205) dX12_seller_205 rfl ?_
                  refine x_goto (tgt := 212) (pc := 207) dX12_seller_207 (by decide) ?_
                  refine x_ireturn (pc := 212) dX12_seller_212 rfl (by decide) ?_
                  have e9 : spSeller A s p k x = (0, e, A) := by
                    unfold spSeller
                    rw [if_neg hnn, if_neg (show ¬ x = 0 by omega), if_pos (show x = 1 by omega), u1 (by omega)]
                  rw [e9]
                  exact ⟨_, rfl, rfl, rfl, rfl, T9, fun _ => rfl, R9, F9⟩
              · refine x_iload (pc := 194) dX12_seller_194 rfl ?_
                refine x_goto (tgt := 212) (pc := 196) dX12_seller_196 (by decide) ?_
                refine x_ireturn (pc := 212) dX12_seller_212 rfl (by decide) ?_
                have e9 : spSeller A s p k x = (0, f, A) := by
                  unfold spSeller
                  rw [if_neg hnn, if_pos (show x = 0 by omega), u0 (by omega)]
                rw [e9]
                exact ⟨_, rfl, rfl, rfl, rfl, T9, fun _ => rfl, R9, F9⟩
            have lpA := fun hx3 : x < 3 => a_loop2 (fun i M2 => i ≤ 11 ∧ frS M1 M2 m ∧ z78 M2 m) (fun i M2 => 11 - i) (fun i M2 => aX l E pX12_seller (aG N S (opM M m 0 (spSeller A s p k x))) 0 0 N S M2 97 [(0, (2, m)), (1, (0, s)), (2, (0, p)), (3, (0, k)), (4, (0, x)), (5, (0, (selN (core (A 0)) s p k (i)).2.2)), (6, (0, (selN (core (A 0)) s p k (i)).1)), (7, (0, (selN (core (A 0)) s p k (i)).2.1)), (8, (0, (i : Int) + 2))] []) (by
              intro i M2 hI ih
              obtain ⟨j1, j2, j3⟩ := hI
              refine x_iload (pc := 97) dX12_seller_97 rfl ?_
              refine x_bipush (pc := 99) dX12_seller_99 (by decide) ?_
              refine x_icmp_gt (tgt := 180) (pc := 101) dX12_seller_101 (by decide) (fun c_101 => ?_) (fun c_101 => ?_)
              · have ei : i = 11 := by omega
                subst ei
                exact x_lo (lo' := [(0, (2, m)), (1, (0, s)), (2, (0, p)), (3, (0, k)), (4, (0, x)), (5, (0, (selN (core (A 0)) s p k (11)).2.2)), (6, (0, (selN (core (A 0)) s p k (11)).1)), (7, (0, (selN (core (A 0)) s p k (11)).2.1))]) ⟨rfl, rfl, rfl, rfl, rfl, rfl, rfl, rfl, trivial⟩ (J180 _ _ _ M2 ⟨j2, j3⟩ (fun _ => by rw [hsel]) (fun _ => by rw [hsel]) (fun _ => by rw [hsel]) (fun q => absurd q (by omega)))
              · refine x_iload (pc := 104) dX12_seller_104 rfl ?_
                refine x_iconst (pc := 106) dX12_seller_106 (by decide) ?_
                refine x_icmp_ge (tgt := 180) (pc := 107) dX12_seller_107 (by decide) (fun c_107 => ?_) (fun c_107 => ?_)
                · exfalso; omega
                · refine x_iconst (pc := 110) dX12_seller_110 (by decide) ?_
                  refine x_istore (pc := 111) dX12_seller_111 (by decide) rfl ?_
                  have lpB := a_loop2 (fun j M3 => j ≤ (p - 1).toNat ∧ frS M1 M3 m ∧ z78 M3 m) (fun j M3 => (p - 1).toNat - j) (fun j M3 => aX l E pX12_seller (aG N S (opM M m 0 (spSeller A s p k x))) 0 0 N S M3 113 [(0, (2, m)), (1, (0, s)), (2, (0, p)), (3, (0, k)), (4, (0, x)), (5, (0, (selR (core (A 0)) s p k ((i : Int) + 2) (j) (selN (core (A 0)) s p k i)).2.2)), (6, (0, (selR (core (A 0)) s p k ((i : Int) + 2) (j) (selN (core (A 0)) s p k i)).1)), (7, (0, (selR (core (A 0)) s p k ((i : Int) + 2) (j) (selN (core (A 0)) s p k i)).2.1)), (8, (0, (i : Int) + 2)), (9, (0, (j : Int) + 1))] []) (by
                    intro j M3 hK ih2
                    obtain ⟨k1, k2, k3⟩ := hK
                    refine x_iload (pc := 113) dX12_seller_113 rfl ?_
                    refine x_iload_n (pc := 115) dX12_seller_115 rfl rfl ?_
                    refine x_icmp_ge (tgt := 174) (pc := 116) dX12_seller_116 (by decide) (fun c_116 => ?_) (fun c_116 => ?_)
                    · refine x_iinc (pc := 174) dX12_seller_174 rfl (by omega) (by decide) rfl ?_
                      refine x_goto (tgt := 97) (pc := 177) dX12_seller_177 (by decide) ?_
                      have ej : j = (p - 1).toNat := by omega
                      subst ej
                      exact x_lo (lo' := [(0, (2, m)), (1, (0, s)), (2, (0, p)), (3, (0, k)), (4, (0, x)), (5, (0, (selN (core (A 0)) s p k (i + 1)).2.2)), (6, (0, (selN (core (A 0)) s p k (i + 1)).1)), (7, (0, (selN (core (A 0)) s p k (i + 1)).2.1)), (8, (0, ((i + 1 : Nat) : Int) + 2))]) ⟨rfl, rfl, rfl, rfl, rfl, rfl, rfl, rfl, rfl, trivial⟩ (ih (i + 1) M3 ⟨by omega, k2, k3⟩ (by omega))
                    · refine x_aload_n (pc := 119) dX12_seller_119 rfl rfl ?_
                      refine x_iload_n (pc := 120) dX12_seller_120 rfl rfl ?_
                      refine x_iload_n (pc := 121) dX12_seller_121 rfl rfl ?_
                      refine x_iload (pc := 122) dX12_seller_122 rfl ?_
                      refine x_iload (pc := 124) dX12_seller_124 rfl ?_
                      refine x_iload_n (pc := 126) dX12_seller_126 rfl rfl ?_
                      refine x_callV5 (pc := 127) dX12_seller_127 rfl kX12_430 (s_gainM hfl m (core (A 0)) s p ((i : Int) + 2) ((j : Int) + 1) k hS (R1.rt0.cg k2) k3 (core_tq hA.tq) hsl (by omega) (Or.inr (by omega)) (by omega)) hS.1 rfl rfl (Nat.le_of_ble_eq_true rfl) (k_G (fun v9 M9 hM9 => ?_)) n_G
                      obtain ⟨rfl, f9, z9⟩ := hM9
                      have hJ9 := selR_J (t := (core (A 0))) (s := s) (p := p) (k := k) (n := (i : Int) + 2) (by omega) j _ (selN_J (t := (core (A 0))) (s := s) (p := p) (k := k) i)
                      unfold selJ at hJ9
                      have hgr9 := gainT_r (stepT_tq (p := p) (n := (i : Int) + 2) (r := (j : Int) + 1) (core_tq hA.tq) (by omega) (Or.inr (by omega))) hsl (k := k) (by omega)
                      refine x_istore (pc := 130) dX12_seller_130 (by decide) rfl ?_
                      refine x_iload (pc := 132) dX12_seller_132 rfl ?_
                      refine x_ldcw (n := -1000000) (pc := 134) cX12_338 (by decide) dX12_seller_134 ?_
                      refine x_icmp_eq (tgt := 168) (pc := 137) dX12_seller_137 (by decide) (fun c_137 => ?_) (fun c_137 => ?_)
                      · refine x_iinc (pc := 168) dX12_seller_168 rfl (by omega) (by decide) rfl ?_
                        refine x_goto (tgt := 113) (pc := 171) dX12_seller_171 (by decide) ?_
                        have eu : (selR (core (A 0)) s p k ((i : Int) + 2) (j + 1) (selN (core (A 0)) s p k i)) = (selR (core (A 0)) s p k ((i : Int) + 2) (j) (selN (core (A 0)) s p k i)) := upG_no (by show ¬ (selR (core (A 0)) s p k ((i : Int) + 2) (j) (selN (core (A 0)) s p k i)).2.2 < gainT (stepT (core (A 0)) p ((i : Int) + 2) ((j : Int) + 1)) s k; omega)
                        refine x_lo (lo' := [(0, (2, m)), (1, (0, s)), (2, (0, p)), (3, (0, k)), (4, (0, x)), (5, (0, (selR (core (A 0)) s p k ((i : Int) + 2) (j + 1) (selN (core (A 0)) s p k i)).2.2)), (6, (0, (selR (core (A 0)) s p k ((i : Int) + 2) (j + 1) (selN (core (A 0)) s p k i)).1)), (7, (0, (selR (core (A 0)) s p k ((i : Int) + 2) (j + 1) (selN (core (A 0)) s p k i)).2.1)), (8, (0, ((i : Nat) : Int) + 2)), (9, (0, ((j + 1 : Nat) : Int) + 1))]) ⟨rfl, rfl, rfl, rfl, rfl, ?_, ?_, ?_, rfl, rfl, trivial⟩ (ih2 (j + 1) M9 ⟨by omega, k2.tr f9, z9⟩ (by omega))
                        · rewrite [eu]; rfl
                        · rewrite [eu]; rfl
                        · rewrite [eu]; rfl
                      · refine x_iload (pc := 140) dX12_seller_140 rfl ?_
                        refine x_iconst (pc := 142) dX12_seller_142 (by decide) ?_
                        refine x_icmp_eq (tgt := 156) (pc := 143) dX12_seller_143 (by decide) (fun c_143 => ?_) (fun c_143 => ?_)
                        · refine x_iload (pc := 156) dX12_seller_156 rfl ?_
                          refine x_istore (pc := 158) dX12_seller_158 (by decide) rfl ?_
                          refine x_iload (pc := 160) dX12_seller_160 rfl ?_
                          refine x_istore (pc := 162) dX12_seller_162 (by decide) rfl ?_
                          refine x_iload (pc := 164) dX12_seller_164 rfl ?_
                          refine x_istore (pc := 166) dX12_seller_166 (by decide) rfl ?_
                          refine x_iinc (pc := 168) dX12_seller_168 rfl (by omega) (by decide) rfl ?_
                          refine x_goto (tgt := 113) (pc := 171) dX12_seller_171 (by decide) ?_
                          have eu : (selR (core (A 0)) s p k ((i : Int) + 2) (j + 1) (selN (core (A 0)) s p k i)) = ((i : Int) + 2, (j : Int) + 1, gainT (stepT (core (A 0)) p ((i : Int) + 2) ((j : Int) + 1)) s k) := upG_yes (by show  (selR (core (A 0)) s p k ((i : Int) + 2) (j) (selN (core (A 0)) s p k i)).2.2 < gainT (stepT (core (A 0)) p ((i : Int) + 2) ((j : Int) + 1)) s k; omega)
                          refine x_lo (lo' := [(0, (2, m)), (1, (0, s)), (2, (0, p)), (3, (0, k)), (4, (0, x)), (5, (0, (selR (core (A 0)) s p k ((i : Int) + 2) (j + 1) (selN (core (A 0)) s p k i)).2.2)), (6, (0, (selR (core (A 0)) s p k ((i : Int) + 2) (j + 1) (selN (core (A 0)) s p k i)).1)), (7, (0, (selR (core (A 0)) s p k ((i : Int) + 2) (j + 1) (selN (core (A 0)) s p k i)).2.1)), (8, (0, ((i : Nat) : Int) + 2)), (9, (0, ((j + 1 : Nat) : Int) + 1))]) ⟨rfl, rfl, rfl, rfl, rfl, ?_, ?_, ?_, rfl, rfl, trivial⟩ (ih2 (j + 1) M9 ⟨by omega, k2.tr f9, z9⟩ (by omega))
                          · rewrite [eu]; rfl
                          · rewrite [eu]; rfl
                          · rewrite [eu]; rfl
                        · refine x_iload (pc := 146) dX12_seller_146 rfl ?_
                          refine x_iload (pc := 148) dX12_seller_148 rfl ?_
                          refine x_icmp_gt (tgt := 156) (pc := 150) dX12_seller_150 (by decide) (fun c_150 => ?_) (fun c_150 => ?_)
                          · refine x_iload (pc := 156) dX12_seller_156 rfl ?_
                            refine x_istore (pc := 158) dX12_seller_158 (by decide) rfl ?_
                            refine x_iload (pc := 160) dX12_seller_160 rfl ?_
                            refine x_istore (pc := 162) dX12_seller_162 (by decide) rfl ?_
                            refine x_iload (pc := 164) dX12_seller_164 rfl ?_
                            refine x_istore (pc := 166) dX12_seller_166 (by decide) rfl ?_
                            refine x_iinc (pc := 168) dX12_seller_168 rfl (by omega) (by decide) rfl ?_
                            refine x_goto (tgt := 113) (pc := 171) dX12_seller_171 (by decide) ?_
                            have eu : (selR (core (A 0)) s p k ((i : Int) + 2) (j + 1) (selN (core (A 0)) s p k i)) = ((i : Int) + 2, (j : Int) + 1, gainT (stepT (core (A 0)) p ((i : Int) + 2) ((j : Int) + 1)) s k) := upG_yes (by show  (selR (core (A 0)) s p k ((i : Int) + 2) (j) (selN (core (A 0)) s p k i)).2.2 < gainT (stepT (core (A 0)) p ((i : Int) + 2) ((j : Int) + 1)) s k; omega)
                            refine x_lo (lo' := [(0, (2, m)), (1, (0, s)), (2, (0, p)), (3, (0, k)), (4, (0, x)), (5, (0, (selR (core (A 0)) s p k ((i : Int) + 2) (j + 1) (selN (core (A 0)) s p k i)).2.2)), (6, (0, (selR (core (A 0)) s p k ((i : Int) + 2) (j + 1) (selN (core (A 0)) s p k i)).1)), (7, (0, (selR (core (A 0)) s p k ((i : Int) + 2) (j + 1) (selN (core (A 0)) s p k i)).2.1)), (8, (0, ((i : Nat) : Int) + 2)), (9, (0, ((j + 1 : Nat) : Int) + 1))]) ⟨rfl, rfl, rfl, rfl, rfl, ?_, ?_, ?_, rfl, rfl, trivial⟩ (ih2 (j + 1) M9 ⟨by omega, k2.tr f9, z9⟩ (by omega))
                            · rewrite [eu]; rfl
                            · rewrite [eu]; rfl
                            · rewrite [eu]; rfl
                          · refine x_goto (tgt := 168) (pc := 153) dX12_seller_153 (by decide) ?_
                            refine x_iinc (pc := 168) dX12_seller_168 rfl (by omega) (by decide) rfl ?_
                            refine x_goto (tgt := 113) (pc := 171) dX12_seller_171 (by decide) ?_
                            have eu : (selR (core (A 0)) s p k ((i : Int) + 2) (j + 1) (selN (core (A 0)) s p k i)) = (selR (core (A 0)) s p k ((i : Int) + 2) (j) (selN (core (A 0)) s p k i)) := upG_no (by show ¬ (selR (core (A 0)) s p k ((i : Int) + 2) (j) (selN (core (A 0)) s p k i)).2.2 < gainT (stepT (core (A 0)) p ((i : Int) + 2) ((j : Int) + 1)) s k; omega)
                            refine x_lo (lo' := [(0, (2, m)), (1, (0, s)), (2, (0, p)), (3, (0, k)), (4, (0, x)), (5, (0, (selR (core (A 0)) s p k ((i : Int) + 2) (j + 1) (selN (core (A 0)) s p k i)).2.2)), (6, (0, (selR (core (A 0)) s p k ((i : Int) + 2) (j + 1) (selN (core (A 0)) s p k i)).1)), (7, (0, (selR (core (A 0)) s p k ((i : Int) + 2) (j + 1) (selN (core (A 0)) s p k i)).2.1)), (8, (0, ((i : Nat) : Int) + 2)), (9, (0, ((j + 1 : Nat) : Int) + 1))]) ⟨rfl, rfl, rfl, rfl, rfl, ?_, ?_, ?_, rfl, rfl, trivial⟩ (ih2 (j + 1) M9 ⟨by omega, k2.tr f9, z9⟩ (by omega))
                            · rewrite [eu]; rfl
                            · rewrite [eu]; rfl
                            · rewrite [eu]; rfl)
                  exact x_lo (lo' := [(0, (2, m)), (1, (0, s)), (2, (0, p)), (3, (0, k)), (4, (0, x)), (5, (0, (selR (core (A 0)) s p k ((i : Int) + 2) (0) (selN (core (A 0)) s p k i)).2.2)), (6, (0, (selR (core (A 0)) s p k ((i : Int) + 2) (0) (selN (core (A 0)) s p k i)).1)), (7, (0, (selR (core (A 0)) s p k ((i : Int) + 2) (0) (selN (core (A 0)) s p k i)).2.1)), (8, (0, ((i : Nat) : Int) + 2)), (9, (0, ((0 : Nat) : Int) + 1))]) ⟨rfl, rfl, rfl, rfl, rfl, rfl, rfl, rfl, rfl, rfl, trivial⟩ (lpB 0 M2 ⟨by omega, j2, j3⟩))
            refine x_ldcw (n := -1000000) (pc := 66) cX12_338 (by decide) dX12_seller_66 ?_
            refine x_istore (pc := 69) dX12_seller_69 (by decide) rfl ?_
            refine x_iconst (pc := 71) dX12_seller_71 (by decide) ?_
            refine x_istore (pc := 72) dX12_seller_72 (by decide) rfl ?_
            refine x_iconst (pc := 74) dX12_seller_74 (by decide) ?_
            refine x_istore (pc := 75) dX12_seller_75 (by decide) rfl ?_
            refine x_iload (pc := 77) dX12_seller_77 rfl ?_
            refine x_iconst (pc := 79) dX12_seller_79 (by decide) ?_
            refine x_icmp_ne (tgt := 94) (pc := 80) dX12_seller_80 (by decide) (fun c_80 => ?_) (fun c_80 => ?_)
            · refine x_iconst (pc := 94) dX12_seller_94 (by decide) ?_
              refine x_istore (pc := 95) dX12_seller_95 (by decide) rfl ?_
              exact x_lo (lo' := [(0, (2, m)), (1, (0, s)), (2, (0, p)), (3, (0, k)), (4, (0, x)), (5, (0, (selN (core (A 0)) s p k (0)).2.2)), (6, (0, (selN (core (A 0)) s p k (0)).1)), (7, (0, (selN (core (A 0)) s p k (0)).2.1)), (8, (0, ((0 : Nat) : Int) + 2))]) ⟨rfl, rfl, rfl, rfl, rfl, rfl, rfl, rfl, rfl, trivial⟩ (lpA (by omega) 0 M1 ⟨by omega, frS.rf, z1⟩)
            · refine x_aload_n (pc := 83) dX12_seller_83 rfl rfl ?_
              refine x_iload_n (pc := 84) dX12_seller_84 rfl rfl ?_
              refine x_iload_n (pc := 85) dX12_seller_85 rfl rfl ?_
              refine x_iconst (pc := 86) dX12_seller_86 (by decide) ?_
              refine x_iconst (pc := 87) dX12_seller_87 (by decide) ?_
              refine x_iload_n (pc := 88) dX12_seller_88 rfl rfl ?_
              refine x_callV5 (pc := 89) dX12_seller_89 rfl kX12_430 (s_gainM hfl m (core (A 0)) s p 0 0 k hS R1.rt0 z1 (core_tq hA.tq) hsl (by omega) (Or.inl rfl) (by omega)) hS.1 rfl rfl (Nat.le_of_ble_eq_true rfl) (k_G (fun v9 M9 hM9 => ?_)) n_G
              obtain ⟨rfl, f9, z9⟩ := hM9
              refine x_istore (pc := 92) dX12_seller_92 (by decide) rfl ?_
              refine x_iconst (pc := 94) dX12_seller_94 (by decide) ?_
              refine x_istore (pc := 95) dX12_seller_95 (by decide) rfl ?_
              refine x_iload (pc := 97) dX12_seller_97 rfl ?_
              refine x_bipush (pc := 99) dX12_seller_99 (by decide) ?_
              refine x_icmp_gt (tgt := 180) (pc := 101) dX12_seller_101 (by decide) (fun c_101 => ?_) (fun c_101 => ?_)
              · exfalso; omega
              · refine x_iload (pc := 104) dX12_seller_104 rfl ?_
                refine x_iconst (pc := 106) dX12_seller_106 (by decide) ?_
                refine x_icmp_ge (tgt := 180) (pc := 107) dX12_seller_107 (by decide) (fun c_107 => ?_) (fun c_107 => ?_)
                · exact x_lo (lo' := [(0, (2, m)), (1, (0, s)), (2, (0, p)), (3, (0, k)), (4, (0, x)), (5, (0, gainT (stepT (core (A 0)) p 0 0) s k)), (6, (0, -1)), (7, (0, -1))]) ⟨rfl, rfl, rfl, rfl, rfl, rfl, rfl, rfl, trivial⟩ (J180 _ _ _ M9 ⟨f9, z9⟩ (fun q => absurd q (by omega)) (fun q => absurd q (by omega)) (fun q => absurd q (by omega)) (fun _ => hpl.symm))
                · exfalso; omega
          · refine x_if_ne (tgt := 66) (pc := 57) dX12_seller_57 (by decide) (fun c => absurd c (by decide)) (fun _ => ?_)
            refine x_aload_n (pc := 60) dX12_seller_60 rfl rfl ?_
            refine x_iconst (pc := 61) dX12_seller_61 (by decide) ?_
            refine x_callV1 (pc := 62) dX12_seller_62 rfl kX12_116 (s_fails hfl m _ hS) hS.1 rfl rfl (Nat.le_of_ble_eq_true rfl) (k_G (fun v9 M9 hM9 => ?_)) n_G
            obtain ⟨rfl, rfl⟩ := hM9
            refine x_ireturn (pc := 65) dX12_seller_65 rfl (by decide) ?_
            have e9 : spSeller A s p k x = (1, 0, A) := by
              unfold spSeller
              (repeat' split) <;> first | rfl | (exfalso; omega)
            rw [e9]
            exact ⟨_, rfl, rfl, rfl, rfl, up_s, fun q => absurd q (show ¬ (1 : Int) = 0 by decide), R1.up3, F1.up (by omega)⟩
        · refine x_if_eq (tgt := 60) (pc := 44) dX12_seller_44 (by decide) (fun _ => ?_) (fun c => absurd c (by decide))
          refine x_aload_n (pc := 60) dX12_seller_60 rfl rfl ?_
          refine x_iconst (pc := 61) dX12_seller_61 (by decide) ?_
          refine x_callV1 (pc := 62) dX12_seller_62 rfl kX12_116 (s_fails hfl m _ hS) hS.1 rfl rfl (Nat.le_of_ble_eq_true rfl) (k_G (fun v9 M9 hM9 => ?_)) n_G
          obtain ⟨rfl, rfl⟩ := hM9
          refine x_ireturn (pc := 65) dX12_seller_65 rfl (by decide) ?_
          have e9 : spSeller A s p k x = (1, 0, A) := by
            unfold spSeller
            (repeat' split) <;> first | rfl | (exfalso; omega)
          rw [e9]
          exact ⟨_, rfl, rfl, rfl, rfl, up_s, fun q => absurd q (show ¬ (1 : Int) = 0 by decide), R1.up3, F1.up (by omega)⟩
      · refine x_if_eq (tgt := 60) (pc := 32) dX12_seller_32 (by decide) (fun _ => ?_) (fun c => absurd c (by decide))
        refine x_aload_n (pc := 60) dX12_seller_60 rfl rfl ?_
        refine x_iconst (pc := 61) dX12_seller_61 (by decide) ?_
        refine x_callV1 (pc := 62) dX12_seller_62 rfl kX12_116 (s_fails hfl m _ hS) hS.1 rfl rfl (Nat.le_of_ble_eq_true rfl) (k_G (fun v9 M9 hM9 => ?_)) n_G
        obtain ⟨rfl, rfl⟩ := hM9
        refine x_ireturn (pc := 65) dX12_seller_65 rfl (by decide) ?_
        have e9 : spSeller A s p k x = (1, 0, A) := by
          unfold spSeller
          (repeat' split) <;> first | rfl | (exfalso; omega)
        rw [e9]
        exact ⟨_, rfl, rfl, rfl, rfl, up_s, fun q => absurd q (show ¬ (1 : Int) = 0 by decide), R1.up3, F1.up (by omega)⟩
  · rw [e0] at q_7
    refine x_if_eq (tgt := 60) (pc := 10) dX12_seller_10 (by decide) (fun _ => ?_) (fun c => absurd c (by decide))
    refine x_aload_n (pc := 60) dX12_seller_60 rfl rfl ?_
    refine x_iconst (pc := 61) dX12_seller_61 (by decide) ?_
    refine x_callV1 (pc := 62) dX12_seller_62 rfl kX12_116 (s_fails hfl m _ hS) hS.1 rfl rfl (Nat.le_of_ble_eq_true rfl) (k_G (fun v9 M9 hM9 => ?_)) n_G
    obtain ⟨rfl, rfl⟩ := hM9
    refine x_ireturn (pc := 65) dX12_seller_65 rfl (by decide) ?_
    have e9 : spSeller A s p k x = (1, 0, A) := by
      unfold spSeller
      (repeat' split) <;> first | rfl | (exfalso; omega)
    rw [e9]
    exact ⟨_, rfl, rfl, rfl, rfl, up_s, fun q => absurd q (show ¬ (1 : Int) = 0 by decide), R1.up3, F1.up (by omega)⟩
