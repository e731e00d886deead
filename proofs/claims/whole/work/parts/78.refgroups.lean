/-! the reference: sets and groups -/
theorem tot_of_min {c : Int → Int} (hc : costs9 c) {s B : Int} (hs : 0 ≤ s ∧ s < 128) (h1 : B = -1 ∨ ∃ σ k, OKR c s σ k ∧ valR c s σ k = B) (h0 : B = -1 ∨ 0 ≤ B) (h2 : ∀ σ k, OKR c s σ k → B ≠ -1 ∧ B ≤ valR c s σ k) : B = totE c s := by
  have z : isMin c s B := by
    by_cases e : B = -1
    · exact Or.inl ⟨e, fun σ k w => (h2 σ k w).1 e⟩
    · rcases h1 with h1 | ⟨σ, k, u, v⟩
      · exact absurd h1 e
      · exact Or.inr ⟨by omega, σ, k, u, v, fun σ' k' w => (h2 σ' k' w).2⟩
  exact z.eq (totE_min hc hs)
theorem BSt.tot {M : aM} {m : Int} {c : Int → Int} {s : Int} (hc : costs9 c) (hs : 0 ≤ s ∧ s < 128) (h : BSt M m c s (totE c s)) : M m 32 = totV c s ∧ (totE c s ≠ -1 → M m 33 = manyF c 7 s ∧ ∀ i, 0 ≤ i → i < 7 → hb s i = 1 → M (m + 17) i = digV c s i) := by
  rcases h with ⟨h1, h2⟩ | ⟨h0, σ, n, h1, h2, h3, h4, h5⟩
  · refine ⟨?_, fun q => absurd h1 q⟩
    unfold totV
    rw [if_pos h1]; exact h2
  · have hr := rowN_r h1.1
    have hv : valR c s σ n = gsum c s σ n * 2097152 + rowN s σ := rfl
    rw [h2] at hv
    have hd : ∀ i, 0 ≤ i → i < 7 → hb s i = 1 → digV c s i = σ i := fun i a b w => by
      have y := dig_row (c := c) h1.1 (i := i) ⟨a, b⟩
      rw [h2] at y
      have y2 : digV c s i = dgt s σ i := y
      rw [y2]
      exact if_pos w
    refine ⟨?_, fun q => ⟨?_, fun i a b w => (h5 i a b w).trans (hd i a b w).symm⟩⟩
    · unfold totV
      rw [if_neg (by omega)]
      omega
    · rw [h4]
      exact (many_ok hc 7 s n hs.1 hs.2 (size_r hs).2 q (h1.cg hd).1).symm
/-- what is left behind g groups -/
theorem rest_ok {c : Int → Int} (hc : costs9 c) {s : Int} (hs : 0 ≤ s ∧ s < 128) (ht : totE c s ≠ -1) {n : Nat} (hn : OKR c s (digV c s) n) : ∀ g : Nat, g ≤ n → (0 ≤ restF c s g ∧ restF c s g < 128) ∧ (∀ i, 0 ≤ i → i < 7 → (hb (restF c s g) i = 1 ↔ hb s i = 1 ∧ (g : Int) ≤ digV c s i)) ∧ totE c (restF c s g) ≠ -1 ∧ (∀ i, 0 ≤ i → i < 7 → hb (restF c s g) i = 1 → digV c s i = digV c (restF c s g) i + g) ∧ sumN (hb (restF c s g)) 7 + g ≤ 7
  | 0, _ => ⟨hs, fun i a b => ⟨fun w => ⟨w, (hn.1.1 i a b w).1⟩, fun w => w.1⟩, ht, fun i a b w => (Int.add_zero _).symm, by have := size_r hs; show sumN (hb s) 7 + (0 : Int) ≤ 7; omega⟩
  | g + 1, hg => by
    obtain ⟨h1, h2, h3, h4, h5⟩ := rest_ok hc hs ht hn g (by omega)
    obtain ⟨j, j0, j1, j2, j3⟩ := hn.1.2 g (by omega) (by omega)
    have hp : 0 < restF c s g := by
      have w := (h2 j j0 j1).mpr ⟨j2, by omega⟩
      by_cases e : restF c s g = 0
      · rw [e] at w; exact absurd w (hb_0 ⟨j0, j1⟩)
      · omega
    obtain ⟨p1, p2, p3, p4, p5, p6, p7, p8⟩ := first_ok hc ⟨hp, h1.2⟩ h3
    have e : restF c s (g + 1) = b_xor (restF c s g) (firstG c (restF c s g)) := rfl
    have hx := b_xor_lt h1 (y := firstG c (restF c s g)) (by omega)
    have hb9 : ∀ i, 0 ≤ i → i < 7 → (hb (b_xor (restF c s g) (firstG c (restF c s g))) i = 1 ↔ hb (restF c s g) i = 1 ∧ ¬ digV c (restF c s g) i = 0) := fun i a b => by
      rw [hb_sub (by omega) h1 p2 ⟨a, b⟩]
      have : hb (firstG c (restF c s g)) i = 1 ↔ hb (restF c s g) i = 1 ∧ digV c (restF c s g) i = 0 := grp_hb (ρ := digV c (restF c s g)) ⟨a, b⟩
      constructor
      · rintro ⟨u, v⟩; exact ⟨u, fun z => v (this.mpr ⟨u, z⟩)⟩
      · rintro ⟨u, v⟩; exact ⟨u, fun z => v (this.mp z).2⟩
    rw [e]
    refine ⟨hx, fun i a b => ?_, p5, fun i a b w => ?_, ?_⟩
    · rw [hb9 i a b, h2 i a b]
      constructor
      · rintro ⟨⟨u, v⟩, w⟩
        have := h4 i a b ((h2 i a b).mpr ⟨u, v⟩)
        exact ⟨u, by omega⟩
      · rintro ⟨u, v⟩
        have := h4 i a b ((h2 i a b).mpr ⟨u, by omega⟩)
        exact ⟨⟨u, by omega⟩, by omega⟩
    · have w2 := (hb9 i a b).mp w
      have := h4 i a b w2.1
      have := p7 i a b w
      omega
    · have := size_xor p1 ⟨hp, h1.2⟩ p2
      omega
theorem first_rest {c : Int → Int} (hc : costs9 c) {s : Int} (hs : 0 ≤ s ∧ s < 128) (ht : totE c s ≠ -1) {n : Nat} (hn : OKR c s (digV c s) n) {g : Nat} (hg : g < n) : firstG c (restF c s g) = grp s (digV c s) g ∧ 0 < restF c s g := by
  obtain ⟨h1, h2, h3, h4, h5⟩ := rest_ok hc hs ht hn g (by omega)
  refine ⟨hb_ext (x := grp (restF c s g) (digV c (restF c s g)) 0) grp_lt grp_lt fun j a b => ?_, ?_⟩
  · rw [grp_hb ⟨a, b⟩, grp_hb ⟨a, b⟩, h2 j a b]
    constructor
    · rintro ⟨⟨u, v⟩, w⟩
      have := h4 j a b ((h2 j a b).mpr ⟨u, v⟩)
      exact ⟨u, by omega⟩
    · rintro ⟨u, v⟩
      have := h4 j a b ((h2 j a b).mpr ⟨u, by omega⟩)
      exact ⟨⟨u, by omega⟩, by omega⟩
  · obtain ⟨j, j0, j1, j2, j3⟩ := hn.1.2 g (by omega) (by omega)
    have w := (h2 j j0 j1).mpr ⟨j2, by omega⟩
    by_cases e : restF c s g = 0
    · rw [e] at w; exact absurd w (hb_0 ⟨j0, j1⟩)
    · omega
theorem rest_end {c : Int → Int} (hc : costs9 c) {s : Int} (hs : 0 ≤ s ∧ s < 128) (ht : totE c s ≠ -1) {n : Nat} (hn : OKR c s (digV c s) n) : restF c s n = 0 := by
  obtain ⟨h1, h2, h3, h4, h5⟩ := rest_ok hc hs ht hn n (Nat.le_refl n)
  refine (b_zero_iff h1).mpr fun j a b w => ?_
  have w2 := (h2 j a b).mp w
  have := hn.1.1 j a b w2.1
  omega
theorem dX12_least_0 : decode cX12_least 0 = .ok (.aload_n 0, 1) := by decide +kernel
theorem dX12_least_1 : decode cX12_least 1 = .ok (.iconst 0, 1) := by decide +kernel
theorem dX12_least_2 : decode cX12_least 2 = .ok (.putfield 103, 3) := by decide +kernel
theorem dX12_least_5 : decode cX12_least 5 = .ok (.aload_n 0, 1) := by decide +kernel
theorem dX12_least_6 : decode cX12_least 6 = .ok (.iload_n 1, 1) := by decide +kernel
theorem dX12_least_7 : decode cX12_least 7 = .ok (.invokevirtual 143, 3) := by decide +kernel
theorem dX12_least_10 : decode cX12_least 10 = .ok (.ifCond .eq 11, 3) := by decide +kernel
theorem dX12_least_13 : decode cX12_least 13 = .ok (.aload_n 0, 1) := by decide +kernel
theorem dX12_least_14 : decode cX12_least 14 = .ok (.iload_n 1, 1) := by decide +kernel
theorem dX12_least_15 : decode cX12_least 15 = .ok (.invokevirtual 328, 3) := by decide +kernel
theorem dX12_least_18 : decode cX12_least 18 = .ok (.goto 8, 3) := by decide +kernel
theorem dX12_least_21 : decode cX12_least 21 = .ok (.aload_n 0, 1) := by decide +kernel
theorem dX12_least_22 : decode cX12_least 22 = .ok (.iconst 1, 1) := by decide +kernel
theorem dX12_least_23 : decode cX12_least 23 = .ok (.invokevirtual 116, 3) := by decide +kernel
theorem dX12_least_26 : decode cX12_least 26 = .ok (.ireturn, 1) := by decide +kernel
theorem dX12_group_0 : decode cX12_group 0 = .ok (.aload_n 0, 1) := by decide +kernel
theorem dX12_group_1 : decode cX12_group 1 = .ok (.iconst 0, 1) := by decide +kernel
theorem dX12_group_2 : decode cX12_group 2 = .ok (.putfield 103, 3) := by decide +kernel
theorem dX12_group_5 : decode cX12_group 5 = .ok (.aload_n 0, 1) := by decide +kernel
theorem dX12_group_6 : decode cX12_group 6 = .ok (.iload_n 1, 1) := by decide +kernel
theorem dX12_group_7 : decode cX12_group 7 = .ok (.invokevirtual 143, 3) := by decide +kernel
theorem dX12_group_10 : decode cX12_group 10 = .ok (.ifCond .ne 9, 3) := by decide +kernel
theorem dX12_group_13 : decode cX12_group 13 = .ok (.aload_n 0, 1) := by decide +kernel
theorem dX12_group_14 : decode cX12_group 14 = .ok (.iconst 1, 1) := by decide +kernel
theorem dX12_group_15 : decode cX12_group 15 = .ok (.invokevirtual 116, 3) := by decide +kernel
theorem dX12_group_18 : decode cX12_group 18 = .ok (.ireturn, 1) := by decide +kernel
theorem dX12_group_19 : decode cX12_group 19 = .ok (.iload_n 2, 1) := by decide +kernel
theorem dX12_group_20 : decode cX12_group 20 = .ok (.iconst (-1), 1) := by decide +kernel
theorem dX12_group_21 : decode cX12_group 21 = .ok (.if_icmp .eq 23, 3) := by decide +kernel
theorem dX12_group_24 : decode cX12_group 24 = .ok (.iload_n 2, 1) := by decide +kernel
theorem dX12_group_25 : decode cX12_group 25 = .ok (.i2l, 1) := by decide +kernel
theorem dX12_group_26 : decode cX12_group 26 = .ok (.lconst 0, 1) := by decide +kernel
theorem dX12_group_27 : decode cX12_group 27 = .ok (.ldc2_w 331, 3) := by decide +kernel
theorem dX12_group_30 : decode cX12_group 30 = .ok (.invokestatic 106, 3) := by decide +kernel
theorem dX12_group_33 : decode cX12_group 33 = .ok (.ifCond .eq 20, 3) := by decide +kernel
theorem dX12_group_36 : decode cX12_group 36 = .ok (.iload_n 1, 1) := by decide +kernel
theorem dX12_group_37 : decode cX12_group 37 = .ok (.iload_n 2, 1) := by decide +kernel
theorem dX12_group_38 : decode cX12_group 38 = .ok (.invokestatic 136, 3) := by decide +kernel
theorem dX12_group_41 : decode cX12_group 41 = .ok (.ifCond .eq 12, 3) := by decide +kernel
theorem dX12_group_44 : decode cX12_group 44 = .ok (.aload_n 0, 1) := by decide +kernel
theorem dX12_group_45 : decode cX12_group 45 = .ok (.iload_n 1, 1) := by decide +kernel
theorem dX12_group_46 : decode cX12_group 46 = .ok (.invokevirtual 328, 3) := by decide +kernel
theorem dX12_group_49 : decode cX12_group 49 = .ok (.iconst (-1), 1) := by decide +kernel
theorem dX12_group_50 : decode cX12_group 50 = .ok (.if_icmp .ne 5, 3) := by decide +kernel
theorem dX12_group_53 : decode cX12_group 53 = .ok (.iconst (-1), 1) := by decide +kernel
theorem dX12_group_54 : decode cX12_group 54 = .ok (.ireturn, 1) := by decide +kernel
theorem dX12_group_55 : decode cX12_group 55 = .ok (.iload_n 2, 1) := by decide +kernel
theorem dX12_group_56 : decode cX12_group 56 = .ok (.iconst (-1), 1) := by decide +kernel
theorem dX12_group_57 : decode cX12_group 57 = .ok (.if_icmp .ne 10, 3) := by decide +kernel
theorem dX12_group_60 : decode cX12_group 60 = .ok (.aload_n 0, 1) := by decide +kernel
theorem dX12_group_61 : decode cX12_group 61 = .ok (.getfield 319, 3) := by decide +kernel
theorem dX12_group_64 : decode cX12_group 64 = .ok (.goto 9, 3) := by decide +kernel
theorem dX12_group_67 : decode cX12_group 67 = .ok (.aload_n 0, 1) := by decide +kernel
theorem dX12_group_68 : decode cX12_group 68 = .ok (.getfield 63, 3) := by decide +kernel
theorem dX12_group_71 : decode cX12_group 71 = .ok (.iload_n 2, 1) := by decide +kernel
theorem dX12_group_72 : decode cX12_group 72 = .ok (.iaload, 1) := by decide +kernel
theorem dX12_group_73 : decode cX12_group 73 = .ok (.ireturn, 1) := by decide +kernel
theorem dX12_come_0 : decode cX12_come 0 = .ok (.aload_n 0, 1) := by decide +kernel
theorem dX12_come_1 : decode cX12_come 1 = .ok (.iconst 0, 1) := by decide +kernel
theorem dX12_come_2 : decode cX12_come 2 = .ok (.putfield 103, 3) := by decide +kernel
theorem dX12_come_5 : decode cX12_come 5 = .ok (.aload_n 0, 1) := by decide +kernel
theorem dX12_come_6 : decode cX12_come 6 = .ok (.iload_n 2, 1) := by decide +kernel
theorem dX12_come_7 : decode cX12_come 7 = .ok (.invokevirtual 123, 3) := by decide +kernel
theorem dX12_come_10 : decode cX12_come 10 = .ok (.ifCond .ne 9, 3) := by decide +kernel
theorem dX12_come_13 : decode cX12_come 13 = .ok (.aload_n 0, 1) := by decide +kernel
theorem dX12_come_14 : decode cX12_come 14 = .ok (.iconst 1, 1) := by decide +kernel
theorem dX12_come_15 : decode cX12_come 15 = .ok (.invokevirtual 116, 3) := by decide +kernel
theorem dX12_come_18 : decode cX12_come 18 = .ok (.ireturn, 1) := by decide +kernel
theorem dX12_come_19 : decode cX12_come 19 = .ok (.aload_n 0, 1) := by decide +kernel
theorem dX12_come_20 : decode cX12_come 20 = .ok (.iload_n 1, 1) := by decide +kernel
theorem dX12_come_21 : decode cX12_come 21 = .ok (.invokevirtual 143, 3) := by decide +kernel
theorem dX12_come_24 : decode cX12_come 24 = .ok (.ifCond .eq 11, 3) := by decide +kernel
theorem dX12_come_27 : decode cX12_come 27 = .ok (.iload_n 1, 1) := by decide +kernel
theorem dX12_come_28 : decode cX12_come 28 = .ok (.iload_n 2, 1) := by decide +kernel
theorem dX12_come_29 : decode cX12_come 29 = .ok (.invokestatic 136, 3) := by decide +kernel
theorem dX12_come_32 : decode cX12_come 32 = .ok (.ifCond .eq 9, 3) := by decide +kernel
theorem dX12_come_35 : decode cX12_come 35 = .ok (.aload_n 0, 1) := by decide +kernel
theorem dX12_come_36 : decode cX12_come 36 = .ok (.iconst 2, 1) := by decide +kernel
theorem dX12_come_37 : decode cX12_come 37 = .ok (.invokevirtual 116, 3) := by decide +kernel
theorem dX12_come_40 : decode cX12_come 40 = .ok (.ireturn, 1) := by decide +kernel
theorem dX12_come_41 : decode cX12_come 41 = .ok (.aload_n 0, 1) := by decide +kernel
theorem dX12_come_42 : decode cX12_come 42 = .ok (.iload_n 1, 1) := by decide +kernel
theorem dX12_come_43 : decode cX12_come 43 = .ok (.invokevirtual 328, 3) := by decide +kernel
theorem dX12_come_46 : decode cX12_come 46 = .ok (.iconst (-1), 1) := by decide +kernel
theorem dX12_come_47 : decode cX12_come 47 = .ok (.if_icmp .ne 5, 3) := by decide +kernel
theorem dX12_come_50 : decode cX12_come 50 = .ok (.iconst (-1), 1) := by decide +kernel
theorem dX12_come_51 : decode cX12_come 51 = .ok (.ireturn, 1) := by decide +kernel
theorem dX12_come_52 : decode cX12_come 52 = .ok (.aload_n 0, 1) := by decide +kernel
theorem dX12_come_53 : decode cX12_come 53 = .ok (.iconst 1, 1) := by decide +kernel
theorem dX12_come_54 : decode cX12_come 54 = .ok (.iload_n 2, 1) := by decide +kernel
theorem dX12_come_55 : decode cX12_come 55 = .ok (.ishl, 1) := by decide +kernel
theorem dX12_come_56 : decode cX12_come 56 = .ok (.invokevirtual 307, 3) := by decide +kernel
theorem dX12_come_59 : decode cX12_come 59 = .ok (.iconst (-1), 1) := by decide +kernel
theorem dX12_come_60 : decode cX12_come 60 = .ok (.if_icmp .ne 7, 3) := by decide +kernel
theorem dX12_come_63 : decode cX12_come 63 = .ok (.iconst (-1), 1) := by decide +kernel
theorem dX12_come_64 : decode cX12_come 64 = .ok (.goto 4, 3) := by decide +kernel
theorem dX12_come_67 : decode cX12_come 67 = .ok (.iload_n 2, 1) := by decide +kernel
theorem dX12_come_68 : decode cX12_come 68 = .ok (.istore_n 3, 1) := by decide +kernel
theorem dX12_come_69 : decode cX12_come 69 = .ok (.iload_n 3, 1) := by decide +kernel
theorem dX12_come_70 : decode cX12_come 70 = .ok (.iconst (-1), 1) := by decide +kernel
theorem dX12_come_71 : decode cX12_come 71 = .ok (.if_icmp .ne 9, 3) := by decide +kernel
theorem dX12_come_74 : decode cX12_come 74 = .ok (.ldc_w 265, 3) := by decide +kernel
theorem dX12_come_77 : decode cX12_come 77 = .ok (.goto 10, 3) := by decide +kernel
theorem dX12_come_80 : decode cX12_come 80 = .ok (.aload_n 0, 1) := by decide +kernel
theorem dX12_come_81 : decode cX12_come 81 = .ok (.iconst 1, 1) := by decide +kernel
theorem dX12_come_82 : decode cX12_come 82 = .ok (.iload_n 2, 1) := by decide +kernel
theorem dX12_come_83 : decode cX12_come 83 = .ok (.ishl, 1) := by decide +kernel
theorem dX12_come_84 : decode cX12_come 84 = .ok (.invokevirtual 307, 3) := by decide +kernel
theorem dX12_come_87 : decode cX12_come 87 = .ok (.istore 4, 2) := by decide +kernel
theorem dX12_come_89 : decode cX12_come 89 = .ok (.iconst 0, 1) := by decide +kernel
theorem dX12_come_90 : decode cX12_come 90 = .ok (.istore 5, 2) := by decide +kernel
theorem dX12_come_92 : decode cX12_come 92 = .ok (.iload 5, 2) := by decide +kernel
theorem dX12_come_94 : decode cX12_come 94 = .ok (.aload_n 0, 1) := by decide +kernel
theorem dX12_come_95 : decode cX12_come 95 = .ok (.getfield 319, 3) := by decide +kernel
theorem dX12_come_98 : decode cX12_come 98 = .ok (.if_icmp .ge 81, 3) := by decide +kernel
theorem dX12_come_101 : decode cX12_come 101 = .ok (.aload_n 0, 1) := by decide +kernel
theorem dX12_come_102 : decode cX12_come 102 = .ok (.iload_n 1, 1) := by decide +kernel
theorem dX12_come_103 : decode cX12_come 103 = .ok (.iload 5, 2) := by decide +kernel
theorem dX12_come_105 : decode cX12_come 105 = .ok (.invokevirtual 333, 3) := by decide +kernel
theorem dX12_come_108 : decode cX12_come 108 = .ok (.istore 6, 2) := by decide +kernel
theorem dX12_come_110 : decode cX12_come 110 = .ok (.aload_n 0, 1) := by decide +kernel
theorem dX12_come_111 : decode cX12_come 111 = .ok (.iload 6, 2) := by decide +kernel
theorem dX12_come_113 : decode cX12_come 113 = .ok (.iconst 1, 1) := by decide +kernel
theorem dX12_come_114 : decode cX12_come 114 = .ok (.iload_n 2, 1) := by decide +kernel
theorem dX12_come_115 : decode cX12_come 115 = .ok (.ishl, 1) := by decide +kernel
theorem dX12_come_116 : decode cX12_come 116 = .ok (.ior, 1) := by decide +kernel
theorem dX12_come_117 : decode cX12_come 117 = .ok (.invokevirtual 307, 3) := by decide +kernel
theorem dX12_come_120 : decode cX12_come 120 = .ok (.istore 7, 2) := by decide +kernel
theorem dX12_come_122 : decode cX12_come 122 = .ok (.iload 7, 2) := by decide +kernel
theorem dX12_come_124 : decode cX12_come 124 = .ok (.iconst (-1), 1) := by decide +kernel
theorem dX12_come_125 : decode cX12_come 125 = .ok (.if_icmp .eq 48, 3) := by decide +kernel
theorem dX12_come_128 : decode cX12_come 128 = .ok (.iload 7, 2) := by decide +kernel
theorem dX12_come_130 : decode cX12_come 130 = .ok (.aload_n 0, 1) := by decide +kernel
theorem dX12_come_131 : decode cX12_come 131 = .ok (.iload 6, 2) := by decide +kernel
theorem dX12_come_133 : decode cX12_come 133 = .ok (.invokevirtual 307, 3) := by decide +kernel
theorem dX12_come_136 : decode cX12_come 136 = .ok (.isub, 1) := by decide +kernel
theorem dX12_come_137 : decode cX12_come 137 = .ok (.iload 4, 2) := by decide +kernel
theorem dX12_come_139 : decode cX12_come 139 = .ok (.if_icmp .lt 6, 3) := by decide +kernel
theorem dX12_come_142 : decode cX12_come 142 = .ok (.goto 31, 3) := by decide +kernel
theorem dX12_come_145 : decode cX12_come 145 = .ok (.iload 7, 2) := by decide +kernel
theorem dX12_come_147 : decode cX12_come 147 = .ok (.aload_n 0, 1) := by decide +kernel
theorem dX12_come_148 : decode cX12_come 148 = .ok (.iload 6, 2) := by decide +kernel
theorem dX12_come_150 : decode cX12_come 150 = .ok (.invokevirtual 307, 3) := by decide +kernel
theorem dX12_come_153 : decode cX12_come 153 = .ok (.isub, 1) := by decide +kernel
theorem dX12_come_154 : decode cX12_come 154 = .ok (.istore 4, 2) := by decide +kernel
theorem dX12_come_156 : decode cX12_come 156 = .ok (.iconst 0, 1) := by decide +kernel
theorem dX12_come_157 : decode cX12_come 157 = .ok (.istore_n 3, 1) := by decide +kernel
theorem dX12_come_158 : decode cX12_come 158 = .ok (.iload 6, 2) := by decide +kernel
theorem dX12_come_160 : decode cX12_come 160 = .ok (.iload_n 3, 1) := by decide +kernel
theorem dX12_come_161 : decode cX12_come 161 = .ok (.invokestatic 136, 3) := by decide +kernel
theorem dX12_come_164 : decode cX12_come 164 = .ok (.ifCond .ne 9, 3) := by decide +kernel
theorem dX12_come_167 : decode cX12_come 167 = .ok (.iinc 3 1, 3) := by decide +kernel
theorem dX12_come_170 : decode cX12_come 170 = .ok (.goto (-12), 3) := by decide +kernel
theorem dX12_come_173 : decode cX12_come 173 = .ok (.iinc 5 1, 3) := by decide +kernel
theorem dX12_come_176 : decode cX12_come 176 = .ok (.goto (-84), 3) := by decide +kernel
theorem dX12_come_179 : decode cX12_come 179 = .ok (.iload_n 3, 1) := by decide +kernel
theorem dX12_come_180 : decode cX12_come 180 = .ok (.ireturn, 1) := by decide +kernel
theorem dX12_join_0 : decode cX12_join 0 = .ok (.aload_n 0, 1) := by decide +kernel
theorem dX12_join_1 : decode cX12_join 1 = .ok (.iconst 0, 1) := by decide +kernel
theorem dX12_join_2 : decode cX12_join 2 = .ok (.putfield 103, 3) := by decide +kernel
theorem dX12_join_5 : decode cX12_join 5 = .ok (.aload_n 0, 1) := by decide +kernel
theorem dX12_join_6 : decode cX12_join 6 = .ok (.iload_n 1, 1) := by decide +kernel
theorem dX12_join_7 : decode cX12_join 7 = .ok (.invokevirtual 143, 3) := by decide +kernel
theorem dX12_join_10 : decode cX12_join 10 = .ok (.ifCond .eq 29, 3) := by decide +kernel
theorem dX12_join_13 : decode cX12_join 13 = .ok (.aload_n 0, 1) := by decide +kernel
theorem dX12_join_14 : decode cX12_join 14 = .ok (.iload_n 2, 1) := by decide +kernel
theorem dX12_join_15 : decode cX12_join 15 = .ok (.invokevirtual 143, 3) := by decide +kernel
theorem dX12_join_18 : decode cX12_join 18 = .ok (.ifCond .eq 21, 3) := by decide +kernel
theorem dX12_join_21 : decode cX12_join 21 = .ok (.iload_n 1, 1) := by decide +kernel
theorem dX12_join_22 : decode cX12_join 22 = .ok (.iload_n 2, 1) := by decide +kernel
theorem dX12_join_23 : decode cX12_join 23 = .ok (.iand, 1) := by decide +kernel
theorem dX12_join_24 : decode cX12_join 24 = .ok (.ifCond .ne 15, 3) := by decide +kernel
theorem dX12_join_27 : decode cX12_join 27 = .ok (.iload_n 3, 1) := by decide +kernel
theorem dX12_join_28 : decode cX12_join 28 = .ok (.i2l, 1) := by decide +kernel
theorem dX12_join_29 : decode cX12_join 29 = .ok (.lconst 0, 1) := by decide +kernel
theorem dX12_join_30 : decode cX12_join 30 = .ok (.ldc2_w 336, 3) := by decide +kernel
theorem dX12_join_33 : decode cX12_join 33 = .ok (.invokestatic 106, 3) := by decide +kernel
theorem dX12_join_36 : decode cX12_join 36 = .ok (.ifCond .ne 9, 3) := by decide +kernel
theorem dX12_join_39 : decode cX12_join 39 = .ok (.aload_n 0, 1) := by decide +kernel
theorem dX12_join_40 : decode cX12_join 40 = .ok (.iconst 1, 1) := by decide +kernel
theorem dX12_join_41 : decode cX12_join 41 = .ok (.invokevirtual 116, 3) := by decide +kernel
theorem dX12_join_44 : decode cX12_join 44 = .ok (.ireturn, 1) := by decide +kernel
theorem dX12_join_45 : decode cX12_join 45 = .ok (.aload_n 0, 1) := by decide +kernel
theorem dX12_join_46 : decode cX12_join 46 = .ok (.iload_n 1, 1) := by decide +kernel
theorem dX12_join_47 : decode cX12_join 47 = .ok (.invokevirtual 328, 3) := by decide +kernel
theorem dX12_join_50 : decode cX12_join 50 = .ok (.istore 4, 2) := by decide +kernel
theorem dX12_join_52 : decode cX12_join 52 = .ok (.aload_n 0, 1) := by decide +kernel
theorem dX12_join_53 : decode cX12_join 53 = .ok (.iload_n 2, 1) := by decide +kernel
theorem dX12_join_54 : decode cX12_join 54 = .ok (.invokevirtual 328, 3) := by decide +kernel
theorem dX12_join_57 : decode cX12_join 57 = .ok (.istore 5, 2) := by decide +kernel
theorem dX12_join_59 : decode cX12_join 59 = .ok (.aload_n 0, 1) := by decide +kernel
theorem dX12_join_60 : decode cX12_join 60 = .ok (.iload_n 1, 1) := by decide +kernel
theorem dX12_join_61 : decode cX12_join 61 = .ok (.iload_n 2, 1) := by decide +kernel
theorem dX12_join_62 : decode cX12_join 62 = .ok (.ior, 1) := by decide +kernel
theorem dX12_join_63 : decode cX12_join 63 = .ok (.invokevirtual 328, 3) := by decide +kernel
theorem dX12_join_66 : decode cX12_join 66 = .ok (.istore 6, 2) := by decide +kernel
theorem dX12_join_68 : decode cX12_join 68 = .ok (.iload 4, 2) := by decide +kernel
theorem dX12_join_70 : decode cX12_join 70 = .ok (.iconst (-1), 1) := by decide +kernel
theorem dX12_join_71 : decode cX12_join 71 = .ok (.if_icmp .eq 15, 3) := by decide +kernel
theorem dX12_join_74 : decode cX12_join 74 = .ok (.iload 5, 2) := by decide +kernel
theorem dX12_join_76 : decode cX12_join 76 = .ok (.iconst (-1), 1) := by decide +kernel
theorem dX12_join_77 : decode cX12_join 77 = .ok (.if_icmp .eq 9, 3) := by decide +kernel
theorem dX12_join_80 : decode cX12_join 80 = .ok (.iload 6, 2) := by decide +kernel
theorem dX12_join_82 : decode cX12_join 82 = .ok (.iconst (-1), 1) := by decide +kernel
theorem dX12_join_83 : decode cX12_join 83 = .ok (.if_icmp .ne 9, 3) := by decide +kernel
theorem dX12_join_86 : decode cX12_join 86 = .ok (.ldc_w 338, 3) := by decide +kernel
theorem dX12_join_89 : decode cX12_join 89 = .ok (.goto 13, 3) := by decide +kernel
theorem dX12_join_92 : decode cX12_join 92 = .ok (.iload 4, 2) := by decide +kernel
theorem dX12_join_94 : decode cX12_join 94 = .ok (.iload 5, 2) := by decide +kernel
theorem dX12_join_96 : decode cX12_join 96 = .ok (.iadd, 1) := by decide +kernel
theorem dX12_join_97 : decode cX12_join 97 = .ok (.iload 6, 2) := by decide +kernel
theorem dX12_join_99 : decode cX12_join 99 = .ok (.isub, 1) := by decide +kernel
theorem dX12_join_100 : decode cX12_join 100 = .ok (.iload_n 3, 1) := by decide +kernel
theorem dX12_join_101 : decode cX12_join 101 = .ok (.isub, 1) := by decide +kernel
theorem dX12_join_102 : decode cX12_join 102 = .ok (.ireturn, 1) := by decide +kernel
theorem s_totalOf {l : Launch} {E : aE} {N : Nat} {S : aS} {M : aM} (hfl : l.stackTraces = false) (m : Int) (t : Int → Int) (hS : lyM S m) (hE : RE M m t) (hK : TQ t) (hP : RP0 M m t) (hC : RCs M m t) (s : Int) (hs : 0 ≤ s ∧ s < 128) : aMt l E pX12_totalOf [(2, m), (0, s)] N S M (aG N S (fun v M' => v = (0, totV (costV t) s) ∧ frG M M' m ∧ RP0 M' m t ∧ RCs M' m t ∧ BSt M' m (costV t) s (totE (costV t) s))) := by
  refine a_met hfl rfl (by decide +kernel) (Nat.le_of_ble_eq_true rfl) ?_
  refine x_aload_n (pc := 0) dX12_totalOf_0 rfl rfl ?_
  refine x_iconst (pc := 1) dX12_totalOf_1 (by decide) ?_
  refine x_putI (jj := 32) (pc := 2) dX12_totalOf_2 fX12_316 hS.1 rfl (by decide) rfl ?_
  refine x_aload_n (pc := 5) dX12_totalOf_5 rfl rfl ?_
  refine x_iconst (pc := 6) dX12_totalOf_6 (by decide) ?_
  refine x_putI (jj := 33) (pc := 7) dX12_totalOf_7 fX12_319 hS.1 rfl (by decide) rfl ?_
  have hE2 : RE (up (up M m 32 (-1)) m 33 0) m t := hE.cg fun a i x y z => by rw [up_a2 (by omega), up_a2 (by omega)]
  have hP2 : RP0 (up (up M m 32 (-1)) m 33 0) m t := hP.cg fun a i x => by rw [up_a2 (by omega), up_a2 (by omega)]
  have hC2 : RCs (up (up M m 32 (-1)) m 33 0) m t := hC.cg fun i => by rw [up_a (by omega), up_a (by omega)]
  have up_i2 : up (up M m 32 (-1)) m 33 0 m 32 = -1 := by rw [up_i (by omega), up_s]
  refine x_aload_n (pc := 10) dX12_totalOf_10 rfl rfl ?_
  refine x_iload_n (pc := 11) dX12_totalOf_11 rfl rfl ?_
  refine x_iconst (pc := 12) dX12_totalOf_12 (by decide) ?_
  refine x_iconst (pc := 13) dX12_totalOf_13 (by decide) ?_
  refine x_callV3 (pc := 14) dX12_totalOf_14 rfl (kPa 8) (s_parted hfl m t hK s hs 8 hS hE2 hP2 hC2 0 0 (fun _ => 0) (-1) (by omega) (by omega) (by rw [lowS_0]; exact OKR.none (c := costV t) |>.1) (fun i a b => by omega) (fun g a b => by omega) (Or.inl ⟨rfl, up_i2⟩) (fun w => absurd rfl w)) hS.1 rfl rfl (Nat.le_of_ble_eq_true rfl) (k_U (fun M9 hM9 => ?_)) n_U
  obtain ⟨B, r1, r2, r3, r4, r5, r6, r7, r8, r9⟩ := hM9
  have hB : B = totE (costV t) s := tot_of_min (costs_t hK) hs (r3.imp id fun ⟨σ, k, u, v, w⟩ => ⟨σ, k, u, w⟩) (r1.imp (fun q => q.1) fun q => q.1) fun σ k u => r4 σ k u fun i a b => by omega
  rw [hB] at r1
  have hT := (r1.tot (costs_t hK) hs).1
  refine x_aload_n (pc := 17) dX12_totalOf_17 rfl rfl ?_
  refine x_getIV (jj := 32) (pc := 18) dX12_totalOf_18 fX12_316 hS.1 rfl (by decide) rfl (by (repeat (first | rewrite [up_s] | rewrite [up_i (by omega)] | rewrite [up_a (by omega)] | rewrite [stM_a (by omega) (by omega)])); first | exact hT | rfl) ?_
  refine x_ireturn (pc := 21) dX12_totalOf_21 rfl (by decide) ?_
  refine ⟨_, rfl, rfl, rfl, rfl, ?_, r6, r7, r1⟩
  exact ((frG.rf.up (by omega)).up (by omega)).tr r5
theorem s_groupAt {l : Launch} {E : aE} {N : Nat} {S : aS} {M : aM} (hfl : l.stackTraces = false) (m : Int) (hS : lyM S m) (s g : Int) : aMt l E pX12_groupAt [(2, m), (0, s), (0, g)] N S M (aR (0, grp s (M (m + 17)) g) N S M) := by
  refine a_met hfl rfl (by decide +kernel) (Nat.le_of_ble_eq_true rfl) ?_
  have loop := a_loop1 (fun h => 0 ≤ h ∧ h ≤ 7) (fun h => (7 - h).toNat) (fun h => aX l E pX12_groupAt (aR (0, grp s (M (m + 17)) g) N S M) 0 0 N S M 5 [(0, (2, m)), (1, (0, s)), (2, (0, g)), (3, (0, orN (fun i => decide (hb s i = 1 ∧ M (m + 17) i = g)) h.toNat)), (4, (0, h))] []) (by
    intro h hI ih
    refine x_iload (pc := 5) dX12_groupAt_5 rfl ?_
    refine x_bipush (pc := 7) dX12_groupAt_7 (by decide) ?_
    refine x_icmp_ge (tgt := 49) (pc := 9) dX12_groupAt_9 (by decide) (fun c_9 => ?_) (fun c_9 => ?_)
    · refine x_iload_n (pc := 49) dX12_groupAt_49 rfl rfl ?_
      refine x_ireturn (pc := 50) dX12_groupAt_50 rfl (by decide) ?_
      refine ⟨?_, rfl, rfl, rfl⟩
      rw [show h.toNat = 7 by omega]
      rfl
    · refine x_iload_n (pc := 12) dX12_groupAt_12 rfl rfl ?_
      refine x_iload_n (pc := 13) dX12_groupAt_13 rfl rfl ?_
      refine x_iload (pc := 14) dX12_groupAt_14 rfl ?_
      refine x_callS2 (pc := 16) dX12_groupAt_16 rfl kX12_136 (s_hasM hfl _ _) rfl (Nat.le_of_ble_eq_true rfl) (k_B (fun q_16 => ?_) (fun q_16 => ?_)) n_B
      · refine x_if_eq (tgt := 40) (pc := 19) dX12_groupAt_19 (by decide) (fun c => absurd c (by decide)) (fun _ => ?_)
        refine x_aload_n (pc := 22) dX12_groupAt_22 rfl rfl ?_
        refine x_getR (jj := 30) (pc := 23) dX12_groupAt_23 fX12_63 hS.1 rfl (by decide) rfl rM_30 ?_
        refine x_iload (pc := 26) dX12_groupAt_26 rfl ?_
        refine x_ialoadV (pc := 28) dX12_groupAt_28 (sM_30 hS) (by omega) (by (repeat (first | rewrite [up_s] | rewrite [up_i (by omega)] | rewrite [up_a (by omega)] | rewrite [stM_a (by omega) (by omega)])); rfl) (fun g_28 => ?_)
        refine x_iload_n (pc := 29) dX12_groupAt_29 rfl rfl ?_
        refine x_icmp_ne (tgt := 40) (pc := 30) dX12_groupAt_30 (by decide) (fun c_30 => ?_) (fun c_30 => ?_)
        · refine x_iconst (pc := 40) dX12_groupAt_40 (by decide) ?_
          refine x_ior (pc := 41) dX12_groupAt_41 ?_
          try rewrite [b_or_0 (orN_hb (p := (fun i => decide (hb s i = 1 ∧ M (m + 17) i = g))) (n := h.toNat) (by omega)).1]
          refine x_istore_n (pc := 42) dX12_groupAt_42 rfl (by decide) rfl ?_
          refine x_iinc (pc := 43) dX12_groupAt_43 rfl (by omega) (by decide) rfl ?_
          refine x_goto (tgt := 5) (pc := 46) dX12_groupAt_46 (by decide) ?_
          have e := orN_1 (fun i => decide (hb s i = 1 ∧ M (m + 17) i = g)) hI.1
          rw [if_neg (by simp only [decide_eq_true_eq]; intro q; exact absurd q.2 (by assumption))] at e
          refine x_lo (lo' := [(0, (2, m)), (1, (0, s)), (2, (0, g)), (3, (0, orN (fun i => decide (hb s i = 1 ∧ M (m + 17) i = g)) h.toNat)), (4, (0, h + 1))]) ⟨rfl, rfl, rfl, rfl, rfl, trivial⟩ ?_
          have z := ih (h + 1) ⟨by omega, by omega⟩ (by omega)
          rw [e] at z
          exact z
        · refine x_iconst (pc := 33) dX12_groupAt_33 (by decide) ?_
          refine x_iload (pc := 34) dX12_groupAt_34 rfl ?_
          refine x_ishl (pc := 36) dX12_groupAt_36 ?_
          refine x_goto (tgt := 41) (pc := 37) dX12_groupAt_37 (by decide) ?_
          refine x_ior (pc := 41) dX12_groupAt_41 ?_
          try rewrite [b_or_0 (orN_hb (p := (fun i => decide (hb s i = 1 ∧ M (m + 17) i = g))) (n := h.toNat) (by omega)).1]
          refine x_istore_n (pc := 42) dX12_groupAt_42 rfl (by decide) rfl ?_
          refine x_iinc (pc := 43) dX12_groupAt_43 rfl (by omega) (by decide) rfl ?_
          refine x_goto (tgt := 5) (pc := 46) dX12_groupAt_46 (by decide) ?_
          have e := orN_1 (fun i => decide (hb s i = 1 ∧ M (m + 17) i = g)) hI.1
          rw [if_pos (decide_eq_true ⟨by assumption, by assumption⟩)] at e
          refine x_lo (lo' := [(0, (2, m)), (1, (0, s)), (2, (0, g)), (3, (0, b_or (orN (fun i => decide (hb s i = 1 ∧ M (m + 17) i = g)) h.toNat) (b_shl 1 h))), (4, (0, h + 1))]) ⟨rfl, rfl, rfl, rfl, rfl, trivial⟩ ?_
          have z := ih (h + 1) ⟨by omega, by omega⟩ (by omega)
          rw [e] at z
          exact z
      · refine x_if_eq (tgt := 40) (pc := 19) dX12_groupAt_19 (by decide) (fun _ => ?_) (fun c => absurd c (by decide))
        refine x_iconst (pc := 40) dX12_groupAt_40 (by decide) ?_
        refine x_ior (pc := 41) dX12_groupAt_41 ?_
        try rewrite [b_or_0 (orN_hb (p := (fun i => decide (hb s i = 1 ∧ M (m + 17) i = g))) (n := h.toNat) (by omega)).1]
        refine x_istore_n (pc := 42) dX12_groupAt_42 rfl (by decide) rfl ?_
        refine x_iinc (pc := 43) dX12_groupAt_43 rfl (by omega) (by decide) rfl ?_
        refine x_goto (tgt := 5) (pc := 46) dX12_groupAt_46 (by decide) ?_
        have e := orN_1 (fun i => decide (hb s i = 1 ∧ M (m + 17) i = g)) hI.1
        rw [if_neg (by simp only [decide_eq_true_eq]; intro q; exact absurd q.1 (by assumption))] at e
        refine x_lo (lo' := [(0, (2, m)), (1, (0, s)), (2, (0, g)), (3, (0, orN (fun i => decide (hb s i = 1 ∧ M (m + 17) i = g)) h.toNat)), (4, (0, h + 1))]) ⟨rfl, rfl, rfl, rfl, rfl, trivial⟩ ?_
        have z := ih (h + 1) ⟨by omega, by omega⟩ (by omega)
        rw [e] at z
        exact z)
  refine x_iconst (pc := 0) dX12_groupAt_0 (by decide) ?_
  refine x_istore_n (pc := 1) dX12_groupAt_1 rfl (by decide) rfl ?_
  refine x_iconst (pc := 2) dX12_groupAt_2 (by decide) ?_
  refine x_istore (pc := 3) dX12_groupAt_3 (by decide) rfl ?_
  exact x_lo (lo' := [(0, (2, m)), (1, (0, s)), (2, (0, g)), (3, (0, 0)), (4, (0, 0))]) ⟨rfl, rfl, rfl, rfl, rfl, trivial⟩ (loop 0 ⟨by omega, by omega⟩)
theorem s_Mleast {l : Launch} {E : aE} {N : Nat} {S : aS} {M : aM} (hfl : l.stackTraces = false) (s : Int) (m : Int) (A : aM) (hS : lyM S m) (hR : RM M m A) (hA : TOK (A 0)) : aMt l E pX12_least [(2, m), (0, s)] N S M (aG N S (opM M m 0 (spLeast A s))) := by
  refine a_met hfl rfl (by decide +kernel) (Nat.le_of_ble_eq_true rfl) ?_
  refine x_aload_n (pc := 0) dX12_least_0 rfl rfl ?_
  refine x_iconst (pc := 1) dX12_least_1 (by decide) ?_
  refine x_putI (jj := 3) (pc := 2) dX12_least_2 fX12_103 hS.1 rfl (by decide) rfl ?_
  refine x_memI (fun M1 hM1 => ?_)
  have R1 : RM M1 m A := by rw [hM1]; exact hR.up3
  have F1 : frM M M1 m := by rw [hM1]; exact frM.rf.up (by omega)
  have T1 : M1 m 3 = 0 := by rw [hM1]; exact up_s
  clear hM1
  have e0 : M1 (m + 1) 0 = A 0 0 := R1.1.1 0 (by omega) (by omega)
  have t0 := hA.1
  refine x_aload_n (pc := 5) dX12_least_5 rfl rfl ?_
  refine x_iload_n (pc := 6) dX12_least_6 rfl rfl ?_
  refine x_callV1 (pc := 7) dX12_least_7 rfl kX12_143 (s_isSet hfl m s hS) hS.1 rfl rfl (Nat.le_of_ble_eq_true rfl) (k_B (fun q_7 => ?_) (fun q_7 => ?_)) n_B
  · rw [e0] at q_7
    have h6 := hA.tq.2.2.2.2.2.1
    have hcc : costV (core (A 0)) = costV (A 0) := costV_fun (core_same (A 0)) (by rw [core_hi (by omega)]; omega)
    have hc := costs_t hA.tq
    refine x_if_eq (tgt := 21) (pc := 10) dX12_least_10 (by decide) (fun c => absurd c (by decide)) (fun _ => ?_)
    refine x_aload_n (pc := 13) dX12_least_13 rfl rfl ?_
    refine x_iload_n (pc := 14) dX12_least_14 rfl rfl ?_
    refine x_callV1 (pc := 15) dX12_least_15 rfl kX12_328 (s_totalOf hfl m (core (A 0)) hS R1.re (core_tq hA.tq) R1.rp0 (R1.2.2.1.st (by first | omega | exact isSet_0 (by omega) | exact isSet_0 (s := s) (by omega) | exact isSet_0 (s := x) (by omega))) s ⟨by have := isSet_lt hA (s := s) (by omega); omega, by have := isSet_lt hA (s := s) (by omega); omega⟩) hS.1 rfl rfl (Nat.le_of_ble_eq_true rfl) (k_G (fun v9 M9 hM9 => ?_)) n_G
    obtain ⟨rfl, f9, p9, c9, b9⟩ := hM9
    have R9 : RM M9 m A := R1.mk9 f9.k p9 c9
    have T9 : M9 m 3 = 0 := (f9 m 3 (by omega) (by omega) (by omega)).trans T1
    have F9 : frM M M9 m := F1.tr f9.k.fr
    rewrite [hcc]
    rewrite [hcc] at b9
    refine x_goto (tgt := 26) (pc := 18) dX12_least_18 (by decide) ?_
    refine x_ireturn (pc := 26) dX12_least_26 rfl (by decide) ?_
    have e9 : spLeast A s = (0, totV (costV (A 0)) s, A) := by
      unfold spLeast
      (repeat' split) <;> first | rfl | (exfalso; omega)
    rw [e9]
    exact ⟨_, rfl, rfl, rfl, rfl, T9, fun _ => rfl, R9, F9⟩
  · rw [e0] at q_7
    have h6 := hA.tq.2.2.2.2.2.1
    have hcc : costV (core (A 0)) = costV (A 0) := costV_fun (core_same (A 0)) (by rw [core_hi (by omega)]; omega)
    have hc := costs_t hA.tq
    refine x_if_eq (tgt := 21) (pc := 10) dX12_least_10 (by decide) (fun _ => ?_) (fun c => absurd c (by decide))
    refine x_aload_n (pc := 21) dX12_least_21 rfl rfl ?_
    refine x_iconst (pc := 22) dX12_least_22 (by decide) ?_
    refine x_callV1 (pc := 23) dX12_least_23 rfl kX12_116 (s_fails hfl m _ hS) hS.1 rfl rfl (Nat.le_of_ble_eq_true rfl) (k_G (fun v9 M9 hM9 => ?_)) n_G
    obtain ⟨rfl, rfl⟩ := hM9
    refine x_ireturn (pc := 26) dX12_least_26 rfl (by decide) ?_
    have e9 : spLeast A s = (1, 0, A) := by
      unfold spLeast
      (repeat' split) <;> first | rfl | (exfalso; omega)
    rw [e9]
    exact ⟨_, rfl, rfl, rfl, rfl, up_s, fun q => absurd q (show ¬ (1 : Int) = 0 by decide), R1.up3, F1.up (by omega)⟩
theorem s_Mgroup {l : Launch} {E : aE} {N : Nat} {S : aS} {M : aM} (hfl : l.stackTraces = false) (s h : Int) (m : Int) (A : aM) (hS : lyM S m) (hR : RM M m A) (hA : TOK (A 0)) : aMt l E pX12_group [(2, m), (0, s), (0, h)] N S M (aG N S (opM M m 0 (spGroup A s h))) := by
  refine a_met hfl rfl (by decide +kernel) (Nat.le_of_ble_eq_true rfl) ?_
  refine x_aload_n (pc := 0) dX12_group_0 rfl rfl ?_
  refine x_iconst (pc := 1) dX12_group_1 (by decide) ?_
  refine x_putI (jj := 3) (pc := 2) dX12_group_2 fX12_103 hS.1 rfl (by decide) rfl ?_
  refine x_memI (fun M1 hM1 => ?_)
  have R1 : RM M1 m A := by rw [hM1]; exact hR.up3
  have F1 : frM M M1 m := by rw [hM1]; exact frM.rf.up (by omega)
  have T1 : M1 m 3 = 0 := by rw [hM1]; exact up_s
  clear hM1
  have e0 : M1 (m + 1) 0 = A 0 0 := R1.1.1 0 (by omega) (by omega)
  have t0 := hA.1
  refine x_aload_n (pc := 5) dX12_group_5 rfl rfl ?_
  refine x_iload_n (pc := 6) dX12_group_6 rfl rfl ?_
  refine x_callV1 (pc := 7) dX12_group_7 rfl kX12_143 (s_isSet hfl m s hS) hS.1 rfl rfl (Nat.le_of_ble_eq_true rfl) (k_B (fun q_7 => ?_) (fun q_7 => ?_)) n_B
  · rw [e0] at q_7
    refine x_if_ne (tgt := 19) (pc := 10) dX12_group_10 (by decide) (fun _ => ?_) (fun c => absurd c (by decide))
    have h6 := hA.tq.2.2.2.2.2.1
    have hcc : costV (core (A 0)) = costV (A 0) := costV_fun (core_same (A 0)) (by rw [core_hi (by omega)]; omega)
    have hc := costs_t hA.tq
    have hsl := isSet_lt hA (s := s) (by omega)
    refine x_iload_n (pc := 19) dX12_group_19 rfl rfl ?_
    refine x_iconst (pc := 20) dX12_group_20 (by decide) ?_
    refine x_icmp_eq (tgt := 44) (pc := 21) dX12_group_21 (by decide) (fun c_21 => ?_) (fun c_21 => ?_)
    · refine x_aload_n (pc := 44) dX12_group_44 rfl rfl ?_
      refine x_iload_n (pc := 45) dX12_group_45 rfl rfl ?_
      refine x_callV1 (pc := 46) dX12_group_46 rfl kX12_328 (s_totalOf hfl m (core (A 0)) hS R1.re (core_tq hA.tq) R1.rp0 (R1.2.2.1.st (by first | omega | exact isSet_0 (by omega) | exact isSet_0 (s := s) (by omega) | exact isSet_0 (s := x) (by omega))) s ⟨by have := isSet_lt hA (s := s) (by omega); omega, by have := isSet_lt hA (s := s) (by omega); omega⟩) hS.1 rfl rfl (Nat.le_of_ble_eq_true rfl) (k_G (fun v9 M9 hM9 => ?_)) n_G
      obtain ⟨rfl, f9, p9, c9, b9⟩ := hM9
      have R9 : RM M9 m A := R1.mk9 f9.k p9 c9
      have T9 : M9 m 3 = 0 := (f9 m 3 (by omega) (by omega) (by omega)).trans T1
      have F9 : frM M M9 m := F1.tr f9.k.fr
      rewrite [hcc]
      rewrite [hcc] at b9
      have hto := totV_or (c := costV (A 0)) s
      have hsl := isSet_lt hA (s := s) (by omega)
      have hlt := totE_lt hc (s := s) (by omega)
      refine x_iconst (pc := 49) dX12_group_49 (by decide) ?_
      refine x_icmp_ne (tgt := 55) (pc := 50) dX12_group_50 (by decide) (fun c_50 => ?_) (fun c_50 => ?_)
      · have hbt := (b9.tot hc (s := s) ⟨by omega, by omega⟩).2 (by omega)
        refine x_iload_n (pc := 55) dX12_group_55 rfl rfl ?_
        refine x_iconst (pc := 56) dX12_group_56 (by decide) ?_
        refine x_icmp_ne (tgt := 67) (pc := 57) dX12_group_57 (by decide) (fun c_57 => ?_) (fun c_57 => ?_)
        · refine x_aload_n (pc := 67) dX12_group_67 rfl rfl ?_
          refine x_getR (jj := 30) (pc := 68) dX12_group_68 fX12_63 hS.1 rfl (by decide) rfl rM_30 ?_
          refine x_iload_n (pc := 71) dX12_group_71 rfl rfl ?_
          refine x_ialoadV (pc := 72) dX12_group_72 (sM_30 hS) (by omega) (by (repeat (first | rewrite [up_s] | rewrite [up_i (by omega)] | rewrite [up_a (by omega)] | rewrite [stM_a (by omega) (by omega)])); first | exact hbt.1 | exact hbt.2 h (by omega) (by omega) (by assumption) | exact R1.1.1 _ (by omega) (by omega) | rfl) (fun g_72 => ?_)
          refine x_ireturn (pc := 73) dX12_group_73 rfl (by decide) ?_
          first
            | (exfalso; omega)
            | (have e9 : spGroup A s h = (0, manyF (costV (A 0)) 7 s, A) := by
                 unfold spGroup
                 rw [if_neg (by omega), if_neg (by omega), if_pos (by omega)]
               rw [e9]
               exact ⟨_, rfl, rfl, rfl, rfl, T9, fun _ => by first | rfl | rw [hbt.1], R9, F9⟩)
            | (have e9 : spGroup A s h = (0, digV (costV (A 0)) s h, A) := by
                 unfold spGroup
                 rw [if_neg (by omega), if_neg (by omega), if_neg (by omega), if_pos]
                 unfold isOfV
                 exact if_pos ⟨by omega, by omega, by assumption⟩
               rw [e9]
               exact ⟨_, rfl, rfl, rfl, rfl, T9, fun _ => rfl, R9, F9⟩)
        · refine x_aload_n (pc := 60) dX12_group_60 rfl rfl ?_
          refine x_getIV (jj := 33) (pc := 61) dX12_group_61 fX12_319 hS.1 rfl (by decide) rfl (by (repeat (first | rewrite [up_s] | rewrite [up_i (by omega)] | rewrite [up_a (by omega)] | rewrite [stM_a (by omega) (by omega)])); first | exact hbt.1 | exact hbt.2 h (by omega) (by omega) (by assumption) | exact R1.1.1 _ (by omega) (by omega) | rfl) ?_
          refine x_goto (tgt := 73) (pc := 64) dX12_group_64 (by decide) ?_
          refine x_ireturn (pc := 73) dX12_group_73 rfl (by decide) ?_
          first
            | (exfalso; omega)
            | (have e9 : spGroup A s h = (0, manyF (costV (A 0)) 7 s, A) := by
                 unfold spGroup
                 rw [if_neg (by omega), if_neg (by omega), if_pos (by omega)]
               rw [e9]
               exact ⟨_, rfl, rfl, rfl, rfl, T9, fun _ => by first | rfl | rw [hbt.1], R9, F9⟩)
            | (have e9 : spGroup A s h = (0, digV (costV (A 0)) s h, A) := by
                 unfold spGroup
                 rw [if_neg (by omega), if_neg (by omega), if_neg (by omega), if_pos]
                 unfold isOfV
                 exact if_pos ⟨by omega, by omega, by assumption⟩
               rw [e9]
               exact ⟨_, rfl, rfl, rfl, rfl, T9, fun _ => rfl, R9, F9⟩)
      · refine x_iconst (pc := 53) dX12_group_53 (by decide) ?_
        refine x_ireturn (pc := 54) dX12_group_54 rfl (by decide) ?_
        first
          | (have e9 : spGroup A s h = (0, -1, A) := by
               unfold spGroup
               rw [if_neg (by omega), if_pos (by omega)]
             rw [e9]
             exact ⟨_, rfl, rfl, rfl, rfl, T9, fun _ => rfl, R9, F9⟩)
          | (have e9 : spGroup A s h = (0, -1, A) := by
               unfold spGroup
               rw [if_neg (by omega)]
               by_cases z : totE (costV (A 0)) s = -1
               · rw [if_pos z]
               · rw [if_neg z, if_neg (by omega), if_neg]
                 intro q
                 unfold isOfV at q
                 split at q
                 · omega
                 · exact absurd q (by decide)
             rw [e9]
             exact ⟨_, rfl, rfl, rfl, rfl, T1, fun _ => rfl, R1, F1⟩)
    · refine x_iload_n (pc := 24) dX12_group_24 rfl rfl ?_
      refine x_i2l (pc := 25) dX12_group_25 ?_
      refine x_lconst0 (pc := 26) dX12_group_26 ?_
      refine x_ldc2 (n := 6) (pc := 27) cX12_331 (by decide) dX12_group_27 ?_
      refine x_callS3 (pc := 30) dX12_group_30 rfl kX12_106 (s_within hfl _ _ _) rfl (Nat.le_of_ble_eq_true rfl) (k_B (fun q_30 => ?_) (fun q_30 => ?_)) n_B
      · refine x_if_eq (tgt := 53) (pc := 33) dX12_group_33 (by decide) (fun c => absurd c (by decide)) (fun _ => ?_)
        refine x_iload_n (pc := 36) dX12_group_36 rfl rfl ?_
        refine x_iload_n (pc := 37) dX12_group_37 rfl rfl ?_
        refine x_callS2 (pc := 38) dX12_group_38 rfl kX12_136 (s_hasM hfl _ _) rfl (Nat.le_of_ble_eq_true rfl) (k_B (fun q_38 => ?_) (fun q_38 => ?_)) n_B
        · refine x_if_eq (tgt := 53) (pc := 41) dX12_group_41 (by decide) (fun c => absurd c (by decide)) (fun _ => ?_)
          refine x_aload_n (pc := 44) dX12_group_44 rfl rfl ?_
          refine x_iload_n (pc := 45) dX12_group_45 rfl rfl ?_
          refine x_callV1 (pc := 46) dX12_group_46 rfl kX12_328 (s_totalOf hfl m (core (A 0)) hS R1.re (core_tq hA.tq) R1.rp0 (R1.2.2.1.st (by first | omega | exact isSet_0 (by omega) | exact isSet_0 (s := s) (by omega) | exact isSet_0 (s := x) (by omega))) s ⟨by have := isSet_lt hA (s := s) (by omega); omega, by have := isSet_lt hA (s := s) (by omega); omega⟩) hS.1 rfl rfl (Nat.le_of_ble_eq_true rfl) (k_G (fun v9 M9 hM9 => ?_)) n_G
          obtain ⟨rfl, f9, p9, c9, b9⟩ := hM9
          have R9 : RM M9 m A := R1.mk9 f9.k p9 c9
          have T9 : M9 m 3 = 0 := (f9 m 3 (by omega) (by omega) (by omega)).trans T1
          have F9 : frM M M9 m := F1.tr f9.k.fr
          rewrite [hcc]
          rewrite [hcc] at b9
          have hto := totV_or (c := costV (A 0)) s
          have hsl := isSet_lt hA (s := s) (by omega)
          have hlt := totE_lt hc (s := s) (by omega)
          refine x_iconst (pc := 49) dX12_group_49 (by decide) ?_
          refine x_icmp_ne (tgt := 55) (pc := 50) dX12_group_50 (by decide) (fun c_50 => ?_) (fun c_50 => ?_)
          · have hbt := (b9.tot hc (s := s) ⟨by omega, by omega⟩).2 (by omega)
            refine x_iload_n (pc := 55) dX12_group_55 rfl rfl ?_
            refine x_iconst (pc := 56) dX12_group_56 (by decide) ?_
            refine x_icmp_ne (tgt := 67) (pc := 57) dX12_group_57 (by decide) (fun c_57 => ?_) (fun c_57 => ?_)
            · refine x_aload_n (pc := 67) dX12_group_67 rfl rfl ?_
              refine x_getR (jj := 30) (pc := 68) dX12_group_68 fX12_63 hS.1 rfl (by decide) rfl rM_30 ?_
              refine x_iload_n (pc := 71) dX12_group_71 rfl rfl ?_
              refine x_ialoadV (pc := 72) dX12_group_72 (sM_30 hS) (by omega) (by (repeat (first | rewrite [up_s] | rewrite [up_i (by omega)] | rewrite [up_a (by omega)] | rewrite [stM_a (by omega) (by omega)])); first | exact hbt.1 | exact hbt.2 h (by omega) (by omega) (by assumption) | exact R1.1.1 _ (by omega) (by omega) | rfl) (fun g_72 => ?_)
              refine x_ireturn (pc := 73) dX12_group_73 rfl (by decide) ?_
              first
                | (exfalso; omega)
                | (have e9 : spGroup A s h = (0, manyF (costV (A 0)) 7 s, A) := by
                     unfold spGroup
                     rw [if_neg (by omega), if_neg (by omega), if_pos (by omega)]
                   rw [e9]
                   exact ⟨_, rfl, rfl, rfl, rfl, T9, fun _ => by first | rfl | rw [hbt.1], R9, F9⟩)
                | (have e9 : spGroup A s h = (0, digV (costV (A 0)) s h, A) := by
                     unfold spGroup
                     rw [if_neg (by omega), if_neg (by omega), if_neg (by omega), if_pos]
                     unfold isOfV
                     exact if_pos ⟨by omega, by omega, by assumption⟩
                   rw [e9]
                   exact ⟨_, rfl, rfl, rfl, rfl, T9, fun _ => rfl, R9, F9⟩)
            · refine x_aload_n (pc := 60) dX12_group_60 rfl rfl ?_
              refine x_getIV (jj := 33) (pc := 61) dX12_group_61 fX12_319 hS.1 rfl (by decide) rfl (by (repeat (first | rewrite [up_s] | rewrite [up_i (by omega)] | rewrite [up_a (by omega)] | rewrite [stM_a (by omega) (by omega)])); first | exact hbt.1 | exact hbt.2 h (by omega) (by omega) (by assumption) | exact R1.1.1 _ (by omega) (by omega) | rfl) ?_
              refine x_goto (tgt := 73) (pc := 64) dX12_group_64 (by decide) ?_
              refine x_ireturn (pc := 73) dX12_group_73 rfl (by decide) ?_
              first
                | (exfalso; omega)
                | (have e9 : spGroup A s h = (0, manyF (costV (A 0)) 7 s, A) := by
                     unfold spGroup
                     rw [if_neg (by omega), if_neg (by omega), if_pos (by omega)]
                   rw [e9]
                   exact ⟨_, rfl, rfl, rfl, rfl, T9, fun _ => by first | rfl | rw [hbt.1], R9, F9⟩)
                | (have e9 : spGroup A s h = (0, digV (costV (A 0)) s h, A) := by
                     unfold spGroup
                     rw [if_neg (by omega), if_neg (by omega), if_neg (by omega), if_pos]
                     unfold isOfV
                     exact if_pos ⟨by omega, by omega, by assumption⟩
                   rw [e9]
                   exact ⟨_, rfl, rfl, rfl, rfl, T9, fun _ => rfl, R9, F9⟩)
          · refine x_iconst (pc := 53) dX12_group_53 (by decide) ?_
            refine x_ireturn (pc := 54) dX12_group_54 rfl (by decide) ?_
            first
              | (have e9 : spGroup A s h = (0, -1, A) := by
                   unfold spGroup
                   rw [if_neg (by omega), if_pos (by omega)]
                 rw [e9]
                 exact ⟨_, rfl, rfl, rfl, rfl, T9, fun _ => rfl, R9, F9⟩)
              | (have e9 : spGroup A s h = (0, -1, A) := by
                   unfold spGroup
                   rw [if_neg (by omega)]
                   by_cases z : totE (costV (A 0)) s = -1
                   · rw [if_pos z]
                   · rw [if_neg z, if_neg (by omega), if_neg]
                     intro q
                     unfold isOfV at q
                     split at q
                     · omega
                     · exact absurd q (by decide)
                 rw [e9]
                 exact ⟨_, rfl, rfl, rfl, rfl, T1, fun _ => rfl, R1, F1⟩)
        · refine x_if_eq (tgt := 53) (pc := 41) dX12_group_41 (by decide) (fun _ => ?_) (fun c => absurd c (by decide))
          refine x_iconst (pc := 53) dX12_group_53 (by decide) ?_
          refine x_ireturn (pc := 54) dX12_group_54 rfl (by decide) ?_
          first
            | (have e9 : spGroup A s h = (0, -1, A) := by
                 unfold spGroup
                 rw [if_neg (by omega), if_pos (by omega)]
               rw [e9]
               exact ⟨_, rfl, rfl, rfl, rfl, T9, fun _ => rfl, R9, F9⟩)
            | (have e9 : spGroup A s h = (0, -1, A) := by
                 unfold spGroup
                 rw [if_neg (by omega)]
                 by_cases z : totE (costV (A 0)) s = -1
                 · rw [if_pos z]
                 · rw [if_neg z, if_neg (by omega), if_neg]
                   intro q
                   unfold isOfV at q
                   split at q
                   · omega
                   · exact absurd q (by decide)
               rw [e9]
               exact ⟨_, rfl, rfl, rfl, rfl, T1, fun _ => rfl, R1, F1⟩)
      · refine x_if_eq (tgt := 53) (pc := 33) dX12_group_33 (by decide) (fun _ => ?_) (fun c => absurd c (by decide))
        refine x_iconst (pc := 53) dX12_group_53 (by decide) ?_
        refine x_ireturn (pc := 54) dX12_group_54 rfl (by decide) ?_
        first
          | (have e9 : spGroup A s h = (0, -1, A) := by
               unfold spGroup
               rw [if_neg (by omega), if_pos (by omega)]
             rw [e9]
             exact ⟨_, rfl, rfl, rfl, rfl, T9, fun _ => rfl, R9, F9⟩)
          | (have e9 : spGroup A s h = (0, -1, A) := by
               unfold spGroup
               rw [if_neg (by omega)]
               by_cases z : totE (costV (A 0)) s = -1
               · rw [if_pos z]
               · rw [if_neg z, if_neg (by omega), if_neg]
                 intro q
                 unfold isOfV at q
                 split at q
                 · omega
                 · exact absurd q (by decide)
             rw [e9]
             exact ⟨_, rfl, rfl, rfl, rfl, T1, fun _ => rfl, R1, F1⟩)
  · rw [e0] at q_7
    refine x_if_ne (tgt := 19) (pc := 10) dX12_group_10 (by decide) (fun c => absurd c (by decide)) (fun _ => ?_)
    refine x_aload_n (pc := 13) dX12_group_13 rfl rfl ?_
    refine x_iconst (pc := 14) dX12_group_14 (by decide) ?_
    refine x_callV1 (pc := 15) dX12_group_15 rfl kX12_116 (s_fails hfl m _ hS) hS.1 rfl rfl (Nat.le_of_ble_eq_true rfl) (k_G (fun v9 M9 hM9 => ?_)) n_G
    obtain ⟨rfl, rfl⟩ := hM9
    refine x_ireturn (pc := 18) dX12_group_18 rfl (by decide) ?_
    have e9 : spGroup A s h = (1, 0, A) := by
      unfold spGroup
      (repeat' split) <;> first | rfl | (exfalso; omega)
    rw [e9]
    exact ⟨_, rfl, rfl, rfl, rfl, up_s, fun q => absurd q (show ¬ (1 : Int) = 0 by decide), R1.up3, F1.up (by omega)⟩
theorem s_Mjoin {l : Launch} {E : aE} {N : Nat} {S : aS} {M : aM} (hfl : l.stackTraces = false) (x y n : Int) (m : Int) (A : aM) (hS : lyM S m) (hR : RM M m A) (hA : TOK (A 0)) : aMt l E pX12_join [(2, m), (0, x), (0, y), (0, n)] N S M (aG N S (opM M m 0 (spJoin A x y n))) := by
  refine a_met hfl rfl (by decide +kernel) (Nat.le_of_ble_eq_true rfl) ?_
  refine x_aload_n (pc := 0) dX12_join_0 rfl rfl ?_
  refine x_iconst (pc := 1) dX12_join_1 (by decide) ?_
  refine x_putI (jj := 3) (pc := 2) dX12_join_2 fX12_103 hS.1 rfl (by decide) rfl ?_
  refine x_memI (fun M1 hM1 => ?_)
  have R1 : RM M1 m A := by rw [hM1]; exact hR.up3
  have F1 : frM M M1 m := by rw [hM1]; exact frM.rf.up (by omega)
  have T1 : M1 m 3 = 0 := by rw [hM1]; exact up_s
  clear hM1
  have e0 : M1 (m + 1) 0 = A 0 0 := R1.1.1 0 (by omega) (by omega)
  have t0 := hA.1
  refine x_aload_n (pc := 5) dX12_join_5 rfl rfl ?_
  refine x_iload_n (pc := 6) dX12_join_6 rfl rfl ?_
  refine x_callV1 (pc := 7) dX12_join_7 rfl kX12_143 (s_isSet hfl m x hS) hS.1 rfl rfl (Nat.le_of_ble_eq_true rfl) (k_B (fun q_7 => ?_) (fun q_7 => ?_)) n_B
  · rw [e0] at q_7
    refine x_if_eq (tgt := 39) (pc := 10) dX12_join_10 (by decide) (fun c => absurd c (by decide)) (fun _ => ?_)
    refine x_aload_n (pc := 13) dX12_join_13 rfl rfl ?_
    refine x_iload_n (pc := 14) dX12_join_14 rfl rfl ?_
    refine x_callV1 (pc := 15) dX12_join_15 rfl kX12_143 (s_isSet hfl m y hS) hS.1 rfl rfl (Nat.le_of_ble_eq_true rfl) (k_B (fun q_15 => ?_) (fun q_15 => ?_)) n_B
    · rw [e0] at q_15
      refine x_if_eq (tgt := 39) (pc := 18) dX12_join_18 (by decide) (fun c => absurd c (by decide)) (fun _ => ?_)
      refine x_iload_n (pc := 21) dX12_join_21 rfl rfl ?_
      refine x_iload_n (pc := 22) dX12_join_22 rfl rfl ?_
      refine x_iand (pc := 23) dX12_join_23 ?_
      refine x_if_ne (tgt := 39) (pc := 24) dX12_join_24 (by decide) (fun c_24 => ?_) (fun c_24 => ?_)
      · refine x_aload_n (pc := 39) dX12_join_39 rfl rfl ?_
        refine x_iconst (pc := 40) dX12_join_40 (by decide) ?_
        refine x_callV1 (pc := 41) dX12_join_41 rfl kX12_116 (s_fails hfl m _ hS) hS.1 rfl rfl (Nat.le_of_ble_eq_true rfl) (k_G (fun v9 M9 hM9 => ?_)) n_G
        obtain ⟨rfl, rfl⟩ := hM9
        refine x_ireturn (pc := 44) dX12_join_44 rfl (by decide) ?_
        have e9 : spJoin A x y n = (1, 0, A) := by
          unfold spJoin
          (repeat' split) <;> first | rfl | (exfalso; omega)
        rw [e9]
        exact ⟨_, rfl, rfl, rfl, rfl, up_s, fun q => absurd q (show ¬ (1 : Int) = 0 by decide), R1.up3, F1.up (by omega)⟩
      · refine x_iload_n (pc := 27) dX12_join_27 rfl rfl ?_
        refine x_i2l (pc := 28) dX12_join_28 ?_
        refine x_lconst0 (pc := 29) dX12_join_29 ?_
        refine x_ldc2 (n := 100000) (pc := 30) cX12_336 (by decide) dX12_join_30 ?_
        refine x_callS3 (pc := 33) dX12_join_33 rfl kX12_106 (s_within hfl _ _ _) rfl (Nat.le_of_ble_eq_true rfl) (k_B (fun q_33 => ?_) (fun q_33 => ?_)) n_B
        · refine x_if_ne (tgt := 45) (pc := 36) dX12_join_36 (by decide) (fun _ => ?_) (fun c => absurd c (by decide))
          have h6 := hA.tq.2.2.2.2.2.1
          have hcc : costV (core (A 0)) = costV (A 0) := costV_fun (core_same (A 0)) (by rw [core_hi (by omega)]; omega)
          have hc := costs_t hA.tq
          refine x_aload_n (pc := 45) dX12_join_45 rfl rfl ?_
          refine x_iload_n (pc := 46) dX12_join_46 rfl rfl ?_
          refine x_callV1 (pc := 47) dX12_join_47 rfl kX12_328 (s_totalOf hfl m (core (A 0)) hS R1.re (core_tq hA.tq) R1.rp0 (R1.2.2.1.st (by first | omega | exact isSet_0 (by omega) | exact isSet_0 (s := s) (by omega) | exact isSet_0 (s := x) (by omega))) x ⟨by have := isSet_lt hA (s := x) (by omega); omega, by have := isSet_lt hA (s := x) (by omega); omega⟩) hS.1 rfl rfl (Nat.le_of_ble_eq_true rfl) (k_G (fun v9 M9 hM9 => ?_)) n_G
          obtain ⟨rfl, f9, p9, c9, b9⟩ := hM9
          have R9 : RM M9 m A := R1.mk9 f9.k p9 c9
          have T9 : M9 m 3 = 0 := (f9 m 3 (by omega) (by omega) (by omega)).trans T1
          have F9 : frM M M9 m := F1.tr f9.k.fr
          rewrite [hcc]
          rewrite [hcc] at b9
          refine x_istore (pc := 50) dX12_join_50 (by decide) rfl ?_
          refine x_aload_n (pc := 52) dX12_join_52 rfl rfl ?_
          refine x_iload_n (pc := 53) dX12_join_53 rfl rfl ?_
          refine x_callV1 (pc := 54) dX12_join_54 rfl kX12_328 (s_totalOf hfl m (core (A 0)) hS R9.re (core_tq hA.tq) R9.rp0 (R9.2.2.1.st (by first | omega | exact isSet_0 (by omega) | exact isSet_0 (s := s) (by omega) | exact isSet_0 (s := x) (by omega))) y ⟨by have := isSet_lt hA (s := y) (by omega); omega, by have := isSet_lt hA (s := y) (by omega); omega⟩) hS.1 rfl rfl (Nat.le_of_ble_eq_true rfl) (k_G (fun v8 M8 hM8 => ?_)) n_G
          obtain ⟨rfl, f8, p8, c8, b8⟩ := hM8
          have R8 : RM M8 m A := R9.mk9 f8.k p8 c8
          have T8 : M8 m 3 = 0 := (f8 m 3 (by omega) (by omega) (by omega)).trans T9
          have F8 : frM M M8 m := F9.tr f8.k.fr
          rewrite [hcc]
          rewrite [hcc] at b8
          refine x_istore (pc := 57) dX12_join_57 (by decide) rfl ?_
          refine x_aload_n (pc := 59) dX12_join_59 rfl rfl ?_
          refine x_iload_n (pc := 60) dX12_join_60 rfl rfl ?_
          refine x_iload_n (pc := 61) dX12_join_61 rfl rfl ?_
          refine x_ior (pc := 62) dX12_join_62 ?_
          refine x_callV1 (pc := 63) dX12_join_63 rfl kX12_328 (s_totalOf hfl m (core (A 0)) hS R8.re (core_tq hA.tq) R8.rp0 (R8.2.2.1.st (by first | omega | exact isSet_0 (by omega) | exact isSet_0 (s := s) (by omega) | exact isSet_0 (s := x) (by omega))) (b_or x y) (b_or_lt ⟨by have := isSet_lt hA (s := x) (by omega); omega, by have := isSet_lt hA (s := x) (by omega); omega⟩ ⟨by have := isSet_lt hA (s := y) (by omega); omega, by have := isSet_lt hA (s := y) (by omega); omega⟩)) hS.1 rfl rfl (Nat.le_of_ble_eq_true rfl) (k_G (fun v7 M7 hM7 => ?_)) n_G
          obtain ⟨rfl, f7, p7, c7, b7⟩ := hM7
          have R7 : RM M7 m A := R8.mk9 f7.k p7 c7
          have T7 : M7 m 3 = 0 := (f7 m 3 (by omega) (by omega) (by omega)).trans T8
          have F7 : frM M M7 m := F8.tr f7.k.fr
          rewrite [hcc]
          rewrite [hcc] at b7
          refine x_istore (pc := 66) dX12_join_66 (by decide) rfl ?_
          have htx := totV_or (c := costV (A 0)) x
          have hty := totV_or (c := costV (A 0)) y
          have htz := totV_or (c := costV (A 0)) (b_or x y)
          have hxl := isSet_lt hA (s := x) (by omega)
          have hyl := isSet_lt hA (s := y) (by omega)
          have hlx := totE_lt hc (s := x) (by omega)
          have hly := totE_lt hc (s := y) (by omega)
          have hlz := totE_lt hc (s := b_or x y) (b_or_lt (by omega) (by omega))
          have hsx := size_r (set := x) (by omega)
          have hsy := size_r (set := y) (by omega)
          have htt := fun a b => tot_or hc 14 x y (by omega) (by omega) (by omega) (by omega) a b
          refine x_iload (pc := 68) dX12_join_68 rfl ?_
          refine x_iconst (pc := 70) dX12_join_70 (by decide) ?_
          refine x_icmp_eq (tgt := 86) (pc := 71) dX12_join_71 (by decide) (fun c_71 => ?_) (fun c_71 => ?_)
          · refine x_ldcw (n := -1000000) (pc := 86) cX12_338 (by decide) dX12_join_86 ?_
            refine x_goto (tgt := 102) (pc := 89) dX12_join_89 (by decide) ?_
            refine x_ireturn (pc := 102) dX12_join_102 rfl (by decide) ?_
            first
              | (have e9 : spJoin A x y n = (0, -1000000, A) := by
                   unfold spJoin
                   rw [if_neg (by omega), if_pos]
                   by_cases z1 : totE (costV (A 0)) x = -1
                   · exact Or.inl z1
                   · by_cases z2 : totE (costV (A 0)) y = -1
                     · exact Or.inr z2
                     · have := htt z1 z2
                       omega
                 rw [e9]
                 exact ⟨_, rfl, rfl, rfl, rfl, T7, fun _ => rfl, R7, F7⟩)
              | (have e9 : spJoin A x y n = (0, totV (costV (A 0)) x + totV (costV (A 0)) y - totV (costV (A 0)) (b_or x y) - n, A) := by
                   unfold spJoin
                   rw [if_neg (by omega), if_neg (by omega)]
                 rw [e9]
                 exact ⟨_, rfl, rfl, rfl, rfl, T7, fun _ => rfl, R7, F7⟩)
          · refine x_iload (pc := 74) dX12_join_74 rfl ?_
            refine x_iconst (pc := 76) dX12_join_76 (by decide) ?_
            refine x_icmp_eq (tgt := 86) (pc := 77) dX12_join_77 (by decide) (fun c_77 => ?_) (fun c_77 => ?_)
            · refine x_ldcw (n := -1000000) (pc := 86) cX12_338 (by decide) dX12_join_86 ?_
              refine x_goto (tgt := 102) (pc := 89) dX12_join_89 (by decide) ?_
              refine x_ireturn (pc := 102) dX12_join_102 rfl (by decide) ?_
              first
                | (have e9 : spJoin A x y n = (0, -1000000, A) := by
                     unfold spJoin
                     rw [if_neg (by omega), if_pos]
                     by_cases z1 : totE (costV (A 0)) x = -1
                     · exact Or.inl z1
                     · by_cases z2 : totE (costV (A 0)) y = -1
                       · exact Or.inr z2
                       · have := htt z1 z2
                         omega
                   rw [e9]
                   exact ⟨_, rfl, rfl, rfl, rfl, T7, fun _ => rfl, R7, F7⟩)
                | (have e9 : spJoin A x y n = (0, totV (costV (A 0)) x + totV (costV (A 0)) y - totV (costV (A 0)) (b_or x y) - n, A) := by
                     unfold spJoin
                     rw [if_neg (by omega), if_neg (by omega)]
                   rw [e9]
                   exact ⟨_, rfl, rfl, rfl, rfl, T7, fun _ => rfl, R7, F7⟩)
            · refine x_iload (pc := 80) dX12_join_80 rfl ?_
              refine x_iconst (pc := 82) dX12_join_82 (by decide) ?_
              refine x_icmp_ne (tgt := 92) (pc := 83) dX12_join_83 (by decide) (fun c_83 => ?_) (fun c_83 => ?_)
              · refine x_iload (pc := 92) dX12_join_92 rfl ?_
                refine x_iload (pc := 94) dX12_join_94 rfl ?_
                refine x_iadd (pc := 96) dX12_join_96 (by omega) ?_
                refine x_iload (pc := 97) dX12_join_97 rfl ?_
                refine x_isub (pc := 99) dX12_join_99 (by omega) ?_
                refine x_iload_n (pc := 100) dX12_join_100 rfl rfl ?_
                refine x_isub (pc := 101) dX12_join_101 (by omega) ?_
                refine x_ireturn (pc := 102) dX12_join_102 rfl (by decide) ?_
                first
                  | (have e9 : spJoin A x y n = (0, -1000000, A) := by
                       unfold spJoin
                       rw [if_neg (by omega), if_pos]
                       by_cases z1 : totE (costV (A 0)) x = -1
                       · exact Or.inl z1
                       · by_cases z2 : totE (costV (A 0)) y = -1
                         · exact Or.inr z2
                         · have := htt z1 z2
                           omega
                     rw [e9]
                     exact ⟨_, rfl, rfl, rfl, rfl, T7, fun _ => rfl, R7, F7⟩)
                  | (have e9 : spJoin A x y n = (0, totV (costV (A 0)) x + totV (costV (A 0)) y - totV (costV (A 0)) (b_or x y) - n, A) := by
                       unfold spJoin
                       rw [if_neg (by omega), if_neg (by omega)]
                     rw [e9]
                     exact ⟨_, rfl, rfl, rfl, rfl, T7, fun _ => rfl, R7, F7⟩)
              · refine x_ldcw (n := -1000000) (pc := 86) cX12_338 (by decide) dX12_join_86 ?_
                refine x_goto (tgt := 102) (pc := 89) dX12_join_89 (by decide) ?_
                refine x_ireturn (pc := 102) dX12_join_102 rfl (by decide) ?_
                first
                  | (have e9 : spJoin A x y n = (0, -1000000, A) := by
                       unfold spJoin
                       rw [if_neg (by omega), if_pos]
                       by_cases z1 : totE (costV (A 0)) x = -1
                       · exact Or.inl z1
                       · by_cases z2 : totE (costV (A 0)) y = -1
                         · exact Or.inr z2
                         · have := htt z1 z2
                           omega
                     rw [e9]
                     exact ⟨_, rfl, rfl, rfl, rfl, T7, fun _ => rfl, R7, F7⟩)
                  | (have e9 : spJoin A x y n = (0, totV (costV (A 0)) x + totV (costV (A 0)) y - totV (costV (A 0)) (b_or x y) - n, A) := by
                       unfold spJoin
                       rw [if_neg (by omega), if_neg (by omega)]
                     rw [e9]
                     exact ⟨_, rfl, rfl, rfl, rfl, T7, fun _ => rfl, R7, F7⟩)
        · refine x_if_ne (tgt := 45) (pc := 36) dX12_join_36 (by decide) (fun c => absurd c (by decide)) (fun _ => ?_)
          refine x_aload_n (pc := 39) dX12_join_39 rfl rfl ?_
          refine x_iconst (pc := 40) dX12_join_40 (by decide) ?_
          refine x_callV1 (pc := 41) dX12_join_41 rfl kX12_116 (s_fails hfl m _ hS) hS.1 rfl rfl (Nat.le_of_ble_eq_true rfl) (k_G (fun v9 M9 hM9 => ?_)) n_G
          obtain ⟨rfl, rfl⟩ := hM9
          refine x_ireturn (pc := 44) dX12_join_44 rfl (by decide) ?_
          have e9 : spJoin A x y n = (1, 0, A) := by
            unfold spJoin
            (repeat' split) <;> first | rfl | (exfalso; omega)
          rw [e9]
          exact ⟨_, rfl, rfl, rfl, rfl, up_s, fun q => absurd q (show ¬ (1 : Int) = 0 by decide), R1.up3, F1.up (by omega)⟩
    · rw [e0] at q_15
      refine x_if_eq (tgt := 39) (pc := 18) dX12_join_18 (by decide) (fun _ => ?_) (fun c => absurd c (by decide))
      refine x_aload_n (pc := 39) dX12_join_39 rfl rfl ?_
      refine x_iconst (pc := 40) dX12_join_40 (by decide) ?_
      refine x_callV1 (pc := 41) dX12_join_41 rfl kX12_116 (s_fails hfl m _ hS) hS.1 rfl rfl (Nat.le_of_ble_eq_true rfl) (k_G (fun v9 M9 hM9 => ?_)) n_G
      obtain ⟨rfl, rfl⟩ := hM9
      refine x_ireturn (pc := 44) dX12_join_44 rfl (by decide) ?_
      have e9 : spJoin A x y n = (1, 0, A) := by
        unfold spJoin
        (repeat' split) <;> first | rfl | (exfalso; omega)
      rw [e9]
      exact ⟨_, rfl, rfl, rfl, rfl, up_s, fun q => absurd q (show ¬ (1 : Int) = 0 by decide), R1.up3, F1.up (by omega)⟩
  · rw [e0] at q_7
    refine x_if_eq (tgt := 39) (pc := 10) dX12_join_10 (by decide) (fun _ => ?_) (fun c => absurd c (by decide))
    refine x_aload_n (pc := 39) dX12_join_39 rfl rfl ?_
    refine x_iconst (pc := 40) dX12_join_40 (by decide) ?_
    refine x_callV1 (pc := 41) dX12_join_41 rfl kX12_116 (s_fails hfl m _ hS) hS.1 rfl rfl (Nat.le_of_ble_eq_true rfl) (k_G (fun v9 M9 hM9 => ?_)) n_G
    obtain ⟨rfl, rfl⟩ := hM9
    refine x_ireturn (pc := 44) dX12_join_44 rfl (by decide) ?_
    have e9 : spJoin A x y n = (1, 0, A) := by
      unfold spJoin
      (repeat' split) <;> first | rfl | (exfalso; omega)
    rw [e9]
    exact ⟨_, rfl, rfl, rfl, rfl, up_s, fun q => absurd q (show ¬ (1 : Int) = 0 by decide), R1.up3, F1.up (by omega)⟩
theorem grp_cg {s g : Int} {ρ σ : Int → Int} (h : ∀ i, 0 ≤ i → i < 7 → hb s i = 1 → ρ i = σ i) : grp s ρ g = grp s σ g := hb_ext grp_lt grp_lt fun j a b => by
  rw [grp_hb ⟨a, b⟩, grp_hb ⟨a, b⟩]
  constructor
  · rintro ⟨u, v⟩; exact ⟨u, by rw [← h j a b u]; exact v⟩
  · rintro ⟨u, v⟩; exact ⟨u, by rw [h j a b u]; exact v⟩
theorem s_Mcome {l : Launch} {E : aE} {N : Nat} {S : aS} {M : aM} (hfl : l.stackTraces = false) (s h : Int) (m : Int) (A : aM) (hS : lyM S m) (hR : RM M m A) (hA : TOK (A 0)) : aMt l E pX12_come [(2, m), (0, s), (0, h)] N S M (aG N S (opM M m 0 (spCome A s h))) := by
  refine a_met hfl rfl (by decide +kernel) (Nat.le_of_ble_eq_true rfl) ?_
  refine x_aload_n (pc := 0) dX12_come_0 rfl rfl ?_
  refine x_iconst (pc := 1) dX12_come_1 (by decide) ?_
  refine x_putI (jj := 3) (pc := 2) dX12_come_2 fX12_103 hS.1 rfl (by decide) rfl ?_
  refine x_memI (fun M1 hM1 => ?_)
  have R1 : RM M1 m A := by rw [hM1]; exact hR.up3
  have F1 : frM M M1 m := by rw [hM1]; exact frM.rf.up (by omega)
  have T1 : M1 m 3 = 0 := by rw [hM1]; exact up_s
  clear hM1
  have e0 : M1 (m + 1) 0 = A 0 0 := R1.1.1 0 (by omega) (by omega)
  have t0 := hA.1
  refine x_aload_n (pc := 5) dX12_come_5 rfl rfl ?_
  refine x_iload_n (pc := 6) dX12_come_6 rfl rfl ?_
  refine x_callV1 (pc := 7) dX12_come_7 rfl kX12_123 (s_isHouse hfl m h hS (by omega)) hS.1 rfl rfl (Nat.le_of_ble_eq_true rfl) (k_B (fun q_7 => ?_) (fun q_7 => ?_)) n_B
  · refine x_if_ne (tgt := 19) (pc := 10) dX12_come_10 (by decide) (fun _ => ?_) (fun c => absurd c (by decide))
    refine x_aload_n (pc := 19) dX12_come_19 rfl rfl ?_
    refine x_iload_n (pc := 20) dX12_come_20 rfl rfl ?_
    refine x_callV1 (pc := 21) dX12_come_21 rfl kX12_143 (s_isSet hfl m s hS) hS.1 rfl rfl (Nat.le_of_ble_eq_true rfl) (k_B (fun q_21 => ?_) (fun q_21 => ?_)) n_B
    · rw [e0] at q_21
      refine x_if_eq (tgt := 35) (pc := 24) dX12_come_24 (by decide) (fun c => absurd c (by decide)) (fun _ => ?_)
      refine x_iload_n (pc := 27) dX12_come_27 rfl rfl ?_
      refine x_iload_n (pc := 28) dX12_come_28 rfl rfl ?_
      refine x_callS2 (pc := 29) dX12_come_29 rfl kX12_136 (s_hasM hfl _ _) rfl (Nat.le_of_ble_eq_true rfl) (k_B (fun q_29 => ?_) (fun q_29 => ?_)) n_B
      · refine x_if_eq (tgt := 41) (pc := 32) dX12_come_32 (by decide) (fun c => absurd c (by decide)) (fun _ => ?_)
        refine x_aload_n (pc := 35) dX12_come_35 rfl rfl ?_
        refine x_iconst (pc := 36) dX12_come_36 (by decide) ?_
        refine x_callV1 (pc := 37) dX12_come_37 rfl kX12_116 (s_fails hfl m _ hS) hS.1 rfl rfl (Nat.le_of_ble_eq_true rfl) (k_G (fun v9 M9 hM9 => ?_)) n_G
        obtain ⟨rfl, rfl⟩ := hM9
        refine x_ireturn (pc := 40) dX12_come_40 rfl (by decide) ?_
        have e9 : spCome A s h = (2, 0, A) := by
          unfold spCome
          (repeat' split) <;> first | rfl | (exfalso; omega)
        rw [e9]
        exact ⟨_, rfl, rfl, rfl, rfl, up_s, fun q => absurd q (show ¬ (2 : Int) = 0 by decide), R1.up3, F1.up (by omega)⟩
      · refine x_if_eq (tgt := 41) (pc := 32) dX12_come_32 (by decide) (fun _ => ?_) (fun c => absurd c (by decide))
        have h6 := hA.tq.2.2.2.2.2.1
        have hcc : costV (core (A 0)) = costV (A 0) := costV_fun (core_same (A 0)) (by rw [core_hi (by omega)]; omega)
        have hc := costs_t hA.tq
        refine x_aload_n (pc := 41) dX12_come_41 rfl rfl ?_
        refine x_iload_n (pc := 42) dX12_come_42 rfl rfl ?_
        refine x_callV1 (pc := 43) dX12_come_43 rfl kX12_328 (s_totalOf hfl m (core (A 0)) hS R1.re (core_tq hA.tq) R1.rp0 (R1.2.2.1.st (by first | omega | exact isSet_0 (by omega) | exact isSet_0 (s := s) (by omega) | exact isSet_0 (s := x) (by omega))) s ⟨by have := isSet_lt hA (s := s) (by omega); omega, by have := isSet_lt hA (s := s) (by omega); omega⟩) hS.1 rfl rfl (Nat.le_of_ble_eq_true rfl) (k_G (fun v9 M9 hM9 => ?_)) n_G
        obtain ⟨rfl, f9, p9, c9, b9⟩ := hM9
        have R9 : RM M9 m A := R1.mk9 f9.k p9 c9
        have T9 : M9 m 3 = 0 := (f9 m 3 (by omega) (by omega) (by omega)).trans T1
        have F9 : frM M M9 m := F1.tr f9.k.fr
        rewrite [hcc]
        rewrite [hcc] at b9
        have hsl := isSet_lt hA (s := s) (by omega)
        have hto := totV_or (c := costV (A 0)) s
        have hlt := totE_lt hc (s := s) (by omega)
        refine x_iconst (pc := 46) dX12_come_46 (by decide) ?_
        refine x_icmp_ne (tgt := 52) (pc := 47) dX12_come_47 (by decide) (fun c_47 => ?_) (fun c_47 => ?_)
        · have ht9 : totE (costV (A 0)) s ≠ -1 := by omega
          have hbt := (b9.tot hc (s := s) ⟨by omega, by omega⟩).2 ht9
          obtain ⟨n9, hn9, hv9⟩ := dig_ok hc (s := s) ⟨by omega, by omega⟩ ht9
          have hm9 := many_ok hc 7 s n9 (by omega) (by omega) (size_r (by omega)).2 ht9 hn9
          rw [hm9] at hbt
          have h7 := hn9.1.n7
          have hsp := shl_pos (h := h) ⟨by omega, by omega⟩
          have hc1 := hc _ hsp.1 hsp.2
          have loop := a_loop5 (fun g le y pl M1 => (0 ≤ g ∧ g ≤ (n9 : Int)) ∧ RM M1 m A ∧ M1 m 3 = 0 ∧ frM M M1 m ∧ M1 m 33 = (n9 : Int) ∧ (∀ i, 0 ≤ i → i < 7 → hb s i = 1 → M1 (m + 17) i = digV (costV (A 0)) s i) ∧ comF (costV (A 0)) h (7 - g).toNat (restF (costV (A 0)) s g.toNat) le pl = comeV (costV (A 0)) s h ∧ (-300000 ≤ le ∧ le ≤ 536870912) ∧ (y = le ∨ (le = 536870912 ∧ y = 1000000000))) (fun g le y pl M1 => ((n9 : Int) - g).toNat) (fun g le y pl M1 => aX l E pX12_come (aG N S (opM M m 0 (spCome A s h))) 0 0 N S M1 92 [(0, (2, m)), (1, (0, s)), (2, (0, h)), (3, (0, pl)), (4, (0, y)), (5, (0, g))] []) (by
            intro g le y pl M1 hI ih
            obtain ⟨⟨j0, j1⟩, j2, j3, j4, j5, j6, j7, j8, j9⟩ := hI
            refine x_iload (pc := 92) dX12_come_92 rfl ?_
            refine x_aload_n (pc := 94) dX12_come_94 rfl rfl ?_
            refine x_getIV (jj := 33) (pc := 95) dX12_come_95 fX12_319 hS.1 rfl (by decide) rfl (by (repeat (first | rewrite [up_s] | rewrite [up_i (by omega)] | rewrite [up_a (by omega)] | rewrite [stM_a (by omega) (by omega)])); first | exact j5 | rfl) ?_
            refine x_icmp_ge (tgt := 179) (pc := 98) dX12_come_98 (by decide) (fun c_98 => ?_) (fun c_98 => ?_)
            · refine x_iload_n (pc := 179) dX12_come_179 rfl rfl ?_
              refine x_ireturn (pc := 180) dX12_come_180 rfl (by decide) ?_
              have e : g.toNat = n9 := by omega
              rw [e, rest_end hc ⟨by omega, by omega⟩ ht9 hn9, comF_0] at j7
              have e9 : spCome A s h = (0, comeV (costV (A 0)) s h, A) := by
                unfold spCome
                rw [if_neg (by omega), if_neg (by omega), if_neg ht9]
              rw [e9, ← j7]
              exact ⟨_, rfl, rfl, rfl, rfl, j3, fun _ => rfl, j2, j4⟩
            · obtain ⟨G, hG9⟩ : ∃ G, G = firstG (costV (A 0)) (restF (costV (A 0)) s g.toNat) := ⟨_, rfl⟩
              have hro := rest_ok hc (s := s) ⟨by omega, by omega⟩ ht9 hn9 g.toNat (by omega)
              have hfr := first_rest hc (s := s) ⟨by omega, by omega⟩ ht9 hn9 (g := g.toNat) (by omega)
              rw [show ((g.toNat : Nat) : Int) = g by omega] at hfr
              obtain ⟨p1, p2, p3, p4, p5, p6, p7, p8⟩ := first_ok hc ⟨hfr.2, hro.1.2⟩ hro.2.2.1
              rw [← hG9] at p1 p2 p3 p4 p5 p6 p7 p8 hfr
              have hob := or_bit p1 (h := h) ⟨by omega, by omega⟩
              have hcw := hc _ hob.1 hob.2
              have hcg := hc _ p1.1 p1.2
              obtain ⟨⟨lw0, lw1⟩, lw2, lw3⟩ := low_r p1
              have h7g : (7 - g).toNat = (7 - (g + 1)).toNat + 1 := by have := hn9.1.n7; omega
              rw [h7g] at j7
              unfold comF at j7
              rw [if_neg (by omega), ← hG9] at j7
              have hrs : b_xor (restF (costV (A 0)) s g.toNat) G = restF (costV (A 0)) s (g + 1).toNat := by
                rw [show (g + 1).toNat = g.toNat + 1 by omega]
                show _ = b_xor (restF (costV (A 0)) s g.toNat) (firstG (costV (A 0)) (restF (costV (A 0)) s g.toNat))
                rw [hG9]
              rw [hrs] at j7
              refine x_aload_n (pc := 101) dX12_come_101 rfl rfl ?_
              refine x_iload_n (pc := 102) dX12_come_102 rfl rfl ?_
              refine x_iload (pc := 103) dX12_come_103 rfl ?_
              refine x_callV2 (pc := 105) dX12_come_105 rfl kX12_333 (s_groupAt hfl m hS s g) hS.1 rfl rfl (Nat.le_of_ble_eq_true rfl) (k_R ?_) n_R
              have hGr : grp s (M1 (m + 17)) g = G := (grp_cg (fun i a b w => j6 i a b w)).trans hfr.1.symm
              rewrite [hGr]
              refine x_istore (pc := 108) dX12_come_108 (by decide) rfl ?_
              refine x_aload_n (pc := 110) dX12_come_110 rfl rfl ?_
              refine x_iload (pc := 111) dX12_come_111 rfl ?_
              refine x_iconst (pc := 113) dX12_come_113 (by decide) ?_
              refine x_iload_n (pc := 114) dX12_come_114 rfl rfl ?_
              refine x_ishl (pc := 115) dX12_come_115 ?_
              refine x_ior (pc := 116) dX12_come_116 ?_
              refine x_callV1 (pc := 117) dX12_come_117 rfl kX12_307 (s_MWcostOf hfl m (core (A 0)) hS j2.re (core_tq hA.tq) j2.rp0 (j2.2.2.1.st (by first | omega | exact isSet_0 (by omega) | exact isSet_0 (s := s) (by omega) | exact isSet_0 (s := x) (by omega))) (b_or G (b_shl 1 h)) ⟨hob.1, hob.2⟩) hS.1 rfl rfl (Nat.le_of_ble_eq_true rfl) (k_G (fun v6 M6 hM6 => ?_)) n_G
              obtain ⟨rfl, f6, p6, c6⟩ := hM6
              have R6 : RM M6 m A := j2.mk9 f6.k p6 c6
              have T6 : M6 m 3 = 0 := (f6 m 3 (by omega) (by omega) (by omega)).trans j3
              have F6 : frM M M6 m := j4.tr f6.k.fr
              rewrite [hcc]
              refine x_istore (pc := 120) dX12_come_120 (by decide) rfl ?_
              refine x_iload (pc := 122) dX12_come_122 rfl ?_
              refine x_iconst (pc := 124) dX12_come_124 (by decide) ?_
              refine x_icmp_eq (tgt := 173) (pc := 125) dX12_come_125 (by decide) (fun c_125 => ?_) (fun c_125 => ?_)
              · refine x_iinc (pc := 173) dX12_come_173 rfl (by omega) (by decide) rfl ?_
                refine x_goto (tgt := 92) (pc := 176) dX12_come_176 (by decide) ?_
                rw [if_neg (by rintro ⟨q8, q9⟩; exact absurd (by assumption) q8)] at j7
                refine x_lo (lo' := [(0, (2, m)), (1, (0, s)), (2, (0, h)), (3, (0, pl)), (4, (0, y)), (5, (0, g + 1))]) ⟨rfl, rfl, rfl, rfl, rfl, rfl, trivial⟩ (ih (g + 1) (le) (y) (pl) _ ⟨⟨by omega, by omega⟩, R6, T6, F6, ?_, fun i a b w => ?_, j7, by omega, j9⟩ (by omega))
                · rw [f6 m 33 (by omega) (by omega) (by omega)]
                  exact j5
                · rw [f6 _ i (by omega) (by omega) (by omega)]
                  exact j6 i a b w
              · refine x_iload (pc := 128) dX12_come_128 rfl ?_
                refine x_aload_n (pc := 130) dX12_come_130 rfl rfl ?_
                refine x_iload (pc := 131) dX12_come_131 rfl ?_
                refine x_callV1 (pc := 133) dX12_come_133 rfl kX12_307 (s_MWcostOf hfl m (core (A 0)) hS R6.re (core_tq hA.tq) R6.rp0 (R6.2.2.1.st (by first | omega | exact isSet_0 (by omega) | exact isSet_0 (s := s) (by omega) | exact isSet_0 (s := x) (by omega))) G p1) hS.1 rfl rfl (Nat.le_of_ble_eq_true rfl) (k_G (fun v5 M5 hM5 => ?_)) n_G
                obtain ⟨rfl, f5, p5, c5⟩ := hM5
                have R5 : RM M5 m A := R6.mk9 f5.k p5 c5
                have T5 : M5 m 3 = 0 := (f5 m 3 (by omega) (by omega) (by omega)).trans T6
                have F5 : frM M M5 m := F6.tr f5.k.fr
                rewrite [hcc]
                refine x_isub (pc := 136) dX12_come_136 (by omega) ?_
                refine x_iload (pc := 137) dX12_come_137 rfl ?_
                refine x_icmp_lt (tgt := 145) (pc := 139) dX12_come_139 (by decide) (fun c_139 => ?_) (fun c_139 => ?_)
                · refine x_iload (pc := 145) dX12_come_145 rfl ?_
                  refine x_aload_n (pc := 147) dX12_come_147 rfl rfl ?_
                  refine x_iload (pc := 148) dX12_come_148 rfl ?_
                  refine x_callV1 (pc := 150) dX12_come_150 rfl kX12_307 (s_MWcostOf hfl m (core (A 0)) hS R5.re (core_tq hA.tq) R5.rp0 (R5.2.2.1.st (by first | omega | exact isSet_0 (by omega) | exact isSet_0 (s := s) (by omega) | exact isSet_0 (s := x) (by omega))) G p1) hS.1 rfl rfl (Nat.le_of_ble_eq_true rfl) (k_G (fun v4 M4 hM4 => ?_)) n_G
                  obtain ⟨rfl, f4, p4, c4⟩ := hM4
                  have R4 : RM M4 m A := R5.mk9 f4.k p4 c4
                  have T4 : M4 m 3 = 0 := (f4 m 3 (by omega) (by omega) (by omega)).trans T5
                  have F4 : frM M M4 m := F5.tr f4.k.fr
                  rewrite [hcc]
                  refine x_isub (pc := 153) dX12_come_153 (by omega) ?_
                  refine x_istore (pc := 154) dX12_come_154 (by decide) rfl ?_
                  refine x_iconst (pc := 156) dX12_come_156 (by decide) ?_
                  refine x_istore_n (pc := 157) dX12_come_157 rfl (by decide) rfl ?_
                  have loop158 := a_loop1 (fun b => 0 ≤ b ∧ b ≤ lowV G) (fun b => (lowV G - b).toNat) (fun b => aX l E pX12_come (aG N S (opM M m 0 (spCome A s h))) 0 0 N S M4 158 [(0, (2, m)), (1, (0, s)), (2, (0, h)), (3, (0, b)), (4, (0, costV (A 0) (b_or G (b_shl 1 h)) - costV (A 0) G)), (5, (0, g)), (6, (0, G))] []) (by
                    intro b hI2 ih2
                    obtain ⟨u1, u2⟩ := hI2
                    refine x_iload (pc := 158) dX12_come_158 rfl ?_
                    refine x_iload_n (pc := 160) dX12_come_160 rfl rfl ?_
                    refine x_callS2 (pc := 161) dX12_come_161 rfl kX12_136 (s_hasM hfl _ _) rfl (Nat.le_of_ble_eq_true rfl) (k_B (fun q_161 => ?_) (fun q_161 => ?_)) n_B
                    · refine x_if_ne (tgt := 173) (pc := 164) dX12_come_164 (by decide) (fun _ => ?_) (fun c => absurd c (by decide))
                      refine x_iinc (pc := 173) dX12_come_173 rfl (by omega) (by decide) rfl ?_
                      refine x_goto (tgt := 92) (pc := 176) dX12_come_176 (by decide) ?_
                      have e : b = lowV G := by
                        by_cases e : b = lowV G
                        · exact e
                        · exact absurd (by assumption) (lw3 b (by omega) (by omega))
                      rw [e]
                      rw [if_pos ⟨by assumption, by omega⟩] at j7
                      refine x_lo (lo' := [(0, (2, m)), (1, (0, s)), (2, (0, h)), (3, (0, lowV G)), (4, (0, costV (A 0) (b_or G (b_shl 1 h)) - costV (A 0) G)), (5, (0, g + 1))]) ⟨rfl, rfl, rfl, rfl, rfl, rfl, trivial⟩ (ih (g + 1) (costV (A 0) (b_or G (b_shl 1 h)) - costV (A 0) G) (costV (A 0) (b_or G (b_shl 1 h)) - costV (A 0) G) (lowV G) _ ⟨⟨by omega, by omega⟩, R4, T4, F4, ?_, fun i a b w => ?_, j7, by omega, Or.inl rfl⟩ (by omega))
                      · rw [f4 m 33 (by omega) (by omega) (by omega), f5 m 33 (by omega) (by omega) (by omega), f6 m 33 (by omega) (by omega) (by omega)]
                        exact j5
                      · rw [f4 _ i (by omega) (by omega) (by omega), f5 _ i (by omega) (by omega) (by omega), f6 _ i (by omega) (by omega) (by omega)]
                        exact j6 i a b w
                    · refine x_if_ne (tgt := 173) (pc := 164) dX12_come_164 (by decide) (fun c => absurd c (by decide)) (fun _ => ?_)
                      refine x_iinc (pc := 167) dX12_come_167 rfl (by omega) (by decide) rfl ?_
                      refine x_goto (tgt := 158) (pc := 170) dX12_come_170 (by decide) ?_
                      have hlt : b + 1 ≤ lowV G := by
                        by_cases e : b = lowV G
                        · subst e; exact absurd lw2 (by assumption)
                        · omega
                      refine x_lo (lo' := [(0, (2, m)), (1, (0, s)), (2, (0, h)), (3, (0, (b + 1))), (4, (0, costV (A 0) (b_or G (b_shl 1 h)) - costV (A 0) G)), (5, (0, g)), (6, (0, G))]) ⟨rfl, rfl, rfl, rfl, rfl, rfl, rfl, trivial⟩ (ih2 (b + 1) ⟨by omega, hlt⟩ (by omega)))
                  refine x_lo (lo' := [(0, (2, m)), (1, (0, s)), (2, (0, h)), (3, (0, 0)), (4, (0, costV (A 0) (b_or G (b_shl 1 h)) - costV (A 0) G)), (5, (0, g)), (6, (0, G))]) ⟨rfl, rfl, rfl, rfl, rfl, rfl, rfl, trivial⟩ (loop158 (0) ⟨by omega, by omega⟩)
                · refine x_goto (tgt := 173) (pc := 142) dX12_come_142 (by decide) ?_
                  refine x_iinc (pc := 173) dX12_come_173 rfl (by omega) (by decide) rfl ?_
                  refine x_goto (tgt := 92) (pc := 176) dX12_come_176 (by decide) ?_
                  rw [if_neg (by rintro ⟨q8, q9⟩; omega)] at j7
                  refine x_lo (lo' := [(0, (2, m)), (1, (0, s)), (2, (0, h)), (3, (0, pl)), (4, (0, y)), (5, (0, g + 1))]) ⟨rfl, rfl, rfl, rfl, rfl, rfl, trivial⟩ (ih (g + 1) (le) (y) (pl) _ ⟨⟨by omega, by omega⟩, R5, T5, F5, ?_, fun i a b w => ?_, j7, by omega, j9⟩ (by omega))
                  · rw [f5 m 33 (by omega) (by omega) (by omega), f6 m 33 (by omega) (by omega) (by omega)]
                    exact j5
                  · rw [f5 _ i (by omega) (by omega) (by omega), f6 _ i (by omega) (by omega) (by omega)]
                    exact j6 i a b w)
          refine x_aload_n (pc := 52) dX12_come_52 rfl rfl ?_
          refine x_iconst (pc := 53) dX12_come_53 (by decide) ?_
          refine x_iload_n (pc := 54) dX12_come_54 rfl rfl ?_
          refine x_ishl (pc := 55) dX12_come_55 ?_
          refine x_callV1 (pc := 56) dX12_come_56 rfl kX12_307 (s_MWcostOf hfl m (core (A 0)) hS R9.re (core_tq hA.tq) R9.rp0 (R9.2.2.1.st (by first | omega | exact isSet_0 (by omega) | exact isSet_0 (s := s) (by omega) | exact isSet_0 (s := x) (by omega))) (b_shl 1 h) (shl_pos ⟨by omega, by omega⟩)) hS.1 rfl rfl (Nat.le_of_ble_eq_true rfl) (k_G (fun v6 M6 hM6 => ?_)) n_G
          obtain ⟨rfl, f6, p6, c6⟩ := hM6
          have R6 : RM M6 m A := R9.mk9 f6.k p6 c6
          have T6 : M6 m 3 = 0 := (f6 m 3 (by omega) (by omega) (by omega)).trans T9
          have F6 : frM M M6 m := F9.tr f6.k.fr
          rewrite [hcc]
          refine x_iconst (pc := 59) dX12_come_59 (by decide) ?_
          refine x_icmp_ne (tgt := 67) (pc := 60) dX12_come_60 (by decide) (fun c_60 => ?_) (fun c_60 => ?_)
          · refine x_iload_n (pc := 67) dX12_come_67 rfl rfl ?_
            refine x_istore_n (pc := 68) dX12_come_68 rfl (by decide) rfl ?_
            refine x_iload_n (pc := 69) dX12_come_69 rfl rfl ?_
            refine x_iconst (pc := 70) dX12_come_70 (by decide) ?_
            refine x_icmp_ne (tgt := 80) (pc := 71) dX12_come_71 (by decide) (fun c_71 => ?_) (fun c_71 => ?_)
            · refine x_aload_n (pc := 80) dX12_come_80 rfl rfl ?_
              refine x_iconst (pc := 81) dX12_come_81 (by decide) ?_
              refine x_iload_n (pc := 82) dX12_come_82 rfl rfl ?_
              refine x_ishl (pc := 83) dX12_come_83 ?_
              refine x_callV1 (pc := 84) dX12_come_84 rfl kX12_307 (s_MWcostOf hfl m (core (A 0)) hS R6.re (core_tq hA.tq) R6.rp0 (R6.2.2.1.st (by first | omega | exact isSet_0 (by omega) | exact isSet_0 (s := s) (by omega) | exact isSet_0 (s := x) (by omega))) (b_shl 1 h) (shl_pos ⟨by omega, by omega⟩)) hS.1 rfl rfl (Nat.le_of_ble_eq_true rfl) (k_G (fun v5 M5 hM5 => ?_)) n_G
              obtain ⟨rfl, f5, p5, c5⟩ := hM5
              have R5 : RM M5 m A := R6.mk9 f5.k p5 c5
              have T5 : M5 m 3 = 0 := (f5 m 3 (by omega) (by omega) (by omega)).trans T6
              have F5 : frM M M5 m := F6.tr f5.k.fr
              rewrite [hcc]
              refine x_istore (pc := 87) dX12_come_87 (by decide) rfl ?_
              refine x_iconst (pc := 89) dX12_come_89 (by decide) ?_
              refine x_istore (pc := 90) dX12_come_90 (by decide) rfl ?_
              refine x_lo (lo' := [(0, (2, m)), (1, (0, s)), (2, (0, h)), (3, (0, h)), (4, (0, costV (A 0) (b_shl 1 h))), (5, (0, 0))]) ⟨rfl, rfl, rfl, rfl, rfl, rfl, trivial⟩ (loop 0 (costV (A 0) (b_shl 1 h)) (costV (A 0) (b_shl 1 h)) (h) _ ⟨⟨by omega, by omega⟩, R5, T5, F5, ?_, fun i a b w => ?_, ?_, by omega, by omega⟩)
              · rw [f5 m 33 (by omega) (by omega) (by omega), f6 m 33 (by omega) (by omega) (by omega)]; exact hbt.1
              · rw [f5 _ i (by omega) (by omega) (by omega), f6 _ i (by omega) (by omega) (by omega)]; exact hbt.2 i a b w
              · unfold comeV
                rw [if_neg (by assumption), if_neg (by assumption)]
                rfl
            · refine x_ldcw (n := 1000000000) (pc := 74) cX12_265 (by decide) dX12_come_74 ?_
              refine x_goto (tgt := 87) (pc := 77) dX12_come_77 (by decide) ?_
              refine x_istore (pc := 87) dX12_come_87 (by decide) rfl ?_
              refine x_iconst (pc := 89) dX12_come_89 (by decide) ?_
              refine x_istore (pc := 90) dX12_come_90 (by decide) rfl ?_
              exfalso; omega
          · refine x_iconst (pc := 63) dX12_come_63 (by decide) ?_
            refine x_goto (tgt := 68) (pc := 64) dX12_come_64 (by decide) ?_
            refine x_istore_n (pc := 68) dX12_come_68 rfl (by decide) rfl ?_
            refine x_iload_n (pc := 69) dX12_come_69 rfl rfl ?_
            refine x_iconst (pc := 70) dX12_come_70 (by decide) ?_
            refine x_icmp_ne (tgt := 80) (pc := 71) dX12_come_71 (by decide) (fun c_71 => ?_) (fun c_71 => ?_)
            · refine x_aload_n (pc := 80) dX12_come_80 rfl rfl ?_
              refine x_iconst (pc := 81) dX12_come_81 (by decide) ?_
              refine x_iload_n (pc := 82) dX12_come_82 rfl rfl ?_
              refine x_ishl (pc := 83) dX12_come_83 ?_
              refine x_callV1 (pc := 84) dX12_come_84 rfl kX12_307 (s_MWcostOf hfl m (core (A 0)) hS R6.re (core_tq hA.tq) R6.rp0 (R6.2.2.1.st (by first | omega | exact isSet_0 (by omega) | exact isSet_0 (s := s) (by omega) | exact isSet_0 (s := x) (by omega))) (b_shl 1 h) (shl_pos ⟨by omega, by omega⟩)) hS.1 rfl rfl (Nat.le_of_ble_eq_true rfl) (k_G (fun v5 M5 hM5 => ?_)) n_G
              obtain ⟨rfl, f5, p5, c5⟩ := hM5
              have R5 : RM M5 m A := R6.mk9 f5.k p5 c5
              have T5 : M5 m 3 = 0 := (f5 m 3 (by omega) (by omega) (by omega)).trans T6
              have F5 : frM M M5 m := F6.tr f5.k.fr
              rewrite [hcc]
              refine x_istore (pc := 87) dX12_come_87 (by decide) rfl ?_
              refine x_iconst (pc := 89) dX12_come_89 (by decide) ?_
              refine x_istore (pc := 90) dX12_come_90 (by decide) rfl ?_
              exfalso; omega
            · refine x_ldcw (n := 1000000000) (pc := 74) cX12_265 (by decide) dX12_come_74 ?_
              refine x_goto (tgt := 87) (pc := 77) dX12_come_77 (by decide) ?_
              refine x_istore (pc := 87) dX12_come_87 (by decide) rfl ?_
              refine x_iconst (pc := 89) dX12_come_89 (by decide) ?_
              refine x_istore (pc := 90) dX12_come_90 (by decide) rfl ?_
              refine x_lo (lo' := [(0, (2, m)), (1, (0, s)), (2, (0, h)), (3, (0, -1)), (4, (0, 1000000000)), (5, (0, 0))]) ⟨rfl, rfl, rfl, rfl, rfl, rfl, trivial⟩ (loop 0 (536870912) (1000000000) (-1) _ ⟨⟨by omega, by omega⟩, R6, T6, F6, ?_, fun i a b w => ?_, ?_, by omega, by omega⟩)
              · rw [f6 m 33 (by omega) (by omega) (by omega)]; exact hbt.1
              · rw [f6 _ i (by omega) (by omega) (by omega)]; exact hbt.2 i a b w
              · unfold comeV
                rw [if_pos (by assumption), if_pos (by assumption)]
                rfl
        · refine x_iconst (pc := 50) dX12_come_50 (by decide) ?_
          refine x_ireturn (pc := 51) dX12_come_51 rfl (by decide) ?_
          have e9 : spCome A s h = (0, -1, A) := by
            unfold spCome
            rw [if_neg (by omega), if_neg (by omega), if_pos (by omega)]
          rw [e9]
          exact ⟨_, rfl, rfl, rfl, rfl, T9, fun _ => rfl, R9, F9⟩
    · rw [e0] at q_21
      refine x_if_eq (tgt := 35) (pc := 24) dX12_come_24 (by decide) (fun _ => ?_) (fun c => absurd c (by decide))
      refine x_aload_n (pc := 35) dX12_come_35 rfl rfl ?_
      refine x_iconst (pc := 36) dX12_come_36 (by decide) ?_
      refine x_callV1 (pc := 37) dX12_come_37 rfl kX12_116 (s_fails hfl m _ hS) hS.1 rfl rfl (Nat.le_of_ble_eq_true rfl) (k_G (fun v9 M9 hM9 => ?_)) n_G
      obtain ⟨rfl, rfl⟩ := hM9
      refine x_ireturn (pc := 40) dX12_come_40 rfl (by decide) ?_
      have e9 : spCome A s h = (2, 0, A) := by
        unfold spCome
        (repeat' split) <;> first | rfl | (exfalso; omega)
      rw [e9]
      exact ⟨_, rfl, rfl, rfl, rfl, up_s, fun q => absurd q (show ¬ (2 : Int) = 0 by decide), R1.up3, F1.up (by omega)⟩
  · refine x_if_ne (tgt := 19) (pc := 10) dX12_come_10 (by decide) (fun c => absurd c (by decide)) (fun _ => ?_)
    refine x_aload_n (pc := 13) dX12_come_13 rfl rfl ?_
    refine x_iconst (pc := 14) dX12_come_14 (by decide) ?_
    refine x_callV1 (pc := 15) dX12_come_15 rfl kX12_116 (s_fails hfl m _ hS) hS.1 rfl rfl (Nat.le_of_ble_eq_true rfl) (k_G (fun v9 M9 hM9 => ?_)) n_G
    obtain ⟨rfl, rfl⟩ := hM9
    refine x_ireturn (pc := 18) dX12_come_18 rfl (by decide) ?_
    have e9 : spCome A s h = (1, 0, A) := by
      unfold spCome
      (repeat' split) <;> first | rfl | (exfalso; omega)
    rw [e9]
    exact ⟨_, rfl, rfl, rfl, rfl, up_s, fun q => absurd q (show ¬ (1 : Int) = 0 by decide), R1.up3, F1.up (by omega)⟩
