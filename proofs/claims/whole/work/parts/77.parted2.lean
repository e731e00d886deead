/-! the reference's way through all partings: the code -/
theorem RG.uniq {s : Int} {ρ : Int → Int} {n k : Nat} (h : RG s ρ n) (h2 : RG s ρ k) : n = k := by
  have key : ∀ a b : Nat, RG s ρ a → RG s ρ b → a ≤ b := fun a b ha hb9 => by
    by_cases e : a ≤ b
    · exact e
    · obtain ⟨j, j0, j1, j2, j3⟩ := ha.2 b (by omega) (by omega)
      have := hb9.1 j j0 j1 j2
      omega
  have := key n k h h2
  have := key k n h2 h
  omega
theorem agr_all {c : Int → Int} {s : Int} {σ ρ : Int → Int} {n k : Nat} (h : OKR c s σ k) (hg : agr s 7 σ ρ) (hr : RG s ρ n) : OKR c s ρ n ∧ valR c s σ k = valR c s ρ n := by
  obtain ⟨z1, z2⟩ := h.cg (σ := ρ) fun i a b w => (hg i a b b w).symm
  have e := hr.uniq z1.1
  subst e
  exact ⟨z1, z2.symm⟩
theorem PPo.back {M M' : aM} {m : Int} {t : Int → Int} {s h k : Int} {ρ : Int → Int} {n : Nat} {B : Int} (hp : PPo M M' m t s k ρ n B) (hk : h ≤ k) (hn : ∀ i, h ≤ i → i < k → ¬ hb s i = 1) : PPo M M' m t s h ρ n B := by
  obtain ⟨B', p1, p2, p3, p4, p5, p6, p7, p8, p9⟩ := hp
  have e : ∀ σ, agr s h σ ρ → agr s k σ ρ := fun σ q i a b c d => by
    by_cases w : i < h
    · exact q i a w c d
    · exact absurd d (hn i (by omega) b)
  have e2 : ∀ σ, agr s k σ ρ → agr s h σ ρ := fun σ q i a b c d => q i a (by omega) c d
  refine ⟨B', p1, p2, ?_, fun σ q u v => p4 σ q u (e σ v), p5, p6, p7, fun i a b => p8 i a (by omega), p9⟩
  rcases p3 with p3 | ⟨σ, q, u, v, w⟩
  · exact Or.inl p3
  · exact Or.inr ⟨σ, q, u, e2 σ v, w⟩
theorem dX12_weigh_0 : decode cX12_weigh 0 = .ok (.iconst 0, 1) := by decide +kernel
theorem dX12_weigh_1 : decode cX12_weigh 1 = .ok (.istore_n 2, 1) := by decide +kernel
theorem dX12_weigh_2 : decode cX12_weigh 2 = .ok (.iconst 0, 1) := by decide +kernel
theorem dX12_weigh_3 : decode cX12_weigh 3 = .ok (.istore_n 3, 1) := by decide +kernel
theorem dX12_weigh_4 : decode cX12_weigh 4 = .ok (.iload_n 3, 1) := by decide +kernel
theorem dX12_weigh_5 : decode cX12_weigh 5 = .ok (.iload_n 1, 1) := by decide +kernel
theorem dX12_weigh_6 : decode cX12_weigh 6 = .ok (.if_icmp .ge 33, 3) := by decide +kernel
theorem dX12_weigh_9 : decode cX12_weigh 9 = .ok (.aload_n 0, 1) := by decide +kernel
theorem dX12_weigh_10 : decode cX12_weigh 10 = .ok (.aload_n 0, 1) := by decide +kernel
theorem dX12_weigh_11 : decode cX12_weigh 11 = .ok (.getfield 66, 3) := by decide +kernel
theorem dX12_weigh_14 : decode cX12_weigh 14 = .ok (.iload_n 3, 1) := by decide +kernel
theorem dX12_weigh_15 : decode cX12_weigh 15 = .ok (.iaload, 1) := by decide +kernel
theorem dX12_weigh_16 : decode cX12_weigh 16 = .ok (.invokevirtual 307, 3) := by decide +kernel
theorem dX12_weigh_19 : decode cX12_weigh 19 = .ok (.istore 4, 2) := by decide +kernel
theorem dX12_weigh_21 : decode cX12_weigh 21 = .ok (.iload 4, 2) := by decide +kernel
theorem dX12_weigh_23 : decode cX12_weigh 23 = .ok (.iconst (-1), 1) := by decide +kernel
theorem dX12_weigh_24 : decode cX12_weigh 24 = .ok (.if_icmp .ne 4, 3) := by decide +kernel
theorem dX12_weigh_27 : decode cX12_weigh 27 = .ok (.return_, 1) := by decide +kernel
theorem dX12_weigh_28 : decode cX12_weigh 28 = .ok (.iload_n 2, 1) := by decide +kernel
theorem dX12_weigh_29 : decode cX12_weigh 29 = .ok (.iload 4, 2) := by decide +kernel
theorem dX12_weigh_31 : decode cX12_weigh 31 = .ok (.iadd, 1) := by decide +kernel
theorem dX12_weigh_32 : decode cX12_weigh 32 = .ok (.istore_n 2, 1) := by decide +kernel
theorem dX12_weigh_33 : decode cX12_weigh 33 = .ok (.iinc 3 1, 3) := by decide +kernel
theorem dX12_weigh_36 : decode cX12_weigh 36 = .ok (.goto (-32), 3) := by decide +kernel
theorem dX12_weigh_39 : decode cX12_weigh 39 = .ok (.aload_n 0, 1) := by decide +kernel
theorem dX12_weigh_40 : decode cX12_weigh 40 = .ok (.getfield 316, 3) := by decide +kernel
theorem dX12_weigh_43 : decode cX12_weigh 43 = .ok (.iconst (-1), 1) := by decide +kernel
theorem dX12_weigh_44 : decode cX12_weigh 44 = .ok (.if_icmp .eq 12, 3) := by decide +kernel
theorem dX12_weigh_47 : decode cX12_weigh 47 = .ok (.iload_n 2, 1) := by decide +kernel
theorem dX12_weigh_48 : decode cX12_weigh 48 = .ok (.aload_n 0, 1) := by decide +kernel
theorem dX12_weigh_49 : decode cX12_weigh 49 = .ok (.getfield 316, 3) := by decide +kernel
theorem dX12_weigh_52 : decode cX12_weigh 52 = .ok (.if_icmp .lt 4, 3) := by decide +kernel
theorem dX12_weigh_55 : decode cX12_weigh 55 = .ok (.return_, 1) := by decide +kernel
theorem dX12_weigh_56 : decode cX12_weigh 56 = .ok (.aload_n 0, 1) := by decide +kernel
theorem dX12_weigh_57 : decode cX12_weigh 57 = .ok (.iload_n 2, 1) := by decide +kernel
theorem dX12_weigh_58 : decode cX12_weigh 58 = .ok (.putfield 316, 3) := by decide +kernel
theorem dX12_weigh_61 : decode cX12_weigh 61 = .ok (.aload_n 0, 1) := by decide +kernel
theorem dX12_weigh_62 : decode cX12_weigh 62 = .ok (.iload_n 1, 1) := by decide +kernel
theorem dX12_weigh_63 : decode cX12_weigh 63 = .ok (.putfield 319, 3) := by decide +kernel
theorem dX12_weigh_66 : decode cX12_weigh 66 = .ok (.iconst 0, 1) := by decide +kernel
theorem dX12_weigh_67 : decode cX12_weigh 67 = .ok (.istore_n 3, 1) := by decide +kernel
theorem dX12_weigh_68 : decode cX12_weigh 68 = .ok (.iload_n 3, 1) := by decide +kernel
theorem dX12_weigh_69 : decode cX12_weigh 69 = .ok (.bipush 7, 2) := by decide +kernel
theorem dX12_weigh_71 : decode cX12_weigh 71 = .ok (.if_icmp .ge 21, 3) := by decide +kernel
theorem dX12_weigh_74 : decode cX12_weigh 74 = .ok (.aload_n 0, 1) := by decide +kernel
theorem dX12_weigh_75 : decode cX12_weigh 75 = .ok (.getfield 63, 3) := by decide +kernel
theorem dX12_weigh_78 : decode cX12_weigh 78 = .ok (.iload_n 3, 1) := by decide +kernel
theorem dX12_weigh_79 : decode cX12_weigh 79 = .ok (.aload_n 0, 1) := by decide +kernel
theorem dX12_weigh_80 : decode cX12_weigh 80 = .ok (.getfield 60, 3) := by decide +kernel
theorem dX12_weigh_83 : decode cX12_weigh 83 = .ok (.iload_n 3, 1) := by decide +kernel
theorem dX12_weigh_84 : decode cX12_weigh 84 = .ok (.iaload, 1) := by decide +kernel
theorem dX12_weigh_85 : decode cX12_weigh 85 = .ok (.iastore, 1) := by decide +kernel
theorem dX12_weigh_86 : decode cX12_weigh 86 = .ok (.iinc 3 1, 3) := by decide +kernel
theorem dX12_weigh_89 : decode cX12_weigh 89 = .ok (.goto (-21), 3) := by decide +kernel
theorem dX12_weigh_92 : decode cX12_weigh 92 = .ok (.return_, 1) := by decide +kernel
theorem dX12_parted_0 : decode cX12_parted 0 = .ok (.iload_n 2, 1) := by decide +kernel
theorem dX12_parted_1 : decode cX12_parted 1 = .ok (.istore 4, 2) := by decide +kernel
theorem dX12_parted_3 : decode cX12_parted 3 = .ok (.iload 4, 2) := by decide +kernel
theorem dX12_parted_5 : decode cX12_parted 5 = .ok (.bipush 7, 2) := by decide +kernel
theorem dX12_parted_7 : decode cX12_parted 7 = .ok (.if_icmp .ge 18, 3) := by decide +kernel
theorem dX12_parted_10 : decode cX12_parted 10 = .ok (.iload_n 1, 1) := by decide +kernel
theorem dX12_parted_11 : decode cX12_parted 11 = .ok (.iload 4, 2) := by decide +kernel
theorem dX12_parted_13 : decode cX12_parted 13 = .ok (.invokestatic 136, 3) := by decide +kernel
theorem dX12_parted_16 : decode cX12_parted 16 = .ok (.ifCond .ne 9, 3) := by decide +kernel
theorem dX12_parted_19 : decode cX12_parted 19 = .ok (.iinc 4 1, 3) := by decide +kernel
theorem dX12_parted_22 : decode cX12_parted 22 = .ok (.goto (-19), 3) := by decide +kernel
theorem dX12_parted_25 : decode cX12_parted 25 = .ok (.iload 4, 2) := by decide +kernel
theorem dX12_parted_27 : decode cX12_parted 27 = .ok (.bipush 7, 2) := by decide +kernel
theorem dX12_parted_29 : decode cX12_parted 29 = .ok (.if_icmp .ne 9, 3) := by decide +kernel
theorem dX12_parted_32 : decode cX12_parted 32 = .ok (.aload_n 0, 1) := by decide +kernel
theorem dX12_parted_33 : decode cX12_parted 33 = .ok (.iload_n 3, 1) := by decide +kernel
theorem dX12_parted_34 : decode cX12_parted 34 = .ok (.invokevirtual 325, 3) := by decide +kernel
theorem dX12_parted_37 : decode cX12_parted 37 = .ok (.return_, 1) := by decide +kernel
theorem dX12_parted_38 : decode cX12_parted 38 = .ok (.iconst 0, 1) := by decide +kernel
theorem dX12_parted_39 : decode cX12_parted 39 = .ok (.istore 5, 2) := by decide +kernel
theorem dX12_parted_41 : decode cX12_parted 41 = .ok (.iload 5, 2) := by decide +kernel
theorem dX12_parted_43 : decode cX12_parted 43 = .ok (.iload_n 3, 1) := by decide +kernel
theorem dX12_parted_44 : decode cX12_parted 44 = .ok (.if_icmp .gt 85, 3) := by decide +kernel
theorem dX12_parted_47 : decode cX12_parted 47 = .ok (.aload_n 0, 1) := by decide +kernel
theorem dX12_parted_48 : decode cX12_parted 48 = .ok (.getfield 60, 3) := by decide +kernel
theorem dX12_parted_51 : decode cX12_parted 51 = .ok (.iload 4, 2) := by decide +kernel
theorem dX12_parted_53 : decode cX12_parted 53 = .ok (.iload 5, 2) := by decide +kernel
theorem dX12_parted_55 : decode cX12_parted 55 = .ok (.iastore, 1) := by decide +kernel
theorem dX12_parted_56 : decode cX12_parted 56 = .ok (.aload_n 0, 1) := by decide +kernel
theorem dX12_parted_57 : decode cX12_parted 57 = .ok (.getfield 66, 3) := by decide +kernel
theorem dX12_parted_60 : decode cX12_parted 60 = .ok (.iload 5, 2) := by decide +kernel
theorem dX12_parted_62 : decode cX12_parted 62 = .ok (.iload 5, 2) := by decide +kernel
theorem dX12_parted_64 : decode cX12_parted 64 = .ok (.iload_n 3, 1) := by decide +kernel
theorem dX12_parted_65 : decode cX12_parted 65 = .ok (.if_icmp .ne 7, 3) := by decide +kernel
theorem dX12_parted_68 : decode cX12_parted 68 = .ok (.iconst 0, 1) := by decide +kernel
theorem dX12_parted_69 : decode cX12_parted 69 = .ok (.goto 10, 3) := by decide +kernel
theorem dX12_parted_72 : decode cX12_parted 72 = .ok (.aload_n 0, 1) := by decide +kernel
theorem dX12_parted_73 : decode cX12_parted 73 = .ok (.getfield 66, 3) := by decide +kernel
theorem dX12_parted_76 : decode cX12_parted 76 = .ok (.iload 5, 2) := by decide +kernel
theorem dX12_parted_78 : decode cX12_parted 78 = .ok (.iaload, 1) := by decide +kernel
theorem dX12_parted_79 : decode cX12_parted 79 = .ok (.iconst 1, 1) := by decide +kernel
theorem dX12_parted_80 : decode cX12_parted 80 = .ok (.iload 4, 2) := by decide +kernel
theorem dX12_parted_82 : decode cX12_parted 82 = .ok (.ishl, 1) := by decide +kernel
theorem dX12_parted_83 : decode cX12_parted 83 = .ok (.ior, 1) := by decide +kernel
theorem dX12_parted_84 : decode cX12_parted 84 = .ok (.iastore, 1) := by decide +kernel
theorem dX12_parted_85 : decode cX12_parted 85 = .ok (.aload_n 0, 1) := by decide +kernel
theorem dX12_parted_86 : decode cX12_parted 86 = .ok (.iload_n 1, 1) := by decide +kernel
theorem dX12_parted_87 : decode cX12_parted 87 = .ok (.iload 4, 2) := by decide +kernel
theorem dX12_parted_89 : decode cX12_parted 89 = .ok (.iconst 1, 1) := by decide +kernel
theorem dX12_parted_90 : decode cX12_parted 90 = .ok (.iadd, 1) := by decide +kernel
theorem dX12_parted_91 : decode cX12_parted 91 = .ok (.iload 5, 2) := by decide +kernel
theorem dX12_parted_93 : decode cX12_parted 93 = .ok (.iload_n 3, 1) := by decide +kernel
theorem dX12_parted_94 : decode cX12_parted 94 = .ok (.if_icmp .ne 9, 3) := by decide +kernel
theorem dX12_parted_97 : decode cX12_parted 97 = .ok (.iload_n 3, 1) := by decide +kernel
theorem dX12_parted_98 : decode cX12_parted 98 = .ok (.iconst 1, 1) := by decide +kernel
theorem dX12_parted_99 : decode cX12_parted 99 = .ok (.iadd, 1) := by decide +kernel
theorem dX12_parted_100 : decode cX12_parted 100 = .ok (.goto 4, 3) := by decide +kernel
theorem dX12_parted_103 : decode cX12_parted 103 = .ok (.iload_n 3, 1) := by decide +kernel
theorem dX12_parted_104 : decode cX12_parted 104 = .ok (.invokevirtual 322, 3) := by decide +kernel
theorem dX12_parted_107 : decode cX12_parted 107 = .ok (.aload_n 0, 1) := by decide +kernel
theorem dX12_parted_108 : decode cX12_parted 108 = .ok (.getfield 66, 3) := by decide +kernel
theorem dX12_parted_111 : decode cX12_parted 111 = .ok (.iload 5, 2) := by decide +kernel
theorem dX12_parted_113 : decode cX12_parted 113 = .ok (.dup2, 1) := by decide +kernel
theorem dX12_parted_114 : decode cX12_parted 114 = .ok (.iaload, 1) := by decide +kernel
theorem dX12_parted_115 : decode cX12_parted 115 = .ok (.iconst 1, 1) := by decide +kernel
theorem dX12_parted_116 : decode cX12_parted 116 = .ok (.iload 4, 2) := by decide +kernel
theorem dX12_parted_118 : decode cX12_parted 118 = .ok (.ishl, 1) := by decide +kernel
theorem dX12_parted_119 : decode cX12_parted 119 = .ok (.iconst (-1), 1) := by decide +kernel
theorem dX12_parted_120 : decode cX12_parted 120 = .ok (.ixor, 1) := by decide +kernel
theorem dX12_parted_121 : decode cX12_parted 121 = .ok (.iand, 1) := by decide +kernel
theorem dX12_parted_122 : decode cX12_parted 122 = .ok (.iastore, 1) := by decide +kernel
theorem dX12_parted_123 : decode cX12_parted 123 = .ok (.iinc 5 1, 3) := by decide +kernel
theorem dX12_parted_126 : decode cX12_parted 126 = .ok (.goto (-85), 3) := by decide +kernel
theorem dX12_parted_129 : decode cX12_parted 129 = .ok (.return_, 1) := by decide +kernel
theorem dX12_totalOf_0 : decode cX12_totalOf 0 = .ok (.aload_n 0, 1) := by decide +kernel
theorem dX12_totalOf_1 : decode cX12_totalOf 1 = .ok (.iconst (-1), 1) := by decide +kernel
theorem dX12_totalOf_2 : decode cX12_totalOf 2 = .ok (.putfield 316, 3) := by decide +kernel
theorem dX12_totalOf_5 : decode cX12_totalOf 5 = .ok (.aload_n 0, 1) := by decide +kernel
theorem dX12_totalOf_6 : decode cX12_totalOf 6 = .ok (.iconst 0, 1) := by decide +kernel
theorem dX12_totalOf_7 : decode cX12_totalOf 7 = .ok (.putfield 319, 3) := by decide +kernel
theorem dX12_totalOf_10 : decode cX12_totalOf 10 = .ok (.aload_n 0, 1) := by decide +kernel
theorem dX12_totalOf_11 : decode cX12_totalOf 11 = .ok (.iload_n 1, 1) := by decide +kernel
theorem dX12_totalOf_12 : decode cX12_totalOf 12 = .ok (.iconst 0, 1) := by decide +kernel
theorem dX12_totalOf_13 : decode cX12_totalOf 13 = .ok (.iconst 0, 1) := by decide +kernel
theorem dX12_totalOf_14 : decode cX12_totalOf 14 = .ok (.invokevirtual 322, 3) := by decide +kernel
theorem dX12_totalOf_17 : decode cX12_totalOf 17 = .ok (.aload_n 0, 1) := by decide +kernel
theorem dX12_totalOf_18 : decode cX12_totalOf 18 = .ok (.getfield 316, 3) := by decide +kernel
theorem dX12_totalOf_21 : decode cX12_totalOf 21 = .ok (.ireturn, 1) := by decide +kernel
theorem dX12_groupAt_0 : decode cX12_groupAt 0 = .ok (.iconst 0, 1) := by decide +kernel
theorem dX12_groupAt_1 : decode cX12_groupAt 1 = .ok (.istore_n 3, 1) := by decide +kernel
theorem dX12_groupAt_2 : decode cX12_groupAt 2 = .ok (.iconst 0, 1) := by decide +kernel
theorem dX12_groupAt_3 : decode cX12_groupAt 3 = .ok (.istore 4, 2) := by decide +kernel
theorem dX12_groupAt_5 : decode cX12_groupAt 5 = .ok (.iload 4, 2) := by decide +kernel
theorem dX12_groupAt_7 : decode cX12_groupAt 7 = .ok (.bipush 7, 2) := by decide +kernel
theorem dX12_groupAt_9 : decode cX12_groupAt 9 = .ok (.if_icmp .ge 40, 3) := by decide +kernel
theorem dX12_groupAt_12 : decode cX12_groupAt 12 = .ok (.iload_n 3, 1) := by decide +kernel
theorem dX12_groupAt_13 : decode cX12_groupAt 13 = .ok (.iload_n 1, 1) := by decide +kernel
theorem dX12_groupAt_14 : decode cX12_groupAt 14 = .ok (.iload 4, 2) := by decide +kernel
theorem dX12_groupAt_16 : decode cX12_groupAt 16 = .ok (.invokestatic 136, 3) := by decide +kernel
theorem dX12_groupAt_19 : decode cX12_groupAt 19 = .ok (.ifCond .eq 21, 3) := by decide +kernel
theorem dX12_groupAt_22 : decode cX12_groupAt 22 = .ok (.aload_n 0, 1) := by decide +kernel
theorem dX12_groupAt_23 : decode cX12_groupAt 23 = .ok (.getfield 63, 3) := by decide +kernel
theorem dX12_groupAt_26 : decode cX12_groupAt 26 = .ok (.iload 4, 2) := by decide +kernel
theorem dX12_groupAt_28 : decode cX12_groupAt 28 = .ok (.iaload, 1) := by decide +kernel
theorem dX12_groupAt_29 : decode cX12_groupAt 29 = .ok (.iload_n 2, 1) := by decide +kernel
theorem dX12_groupAt_30 : decode cX12_groupAt 30 = .ok (.if_icmp .ne 10, 3) := by decide +kernel
theorem dX12_groupAt_33 : decode cX12_groupAt 33 = .ok (.iconst 1, 1) := by decide +kernel
theorem dX12_groupAt_34 : decode cX12_groupAt 34 = .ok (.iload 4, 2) := by decide +kernel
theorem dX12_groupAt_36 : decode cX12_groupAt 36 = .ok (.ishl, 1) := by decide +kernel
theorem dX12_groupAt_37 : decode cX12_groupAt 37 = .ok (.goto 4, 3) := by decide +kernel
theorem dX12_groupAt_40 : decode cX12_groupAt 40 = .ok (.iconst 0, 1) := by decide +kernel
theorem dX12_groupAt_41 : decode cX12_groupAt 41 = .ok (.ior, 1) := by decide +kernel
theorem dX12_groupAt_42 : decode cX12_groupAt 42 = .ok (.istore_n 3, 1) := by decide +kernel
theorem dX12_groupAt_43 : decode cX12_groupAt 43 = .ok (.iinc 4 1, 3) := by decide +kernel
theorem dX12_groupAt_46 : decode cX12_groupAt 46 = .ok (.goto (-41), 3) := by decide +kernel
theorem dX12_groupAt_49 : decode cX12_groupAt 49 = .ok (.iload_n 3, 1) := by decide +kernel
theorem dX12_groupAt_50 : decode cX12_groupAt 50 = .ok (.ireturn, 1) := by decide +kernel
theorem up_a2 {M : aM} {a i v b j : Int} (h : ¬ (b = a ∧ j = i)) : up M a i v b j = M b j := if_neg h
theorem costs_m {t : Int → Int} (hK : TQ t) (s : Int) (h : 0 < s ∧ s < 128) : costV t s = -1 ∨ (0 ≤ costV t s ∧ costV t s ≤ 233442) := costs_t hK s h.1 h.2
theorem s_weigh {l : Launch} {E : aE} {N : Nat} {S : aS} {M : aM} (hfl : l.stackTraces = false) (m : Int) (t : Int → Int) (hS : lyM S m) (hE : RE M m t) (hK : TQ t) (hP : RP0 M m t) (hC : RCs M m t) (s : Int) (hs : 0 ≤ s ∧ s < 128) (ρ : Int → Int) (n : Nat) (B : Int) (hG : RG s ρ n) (gO : ∀ i, 0 ≤ i → i < 7 → hb s i = 1 → M (m + 16) i = ρ i) (gS : ∀ g : Int, 0 ≤ g → g < n → M (m + 18) g = grp s ρ g) (hB : BSt M m (costV t) s B) (hQ : B ≠ -1 → B % 2097152 < rowN s ρ) : aMt l E pX12_weigh [(2, m), (0, (n : Int))] N S M (aU N S (fun M' => PPo M M' m t s 7 ρ n B)) := by
  refine a_met hfl rfl (by decide +kernel) (Nat.le_of_ble_eq_true rfl) ?_
  have hn7 := hG.n7
  have loop68 : (OKR (costV t) s ρ n) → (0 ≤ valR (costV t) s ρ n) → (B ≠ -1 → valR (costV t) s ρ n ≤ B) → ∀ (j : Int) (M2 : aM), (0 ≤ j ∧ j ≤ 7 ∧ M2 m 32 = gsum (costV t) s ρ n ∧ M2 m 33 = (n : Int) ∧ frG M M2 m ∧ RP0 M2 m t ∧ RCs M2 m t ∧ (∀ i, M2 (m + 16) i = M (m + 16) i) ∧ (∀ i, M2 (m + 18) i = M (m + 18) i) ∧ ∀ i, 0 ≤ i → i < j → M2 (m + 17) i = M (m + 16) i) → aX l E pX12_weigh (aU N S (fun M' => PPo M M' m t s 7 ρ n B)) 0 0 N S M2 68 [(0, (2, m)), (1, (0, (n : Int))), (3, (0, j))] [] := by
    intro hok hv0 hlt
    exact a_loop2 (fun j M2 => 0 ≤ j ∧ j ≤ 7 ∧ M2 m 32 = gsum (costV t) s ρ n ∧ M2 m 33 = (n : Int) ∧ frG M M2 m ∧ RP0 M2 m t ∧ RCs M2 m t ∧ (∀ i, M2 (m + 16) i = M (m + 16) i) ∧ (∀ i, M2 (m + 18) i = M (m + 18) i) ∧ ∀ i, 0 ≤ i → i < j → M2 (m + 17) i = M (m + 16) i) (fun j M2 => (7 - j).toNat) (fun j M2 => aX l E pX12_weigh (aU N S (fun M' => PPo M M' m t s 7 ρ n B)) 0 0 N S M2 68 [(0, (2, m)), (1, (0, (n : Int))), (3, (0, j))] []) (by
      intro j M2 hI2 ih2
      obtain ⟨k1, k2, k3, k4, k5, k6, k7, k8, k9, k10⟩ := hI2
      refine x_iload_n (pc := 68) dX12_weigh_68 rfl rfl ?_
      refine x_bipush (pc := 69) dX12_weigh_69 (by decide) ?_
      refine x_icmp_ge (tgt := 92) (pc := 71) dX12_weigh_71 (by decide) (fun c_71 => ?_) (fun c_71 => ?_)
      · refine x_return (pc := 92) dX12_weigh_92 rfl (by decide) ?_
        refine ⟨rfl, rfl, rfl, valR (costV t) s ρ n, Or.inr ⟨hv0, ρ, n, hok, rfl, k3, k4, fun i a b w => (k10 i a (by omega)).trans (gO i a b w)⟩, fun w => ⟨by omega, hlt w⟩, Or.inr ⟨ρ, n, hok, fun i a b c d => rfl, rfl⟩, fun σ q u v => ⟨by omega, ?_⟩, k5, k6, k7, fun i a b => k8 i, fun g a b => k9 g⟩
        rw [(agr_all u v hG).2]
        exact Int.le_refl _
      · refine x_aload_n (pc := 74) dX12_weigh_74 rfl rfl ?_
        refine x_getR (jj := 30) (pc := 75) dX12_weigh_75 fX12_63 hS.1 rfl (by decide) rfl rM_30 ?_
        refine x_iload_n (pc := 78) dX12_weigh_78 rfl rfl ?_
        refine x_aload_n (pc := 79) dX12_weigh_79 rfl rfl ?_
        refine x_getR (jj := 29) (pc := 80) dX12_weigh_80 fX12_60 hS.1 rfl (by decide) rfl rM_29 ?_
        refine x_iload_n (pc := 83) dX12_weigh_83 rfl rfl ?_
        refine x_ialoadV (pc := 84) dX12_weigh_84 (sM_29 hS) (by omega) (by (repeat (first | rewrite [up_s] | rewrite [up_i (by omega)] | rewrite [up_a (by omega)] | rewrite [stM_a (by omega) (by omega)])); rfl) (fun g_84 => ?_)
        refine x_iastore (pc := 85) dX12_weigh_85 (sM_30 hS) (by omega) ?_
        refine x_iinc (pc := 86) dX12_weigh_86 rfl (by omega) (by decide) rfl ?_
        refine x_goto (tgt := 68) (pc := 89) dX12_weigh_89 (by decide) ?_
        refine x_lo (lo' := [(0, (2, m)), (1, (0, (n : Int))), (3, (0, (j + 1)))]) ⟨rfl, rfl, rfl, trivial⟩ (ih2 (j + 1) _ ⟨by omega, by omega, (up_a (by omega)).trans k3, (up_a (by omega)).trans k4, k5.up (by omega), k6.cg fun a i x => up_a (by omega), k7.cg fun i => up_a (by omega), fun i => (up_a (by omega)).trans (k8 i), fun i => (up_a (by omega)).trans (k9 i), fun i x y => ?_⟩ (by omega))
        by_cases e : i = j
        · subst e; rw [up_s, k8]
        · exact (up_i e).trans (k10 i x (by omega)))
  have loop := a_loop3 (fun g x M1 => 0 ≤ g ∧ g ≤ (n : Int) ∧ x = sumN (fun g => costV t (grp s ρ g)) g.toNat ∧ (∀ j, 0 ≤ j → j < g → costV t (grp s ρ j) ≠ -1) ∧ frL M M1 m ∧ RP0 M1 m t ∧ RCs M1 m t) (fun g x M1 => ((n : Int) - g).toNat) (fun g x M1 => aX l E pX12_weigh (aU N S (fun M' => PPo M M' m t s 7 ρ n B)) 0 0 N S M1 4 [(0, (2, m)), (1, (0, (n : Int))), (2, (0, x)), (3, (0, g))] []) (by
    intro g x M1 hI ih
    obtain ⟨i1, i2, i3, i4, i5, i6, i7⟩ := hI
    have hE1 : RE M1 m t := hE.cg i5.k
    have hxr : g < (n : Int) → 0 ≤ x ∧ x ≤ 1634094 := fun hg9 => by
      have z := sumN_le (f := fun g => costV t (grp s ρ g)) (c := 233442) (n := g.toNat) (fun j a b => by
        have := costs_m hK _ (grp_pos hG (g := j) ⟨a, by omega⟩)
        have := i4 j a (by omega)
        omega)
      have := hG.n7
      omega
    refine x_iload_n (pc := 4) dX12_weigh_4 rfl rfl ?_
    refine x_iload_n (pc := 5) dX12_weigh_5 rfl rfl ?_
    refine x_icmp_ge (tgt := 39) (pc := 6) dX12_weigh_6 (by decide) (fun c_6 => ?_) (fun c_6 => ?_)
    · have hok : OKR (costV t) s ρ n := ⟨hG, fun j a b => i4 j a (by omega)⟩
      have hx : x = gsum (costV t) s ρ n := by rw [i3, show g.toNat = n by omega]; rfl
      have hgs := gsum_r (costs_t hK) hok
      have hrr := rowN_r hG
      have hv : valR (costV t) s ρ n = gsum (costV t) s ρ n * 2097152 + rowN s ρ := rfl
      have e32 : M1 m 32 = M m 32 := i5 m 32 (by omega) (by omega) (by omega)
      refine x_aload_n (pc := 39) dX12_weigh_39 rfl rfl ?_
      refine x_getIV (jj := 32) (pc := 40) dX12_weigh_40 fX12_316 hS.1 rfl (by decide) rfl (by (repeat (first | rewrite [up_s] | rewrite [up_i (by omega)] | rewrite [up_a (by omega)] | rewrite [stM_a (by omega) (by omega)])); first | exact (i5 _ _ (by omega) (by omega) (by omega)).trans (gS g (by omega) (by omega)) | exact e32 | rfl) ?_
      refine x_iconst (pc := 43) dX12_weigh_43 (by decide) ?_
      refine x_icmp_eq (tgt := 56) (pc := 44) dX12_weigh_44 (by decide) (fun c_44 => ?_) (fun c_44 => ?_)
      · refine x_aload_n (pc := 56) dX12_weigh_56 rfl rfl ?_
        refine x_iload_n (pc := 57) dX12_weigh_57 rfl rfl ?_
        refine x_putI (jj := 32) (pc := 58) dX12_weigh_58 fX12_316 hS.1 rfl (by decide) rfl ?_
        refine x_aload_n (pc := 61) dX12_weigh_61 rfl rfl ?_
        refine x_iload_n (pc := 62) dX12_weigh_62 rfl rfl ?_
        refine x_putI (jj := 33) (pc := 63) dX12_weigh_63 fX12_319 hS.1 rfl (by decide) rfl ?_
        refine x_iconst (pc := 66) dX12_weigh_66 (by decide) ?_
        refine x_istore_n (pc := 67) dX12_weigh_67 rfl (by decide) rfl ?_
        have hlt : B ≠ -1 → valR (costV t) s ρ n ≤ B := fun w => by
          rcases hB with hB1 | ⟨hB0, σ9, k9, o1, o2, o3, o4, o5⟩
          · exact absurd hB1.1 w
          · have r9 := rowN_r o1.1
            have v9 : valR (costV t) s σ9 k9 = gsum (costV t) s σ9 k9 * 2097152 + rowN s σ9 := rfl
            have g9 := gsum_r (costs_t hK) o1
            omega
        refine x_lo (lo' := [(0, (2, m)), (1, (0, (n : Int))), (3, (0, 0))]) ⟨rfl, rfl, rfl, trivial⟩ (loop68 hok (by omega) hlt (0) _ ⟨by omega, by omega, ?_, ?_, (i5.g.up (by omega)).up (by omega), ?_, ?_, fun i => ?_, fun i => ?_, fun i a b => by omega⟩)
        · rw [up_i (by omega), up_s]; exact hx
        · exact up_s
        · exact (i6.cg fun a i y => up_a2 (by omega)).cg fun a i y => up_a2 (by omega)
        · exact (i7.cg fun i => up_a (by omega)).cg fun i => up_a (by omega)
        · rw [up_a (by omega), up_a (by omega)]; exact i5 _ i (by omega) (by omega) (by omega)
        · rw [up_a (by omega), up_a (by omega)]; exact i5 _ i (by omega) (by omega) (by omega)
      · refine x_iload_n (pc := 47) dX12_weigh_47 rfl rfl ?_
        refine x_aload_n (pc := 48) dX12_weigh_48 rfl rfl ?_
        refine x_getIV (jj := 32) (pc := 49) dX12_weigh_49 fX12_316 hS.1 rfl (by decide) rfl (by (repeat (first | rewrite [up_s] | rewrite [up_i (by omega)] | rewrite [up_a (by omega)] | rewrite [stM_a (by omega) (by omega)])); first | exact (i5 _ _ (by omega) (by omega) (by omega)).trans (gS g (by omega) (by omega)) | exact e32 | rfl) ?_
        refine x_icmp_lt (tgt := 56) (pc := 52) dX12_weigh_52 (by decide) (fun c_52 => ?_) (fun c_52 => ?_)
        · refine x_aload_n (pc := 56) dX12_weigh_56 rfl rfl ?_
          refine x_iload_n (pc := 57) dX12_weigh_57 rfl rfl ?_
          refine x_putI (jj := 32) (pc := 58) dX12_weigh_58 fX12_316 hS.1 rfl (by decide) rfl ?_
          refine x_aload_n (pc := 61) dX12_weigh_61 rfl rfl ?_
          refine x_iload_n (pc := 62) dX12_weigh_62 rfl rfl ?_
          refine x_putI (jj := 33) (pc := 63) dX12_weigh_63 fX12_319 hS.1 rfl (by decide) rfl ?_
          refine x_iconst (pc := 66) dX12_weigh_66 (by decide) ?_
          refine x_istore_n (pc := 67) dX12_weigh_67 rfl (by decide) rfl ?_
          have hlt : B ≠ -1 → valR (costV t) s ρ n ≤ B := fun w => by
            rcases hB with hB1 | ⟨hB0, σ9, k9, o1, o2, o3, o4, o5⟩
            · exact absurd hB1.1 w
            · have r9 := rowN_r o1.1
              have v9 : valR (costV t) s σ9 k9 = gsum (costV t) s σ9 k9 * 2097152 + rowN s σ9 := rfl
              have g9 := gsum_r (costs_t hK) o1
              omega
          refine x_lo (lo' := [(0, (2, m)), (1, (0, (n : Int))), (3, (0, 0))]) ⟨rfl, rfl, rfl, trivial⟩ (loop68 hok (by omega) hlt (0) _ ⟨by omega, by omega, ?_, ?_, (i5.g.up (by omega)).up (by omega), ?_, ?_, fun i => ?_, fun i => ?_, fun i a b => by omega⟩)
          · rw [up_i (by omega), up_s]; exact hx
          · exact up_s
          · exact (i6.cg fun a i y => up_a2 (by omega)).cg fun a i y => up_a2 (by omega)
          · exact (i7.cg fun i => up_a (by omega)).cg fun i => up_a (by omega)
          · rw [up_a (by omega), up_a (by omega)]; exact i5 _ i (by omega) (by omega) (by omega)
          · rw [up_a (by omega), up_a (by omega)]; exact i5 _ i (by omega) (by omega) (by omega)
        · refine x_return (pc := 55) dX12_weigh_55 rfl (by decide) ?_
          have hbb : BSt M m (costV t) s B := hB
          have hBv : 0 ≤ B ∧ B ≤ valR (costV t) s ρ n := by
            rcases hB with hB1 | ⟨hB0, σ9, k9, o1, o2, o3, o4, o5⟩
            · omega
            · have r9 := rowN_r o1.1
              have v9 : valR (costV t) s σ9 k9 = gsum (costV t) s σ9 k9 * 2097152 + rowN s σ9 := rfl
              have := hQ (by omega)
              omega
          refine ⟨rfl, rfl, rfl, B, hB.cg ⟨i5 m 32 (by omega) (by omega) (by omega), i5 m 33 (by omega) (by omega) (by omega), fun i => i5 _ i (by omega) (by omega) (by omega)⟩, fun w => ⟨w, Int.le_refl _⟩, Or.inl rfl, fun σ q u v => ?_, i5.g, i6, i7, fun i a b => i5 _ i (by omega) (by omega) (by omega), fun g a b => i5 _ g (by omega) (by omega) (by omega)⟩
          exact ⟨by omega, by rw [(agr_all u v hG).2]; exact hBv.2⟩
    · refine x_aload_n (pc := 9) dX12_weigh_9 rfl rfl ?_
      refine x_aload_n (pc := 10) dX12_weigh_10 rfl rfl ?_
      refine x_getR (jj := 31) (pc := 11) dX12_weigh_11 fX12_66 hS.1 rfl (by decide) rfl rM_31 ?_
      refine x_iload_n (pc := 14) dX12_weigh_14 rfl rfl ?_
      refine x_ialoadV (pc := 15) dX12_weigh_15 (sM_31 hS) (by omega) (by (repeat (first | rewrite [up_s] | rewrite [up_i (by omega)] | rewrite [up_a (by omega)] | rewrite [stM_a (by omega) (by omega)])); first | exact (i5 _ _ (by omega) (by omega) (by omega)).trans (gS g (by omega) (by omega)) | exact e32 | rfl) (fun g_15 => ?_)
      refine x_callV1 (pc := 16) dX12_weigh_16 rfl kX12_307 (s_MWcostOf hfl m t hS hE1 hK i6 i7 (grp s ρ g) (grp_pos hG ⟨by omega, by omega⟩)) hS.1 rfl rfl (Nat.le_of_ble_eq_true rfl) (k_G (fun v9 M9 hM9 => ?_)) n_G
      obtain ⟨rfl, f9, p9, c9⟩ := hM9
      have hcg := costs_m hK _ (grp_pos hG (g := g) ⟨by omega, by omega⟩)
      refine x_istore (pc := 19) dX12_weigh_19 (by decide) rfl ?_
      refine x_iload (pc := 21) dX12_weigh_21 rfl ?_
      refine x_iconst (pc := 23) dX12_weigh_23 (by decide) ?_
      refine x_icmp_ne (tgt := 28) (pc := 24) dX12_weigh_24 (by decide) (fun c_24 => ?_) (fun c_24 => ?_)
      · refine x_iload_n (pc := 28) dX12_weigh_28 rfl rfl ?_
        refine x_iload (pc := 29) dX12_weigh_29 rfl ?_
        refine x_iadd (pc := 31) dX12_weigh_31 (by have hz := hxr (by omega); omega) ?_
        refine x_istore_n (pc := 32) dX12_weigh_32 rfl (by decide) rfl ?_
        refine x_iinc (pc := 33) dX12_weigh_33 rfl (by omega) (by decide) rfl ?_
        refine x_goto (tgt := 4) (pc := 36) dX12_weigh_36 (by decide) ?_
        refine x_lo (lo' := [(0, (2, m)), (1, (0, (n : Int))), (2, (0, x + costV t (grp s ρ g))), (3, (0, g + 1))]) ⟨rfl, rfl, rfl, rfl, trivial⟩ (ih (g + 1) _ _ ⟨by omega, by omega, ?_, fun j a b => ?_, i5.tr f9, p9, c9⟩ (by omega))
        · rw [sumN_1 _ i1, ← i3]
        · by_cases e : j = g
          · subst e; assumption
          · exact i4 j a (by omega)
      · refine x_return (pc := 27) dX12_weigh_27 rfl (by decide) ?_
        have F9 := i5.tr f9
        refine ⟨rfl, rfl, rfl, B, hB.cg ⟨F9 m 32 (by omega) (by omega) (by omega), F9 m 33 (by omega) (by omega) (by omega), fun i => F9 _ i (by omega) (by omega) (by omega)⟩, fun w => ⟨w, Int.le_refl _⟩, Or.inl rfl, fun σ q u v => ?_, F9.g, p9, c9, fun i a b => F9 _ i (by omega) (by omega) (by omega), fun g a b => F9 _ g (by omega) (by omega) (by omega)⟩
        exact absurd (by assumption) ((agr_all u v hG).1.2 g (by omega) (by omega)))
  refine x_iconst (pc := 0) dX12_weigh_0 (by decide) ?_
  refine x_istore_n (pc := 1) dX12_weigh_1 rfl (by decide) rfl ?_
  refine x_iconst (pc := 2) dX12_weigh_2 (by decide) ?_
  refine x_istore_n (pc := 3) dX12_weigh_3 rfl (by decide) rfl ?_
  refine x_lo (lo' := [(0, (2, m)), (1, (0, (n : Int))), (2, (0, 0)), (3, (0, 0))]) ⟨rfl, rfl, rfl, rfl, trivial⟩ (loop (0) (0) _ ⟨by omega, by omega, rfl, fun j a b => by omega, frL.rf, hP, hC⟩)
/-- parted, d deep -/
abbrev pPa (d : Nat) : aP := (yX12_parted, cX12_parted, 6, none, { frames := d + 16, cells := 0, slots := 0, locals := 25 * d + 304 }, [])
theorem pPa_rm {d : Nat} {P' : aP} (h1 : Nat.ble (P'.2.2.2.2.1.frames + 1) 16 = true) (h2 : Nat.ble (8 + (P'.2.2.1 + 11) + P'.2.2.2.2.1.locals) 304 = true) (h3 : P'.2.2.2.2.1.cells = 0) (h4 : P'.2.2.2.2.1.slots = 0) : a_rm (pPa d) P' 0 0 = true := by
  have e1 := Nat.le_of_ble_eq_true h1
  have e2 := Nat.le_of_ble_eq_true h2
  unfold a_rm
  rw [h3, h4]
  simp only [Nat.zero_add, Bool.and_eq_true]
  exact ⟨Nat.ble_eq_true_of_le (by show _ ≤ d + 16; omega), Nat.ble_eq_true_of_le (by show _ ≤ 25 * d + 304; omega), rfl, rfl⟩
theorem kPa (d : Nat) : a_kV RX12 322 (pPa d) 3 := by
  have h1 : Cond.code yX12_parted cX12_parted 6 none ∈ lw_ok := kX12_322.1.1
  have h2 : Cond.initialized yX12_parted.cls ∈ lw_ok := kX12_322.1.2.1
  have h3 : yX12_parted.cls ≠ "java/lang/invoke/MethodHandle" ∧ yX12_parted.cls ≠ "java/lang/invoke/VarHandle" ∧ (parseMethodDescriptor yX12_parted.desc).map (fun d => d.parameters.length) = some 3 := kX12_322.1.2.2
  have h4 : Cond.methodLink RX12 322 yX12_parted ∈ lw_ok := kX12_322.2.1
  have h5 : Cond.instanceMethod yX12_parted ∈ lw_ok := kX12_322.2.2.1
  have h6 : Cond.selects yX12_parted.cls yX12_parted yX12_parted ∈ lw_ok := kX12_322.2.2.2
  exact ⟨⟨h1, h2, h3⟩, h4, h5, h6⟩
theorem RG.nk {s k : Int} {ρ : Int → Int} {n : Nat} (h : RG (lowS s k) ρ n) (hk : 0 ≤ k) : (n : Int) ≤ k := by
  by_cases e : (n : Int) ≤ k
  · exact e
  · obtain ⟨j, j0, j1, j2, j3⟩ := h.2 k hk (by omega)
    have w := (lowS_hb ⟨j0, j1⟩).mp j2
    have := h.le 7 j j0 (by omega) j1 j2
    omega
theorem pPa_rs {d : Nat} : a_rm (pPa (d + 1)) (pPa d) 0 0 = true := by
  unfold a_rm
  simp only [Nat.zero_add, Bool.and_eq_true]
  exact ⟨Nat.ble_eq_true_of_le (by show d + 16 + 1 ≤ d + 1 + 16; omega), Nat.ble_eq_true_of_le (by show 8 + (6 + 11) + (25 * d + 304) ≤ 25 * (d + 1) + 304; omega), rfl, rfl⟩
theorem s_parted {l : Launch} {E : aE} (hfl : l.stackTraces = false) (m : Int) (t : Int → Int) (hK : TQ t) (s : Int) (hs : 0 ≤ s ∧ s < 128) : ∀ (d : Nat) {N : Nat} {S : aS} {M : aM} (hS : lyM S m) (hE : RE M m t) (hP : RP0 M m t) (hC : RCs M m t) (h : Int) (n : Nat) (ρ : Int → Int) (B : Int) (hh : 0 ≤ h ∧ h ≤ 7) (hd : 7 - h ≤ d) (hG : RG (lowS s h) ρ n) (gO : ∀ i, 0 ≤ i → i < h → i < 7 → hb s i = 1 → M (m + 16) i = ρ i) (gS : ∀ g : Int, 0 ≤ g → g < n → M (m + 18) g = grp (lowS s h) ρ g) (hB : BSt M m (costV t) s B) (hQ : B ≠ -1 → B % 2097152 < rowN (lowS s h) ρ), aMt l E (pPa d) [(2, m), (0, s), (0, h), (0, (n : Int))] N S M (aU N S (fun M' => PPo M M' m t s h ρ n B)) := by
  intro d
  induction d with
  | zero =>
    intro N S M hS hE hP hC h n ρ B hh hd hG gO gS hB hQ
    refine a_met hfl rfl (show plainName RX12 = true by decide +kernel) (Nat.le_of_ble_eq_true rfl) ?_
    have J25 : ∀ k : Int, 0 ≤ k → k ≤ 7 → h ≤ k → (∀ i, h ≤ i → i < k → ¬ hb s i = 1) → (k = 7 ∨ hb s k = 1) → aX l E (pPa 0) (aU N S (fun M' => PPo M M' m t s h ρ n B)) 0 0 N S M 25 [(0, (2, m)), (1, (0, s)), (2, (0, h)), (3, (0, (n : Int))), (4, (0, k))] [] := by
      intro k hk0 hk8 hk1 hkn hkk
      have hl9 : lowS s k = lowS s h := hb_ext lowS_lt lowS_lt fun j a b => by
        rw [lowS_hb ⟨a, b⟩, lowS_hb ⟨a, b⟩]
        constructor
        · rintro ⟨u, v⟩
          refine ⟨u, ?_⟩
          by_cases e : j < h
          · exact e
          · exact absurd u (hkn j (by omega) v)
        · rintro ⟨u, v⟩; exact ⟨u, by omega⟩
      have hG9 : RG (lowS s k) ρ n := by rw [hl9]; exact hG
      have gO9 : ∀ i, 0 ≤ i → i < k → i < 7 → hb s i = 1 → M (m + 16) i = ρ i := fun i a b c w => by
        by_cases e : i < h
        · exact gO i a e c w
        · exact absurd w (hkn i (by omega) b)
      have gS9 : ∀ g : Int, 0 ≤ g → g < n → M (m + 18) g = grp (lowS s k) ρ g := by rw [hl9]; exact gS
      have hQ9 : B ≠ -1 → B % 2097152 < rowN (lowS s k) ρ := by rw [hl9]; exact hQ
      have hn7 := hG9.n7
      have hnk := hG9.nk hk0
      refine x_iload (pc := 25) dX12_parted_25 rfl ?_
      refine x_bipush (pc := 27) dX12_parted_27 (by decide) ?_
      refine x_icmp_ne (tgt := 38) (pc := 29) dX12_parted_29 (by decide) (fun c_29 => ?_) (fun c_29 => ?_)
      · exfalso; omega
      · refine x_aload_n (pc := 32) dX12_parted_32 rfl rfl ?_
        refine x_iload_n (pc := 33) dX12_parted_33 rfl rfl ?_
        have e7 : k = 7 := by omega
        have hG7 : RG s ρ n := by rw [e7, lowS_7 hs] at hG9; exact hG9
        have gO7 : ∀ i, 0 ≤ i → i < 7 → hb s i = 1 → M (m + 16) i = ρ i := fun i a b w => gO9 i a (by omega) b w
        have gS7 : ∀ g : Int, 0 ≤ g → g < n → M (m + 18) g = grp s ρ g := fun g a b => by rw [e7, lowS_7 hs] at gS9; exact gS9 g a b
        have hQ7 : B ≠ -1 → B % 2097152 < rowN s ρ := fun w => by rw [e7, lowS_7 hs] at hQ9; exact hQ9 w
        refine x_callV1 (pc := 34) dX12_parted_34 rfl kX12_325 (s_weigh hfl m t hS hE hK hP hC s hs ρ n B hG7 gO7 gS7 hB hQ7) hS.1 rfl (pPa_rm rfl rfl rfl rfl) (Nat.le_of_ble_eq_true rfl) (k_U (fun M9 hM9 => ?_)) n_U
        refine x_return (pc := 37) dX12_parted_37 rfl ⟨Nat.le_of_ble_eq_true rfl, Nat.le_of_ble_eq_true rfl⟩ ?_
        exact ⟨rfl, rfl, rfl, PPo.back (e7 ▸ hM9) hk1 hkn⟩
    have loop3 := a_loop1 (fun k => 0 ≤ k ∧ k ≤ 7 ∧ h ≤ k ∧ ∀ i, h ≤ i → i < k → ¬ hb s i = 1) (fun k => (7 - k).toNat) (fun k => aX l E (pPa 0) (aU N S (fun M' => PPo M M' m t s h ρ n B)) 0 0 N S M 3 [(0, (2, m)), (1, (0, s)), (2, (0, h)), (3, (0, (n : Int))), (4, (0, k))] []) (by
      intro k hI ih0
      obtain ⟨k1, k2, k3, k4⟩ := hI
      refine x_iload (pc := 3) dX12_parted_3 rfl ?_
      refine x_bipush (pc := 5) dX12_parted_5 (by decide) ?_
      refine x_icmp_ge (tgt := 25) (pc := 7) dX12_parted_7 (by decide) (fun c_7 => ?_) (fun c_7 => ?_)
      · exact J25 k k1 k2 k3 k4 (Or.inl (by omega))
      · refine x_iload_n (pc := 10) dX12_parted_10 rfl rfl ?_
        refine x_iload (pc := 11) dX12_parted_11 rfl ?_
        refine x_callS2 (pc := 13) dX12_parted_13 rfl kX12_136 (s_hasM hfl _ _) (pPa_rm rfl rfl rfl rfl) (Nat.le_of_ble_eq_true rfl) (k_B (fun q_13 => ?_) (fun q_13 => ?_)) n_B
        · refine x_if_ne (tgt := 25) (pc := 16) dX12_parted_16 (by decide) (fun _ => ?_) (fun c => absurd c (by decide))
          exact J25 k k1 k2 k3 k4 (Or.inr (by assumption))
        · refine x_if_ne (tgt := 25) (pc := 16) dX12_parted_16 (by decide) (fun c => absurd c (by decide)) (fun _ => ?_)
          refine x_iinc (pc := 19) dX12_parted_19 rfl (by omega) (Nat.le_of_ble_eq_true rfl) rfl ?_
          refine x_goto (tgt := 3) (pc := 22) dX12_parted_22 (by decide) ?_
          refine x_lo (lo' := [(0, (2, m)), (1, (0, s)), (2, (0, h)), (3, (0, (n : Int))), (4, (0, (k + 1)))]) ⟨rfl, rfl, rfl, rfl, rfl, trivial⟩ (ih0 (k + 1) ⟨by omega, by omega, by omega, fun i a b => ?_⟩ (by omega))
          by_cases e : i = k
          · subst e; assumption
          · exact k4 i a (by omega))
    refine x_iload_n (pc := 0) dX12_parted_0 rfl rfl ?_
    refine x_istore (pc := 1) dX12_parted_1 (Nat.le_of_ble_eq_true rfl) rfl ?_
    refine x_lo (lo' := [(0, (2, m)), (1, (0, s)), (2, (0, h)), (3, (0, (n : Int))), (4, (0, h))]) ⟨rfl, rfl, rfl, rfl, rfl, trivial⟩ (loop3 (h) ⟨by omega, by omega, by omega, fun i a b => by omega⟩)
  | succ d ih =>
    intro N S M hS hE hP hC h n ρ B hh hd hG gO gS hB hQ
    refine a_met hfl rfl (show plainName RX12 = true by decide +kernel) (Nat.le_of_ble_eq_true rfl) ?_
    have J25 : ∀ k : Int, 0 ≤ k → k ≤ 7 → h ≤ k → (∀ i, h ≤ i → i < k → ¬ hb s i = 1) → (k = 7 ∨ hb s k = 1) → aX l E (pPa (d + 1)) (aU N S (fun M' => PPo M M' m t s h ρ n B)) 0 0 N S M 25 [(0, (2, m)), (1, (0, s)), (2, (0, h)), (3, (0, (n : Int))), (4, (0, k))] [] := by
      intro k hk0 hk8 hk1 hkn hkk
      have hl9 : lowS s k = lowS s h := hb_ext lowS_lt lowS_lt fun j a b => by
        rw [lowS_hb ⟨a, b⟩, lowS_hb ⟨a, b⟩]
        constructor
        · rintro ⟨u, v⟩
          refine ⟨u, ?_⟩
          by_cases e : j < h
          · exact e
          · exact absurd u (hkn j (by omega) v)
        · rintro ⟨u, v⟩; exact ⟨u, by omega⟩
      have hG9 : RG (lowS s k) ρ n := by rw [hl9]; exact hG
      have gO9 : ∀ i, 0 ≤ i → i < k → i < 7 → hb s i = 1 → M (m + 16) i = ρ i := fun i a b c w => by
        by_cases e : i < h
        · exact gO i a e c w
        · exact absurd w (hkn i (by omega) b)
      have gS9 : ∀ g : Int, 0 ≤ g → g < n → M (m + 18) g = grp (lowS s k) ρ g := by rw [hl9]; exact gS
      have hQ9 : B ≠ -1 → B % 2097152 < rowN (lowS s k) ρ := by rw [hl9]; exact hQ
      have hn7 := hG9.n7
      have hnk := hG9.nk hk0
      refine x_iload (pc := 25) dX12_parted_25 rfl ?_
      refine x_bipush (pc := 27) dX12_parted_27 (by decide) ?_
      refine x_icmp_ne (tgt := 38) (pc := 29) dX12_parted_29 (by decide) (fun c_29 => ?_) (fun c_29 => ?_)
      · have hk7 : k < 7 := by omega
        have hbk : hb s k = 1 := hkk.resolve_left (by omega)
        have loop41 := a_loop3 (fun g B1 M1 => 0 ≤ g ∧ g ≤ (n : Int) + 1 ∧ frG M M1 m ∧ RP0 M1 m t ∧ RCs M1 m t ∧ BSt M1 m (costV t) s B1 ∧ (B1 ≠ -1 → B1 % 2097152 < rowN (lowS s k) ρ + g * wt k) ∧ (B ≠ -1 → B1 ≠ -1 ∧ B1 ≤ B) ∧ (B1 = B ∨ ∃ σ q, OKR (costV t) s σ q ∧ agr s k σ ρ ∧ valR (costV t) s σ q = B1) ∧ (∀ σ q, OKR (costV t) s σ q → agr s k σ ρ → σ k < g → B1 ≠ -1 ∧ B1 ≤ valR (costV t) s σ q) ∧ (∀ i, 0 ≤ i → i < k → M1 (m + 16) i = M (m + 16) i) ∧ ∀ j : Int, 0 ≤ j → j < n → M1 (m + 18) j = M (m + 18) j) (fun g B1 M1 => ((n : Int) + 1 - g).toNat) (fun g B1 M1 => aX l E (pPa (d + 1)) (aU N S (fun M' => PPo M M' m t s h ρ n B)) 0 0 N S M1 41 [(0, (2, m)), (1, (0, s)), (2, (0, h)), (3, (0, (n : Int))), (4, (0, k)), (5, (0, g))] []) (by
          intro g B1 M1 hI ih1
          obtain ⟨i1, i2, i3, i4, i5, i6, i7, i8, i9, i10, i11, i12⟩ := hI
          have hE1 : RE M1 m t := hE.cg i3.k
          refine x_iload (pc := 41) dX12_parted_41 rfl ?_
          refine x_iload_n (pc := 43) dX12_parted_43 rfl rfl ?_
          refine x_icmp_gt (tgt := 129) (pc := 44) dX12_parted_44 (by decide) (fun c_44 => ?_) (fun c_44 => ?_)
          · refine x_return (pc := 129) dX12_parted_129 rfl ⟨Nat.le_of_ble_eq_true rfl, Nat.le_of_ble_eq_true rfl⟩ ?_
            exact ⟨rfl, rfl, rfl, PPo.back (k := k) ⟨B1, i6, i8, i9, fun σ q u v => i10 σ q u v (by have := dig_next (by omega) hbk u.1 hG9 v; omega), i3, i4, i5, i11, i12⟩ hk1 hkn⟩
          · have J79 : aX l E (pPa (d + 1)) (aU N S (fun M' => PPo M M' m t s h ρ n B)) 0 0 N S (up M1 (m + 16) k g) 79 [(0, (2, m)), (1, (0, s)), (2, (0, h)), (3, (0, (n : Int))), (4, (0, k)), (5, (0, g))] [(0, grp (lowS s k) ρ g), (0, g), (2, m + 18)] := by
              refine x_iconst (pc := 79) dX12_parted_79 (by decide) ?_
              refine x_iload (pc := 80) dX12_parted_80 rfl ?_
              refine x_ishl (pc := 82) dX12_parted_82 ?_
              refine x_ior (pc := 83) dX12_parted_83 ?_
              refine x_iastore (pc := 84) dX12_parted_84 (sM_31 hS) (by omega) ?_
              have hEb : RE (up (up M1 (m + 16) k g) (m + 18) g (b_or (grp (lowS s k) ρ g) (b_shl 1 k))) m t := hE1.cg fun a i x y z => by rw [up_a (by omega), up_a (by omega)]
              have hPb : RP0 (up (up M1 (m + 16) k g) (m + 18) g (b_or (grp (lowS s k) ρ g) (b_shl 1 k))) m t := i4.cg fun a i x => by rw [up_a (by omega), up_a (by omega)]
              have hCb : RCs (up (up M1 (m + 16) k g) (m + 18) g (b_or (grp (lowS s k) ρ g) (b_shl 1 k))) m t := i5.cg fun i => by rw [up_a (by omega), up_a (by omega)]
              have hNN : ((if g = (n : Int) then n + 1 else n : Nat) : Int) = if g = (n : Int) then (n : Int) + 1 else n := by split <;> omega
              have gOb : ∀ i, 0 ≤ i → i < k + 1 → i < 7 → hb s i = 1 → (up (up M1 (m + 16) k g) (m + 18) g (b_or (grp (lowS s k) ρ g) (b_shl 1 k))) (m + 16) i = upR ρ k g i := fun i a b c w => by
                rw [up_a (by omega)]
                unfold upR
                by_cases e : i = k
                · rw [e, up_s, if_pos rfl]
                · rw [up_i e, if_neg e, i11 i a (by omega)]
                  exact gO9 i a (by omega) c w
              have gSb : ∀ j, 0 ≤ j → j < ((if g = (n : Int) then n + 1 else n : Nat) : Int) → (up (up M1 (m + 16) k g) (m + 18) g (b_or (grp (lowS s k) ρ g) (b_shl 1 k))) (m + 18) j = grp (lowS s (k + 1)) (upR ρ k g) j := fun j a b => by
                by_cases e : j = g
                · subst e; rw [up_s, grp_more (by omega) hbk]
                · rw [up_i e, up_a (by omega), grp_same (by omega) e]
                  have hj : j < n := by rw [hNN] at b; split at b <;> omega
                  rw [i12 j a hj]
                  exact gS9 j a hj
              have hBb : BSt (up (up M1 (m + 16) k g) (m + 18) g (b_or (grp (lowS s k) ρ g) (b_shl 1 k))) m (costV t) s B1 := i6.cg ⟨by rw [up_a (by omega), up_a (by omega)], by rw [up_a (by omega), up_a (by omega)], fun i => by rw [up_a (by omega), up_a (by omega)]⟩
              have hrow := row_up (ρ := ρ) (g := g) (show 0 ≤ k ∧ k < 7 by omega) hbk
              have hQb : B1 ≠ -1 → B1 % 2097152 < rowN (lowS s (k + 1)) (upR ρ k g) := fun w => by rw [hrow]; exact i7 w
              have J104 : ∀ n9 : Int, n9 = ((if g = (n : Int) then n + 1 else n : Nat) : Int) → aX l E (pPa (d + 1)) (aU N S (fun M' => PPo M M' m t s h ρ n B)) 0 0 N S (up (up M1 (m + 16) k g) (m + 18) g (b_or (grp (lowS s k) ρ g) (b_shl 1 k))) 104 [(0, (2, m)), (1, (0, s)), (2, (0, h)), (3, (0, (n : Int))), (4, (0, k)), (5, (0, g))] [(0, n9), (0, k + 1), (0, s), (2, m)] := by
                intro n9 hn9
                rw [hn9]
                refine x_callV3 (pc := 104) dX12_parted_104 rfl (kPa d) (ih (M := (up (up M1 (m + 16) k g) (m + 18) g (b_or (grp (lowS s k) ρ g) (b_shl 1 k)))) hS hEb hPb hCb (k + 1) (if g = (n : Int) then n + 1 else n) (upR ρ k g) B1 (by omega) (by omega) (RG.more (by omega) hbk ⟨by omega, by omega⟩ hG9) gOb gSb hBb hQb) hS.1 rfl pPa_rs (Nat.le_of_ble_eq_true rfl) (k_U (fun M9 hM9 => ?_)) n_U
                obtain ⟨B2, r1, r2, r3, r4, r5, r6, r7, r8, r9⟩ := hM9
                have hgl : g < ((if g = (n : Int) then n + 1 else n : Nat) : Int) := by rw [hNN]; split <;> omega
                have h18 : M9 (m + 18) g = b_or (grp (lowS s k) ρ g) (b_shl 1 k) := (r9 g i1 hgl).trans up_s
                refine x_aload_n (pc := 107) dX12_parted_107 rfl rfl ?_
                refine x_getR (jj := 31) (pc := 108) dX12_parted_108 fX12_66 hS.1 rfl (by decide) rfl rM_31 ?_
                refine x_iload (pc := 111) dX12_parted_111 rfl ?_
                refine x_dup2 (pc := 113) dX12_parted_113 rfl rfl ?_
                refine x_ialoadV (pc := 114) dX12_parted_114 (sM_31 hS) (by omega) (by (repeat (first | rewrite [up_s] | rewrite [up_i (by omega)] | rewrite [up_a (by omega)] | rewrite [stM_a (by omega) (by omega)])); first | exact h18 | rfl) (fun g_114 => ?_)
                refine x_iconst (pc := 115) dX12_parted_115 (by decide) ?_
                refine x_iload (pc := 116) dX12_parted_116 rfl ?_
                refine x_ishl (pc := 118) dX12_parted_118 ?_
                refine x_iconst (pc := 119) dX12_parted_119 (by decide) ?_
                refine x_ixor (pc := 120) dX12_parted_120 ?_
                refine x_iand (pc := 121) dX12_parted_121 ?_
                rewrite [grp_less (show 0 ≤ k ∧ k < 7 by omega)]
                refine x_iastore (pc := 122) dX12_parted_122 (sM_31 hS) (by omega) ?_
                refine x_iinc (pc := 123) dX12_parted_123 rfl (by omega) (Nat.le_of_ble_eq_true rfl) rfl ?_
                refine x_goto (tgt := 41) (pc := 126) dX12_parted_126 (by decide) ?_
                refine x_lo (lo' := [(0, (2, m)), (1, (0, s)), (2, (0, h)), (3, (0, (n : Int))), (4, (0, k)), (5, (0, (g + 1)))]) ⟨rfl, rfl, rfl, rfl, rfl, rfl, trivial⟩ (ih1 (g + 1) (B2) _ ⟨by omega, by omega, ?_, ?_, ?_, ?_, fun w => ?_, fun w => ?_, ?_, fun σ q u v w => ?_, fun i a b => ?_, fun j a b => ?_⟩ (by omega))
                · exact (i3.tr ((frG.rf.up (by omega)).up (by omega) |>.tr r5)).up (by omega)
                · exact r6.cg fun a i x => up_a (by omega)
                · exact r7.cg fun i => up_a (by omega)
                · exact r1.cg ⟨up_a (by omega), up_a (by omega), fun i => up_a (by omega)⟩
                · have hwt := wt_v (h := k) (by omega)
                  have hw0 : 0 ≤ wt k := by omega
                  rw [Int.add_mul, Int.one_mul]
                  rcases r3 with r3 | ⟨σ, q, u, v, x⟩
                  · rw [r3] at w ⊢
                    have := i7 w
                    omega
                  · have z := row_bd (h := k + 1) (by omega) u.1 v
                    have e2 : hiW (k + 1) = wt k := by unfold hiW; rw [if_neg (by omega), show k + 1 - 1 = k by omega]
                    rw [hrow, e2] at z
                    have rr := rowN_r u.1
                    have ev : valR (costV t) s σ q = gsum (costV t) s σ q * 2097152 + rowN s σ := rfl
                    rw [← x]
                    omega
                · have a1 := i8 w
                  have a2 := r2 a1.1
                  exact ⟨a2.1, by omega⟩
                · rcases r3 with r3 | ⟨σ, q, u, v, x⟩
                  · rw [r3]; exact i9
                  · exact Or.inr ⟨σ, q, u, (agr_dn (by omega) hbk v).1, x⟩
                · by_cases e : σ k = g
                  · exact r4 σ q u (agr_up v e)
                  · have a1 := i10 σ q u v (by omega)
                    have a2 := r2 a1.1
                    exact ⟨a2.1, by omega⟩
                · rw [up_a (by omega), r8 i a (by omega), up_a (by omega), up_i (by omega)]
                  exact i11 i a b
                · by_cases e : j = g
                  · subst e
                    rw [up_s]
                    exact (gS9 j a b).symm
                  · rw [up_i e, r9 j a (by rw [hNN]; split <;> omega), up_i e, up_a (by omega)]
                    exact i12 j a b
              refine x_aload_n (pc := 85) dX12_parted_85 rfl rfl ?_
              refine x_iload_n (pc := 86) dX12_parted_86 rfl rfl ?_
              refine x_iload (pc := 87) dX12_parted_87 rfl ?_
              refine x_iconst (pc := 89) dX12_parted_89 (by decide) ?_
              refine x_iadd (pc := 90) dX12_parted_90 (by omega) ?_
              refine x_iload (pc := 91) dX12_parted_91 rfl ?_
              refine x_iload_n (pc := 93) dX12_parted_93 rfl rfl ?_
              refine x_icmp_ne (tgt := 103) (pc := 94) dX12_parted_94 (by decide) (fun c_94 => ?_) (fun c_94 => ?_)
              · refine x_iload_n (pc := 103) dX12_parted_103 rfl rfl ?_
                exact J104 _ (by rw [hNN, if_neg (by omega)])
              · refine x_iload_n (pc := 97) dX12_parted_97 rfl rfl ?_
                refine x_iconst (pc := 98) dX12_parted_98 (by decide) ?_
                refine x_iadd (pc := 99) dX12_parted_99 (by omega) ?_
                refine x_goto (tgt := 104) (pc := 100) dX12_parted_100 (by decide) ?_
                exact J104 _ (by rw [hNN, if_pos (by omega)])
            refine x_aload_n (pc := 47) dX12_parted_47 rfl rfl ?_
            refine x_getR (jj := 29) (pc := 48) dX12_parted_48 fX12_60 hS.1 rfl (by decide) rfl rM_29 ?_
            refine x_iload (pc := 51) dX12_parted_51 rfl ?_
            refine x_iload (pc := 53) dX12_parted_53 rfl ?_
            refine x_iastore (pc := 55) dX12_parted_55 (sM_29 hS) (by omega) ?_
            refine x_aload_n (pc := 56) dX12_parted_56 rfl rfl ?_
            refine x_getR (jj := 31) (pc := 57) dX12_parted_57 fX12_66 hS.1 rfl (by decide) rfl rM_31 ?_
            refine x_iload (pc := 60) dX12_parted_60 rfl ?_
            refine x_iload (pc := 62) dX12_parted_62 rfl ?_
            refine x_iload_n (pc := 64) dX12_parted_64 rfl rfl ?_
            refine x_icmp_ne (tgt := 72) (pc := 65) dX12_parted_65 (by decide) (fun c_65 => ?_) (fun c_65 => ?_)
            · refine x_aload_n (pc := 72) dX12_parted_72 rfl rfl ?_
              refine x_getR (jj := 31) (pc := 73) dX12_parted_73 fX12_66 hS.1 rfl (by decide) rfl rM_31 ?_
              refine x_iload (pc := 76) dX12_parted_76 rfl ?_
              refine x_ialoadV (pc := 78) dX12_parted_78 (sM_31 hS) (by omega) (by (repeat (first | rewrite [up_s] | rewrite [up_i (by omega)] | rewrite [up_a (by omega)] | rewrite [stM_a (by omega) (by omega)])); first | exact (i12 g i1 (by omega)).trans (gS9 g i1 (by omega)) | rfl) (fun g_78 => ?_)
              exact J79
            · refine x_iconst (pc := 68) dX12_parted_68 (by decide) ?_
              refine x_goto (tgt := 79) (pc := 69) dX12_parted_69 (by decide) ?_
              have e79 := grp_new hG9
              rw [show ((n : Nat) : Int) = g by omega] at e79
              rw [e79] at J79
              exact J79)
        refine x_iconst (pc := 38) dX12_parted_38 (by decide) ?_
        refine x_istore (pc := 39) dX12_parted_39 (Nat.le_of_ble_eq_true rfl) rfl ?_
        refine x_lo (lo' := [(0, (2, m)), (1, (0, s)), (2, (0, h)), (3, (0, (n : Int))), (4, (0, k)), (5, (0, 0))]) ⟨rfl, rfl, rfl, rfl, rfl, rfl, trivial⟩ (loop41 (0) (B) (M) ⟨by omega, by omega, frG.rf, hP, hC, hB, fun w => ?_, fun w => ⟨w, Int.le_refl _⟩, Or.inl rfl, fun σ q u v w => ?_, fun i a b => rfl, fun j a b => rfl⟩)
        · have := hQ9 w
          omega
        · have := dig_next (by omega) hbk u.1 hG9 v
          omega
      · refine x_aload_n (pc := 32) dX12_parted_32 rfl rfl ?_
        refine x_iload_n (pc := 33) dX12_parted_33 rfl rfl ?_
        have e7 : k = 7 := by omega
        have hG7 : RG s ρ n := by rw [e7, lowS_7 hs] at hG9; exact hG9
        have gO7 : ∀ i, 0 ≤ i → i < 7 → hb s i = 1 → M (m + 16) i = ρ i := fun i a b w => gO9 i a (by omega) b w
        have gS7 : ∀ g : Int, 0 ≤ g → g < n → M (m + 18) g = grp s ρ g := fun g a b => by rw [e7, lowS_7 hs] at gS9; exact gS9 g a b
        have hQ7 : B ≠ -1 → B % 2097152 < rowN s ρ := fun w => by rw [e7, lowS_7 hs] at hQ9; exact hQ9 w
        refine x_callV1 (pc := 34) dX12_parted_34 rfl kX12_325 (s_weigh hfl m t hS hE hK hP hC s hs ρ n B hG7 gO7 gS7 hB hQ7) hS.1 rfl (pPa_rm rfl rfl rfl rfl) (Nat.le_of_ble_eq_true rfl) (k_U (fun M9 hM9 => ?_)) n_U
        refine x_return (pc := 37) dX12_parted_37 rfl ⟨Nat.le_of_ble_eq_true rfl, Nat.le_of_ble_eq_true rfl⟩ ?_
        exact ⟨rfl, rfl, rfl, PPo.back (e7 ▸ hM9) hk1 hkn⟩
    have loop3 := a_loop1 (fun k => 0 ≤ k ∧ k ≤ 7 ∧ h ≤ k ∧ ∀ i, h ≤ i → i < k → ¬ hb s i = 1) (fun k => (7 - k).toNat) (fun k => aX l E (pPa (d + 1)) (aU N S (fun M' => PPo M M' m t s h ρ n B)) 0 0 N S M 3 [(0, (2, m)), (1, (0, s)), (2, (0, h)), (3, (0, (n : Int))), (4, (0, k))] []) (by
      intro k hI ih0
      obtain ⟨k1, k2, k3, k4⟩ := hI
      refine x_iload (pc := 3) dX12_parted_3 rfl ?_
      refine x_bipush (pc := 5) dX12_parted_5 (by decide) ?_
      refine x_icmp_ge (tgt := 25) (pc := 7) dX12_parted_7 (by decide) (fun c_7 => ?_) (fun c_7 => ?_)
      · exact J25 k k1 k2 k3 k4 (Or.inl (by omega))
      · refine x_iload_n (pc := 10) dX12_parted_10 rfl rfl ?_
        refine x_iload (pc := 11) dX12_parted_11 rfl ?_
        refine x_callS2 (pc := 13) dX12_parted_13 rfl kX12_136 (s_hasM hfl _ _) (pPa_rm rfl rfl rfl rfl) (Nat.le_of_ble_eq_true rfl) (k_B (fun q_13 => ?_) (fun q_13 => ?_)) n_B
        · refine x_if_ne (tgt := 25) (pc := 16) dX12_parted_16 (by decide) (fun _ => ?_) (fun c => absurd c (by decide))
          exact J25 k k1 k2 k3 k4 (Or.inr (by assumption))
        · refine x_if_ne (tgt := 25) (pc := 16) dX12_parted_16 (by decide) (fun c => absurd c (by decide)) (fun _ => ?_)
          refine x_iinc (pc := 19) dX12_parted_19 rfl (by omega) (Nat.le_of_ble_eq_true rfl) rfl ?_
          refine x_goto (tgt := 3) (pc := 22) dX12_parted_22 (by decide) ?_
          refine x_lo (lo' := [(0, (2, m)), (1, (0, s)), (2, (0, h)), (3, (0, (n : Int))), (4, (0, (k + 1)))]) ⟨rfl, rfl, rfl, rfl, rfl, trivial⟩ (ih0 (k + 1) ⟨by omega, by omega, by omega, fun i a b => ?_⟩ (by omega))
          by_cases e : i = k
          · subst e; assumption
          · exact k4 i a (by omega))
    refine x_iload_n (pc := 0) dX12_parted_0 rfl rfl ?_
    refine x_istore (pc := 1) dX12_parted_1 (Nat.le_of_ble_eq_true rfl) rfl ?_
    refine x_lo (lo' := [(0, (2, m)), (1, (0, s)), (2, (0, h)), (3, (0, (n : Int))), (4, (0, h))]) ⟨rfl, rfl, rfl, rfl, rfl, trivial⟩ (loop3 (h) ⟨by omega, by omega, by omega, fun i a b => by omega⟩)

