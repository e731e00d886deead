/-! the reference's plans (2), costs -/
theorem core_same (t : Int → Int) : sameT (core t) t := ⟨fun j a b => core_lo b, fun j a => core_hi a⟩
theorem leftV_cg {t u : Int → Int} {set k kept : Int} (h : sameP t u set) (hk : 1 ≤ k ∧ k ≤ t 244) : leftV t set k kept = leftV u set k kept := by
  have h6 := h.2.2
  unfold leftV
  rw [planV_cg h _ (by omega), planV_cg h _ (by omega), roomV_cg h, h.1 244 (by omega)]
  have := h.1 244 (by omega)
  refine firstB_cg _ fun i a b => ?_
  rw [candV_cg h (by omega)]
theorem keptV_cg {t u : Int → Int} {set : Int} (h : sameP t u set) : ∀ n : Nat, (n : Int) ≤ t 244 → keptV t set n = keptV u set n
  | 0, _ => rfl
  | n + 1, hn => by
    unfold keptV
    rw [keptV_cg h n (by omega), leftV_cg h (by omega), h.1 244 (by omega)]
theorem rowV_cg {t u : Int → Int} {set j : Int} (h : sameP t u set) (hj : 0 ≤ j ∧ j < t 244) : rowV t set j = rowV u set j := by
  have h6 := h.2.2
  unfold rowV
  rw [wantV_cg h (by omega), keptV_cg h _ (by omega), keptV_cg h _ (by omega)]
theorem bestC_r {t : Int → Int} {set m kept k : Int} {nxt : Int → Int} {n : Nat} (hK : TQ t) (hs : 0 ≤ set ∧ set < 128) (hm : 0 ≤ m ∧ m < 6) (hk : 0 ≤ k ∧ k < 6) (hkept : 0 ≤ kept ∧ kept ≤ roomV t set) (hn : (n : Int) ≤ roomV t set + 1) (h : ∀ l, 0 ≤ l → l ≤ roomV t set → okP k l (roomV t set) (nxt l)) : bestL (candV t set m kept nxt) n = -1 ∨ 0 ≤ bestL (candV t set m kept nxt) n ∧ bestL (candV t set m kept nxt) n < 536870912 := by
  have hr := roomV_r hK hs
  rcases bestL_or (c := candV t set m kept nxt) n with g | ⟨i, i0, i1, i2, i3⟩
  · exact Or.inl g.1
  · rw [← i2]
    have z := candV_r (left := i) hK hs hm hk hkept (by omega) (h i i0 (by omega))
    unfold okP at z
    omega
theorem candV_or {t : Int → Int} {set m kept left : Int} {nxt : Int → Int} (hK : TQ t) (hm : 0 ≤ m ∧ m < 6) : candV t set m kept nxt left = -1 ∨ candV t set m kept nxt left = (buysV t (wantV t set m + left - kept) m + t 243 * left) * 512 + (wantV t set m + left - kept) + nxt left ∧ 0 ≤ wantV t set m + left - kept ∧ nxt left ≠ -1 ∧ 0 ≤ buysV t (wantV t set m + left - kept) m := by
  unfold candV
  by_cases e : wantV t set m + left - kept < 0 ∨ buysV t (wantV t set m + left - kept) m = -1 ∨ nxt left = -1
  · rw [if_pos e]; exact Or.inl rfl
  · rw [if_neg e]
    have hbr := buysV_r (q := wantV t set m + left - kept) (m := m) hK (by omega) hm
    exact Or.inr ⟨rfl, by omega, by omega, by omega⟩
/-- the rows of plans from month a on -/
def RWs (M : aM) (m : Int) (t : Int → Int) (set a : Int) : Prop := ∀ j i, a ≤ j → j ≤ t 244 → 0 ≤ i → i ≤ roomV t set → M (m + 11) (57 * j + i) = pcV (planV t set (t 244 - j).toNat i) ∧ M (m + 12) (57 * j + i) = psV (planV t set (t 244 - j).toNat i)
def WCs (M : aM) (m : Int) (t : Int → Int) (set : Int) : Prop := M m 28 = roomV t set ∧ ∀ j, 0 ≤ j → j < 6 → M (m + 14) j = wantV t set j
theorem RWs.cg {M M' : aM} {m : Int} {t : Int → Int} {set a : Int} (h : RWs M m t set a) (f : ∀ i, M' (m + 11) i = M (m + 11) i ∧ M' (m + 12) i = M (m + 12) i) : RWs M' m t set a := fun j i x y z w => ⟨(f _).1.trans (h j i x y z w).1, (f _).2.trans (h j i x y z w).2⟩
theorem WCs.cg {M M' : aM} {m : Int} {t : Int → Int} {set : Int} (h : WCs M m t set) (f : M' m 28 = M m 28 ∧ ∀ i, M' (m + 14) i = M (m + 14) i) : WCs M' m t set := ⟨f.1.trans h.1, fun j x y => (f.2 j).trans (h.2 j x y)⟩
/-- the plan's rows, and the costs -/
def frL (M M' : aM) (m : Int) : Prop := ∀ a i : Int, (a = m → i ≠ 19 ∧ i ≠ 28) → ¬ (m + 6 ≤ a ∧ a < m + 9) → ¬ (m + 11 ≤ a ∧ a < m + 16) → M' a i = M a i
theorem frL.rf {M : aM} {m : Int} : frL M M m := fun _ _ _ _ _ => rfl
theorem frL.tr {M M' M'' : aM} {m : Int} (h : frL M M' m) (h' : frL M' M'' m) : frL M M'' m := fun a i x y z => (h' a i x y z).trans (h a i x y z)
theorem frL.k {M M' : aM} {m : Int} (h : frL M M' m) : frK M M' m := fun a i x y z => h a i (fun q => by have := x q; omega) y (by omega)
theorem frN.l {M M' : aM} {m : Int} (h : frN M M' m) : frL M M' m := fun a i x y z => h a i x y (by omega)
theorem dX12_plan_0 : decode cX12_plan 0 = .ok (.aload_n 0, 1) := by decide +kernel
theorem dX12_plan_1 : decode cX12_plan 1 = .ok (.iload_n 1, 1) := by decide +kernel
theorem dX12_plan_2 : decode cX12_plan 2 = .ok (.invokevirtual 285, 3) := by decide +kernel
theorem dX12_plan_5 : decode cX12_plan 5 = .ok (.aload_n 0, 1) := by decide +kernel
theorem dX12_plan_6 : decode cX12_plan 6 = .ok (.getfield 9, 3) := by decide +kernel
theorem dX12_plan_9 : decode cX12_plan 9 = .ok (.sipush 244, 3) := by decide +kernel
theorem dX12_plan_12 : decode cX12_plan 12 = .ok (.iaload, 1) := by decide +kernel
theorem dX12_plan_13 : decode cX12_plan 13 = .ok (.istore_n 2, 1) := by decide +kernel
theorem dX12_plan_14 : decode cX12_plan 14 = .ok (.iconst 0, 1) := by decide +kernel
theorem dX12_plan_15 : decode cX12_plan 15 = .ok (.istore_n 3, 1) := by decide +kernel
theorem dX12_plan_16 : decode cX12_plan 16 = .ok (.iload_n 3, 1) := by decide +kernel
theorem dX12_plan_17 : decode cX12_plan 17 = .ok (.aload_n 0, 1) := by decide +kernel
theorem dX12_plan_18 : decode cX12_plan 18 = .ok (.getfield 282, 3) := by decide +kernel
theorem dX12_plan_21 : decode cX12_plan 21 = .ok (.if_icmp .gt 33, 3) := by decide +kernel
theorem dX12_plan_24 : decode cX12_plan 24 = .ok (.aload_n 0, 1) := by decide +kernel
theorem dX12_plan_25 : decode cX12_plan 25 = .ok (.getfield 45, 3) := by decide +kernel
theorem dX12_plan_28 : decode cX12_plan 28 = .ok (.bipush 57, 2) := by decide +kernel
theorem dX12_plan_30 : decode cX12_plan 30 = .ok (.iload_n 2, 1) := by decide +kernel
theorem dX12_plan_31 : decode cX12_plan 31 = .ok (.imul, 1) := by decide +kernel
theorem dX12_plan_32 : decode cX12_plan 32 = .ok (.iload_n 3, 1) := by decide +kernel
theorem dX12_plan_33 : decode cX12_plan 33 = .ok (.iadd, 1) := by decide +kernel
theorem dX12_plan_34 : decode cX12_plan 34 = .ok (.iconst 0, 1) := by decide +kernel
theorem dX12_plan_35 : decode cX12_plan 35 = .ok (.iastore, 1) := by decide +kernel
theorem dX12_plan_36 : decode cX12_plan 36 = .ok (.aload_n 0, 1) := by decide +kernel
theorem dX12_plan_37 : decode cX12_plan 37 = .ok (.getfield 48, 3) := by decide +kernel
theorem dX12_plan_40 : decode cX12_plan 40 = .ok (.bipush 57, 2) := by decide +kernel
theorem dX12_plan_42 : decode cX12_plan 42 = .ok (.iload_n 2, 1) := by decide +kernel
theorem dX12_plan_43 : decode cX12_plan 43 = .ok (.imul, 1) := by decide +kernel
theorem dX12_plan_44 : decode cX12_plan 44 = .ok (.iload_n 3, 1) := by decide +kernel
theorem dX12_plan_45 : decode cX12_plan 45 = .ok (.iadd, 1) := by decide +kernel
theorem dX12_plan_46 : decode cX12_plan 46 = .ok (.iconst 0, 1) := by decide +kernel
theorem dX12_plan_47 : decode cX12_plan 47 = .ok (.iastore, 1) := by decide +kernel
theorem dX12_plan_48 : decode cX12_plan 48 = .ok (.iinc 3 1, 3) := by decide +kernel
theorem dX12_plan_51 : decode cX12_plan 51 = .ok (.goto (-35), 3) := by decide +kernel
theorem dX12_plan_54 : decode cX12_plan 54 = .ok (.iload_n 2, 1) := by decide +kernel
theorem dX12_plan_55 : decode cX12_plan 55 = .ok (.iconst 1, 1) := by decide +kernel
theorem dX12_plan_56 : decode cX12_plan 56 = .ok (.isub, 1) := by decide +kernel
theorem dX12_plan_57 : decode cX12_plan 57 = .ok (.istore_n 3, 1) := by decide +kernel
theorem dX12_plan_58 : decode cX12_plan 58 = .ok (.iload_n 3, 1) := by decide +kernel
theorem dX12_plan_59 : decode cX12_plan 59 = .ok (.ifCond .lt 82, 3) := by decide +kernel
theorem dX12_plan_62 : decode cX12_plan 62 = .ok (.iconst 0, 1) := by decide +kernel
theorem dX12_plan_63 : decode cX12_plan 63 = .ok (.istore 4, 2) := by decide +kernel
theorem dX12_plan_65 : decode cX12_plan 65 = .ok (.iload 4, 2) := by decide +kernel
theorem dX12_plan_67 : decode cX12_plan 67 = .ok (.aload_n 0, 1) := by decide +kernel
theorem dX12_plan_68 : decode cX12_plan 68 = .ok (.getfield 282, 3) := by decide +kernel
theorem dX12_plan_71 : decode cX12_plan 71 = .ok (.if_icmp .gt 64, 3) := by decide +kernel
theorem dX12_plan_74 : decode cX12_plan 74 = .ok (.aload_n 0, 1) := by decide +kernel
theorem dX12_plan_75 : decode cX12_plan 75 = .ok (.getfield 45, 3) := by decide +kernel
theorem dX12_plan_78 : decode cX12_plan 78 = .ok (.bipush 57, 2) := by decide +kernel
theorem dX12_plan_80 : decode cX12_plan 80 = .ok (.iload_n 3, 1) := by decide +kernel
theorem dX12_plan_81 : decode cX12_plan 81 = .ok (.imul, 1) := by decide +kernel
theorem dX12_plan_82 : decode cX12_plan 82 = .ok (.iload 4, 2) := by decide +kernel
theorem dX12_plan_84 : decode cX12_plan 84 = .ok (.iadd, 1) := by decide +kernel
theorem dX12_plan_85 : decode cX12_plan 85 = .ok (.ldc_w 265, 3) := by decide +kernel
theorem dX12_plan_88 : decode cX12_plan 88 = .ok (.iastore, 1) := by decide +kernel
theorem dX12_plan_89 : decode cX12_plan 89 = .ok (.aload_n 0, 1) := by decide +kernel
theorem dX12_plan_90 : decode cX12_plan 90 = .ok (.getfield 48, 3) := by decide +kernel
theorem dX12_plan_93 : decode cX12_plan 93 = .ok (.bipush 57, 2) := by decide +kernel
theorem dX12_plan_95 : decode cX12_plan 95 = .ok (.iload_n 3, 1) := by decide +kernel
theorem dX12_plan_96 : decode cX12_plan 96 = .ok (.imul, 1) := by decide +kernel
theorem dX12_plan_97 : decode cX12_plan 97 = .ok (.iload 4, 2) := by decide +kernel
theorem dX12_plan_99 : decode cX12_plan 99 = .ok (.iadd, 1) := by decide +kernel
theorem dX12_plan_100 : decode cX12_plan 100 = .ok (.iconst 0, 1) := by decide +kernel
theorem dX12_plan_101 : decode cX12_plan 101 = .ok (.iastore, 1) := by decide +kernel
theorem dX12_plan_102 : decode cX12_plan 102 = .ok (.iconst 0, 1) := by decide +kernel
theorem dX12_plan_103 : decode cX12_plan 103 = .ok (.istore 5, 2) := by decide +kernel
theorem dX12_plan_105 : decode cX12_plan 105 = .ok (.iload 5, 2) := by decide +kernel
theorem dX12_plan_107 : decode cX12_plan 107 = .ok (.aload_n 0, 1) := by decide +kernel
theorem dX12_plan_108 : decode cX12_plan 108 = .ok (.getfield 282, 3) := by decide +kernel
theorem dX12_plan_111 : decode cX12_plan 111 = .ok (.if_icmp .gt 18, 3) := by decide +kernel
theorem dX12_plan_114 : decode cX12_plan 114 = .ok (.aload_n 0, 1) := by decide +kernel
theorem dX12_plan_115 : decode cX12_plan 115 = .ok (.iload_n 3, 1) := by decide +kernel
theorem dX12_plan_116 : decode cX12_plan 116 = .ok (.iload 4, 2) := by decide +kernel
theorem dX12_plan_118 : decode cX12_plan 118 = .ok (.iload 5, 2) := by decide +kernel
theorem dX12_plan_120 : decode cX12_plan 120 = .ok (.invokevirtual 288, 3) := by decide +kernel
theorem dX12_plan_123 : decode cX12_plan 123 = .ok (.iinc 5 1, 3) := by decide +kernel
theorem dX12_plan_126 : decode cX12_plan 126 = .ok (.goto (-21), 3) := by decide +kernel
theorem dX12_plan_129 : decode cX12_plan 129 = .ok (.iinc 4 1, 3) := by decide +kernel
theorem dX12_plan_132 : decode cX12_plan 132 = .ok (.goto (-67), 3) := by decide +kernel
theorem dX12_plan_135 : decode cX12_plan 135 = .ok (.iinc 3 (-1), 3) := by decide +kernel
theorem dX12_plan_138 : decode cX12_plan 138 = .ok (.goto (-80), 3) := by decide +kernel
theorem dX12_plan_141 : decode cX12_plan 141 = .ok (.aload_n 0, 1) := by decide +kernel
theorem dX12_plan_142 : decode cX12_plan 142 = .ok (.getfield 45, 3) := by decide +kernel
theorem dX12_plan_145 : decode cX12_plan 145 = .ok (.iconst 0, 1) := by decide +kernel
theorem dX12_plan_146 : decode cX12_plan 146 = .ok (.iaload, 1) := by decide +kernel
theorem dX12_plan_147 : decode cX12_plan 147 = .ok (.ireturn, 1) := by decide +kernel
theorem dX12_layPlan_0 : decode cX12_layPlan 0 = .ok (.aload_n 0, 1) := by decide +kernel
theorem dX12_layPlan_1 : decode cX12_layPlan 1 = .ok (.iload_n 1, 1) := by decide +kernel
theorem dX12_layPlan_2 : decode cX12_layPlan 2 = .ok (.invokevirtual 298, 3) := by decide +kernel
theorem dX12_layPlan_5 : decode cX12_layPlan 5 = .ok (.istore_n 2, 1) := by decide +kernel
theorem dX12_layPlan_6 : decode cX12_layPlan 6 = .ok (.iconst 0, 1) := by decide +kernel
theorem dX12_layPlan_7 : decode cX12_layPlan 7 = .ok (.istore_n 3, 1) := by decide +kernel
theorem dX12_layPlan_8 : decode cX12_layPlan 8 = .ok (.iconst 0, 1) := by decide +kernel
theorem dX12_layPlan_9 : decode cX12_layPlan 9 = .ok (.istore 4, 2) := by decide +kernel
theorem dX12_layPlan_11 : decode cX12_layPlan 11 = .ok (.iload 4, 2) := by decide +kernel
theorem dX12_layPlan_13 : decode cX12_layPlan 13 = .ok (.aload_n 0, 1) := by decide +kernel
theorem dX12_layPlan_14 : decode cX12_layPlan 14 = .ok (.getfield 9, 3) := by decide +kernel
theorem dX12_layPlan_17 : decode cX12_layPlan 17 = .ok (.sipush 244, 3) := by decide +kernel
theorem dX12_layPlan_20 : decode cX12_layPlan 20 = .ok (.iaload, 1) := by decide +kernel
theorem dX12_layPlan_21 : decode cX12_layPlan 21 = .ok (.if_icmp .ge 88, 3) := by decide +kernel
theorem dX12_layPlan_24 : decode cX12_layPlan 24 = .ok (.iconst 0, 1) := by decide +kernel
theorem dX12_layPlan_25 : decode cX12_layPlan 25 = .ok (.istore 5, 2) := by decide +kernel
theorem dX12_layPlan_27 : decode cX12_layPlan 27 = .ok (.aload_n 0, 1) := by decide +kernel
theorem dX12_layPlan_28 : decode cX12_layPlan 28 = .ok (.iload 4, 2) := by decide +kernel
theorem dX12_layPlan_30 : decode cX12_layPlan 30 = .ok (.iload_n 3, 1) := by decide +kernel
theorem dX12_layPlan_31 : decode cX12_layPlan 31 = .ok (.iload 5, 2) := by decide +kernel
theorem dX12_layPlan_33 : decode cX12_layPlan 33 = .ok (.invokevirtual 291, 3) := by decide +kernel
theorem dX12_layPlan_36 : decode cX12_layPlan 36 = .ok (.aload_n 0, 1) := by decide +kernel
theorem dX12_layPlan_37 : decode cX12_layPlan 37 = .ok (.getfield 45, 3) := by decide +kernel
theorem dX12_layPlan_40 : decode cX12_layPlan 40 = .ok (.bipush 57, 2) := by decide +kernel
theorem dX12_layPlan_42 : decode cX12_layPlan 42 = .ok (.iload 4, 2) := by decide +kernel
theorem dX12_layPlan_44 : decode cX12_layPlan 44 = .ok (.imul, 1) := by decide +kernel
theorem dX12_layPlan_45 : decode cX12_layPlan 45 = .ok (.iload_n 3, 1) := by decide +kernel
theorem dX12_layPlan_46 : decode cX12_layPlan 46 = .ok (.iadd, 1) := by decide +kernel
theorem dX12_layPlan_47 : decode cX12_layPlan 47 = .ok (.iaload, 1) := by decide +kernel
theorem dX12_layPlan_48 : decode cX12_layPlan 48 = .ok (.if_icmp .ne 27, 3) := by decide +kernel
theorem dX12_layPlan_51 : decode cX12_layPlan 51 = .ok (.aload_n 0, 1) := by decide +kernel
theorem dX12_layPlan_52 : decode cX12_layPlan 52 = .ok (.iload 4, 2) := by decide +kernel
theorem dX12_layPlan_54 : decode cX12_layPlan 54 = .ok (.iload_n 3, 1) := by decide +kernel
theorem dX12_layPlan_55 : decode cX12_layPlan 55 = .ok (.iload 5, 2) := by decide +kernel
theorem dX12_layPlan_57 : decode cX12_layPlan 57 = .ok (.invokevirtual 295, 3) := by decide +kernel
theorem dX12_layPlan_60 : decode cX12_layPlan 60 = .ok (.aload_n 0, 1) := by decide +kernel
theorem dX12_layPlan_61 : decode cX12_layPlan 61 = .ok (.getfield 48, 3) := by decide +kernel
theorem dX12_layPlan_64 : decode cX12_layPlan 64 = .ok (.bipush 57, 2) := by decide +kernel
theorem dX12_layPlan_66 : decode cX12_layPlan 66 = .ok (.iload 4, 2) := by decide +kernel
theorem dX12_layPlan_68 : decode cX12_layPlan 68 = .ok (.imul, 1) := by decide +kernel
theorem dX12_layPlan_69 : decode cX12_layPlan 69 = .ok (.iload_n 3, 1) := by decide +kernel
theorem dX12_layPlan_70 : decode cX12_layPlan 70 = .ok (.iadd, 1) := by decide +kernel
theorem dX12_layPlan_71 : decode cX12_layPlan 71 = .ok (.iaload, 1) := by decide +kernel
theorem dX12_layPlan_72 : decode cX12_layPlan 72 = .ok (.if_icmp .eq 9, 3) := by decide +kernel
theorem dX12_layPlan_75 : decode cX12_layPlan 75 = .ok (.iinc 5 1, 3) := by decide +kernel
theorem dX12_layPlan_78 : decode cX12_layPlan 78 = .ok (.goto (-51), 3) := by decide +kernel
theorem dX12_layPlan_81 : decode cX12_layPlan 81 = .ok (.aload_n 0, 1) := by decide +kernel
theorem dX12_layPlan_82 : decode cX12_layPlan 82 = .ok (.getfield 51, 3) := by decide +kernel
theorem dX12_layPlan_85 : decode cX12_layPlan 85 = .ok (.iload 4, 2) := by decide +kernel
theorem dX12_layPlan_87 : decode cX12_layPlan 87 = .ok (.aload_n 0, 1) := by decide +kernel
theorem dX12_layPlan_88 : decode cX12_layPlan 88 = .ok (.getfield 54, 3) := by decide +kernel
theorem dX12_layPlan_91 : decode cX12_layPlan 91 = .ok (.iload 4, 2) := by decide +kernel
theorem dX12_layPlan_93 : decode cX12_layPlan 93 = .ok (.iaload, 1) := by decide +kernel
theorem dX12_layPlan_94 : decode cX12_layPlan 94 = .ok (.iload 5, 2) := by decide +kernel
theorem dX12_layPlan_96 : decode cX12_layPlan 96 = .ok (.iadd, 1) := by decide +kernel
theorem dX12_layPlan_97 : decode cX12_layPlan 97 = .ok (.iload_n 3, 1) := by decide +kernel
theorem dX12_layPlan_98 : decode cX12_layPlan 98 = .ok (.isub, 1) := by decide +kernel
theorem dX12_layPlan_99 : decode cX12_layPlan 99 = .ok (.iastore, 1) := by decide +kernel
theorem dX12_layPlan_100 : decode cX12_layPlan 100 = .ok (.iload 5, 2) := by decide +kernel
theorem dX12_layPlan_102 : decode cX12_layPlan 102 = .ok (.istore_n 3, 1) := by decide +kernel
theorem dX12_layPlan_103 : decode cX12_layPlan 103 = .ok (.iinc 4 1, 3) := by decide +kernel
theorem dX12_layPlan_106 : decode cX12_layPlan 106 = .ok (.goto (-95), 3) := by decide +kernel
theorem dX12_layPlan_109 : decode cX12_layPlan 109 = .ok (.return_, 1) := by decide +kernel
theorem dX12_isBarred_0 : decode cX12_isBarred 0 = .ok (.iconst 0, 1) := by decide +kernel
theorem dX12_isBarred_1 : decode cX12_isBarred 1 = .ok (.istore_n 2, 1) := by decide +kernel
theorem dX12_isBarred_2 : decode cX12_isBarred 2 = .ok (.iload_n 2, 1) := by decide +kernel
theorem dX12_isBarred_3 : decode cX12_isBarred 3 = .ok (.bipush 7, 2) := by decide +kernel
theorem dX12_isBarred_5 : decode cX12_isBarred 5 = .ok (.if_icmp .ge 58, 3) := by decide +kernel
theorem dX12_isBarred_8 : decode cX12_isBarred 8 = .ok (.iconst 0, 1) := by decide +kernel
theorem dX12_isBarred_9 : decode cX12_isBarred 9 = .ok (.istore_n 3, 1) := by decide +kernel
theorem dX12_isBarred_10 : decode cX12_isBarred 10 = .ok (.iload_n 3, 1) := by decide +kernel
theorem dX12_isBarred_11 : decode cX12_isBarred 11 = .ok (.iload_n 2, 1) := by decide +kernel
theorem dX12_isBarred_12 : decode cX12_isBarred 12 = .ok (.if_icmp .ge 45, 3) := by decide +kernel
theorem dX12_isBarred_15 : decode cX12_isBarred 15 = .ok (.iload_n 1, 1) := by decide +kernel
theorem dX12_isBarred_16 : decode cX12_isBarred 16 = .ok (.iload_n 2, 1) := by decide +kernel
theorem dX12_isBarred_17 : decode cX12_isBarred 17 = .ok (.invokestatic 136, 3) := by decide +kernel
theorem dX12_isBarred_20 : decode cX12_isBarred 20 = .ok (.ifCond .eq 31, 3) := by decide +kernel
theorem dX12_isBarred_23 : decode cX12_isBarred 23 = .ok (.iload_n 1, 1) := by decide +kernel
theorem dX12_isBarred_24 : decode cX12_isBarred 24 = .ok (.iload_n 3, 1) := by decide +kernel
theorem dX12_isBarred_25 : decode cX12_isBarred 25 = .ok (.invokestatic 136, 3) := by decide +kernel
theorem dX12_isBarred_28 : decode cX12_isBarred 28 = .ok (.ifCond .eq 23, 3) := by decide +kernel
theorem dX12_isBarred_31 : decode cX12_isBarred 31 = .ok (.aload_n 0, 1) := by decide +kernel
theorem dX12_isBarred_32 : decode cX12_isBarred 32 = .ok (.getfield 9, 3) := by decide +kernel
theorem dX12_isBarred_35 : decode cX12_isBarred 35 = .ok (.bipush 50, 2) := by decide +kernel
theorem dX12_isBarred_37 : decode cX12_isBarred 37 = .ok (.bipush 7, 2) := by decide +kernel
theorem dX12_isBarred_39 : decode cX12_isBarred 39 = .ok (.iload_n 2, 1) := by decide +kernel
theorem dX12_isBarred_40 : decode cX12_isBarred 40 = .ok (.imul, 1) := by decide +kernel
theorem dX12_isBarred_41 : decode cX12_isBarred 41 = .ok (.iadd, 1) := by decide +kernel
theorem dX12_isBarred_42 : decode cX12_isBarred 42 = .ok (.iload_n 3, 1) := by decide +kernel
theorem dX12_isBarred_43 : decode cX12_isBarred 43 = .ok (.iadd, 1) := by decide +kernel
theorem dX12_isBarred_44 : decode cX12_isBarred 44 = .ok (.iaload, 1) := by decide +kernel
theorem dX12_isBarred_45 : decode cX12_isBarred 45 = .ok (.iconst 1, 1) := by decide +kernel
theorem dX12_isBarred_46 : decode cX12_isBarred 46 = .ok (.if_icmp .ne 5, 3) := by decide +kernel
theorem dX12_isBarred_49 : decode cX12_isBarred 49 = .ok (.iconst 1, 1) := by decide +kernel
theorem dX12_isBarred_50 : decode cX12_isBarred 50 = .ok (.ireturn, 1) := by decide +kernel
theorem dX12_isBarred_51 : decode cX12_isBarred 51 = .ok (.iinc 3 1, 3) := by decide +kernel
theorem dX12_isBarred_54 : decode cX12_isBarred 54 = .ok (.goto (-44), 3) := by decide +kernel
theorem dX12_isBarred_57 : decode cX12_isBarred 57 = .ok (.iinc 2 1, 3) := by decide +kernel
theorem dX12_isBarred_60 : decode cX12_isBarred 60 = .ok (.goto (-58), 3) := by decide +kernel
theorem dX12_isBarred_63 : decode cX12_isBarred 63 = .ok (.iconst 0, 1) := by decide +kernel
theorem dX12_isBarred_64 : decode cX12_isBarred 64 = .ok (.ireturn, 1) := by decide +kernel
theorem dX12_costOf_0 : decode cX12_costOf 0 = .ok (.aload_n 0, 1) := by decide +kernel
theorem dX12_costOf_1 : decode cX12_costOf 1 = .ok (.getfield 57, 3) := by decide +kernel
theorem dX12_costOf_4 : decode cX12_costOf 4 = .ok (.iload_n 1, 1) := by decide +kernel
theorem dX12_costOf_5 : decode cX12_costOf 5 = .ok (.iaload, 1) := by decide +kernel
theorem dX12_costOf_6 : decode cX12_costOf 6 = .ok (.bipush (-2), 2) := by decide +kernel
theorem dX12_costOf_8 : decode cX12_costOf 8 = .ok (.if_icmp .eq 10, 3) := by decide +kernel
theorem dX12_costOf_11 : decode cX12_costOf 11 = .ok (.aload_n 0, 1) := by decide +kernel
theorem dX12_costOf_12 : decode cX12_costOf 12 = .ok (.getfield 57, 3) := by decide +kernel
theorem dX12_costOf_15 : decode cX12_costOf 15 = .ok (.iload_n 1, 1) := by decide +kernel
theorem dX12_costOf_16 : decode cX12_costOf 16 = .ok (.iaload, 1) := by decide +kernel
theorem dX12_costOf_17 : decode cX12_costOf 17 = .ok (.ireturn, 1) := by decide +kernel
theorem dX12_costOf_18 : decode cX12_costOf 18 = .ok (.aload_n 0, 1) := by decide +kernel
theorem dX12_costOf_19 : decode cX12_costOf 19 = .ok (.getfield 57, 3) := by decide +kernel
theorem dX12_costOf_22 : decode cX12_costOf 22 = .ok (.iload_n 1, 1) := by decide +kernel
theorem dX12_costOf_23 : decode cX12_costOf 23 = .ok (.iconst (-1), 1) := by decide +kernel
theorem dX12_costOf_24 : decode cX12_costOf 24 = .ok (.iastore, 1) := by decide +kernel
theorem dX12_costOf_25 : decode cX12_costOf 25 = .ok (.aload_n 0, 1) := by decide +kernel
theorem dX12_costOf_26 : decode cX12_costOf 26 = .ok (.iload_n 1, 1) := by decide +kernel
theorem dX12_costOf_27 : decode cX12_costOf 27 = .ok (.invokevirtual 301, 3) := by decide +kernel
theorem dX12_costOf_30 : decode cX12_costOf 30 = .ok (.ifCond .ne 12, 3) := by decide +kernel
theorem dX12_costOf_33 : decode cX12_costOf 33 = .ok (.aload_n 0, 1) := by decide +kernel
theorem dX12_costOf_34 : decode cX12_costOf 34 = .ok (.iload_n 1, 1) := by decide +kernel
theorem dX12_costOf_35 : decode cX12_costOf 35 = .ok (.invokevirtual 146, 3) := by decide +kernel
theorem dX12_costOf_38 : decode cX12_costOf 38 = .ok (.iconst (-1), 1) := by decide +kernel
theorem dX12_costOf_39 : decode cX12_costOf 39 = .ok (.if_icmp .ne 5, 3) := by decide +kernel
theorem dX12_costOf_42 : decode cX12_costOf 42 = .ok (.iconst (-1), 1) := by decide +kernel
theorem dX12_costOf_43 : decode cX12_costOf 43 = .ok (.ireturn, 1) := by decide +kernel
theorem dX12_costOf_44 : decode cX12_costOf 44 = .ok (.aload_n 0, 1) := by decide +kernel
theorem dX12_costOf_45 : decode cX12_costOf 45 = .ok (.iload_n 1, 1) := by decide +kernel
theorem dX12_costOf_46 : decode cX12_costOf 46 = .ok (.invokevirtual 298, 3) := by decide +kernel
theorem dX12_costOf_49 : decode cX12_costOf 49 = .ok (.istore_n 2, 1) := by decide +kernel
theorem dX12_costOf_50 : decode cX12_costOf 50 = .ok (.iload_n 2, 1) := by decide +kernel
theorem dX12_costOf_51 : decode cX12_costOf 51 = .ok (.ldc_w 265, 3) := by decide +kernel
theorem dX12_costOf_54 : decode cX12_costOf 54 = .ok (.if_icmp .eq 26, 3) := by decide +kernel
theorem dX12_costOf_57 : decode cX12_costOf 57 = .ok (.aload_n 0, 1) := by decide +kernel
theorem dX12_costOf_58 : decode cX12_costOf 58 = .ok (.getfield 57, 3) := by decide +kernel
theorem dX12_costOf_61 : decode cX12_costOf 61 = .ok (.iload_n 1, 1) := by decide +kernel
theorem dX12_costOf_62 : decode cX12_costOf 62 = .ok (.iload_n 2, 1) := by decide +kernel
theorem dX12_costOf_63 : decode cX12_costOf 63 = .ok (.aload_n 0, 1) := by decide +kernel
theorem dX12_costOf_64 : decode cX12_costOf 64 = .ok (.getfield 9, 3) := by decide +kernel
theorem dX12_costOf_67 : decode cX12_costOf 67 = .ok (.sipush 242, 3) := by decide +kernel
theorem dX12_costOf_70 : decode cX12_costOf 70 = .ok (.iaload, 1) := by decide +kernel
theorem dX12_costOf_71 : decode cX12_costOf 71 = .ok (.iload_n 1, 1) := by decide +kernel
theorem dX12_costOf_72 : decode cX12_costOf 72 = .ok (.invokestatic 304, 3) := by decide +kernel
theorem dX12_costOf_75 : decode cX12_costOf 75 = .ok (.iconst 1, 1) := by decide +kernel
theorem dX12_costOf_76 : decode cX12_costOf 76 = .ok (.isub, 1) := by decide +kernel
theorem dX12_costOf_77 : decode cX12_costOf 77 = .ok (.imul, 1) := by decide +kernel
theorem dX12_costOf_78 : decode cX12_costOf 78 = .ok (.iadd, 1) := by decide +kernel
theorem dX12_costOf_79 : decode cX12_costOf 79 = .ok (.iastore, 1) := by decide +kernel
theorem dX12_costOf_80 : decode cX12_costOf 80 = .ok (.aload_n 0, 1) := by decide +kernel
theorem dX12_costOf_81 : decode cX12_costOf 81 = .ok (.getfield 57, 3) := by decide +kernel
theorem dX12_costOf_84 : decode cX12_costOf 84 = .ok (.iload_n 1, 1) := by decide +kernel
theorem dX12_costOf_85 : decode cX12_costOf 85 = .ok (.iaload, 1) := by decide +kernel
theorem dX12_costOf_86 : decode cX12_costOf 86 = .ok (.ireturn, 1) := by decide +kernel
theorem dX12_cost_0 : decode cX12_cost 0 = .ok (.aload_n 0, 1) := by decide +kernel
theorem dX12_cost_1 : decode cX12_cost 1 = .ok (.iconst 0, 1) := by decide +kernel
theorem dX12_cost_2 : decode cX12_cost 2 = .ok (.putfield 103, 3) := by decide +kernel
theorem dX12_cost_5 : decode cX12_cost 5 = .ok (.aload_n 0, 1) := by decide +kernel
theorem dX12_cost_6 : decode cX12_cost 6 = .ok (.iload_n 1, 1) := by decide +kernel
theorem dX12_cost_7 : decode cX12_cost 7 = .ok (.invokevirtual 143, 3) := by decide +kernel
theorem dX12_cost_10 : decode cX12_cost 10 = .ok (.ifCond .eq 11, 3) := by decide +kernel
theorem dX12_cost_13 : decode cX12_cost 13 = .ok (.aload_n 0, 1) := by decide +kernel
theorem dX12_cost_14 : decode cX12_cost 14 = .ok (.iload_n 1, 1) := by decide +kernel
theorem dX12_cost_15 : decode cX12_cost 15 = .ok (.invokevirtual 307, 3) := by decide +kernel
theorem dX12_cost_18 : decode cX12_cost 18 = .ok (.goto 8, 3) := by decide +kernel
theorem dX12_cost_21 : decode cX12_cost 21 = .ok (.aload_n 0, 1) := by decide +kernel
theorem dX12_cost_22 : decode cX12_cost 22 = .ok (.iconst 1, 1) := by decide +kernel
theorem dX12_cost_23 : decode cX12_cost 23 = .ok (.invokevirtual 116, 3) := by decide +kernel
theorem dX12_cost_26 : decode cX12_cost 26 = .ok (.ireturn, 1) := by decide +kernel
theorem dX12_sacksOf_0 : decode cX12_sacksOf 0 = .ok (.aload_n 0, 1) := by decide +kernel
theorem dX12_sacksOf_1 : decode cX12_sacksOf 1 = .ok (.iload_n 1, 1) := by decide +kernel
theorem dX12_sacksOf_2 : decode cX12_sacksOf 2 = .ok (.invokevirtual 310, 3) := by decide +kernel
theorem dX12_sacksOf_5 : decode cX12_sacksOf 5 = .ok (.iconst 0, 1) := by decide +kernel
theorem dX12_sacksOf_6 : decode cX12_sacksOf 6 = .ok (.istore_n 2, 1) := by decide +kernel
theorem dX12_sacksOf_7 : decode cX12_sacksOf 7 = .ok (.iconst 0, 1) := by decide +kernel
theorem dX12_sacksOf_8 : decode cX12_sacksOf 8 = .ok (.istore_n 3, 1) := by decide +kernel
theorem dX12_sacksOf_9 : decode cX12_sacksOf 9 = .ok (.iload_n 3, 1) := by decide +kernel
theorem dX12_sacksOf_10 : decode cX12_sacksOf 10 = .ok (.aload_n 0, 1) := by decide +kernel
theorem dX12_sacksOf_11 : decode cX12_sacksOf 11 = .ok (.getfield 9, 3) := by decide +kernel
theorem dX12_sacksOf_14 : decode cX12_sacksOf 14 = .ok (.sipush 244, 3) := by decide +kernel
theorem dX12_sacksOf_17 : decode cX12_sacksOf 17 = .ok (.iaload, 1) := by decide +kernel
theorem dX12_sacksOf_18 : decode cX12_sacksOf 18 = .ok (.if_icmp .ge 18, 3) := by decide +kernel
theorem dX12_sacksOf_21 : decode cX12_sacksOf 21 = .ok (.iload_n 2, 1) := by decide +kernel
theorem dX12_sacksOf_22 : decode cX12_sacksOf 22 = .ok (.aload_n 0, 1) := by decide +kernel
theorem dX12_sacksOf_23 : decode cX12_sacksOf 23 = .ok (.getfield 51, 3) := by decide +kernel
theorem dX12_sacksOf_26 : decode cX12_sacksOf 26 = .ok (.iload_n 3, 1) := by decide +kernel
theorem dX12_sacksOf_27 : decode cX12_sacksOf 27 = .ok (.iaload, 1) := by decide +kernel
theorem dX12_sacksOf_28 : decode cX12_sacksOf 28 = .ok (.iadd, 1) := by decide +kernel
theorem dX12_sacksOf_29 : decode cX12_sacksOf 29 = .ok (.istore_n 2, 1) := by decide +kernel
theorem dX12_sacksOf_30 : decode cX12_sacksOf 30 = .ok (.iinc 3 1, 3) := by decide +kernel
theorem dX12_sacksOf_33 : decode cX12_sacksOf 33 = .ok (.goto (-24), 3) := by decide +kernel
theorem dX12_sacksOf_36 : decode cX12_sacksOf 36 = .ok (.iload_n 2, 1) := by decide +kernel
theorem dX12_sacksOf_37 : decode cX12_sacksOf 37 = .ok (.ireturn, 1) := by decide +kernel
theorem dX12_bought_0 : decode cX12_bought 0 = .ok (.aload_n 0, 1) := by decide +kernel
theorem dX12_bought_1 : decode cX12_bought 1 = .ok (.iconst 0, 1) := by decide +kernel
theorem dX12_bought_2 : decode cX12_bought 2 = .ok (.putfield 103, 3) := by decide +kernel
theorem dX12_bought_5 : decode cX12_bought 5 = .ok (.iload_n 2, 1) := by decide +kernel
theorem dX12_bought_6 : decode cX12_bought 6 = .ok (.iconst (-1), 1) := by decide +kernel
theorem dX12_bought_7 : decode cX12_bought 7 = .ok (.if_icmp .eq 29, 3) := by decide +kernel
theorem dX12_bought_10 : decode cX12_bought 10 = .ok (.iload_n 2, 1) := by decide +kernel
theorem dX12_bought_11 : decode cX12_bought 11 = .ok (.i2l, 1) := by decide +kernel
theorem dX12_bought_12 : decode cX12_bought 12 = .ok (.lconst 0, 1) := by decide +kernel
theorem dX12_bought_13 : decode cX12_bought 13 = .ok (.aload_n 0, 1) := by decide +kernel
theorem dX12_bought_14 : decode cX12_bought 14 = .ok (.getfield 9, 3) := by decide +kernel
theorem dX12_bought_17 : decode cX12_bought 17 = .ok (.sipush 244, 3) := by decide +kernel
theorem dX12_bought_20 : decode cX12_bought 20 = .ok (.iaload, 1) := by decide +kernel
theorem dX12_bought_21 : decode cX12_bought 21 = .ok (.iconst 1, 1) := by decide +kernel
theorem dX12_bought_22 : decode cX12_bought 22 = .ok (.isub, 1) := by decide +kernel
theorem dX12_bought_23 : decode cX12_bought 23 = .ok (.i2l, 1) := by decide +kernel
theorem dX12_bought_24 : decode cX12_bought 24 = .ok (.invokestatic 106, 3) := by decide +kernel
theorem dX12_bought_27 : decode cX12_bought 27 = .ok (.ifCond .ne 9, 3) := by decide +kernel
theorem dX12_bought_30 : decode cX12_bought 30 = .ok (.aload_n 0, 1) := by decide +kernel
theorem dX12_bought_31 : decode cX12_bought 31 = .ok (.iconst 1, 1) := by decide +kernel
theorem dX12_bought_32 : decode cX12_bought 32 = .ok (.invokevirtual 116, 3) := by decide +kernel
theorem dX12_bought_35 : decode cX12_bought 35 = .ok (.ireturn, 1) := by decide +kernel
theorem dX12_bought_36 : decode cX12_bought 36 = .ok (.aload_n 0, 1) := by decide +kernel
theorem dX12_bought_37 : decode cX12_bought 37 = .ok (.iload_n 1, 1) := by decide +kernel
theorem dX12_bought_38 : decode cX12_bought 38 = .ok (.invokevirtual 143, 3) := by decide +kernel
theorem dX12_bought_41 : decode cX12_bought 41 = .ok (.ifCond .ne 9, 3) := by decide +kernel
theorem dX12_bought_44 : decode cX12_bought 44 = .ok (.aload_n 0, 1) := by decide +kernel
theorem dX12_bought_45 : decode cX12_bought 45 = .ok (.iconst 2, 1) := by decide +kernel
theorem dX12_bought_46 : decode cX12_bought 46 = .ok (.invokevirtual 116, 3) := by decide +kernel
theorem dX12_bought_49 : decode cX12_bought 49 = .ok (.ireturn, 1) := by decide +kernel
theorem dX12_bought_50 : decode cX12_bought 50 = .ok (.aload_n 0, 1) := by decide +kernel
theorem dX12_bought_51 : decode cX12_bought 51 = .ok (.iload_n 1, 1) := by decide +kernel
theorem dX12_bought_52 : decode cX12_bought 52 = .ok (.invokevirtual 307, 3) := by decide +kernel
theorem dX12_bought_55 : decode cX12_bought 55 = .ok (.iconst (-1), 1) := by decide +kernel
theorem dX12_bought_56 : decode cX12_bought 56 = .ok (.if_icmp .ne 5, 3) := by decide +kernel
theorem dX12_bought_59 : decode cX12_bought 59 = .ok (.iconst (-1), 1) := by decide +kernel
theorem dX12_bought_60 : decode cX12_bought 60 = .ok (.ireturn, 1) := by decide +kernel
theorem dX12_bought_61 : decode cX12_bought 61 = .ok (.aload_n 0, 1) := by decide +kernel
theorem dX12_bought_62 : decode cX12_bought 62 = .ok (.iload_n 1, 1) := by decide +kernel
theorem dX12_bought_63 : decode cX12_bought 63 = .ok (.invokevirtual 313, 3) := by decide +kernel
theorem dX12_bought_66 : decode cX12_bought 66 = .ok (.istore_n 3, 1) := by decide +kernel
theorem dX12_bought_67 : decode cX12_bought 67 = .ok (.iload_n 2, 1) := by decide +kernel
theorem dX12_bought_68 : decode cX12_bought 68 = .ok (.iconst (-1), 1) := by decide +kernel
theorem dX12_bought_69 : decode cX12_bought 69 = .ok (.if_icmp .ne 7, 3) := by decide +kernel
theorem dX12_bought_72 : decode cX12_bought 72 = .ok (.iload_n 3, 1) := by decide +kernel
theorem dX12_bought_73 : decode cX12_bought 73 = .ok (.goto 9, 3) := by decide +kernel
theorem dX12_bought_76 : decode cX12_bought 76 = .ok (.aload_n 0, 1) := by decide +kernel
theorem dX12_bought_77 : decode cX12_bought 77 = .ok (.getfield 51, 3) := by decide +kernel
theorem dX12_bought_80 : decode cX12_bought 80 = .ok (.iload_n 2, 1) := by decide +kernel
theorem dX12_bought_81 : decode cX12_bought 81 = .ok (.iaload, 1) := by decide +kernel
theorem dX12_bought_82 : decode cX12_bought 82 = .ok (.ireturn, 1) := by decide +kernel
theorem s_plan {l : Launch} {E : aE} {N : Nat} {S : aS} {M : aM} (hfl : l.stackTraces = false) (m : Int) (t : Int → Int) (hS : lyM S m) (hE : RE M m t) (hK : TQ t) (hP : RP0 M m t) (set : Int) (hs : 0 ≤ set ∧ set < 128) : aMt l E pX12_plan [(2, m), (0, set)] N S M (aG N S (fun v M' => v = (0, pcV (allV t set)) ∧ frN M M' m ∧ RP0 M' m t ∧ WCs M' m t set ∧ RWs M' m t set 0)) := by
  refine a_met hfl rfl (by decide +kernel) (Nat.le_of_ble_eq_true rfl) ?_
  have h6 := hK.2.2.2.2.2.1
  have hr := roomV_r hK hs
  have loop58 := a_loop2 (fun k M1 => -1 ≤ k ∧ k < t 244 ∧ frN M M1 m ∧ RP0 M1 m t ∧ WCs M1 m t set ∧ RWs M1 m t set (k + 1)) (fun k M1 => (k + 1).toNat) (fun k M1 => aX l E pX12_plan (aG N S (fun v M' => v = (0, pcV (allV t set)) ∧ frN M M' m ∧ RP0 M' m t ∧ WCs M' m t set ∧ RWs M' m t set 0)) 0 0 N S M1 58 [(0, (2, m)), (1, (0, set)), (2, (0, t 244)), (3, (0, k))] []) (by
    intro k M1 hI ih1
    obtain ⟨d1, d2, d3, d4, d5, d6⟩ := hI
    have loop65 : (0 ≤ k) → ∀ (kept : Int) (M2 : aM), (0 ≤ kept ∧ kept ≤ roomV t set + 1 ∧ frN M M2 m ∧ RP0 M2 m t ∧ WCs M2 m t set ∧ RWs M2 m t set (k + 1) ∧ (∀ i, 0 ≤ i → i < kept → M2 (m + 11) (57 * k + i) = pcV (planV t set (t 244 - k).toNat i) ∧ M2 (m + 12) (57 * k + i) = psV (planV t set (t 244 - k).toNat i))) → aX l E pX12_plan (aG N S (fun v M' => v = (0, pcV (allV t set)) ∧ frN M M' m ∧ RP0 M' m t ∧ WCs M' m t set ∧ RWs M' m t set 0)) 0 0 N S M2 65 [(0, (2, m)), (1, (0, set)), (2, (0, t 244)), (3, (0, k)), (4, (0, kept))] [] := by
      intro hk0
      exact a_loop2 (fun kept M2 => 0 ≤ kept ∧ kept ≤ roomV t set + 1 ∧ frN M M2 m ∧ RP0 M2 m t ∧ WCs M2 m t set ∧ RWs M2 m t set (k + 1) ∧ (∀ i, 0 ≤ i → i < kept → M2 (m + 11) (57 * k + i) = pcV (planV t set (t 244 - k).toNat i) ∧ M2 (m + 12) (57 * k + i) = psV (planV t set (t 244 - k).toNat i))) (fun kept M2 => (roomV t set + 1 - kept).toNat) (fun kept M2 => aX l E pX12_plan (aG N S (fun v M' => v = (0, pcV (allV t set)) ∧ frN M M' m ∧ RP0 M' m t ∧ WCs M' m t set ∧ RWs M' m t set 0)) 0 0 N S M2 65 [(0, (2, m)), (1, (0, set)), (2, (0, t 244)), (3, (0, k)), (4, (0, kept))] []) (by
        intro kept M2 hI2 ih2
        obtain ⟨f1, f2, f3, f4, f5, f6, f7⟩ := hI2
        have loop105 : (kept ≤ roomV t set) → ∀ (left : Int) (M3 : aM), (0 ≤ left ∧ left ≤ roomV t set + 1 ∧ frN M M3 m ∧ RP0 M3 m t ∧ WCs M3 m t set ∧ RWs M3 m t set (k + 1) ∧ (∀ i, 0 ≤ i → i < kept → M3 (m + 11) (57 * k + i) = pcV (planV t set (t 244 - k).toNat i) ∧ M3 (m + 12) (57 * k + i) = psV (planV t set (t 244 - k).toNat i)) ∧ M3 (m + 11) (57 * k + kept) = pcV (bestL (candV t set k kept (planV t set (t 244 - (k + 1)).toNat)) left.toNat) ∧ M3 (m + 12) (57 * k + kept) = psV (bestL (candV t set k kept (planV t set (t 244 - (k + 1)).toNat)) left.toNat)) → aX l E pX12_plan (aG N S (fun v M' => v = (0, pcV (allV t set)) ∧ frN M M' m ∧ RP0 M' m t ∧ WCs M' m t set ∧ RWs M' m t set 0)) 0 0 N S M3 105 [(0, (2, m)), (1, (0, set)), (2, (0, t 244)), (3, (0, k)), (4, (0, kept)), (5, (0, left))] [] := by
          intro hkp
          exact a_loop2 (fun left M3 => 0 ≤ left ∧ left ≤ roomV t set + 1 ∧ frN M M3 m ∧ RP0 M3 m t ∧ WCs M3 m t set ∧ RWs M3 m t set (k + 1) ∧ (∀ i, 0 ≤ i → i < kept → M3 (m + 11) (57 * k + i) = pcV (planV t set (t 244 - k).toNat i) ∧ M3 (m + 12) (57 * k + i) = psV (planV t set (t 244 - k).toNat i)) ∧ M3 (m + 11) (57 * k + kept) = pcV (bestL (candV t set k kept (planV t set (t 244 - (k + 1)).toNat)) left.toNat) ∧ M3 (m + 12) (57 * k + kept) = psV (bestL (candV t set k kept (planV t set (t 244 - (k + 1)).toNat)) left.toNat)) (fun left M3 => (roomV t set + 1 - left).toNat) (fun left M3 => aX l E pX12_plan (aG N S (fun v M' => v = (0, pcV (allV t set)) ∧ frN M M' m ∧ RP0 M' m t ∧ WCs M' m t set ∧ RWs M' m t set 0)) 0 0 N S M3 105 [(0, (2, m)), (1, (0, set)), (2, (0, t 244)), (3, (0, k)), (4, (0, kept)), (5, (0, left))] []) (by
            intro left M3 hI3 ih3
            obtain ⟨g1, g2, g3, g4, g5, g6, g7, g8, g9⟩ := hI3
            have hE3 : RE M3 m t := hE.cg g3.k
            have hbr := bestC_r (t := t) (set := set) (m := k) (kept := kept) (k := t 244 - (k + 1)) (nxt := planV t set (t 244 - (k + 1)).toNat) (n := left.toNat) hK hs (by omega) (by omega) ⟨by omega, by omega⟩ (by omega) (fun l x y => planV_r1 hK hs (by omega) ⟨x, y⟩)
            refine x_iload (pc := 105) dX12_plan_105 rfl ?_
            refine x_aload_n (pc := 107) dX12_plan_107 rfl rfl ?_
            refine x_getIV (jj := 28) (pc := 108) dX12_plan_108 fX12_282 hS.1 rfl (by decide) rfl (by (repeat (first | rewrite [up_s] | rewrite [up_i (by omega)] | rewrite [up_a (by omega)] | rewrite [stM_a (by omega) (by omega)])); first | exact g5.1 | rfl) ?_
            refine x_icmp_gt (tgt := 129) (pc := 111) dX12_plan_111 (by decide) (fun c_111 => ?_) (fun c_111 => ?_)
            · refine x_iinc (pc := 129) dX12_plan_129 rfl (by omega) (by decide) rfl ?_
              refine x_goto (tgt := 65) (pc := 132) dX12_plan_132 (by decide) ?_
              refine x_lo (lo' := [(0, (2, m)), (1, (0, set)), (2, (0, t 244)), (3, (0, k)), (4, (0, (kept + 1)))]) ⟨rfl, rfl, rfl, rfl, rfl, trivial⟩ (ih2 (kept + 1) _ ⟨by omega, by omega, g3, g4, g5, g6, fun i x y => ?_⟩ (by omega))
              by_cases e : i = kept
              · subst e
                have z := planV_1 (t := t) (set := set) (k := t 244 - k) (kept := i) (by omega)
                rw [show t 244 - (t 244 - k) = k by omega, show t 244 - k - 1 = t 244 - (k + 1) by omega] at z
                rw [z, show (roomV t set + 1).toNat = left.toNat by omega]
                exact ⟨g8, g9⟩
              · exact g7 i x (by omega)
            · refine x_aload_n (pc := 114) dX12_plan_114 rfl rfl ?_
              refine x_iload_n (pc := 115) dX12_plan_115 rfl rfl ?_
              refine x_iload (pc := 116) dX12_plan_116 rfl ?_
              refine x_iload (pc := 118) dX12_plan_118 rfl ?_
              refine x_callV3 (pc := 120) dX12_plan_120 rfl kX12_288 (s_tries hfl m t hS hE3 hK g4 set k kept left hs ⟨by omega, by omega⟩ ⟨by omega, by omega⟩ ⟨by omega, by omega⟩ (g5.2 k (by omega) (by omega)) (g6 (k + 1) left (by omega) (by omega) (by omega) (by omega)).1 (g6 (k + 1) left (by omega) (by omega) (by omega) (by omega)).2 (bestL (candV t set k kept (planV t set (t 244 - (k + 1)).toNat)) left.toNat) hbr g8 g9) hS.1 rfl rfl (Nat.le_of_ble_eq_true rfl) (k_U (fun M9 hM9 => ?_)) n_U
              obtain ⟨q1, q2, q3, q4⟩ := hM9
              refine x_iinc (pc := 123) dX12_plan_123 rfl (by omega) (by decide) rfl ?_
              refine x_goto (tgt := 105) (pc := 126) dX12_plan_126 (by decide) ?_
              refine x_lo (lo' := [(0, (2, m)), (1, (0, set)), (2, (0, t 244)), (3, (0, k)), (4, (0, kept)), (5, (0, (left + 1)))]) ⟨rfl, rfl, rfl, rfl, rfl, rfl, trivial⟩ (ih3 (left + 1) _ ⟨by omega, by omega, fun a i x y z => (q4 a i (fun q => (x q).1) y (by omega)).trans (g3 a i x y z), q3, g5.cg ⟨q4 _ _ (by omega) (by omega) (by omega), fun i => q4 _ _ (by omega) (by omega) (by omega)⟩, fun j i x y z w => ?_, fun i x y => ?_, ?_, ?_⟩ (by omega))
              · rw [q4 _ _ (by omega) (by omega) (by omega), q4 _ _ (by omega) (by omega) (by omega)]
                exact g6 j i x y z w
              · rw [q4 _ _ (by omega) (by omega) (by omega), q4 _ _ (by omega) (by omega) (by omega)]
                exact g7 i x y
              · rw [bestL_1 _ g1]; exact q1
              · rw [bestL_1 _ g1]; exact q2)
        refine x_iload (pc := 65) dX12_plan_65 rfl ?_
        refine x_aload_n (pc := 67) dX12_plan_67 rfl rfl ?_
        refine x_getIV (jj := 28) (pc := 68) dX12_plan_68 fX12_282 hS.1 rfl (by decide) rfl (by (repeat (first | rewrite [up_s] | rewrite [up_i (by omega)] | rewrite [up_a (by omega)] | rewrite [stM_a (by omega) (by omega)])); first | exact f5.1 | rfl) ?_
        refine x_icmp_gt (tgt := 135) (pc := 71) dX12_plan_71 (by decide) (fun c_71 => ?_) (fun c_71 => ?_)
        · refine x_iinc (pc := 135) dX12_plan_135 rfl (by omega) (by decide) rfl ?_
          refine x_goto (tgt := 58) (pc := 138) dX12_plan_138 (by decide) ?_
          refine x_lo (lo' := [(0, (2, m)), (1, (0, set)), (2, (0, t 244)), (3, (0, (k - 1)))]) ⟨rfl, rfl, rfl, rfl, trivial⟩ (ih1 (k - 1) _ ⟨by omega, by omega, f3, f4, f5, fun j i x y z w => ?_⟩ (by omega))
          by_cases e : j = k
          · subst e; exact f7 i z (by omega)
          · exact f6 j i (by omega) y z w
        · refine x_aload_n (pc := 74) dX12_plan_74 rfl rfl ?_
          refine x_getR (jj := 23) (pc := 75) dX12_plan_75 fX12_45 hS.1 rfl (by decide) rfl rM_23 ?_
          refine x_bipush (pc := 78) dX12_plan_78 (by decide) ?_
          refine x_iload_n (pc := 80) dX12_plan_80 rfl rfl ?_
          refine x_imul (pc := 81) dX12_plan_81 (by omega) ?_
          refine x_iload (pc := 82) dX12_plan_82 rfl ?_
          refine x_iadd (pc := 84) dX12_plan_84 (by omega) ?_
          refine x_ldcw (n := 1000000000) (pc := 85) cX12_265 (by decide) dX12_plan_85 ?_
          refine x_iastore (pc := 88) dX12_plan_88 (sM_23 hS) (by omega) ?_
          refine x_aload_n (pc := 89) dX12_plan_89 rfl rfl ?_
          refine x_getR (jj := 24) (pc := 90) dX12_plan_90 fX12_48 hS.1 rfl (by decide) rfl rM_24 ?_
          refine x_bipush (pc := 93) dX12_plan_93 (by decide) ?_
          refine x_iload_n (pc := 95) dX12_plan_95 rfl rfl ?_
          refine x_imul (pc := 96) dX12_plan_96 (by omega) ?_
          refine x_iload (pc := 97) dX12_plan_97 rfl ?_
          refine x_iadd (pc := 99) dX12_plan_99 (by omega) ?_
          refine x_iconst (pc := 100) dX12_plan_100 (by decide) ?_
          refine x_iastore (pc := 101) dX12_plan_101 (sM_24 hS) (by omega) ?_
          refine x_iconst (pc := 102) dX12_plan_102 (by decide) ?_
          refine x_istore (pc := 103) dX12_plan_103 (by decide) rfl ?_
          refine x_lo (lo' := [(0, (2, m)), (1, (0, set)), (2, (0, t 244)), (3, (0, k)), (4, (0, kept)), (5, (0, 0))]) ⟨rfl, rfl, rfl, rfl, rfl, rfl, trivial⟩ (loop105 (by omega) (0) _ ⟨by omega, by omega, fun a i x y z => ?_, ?_, ?_, fun j i x y z w => ?_, fun i x y => ?_, ?_, ?_⟩)
          · rw [up_a (by omega), up_a (by omega)]; exact f3 a i x y z
          · exact f4.cg fun a i x => by rw [up_a (by omega), up_a (by omega)]
          · exact f5.cg ⟨by rw [up_a (by omega), up_a (by omega)], fun i => by rw [up_a (by omega), up_a (by omega)]⟩
          · rw [up_a (by omega), up_i (by omega), up_i (by omega), up_a (by omega)]; exact f6 j i x y z w
          · rw [up_a (by omega), up_i (by omega), up_i (by omega), up_a (by omega)]; exact f7 i x y
          · rw [up_a (by omega), up_s]; rfl
          · rw [up_s]; rfl)
    refine x_iload_n (pc := 58) dX12_plan_58 rfl rfl ?_
    refine x_if_lt (tgt := 141) (pc := 59) dX12_plan_59 (by decide) (fun c_59 => ?_) (fun c_59 => ?_)
    · refine x_aload_n (pc := 141) dX12_plan_141 rfl rfl ?_
      refine x_getR (jj := 23) (pc := 142) dX12_plan_142 fX12_45 hS.1 rfl (by decide) rfl rM_23 ?_
      refine x_iconst (pc := 145) dX12_plan_145 (by decide) ?_
      refine x_ialoadV (pc := 146) dX12_plan_146 (sM_23 hS) (by omega) (by (repeat (first | rewrite [up_s] | rewrite [up_i (by omega)] | rewrite [up_a (by omega)] | rewrite [stM_a (by omega) (by omega)])); rfl) (fun g_146 => ?_)
      refine x_ireturn (pc := 147) dX12_plan_147 rfl (by decide) ?_
      refine ⟨_, rfl, rfl, rfl, ?_, d3, d4, d5, fun j i x y z w => d6 j i (by omega) y z w⟩
      have z := (d6 0 0 (by omega) (by omega) (by omega) (by omega)).1
      rw [show (57 : Int) * 0 + 0 = 0 by rfl, show t 244 - 0 = t 244 by omega] at z
      rw [z]
      rfl
    · refine x_iconst (pc := 62) dX12_plan_62 (by decide) ?_
      refine x_istore (pc := 63) dX12_plan_63 (by decide) rfl ?_
      refine x_lo (lo' := [(0, (2, m)), (1, (0, set)), (2, (0, t 244)), (3, (0, k)), (4, (0, 0))]) ⟨rfl, rfl, rfl, rfl, rfl, trivial⟩ (loop65 (by omega) (0) _ ⟨by omega, by omega, d3, d4, d5, d6, fun i x y => by omega⟩))
  have loop16 := a_loop2 (fun j M1 => 0 ≤ j ∧ j ≤ roomV t set + 1 ∧ frN M M1 m ∧ RP0 M1 m t ∧ WCs M1 m t set ∧ (∀ i, 0 ≤ i → i < j → M1 (m + 11) (57 * t 244 + i) = 0 ∧ M1 (m + 12) (57 * t 244 + i) = 0)) (fun j M1 => (roomV t set + 1 - j).toNat) (fun j M1 => aX l E pX12_plan (aG N S (fun v M' => v = (0, pcV (allV t set)) ∧ frN M M' m ∧ RP0 M' m t ∧ WCs M' m t set ∧ RWs M' m t set 0)) 0 0 N S M1 16 [(0, (2, m)), (1, (0, set)), (2, (0, t 244)), (3, (0, j))] []) (by
    intro j M1 hI ih0
    obtain ⟨c1, c2, c3, c4, c5, c6⟩ := hI
    refine x_iload_n (pc := 16) dX12_plan_16 rfl rfl ?_
    refine x_aload_n (pc := 17) dX12_plan_17 rfl rfl ?_
    refine x_getIV (jj := 28) (pc := 18) dX12_plan_18 fX12_282 hS.1 rfl (by decide) rfl (by (repeat (first | rewrite [up_s] | rewrite [up_i (by omega)] | rewrite [up_a (by omega)] | rewrite [stM_a (by omega) (by omega)])); first | exact c5.1 | rfl) ?_
    refine x_icmp_gt (tgt := 54) (pc := 21) dX12_plan_21 (by decide) (fun c_21 => ?_) (fun c_21 => ?_)
    · refine x_iload_n (pc := 54) dX12_plan_54 rfl rfl ?_
      refine x_iconst (pc := 55) dX12_plan_55 (by decide) ?_
      refine x_isub (pc := 56) dX12_plan_56 (by omega) ?_
      refine x_istore_n (pc := 57) dX12_plan_57 rfl (by decide) rfl ?_
      refine x_lo (lo' := [(0, (2, m)), (1, (0, set)), (2, (0, t 244)), (3, (0, (t 244 - 1)))]) ⟨rfl, rfl, rfl, rfl, trivial⟩ (loop58 (t 244 - 1) _ ⟨by omega, by omega, c3, c4, c5, fun j i x y z w => ?_⟩)
      have e : j = t 244 := by omega
      subst e
      have q := c6 i z (by omega)
      rw [show t 244 - t 244 = (0 : Int) by omega]
      exact q
    · refine x_aload_n (pc := 24) dX12_plan_24 rfl rfl ?_
      refine x_getR (jj := 23) (pc := 25) dX12_plan_25 fX12_45 hS.1 rfl (by decide) rfl rM_23 ?_
      refine x_bipush (pc := 28) dX12_plan_28 (by decide) ?_
      refine x_iload_n (pc := 30) dX12_plan_30 rfl rfl ?_
      refine x_imul (pc := 31) dX12_plan_31 (by omega) ?_
      refine x_iload_n (pc := 32) dX12_plan_32 rfl rfl ?_
      refine x_iadd (pc := 33) dX12_plan_33 (by omega) ?_
      refine x_iconst (pc := 34) dX12_plan_34 (by decide) ?_
      refine x_iastore (pc := 35) dX12_plan_35 (sM_23 hS) (by omega) ?_
      refine x_aload_n (pc := 36) dX12_plan_36 rfl rfl ?_
      refine x_getR (jj := 24) (pc := 37) dX12_plan_37 fX12_48 hS.1 rfl (by decide) rfl rM_24 ?_
      refine x_bipush (pc := 40) dX12_plan_40 (by decide) ?_
      refine x_iload_n (pc := 42) dX12_plan_42 rfl rfl ?_
      refine x_imul (pc := 43) dX12_plan_43 (by omega) ?_
      refine x_iload_n (pc := 44) dX12_plan_44 rfl rfl ?_
      refine x_iadd (pc := 45) dX12_plan_45 (by omega) ?_
      refine x_iconst (pc := 46) dX12_plan_46 (by decide) ?_
      refine x_iastore (pc := 47) dX12_plan_47 (sM_24 hS) (by omega) ?_
      refine x_iinc (pc := 48) dX12_plan_48 rfl (by omega) (by decide) rfl ?_
      refine x_goto (tgt := 16) (pc := 51) dX12_plan_51 (by decide) ?_
      refine x_lo (lo' := [(0, (2, m)), (1, (0, set)), (2, (0, t 244)), (3, (0, (j + 1)))]) ⟨rfl, rfl, rfl, rfl, trivial⟩ (ih0 (j + 1) _ ⟨by omega, by omega, fun a i x y z => ?_, ?_, ?_, fun i x y => ?_⟩ (by omega))
      · rw [up_a (by omega), up_a (by omega)]; exact c3 a i x y z
      · exact c4.cg fun a i x => by rw [up_a (by omega), up_a (by omega)]
      · exact c5.cg ⟨by rw [up_a (by omega), up_a (by omega)], fun i => by rw [up_a (by omega), up_a (by omega)]⟩
      · by_cases e : i = j
        · subst e; rw [up_a (by omega), up_s, up_s]; exact ⟨rfl, rfl⟩
        · rw [up_a (by omega), up_i (by omega), up_i (by omega), up_a (by omega)]; exact c6 i x (by omega))
  refine x_aload_n (pc := 0) dX12_plan_0 rfl rfl ?_
  refine x_iload_n (pc := 1) dX12_plan_1 rfl rfl ?_
  refine x_callV1 (pc := 2) dX12_plan_2 rfl kX12_285 (s_sums hfl m t hS hE hK set) hS.1 rfl rfl (Nat.le_of_ble_eq_true rfl) (k_U (fun M9 hM9 => ?_)) n_U
  obtain ⟨n1, n2, n3⟩ := hM9
  have hE9 := hE.cg n1.n.k
  have hP9 : RP0 M9 m t := hP.cg fun a i x => n1 a i (by omega) (by omega)
  refine x_aload_n (pc := 5) dX12_plan_5 rfl rfl ?_
  refine x_getR (jj := 0) (pc := 6) dX12_plan_6 fX12_9 hS.1 rfl (by decide) rfl rM_0 ?_
  refine x_sipush (pc := 9) dX12_plan_9 (by decide) ?_
  refine x_ialoadV (pc := 12) dX12_plan_12 (sM_0 hS) (by omega) (by (repeat (first | rewrite [up_s] | rewrite [up_i (by omega)] | rewrite [up_a (by omega)] | rewrite [stM_a (by omega) (by omega)])); first | exact hE9.2.1 _ (by omega) (by omega) (by omega) | rfl) (fun g_12 => ?_)
  refine x_istore_n (pc := 13) dX12_plan_13 rfl (by decide) rfl ?_
  refine x_iconst (pc := 14) dX12_plan_14 (by decide) ?_
  refine x_istore_n (pc := 15) dX12_plan_15 rfl (by decide) rfl ?_
  refine x_lo (lo' := [(0, (2, m)), (1, (0, set)), (2, (0, t 244)), (3, (0, 0))]) ⟨rfl, rfl, rfl, rfl, trivial⟩ (loop16 (0) _ ⟨by omega, by omega, n1.n, hP9, ⟨n2, n3⟩, fun i x y => by omega⟩)
theorem s_layPlan {l : Launch} {E : aE} {N : Nat} {S : aS} {M : aM} (hfl : l.stackTraces = false) (m : Int) (t : Int → Int) (hS : lyM S m) (hE : RE M m t) (hK : TQ t) (hP : RP0 M m t) (set : Int) (hs : 0 ≤ set ∧ set < 128) (ha : allV t set ≠ -1) : aMt l E pX12_layPlan [(2, m), (0, set)] N S M (aU N S (fun M' => frN M M' m ∧ RP0 M' m t ∧ ∀ j, 0 ≤ j → j < t 244 → M' (m + 13) j = rowV t set j)) := by
  refine a_met hfl rfl (by decide +kernel) (Nat.le_of_ble_eq_true rfl) ?_
  have h6 := hK.2.2.2.2.2.1
  have hr := roomV_r hK hs
  have loop11 := a_loop3 (fun k kept M1 => 0 ≤ k ∧ k ≤ t 244 ∧ kept = keptV t set k.toNat ∧ frN M M1 m ∧ RP0 M1 m t ∧ WCs M1 m t set ∧ RWs M1 m t set 0 ∧ ∀ j, 0 ≤ j → j < k → M1 (m + 13) j = rowV t set j) (fun k kept M1 => (t 244 - k).toNat) (fun k kept M1 => aX l E pX12_layPlan (aU N S (fun M' => frN M M' m ∧ RP0 M' m t ∧ ∀ j, 0 ≤ j → j < t 244 → M' (m + 13) j = rowV t set j)) 0 0 N S M1 11 [(0, (2, m)), (3, (0, kept)), (4, (0, k))] []) (by
    intro k kept M1 hI ih1
    obtain ⟨f1, f2, f3, f4, f5, f6, f7, f8⟩ := hI
    have hkr := keptV_r1 (j := k) hK hs ha ⟨f1, f2⟩
    rw [← f3] at hkr
    have hpk := planV_r1 (t := t) (k := t 244 - k) (kept := kept) hK hs (by omega) hkr.1
    unfold okP at hpk
    have hlv := fun (z : 1 ≤ t 244 - k) => leftV_r (k := t 244 - k) hK hs z hkr.2
    rw [show t 244 - (t 244 - k) = k by omega, show t 244 - k - 1 = t 244 - (k + 1) by omega] at hlv
    have hE1 : RE M1 m t := hE.cg f4.k
    have loop27 : (k < t 244) → ∀ (left : Int) (M2 : aM), (0 ≤ left ∧ left ≤ leftV t set (t 244 - k) kept ∧ frN M M2 m ∧ RP0 M2 m t ∧ WCs M2 m t set ∧ RWs M2 m t set 0 ∧ ∀ j, 0 ≤ j → j < k → M2 (m + 13) j = rowV t set j) → aX l E pX12_layPlan (aU N S (fun M' => frN M M' m ∧ RP0 M' m t ∧ ∀ j, 0 ≤ j → j < t 244 → M' (m + 13) j = rowV t set j)) 0 0 N S M2 27 [(0, (2, m)), (3, (0, kept)), (4, (0, k)), (5, (0, left))] [] := by
      intro hk9
      obtain ⟨z1, z2, z3, z4, z5⟩ := hlv (by omega)
      exact a_loop2 (fun left M2 => 0 ≤ left ∧ left ≤ leftV t set (t 244 - k) kept ∧ frN M M2 m ∧ RP0 M2 m t ∧ WCs M2 m t set ∧ RWs M2 m t set 0 ∧ ∀ j, 0 ≤ j → j < k → M2 (m + 13) j = rowV t set j) (fun left M2 => (leftV t set (t 244 - k) kept - left).toNat) (fun left M2 => aX l E pX12_layPlan (aU N S (fun M' => frN M M' m ∧ RP0 M' m t ∧ ∀ j, 0 ≤ j → j < t 244 → M' (m + 13) j = rowV t set j)) 0 0 N S M2 27 [(0, (2, m)), (3, (0, kept)), (4, (0, k)), (5, (0, left))] []) (by
        intro left M2 hI2 ih2
        obtain ⟨g1, g2, g3, g4, g5, g6, g7⟩ := hI2
        have hE2 : RE M2 m t := hE.cg g3.k
        have hpl := planV_r1 (t := t) (k := t 244 - (k + 1)) (kept := left) hK hs (by omega) ⟨g1, by omega⟩
        have hco := candV_or (t := t) (set := set) (m := k) (kept := kept) (left := left) (nxt := planV t set (t 244 - (k + 1)).toNat) hK (by omega)
        have hwr := wantV_r hK hs (m := k) (by omega)
        have a1 : 0 ≤ t 243 * left := Int.mul_nonneg hK.2.2.2.2.1.1 g1
        have e1 := pcV_or (candV t set k kept (planV t set (t 244 - (k + 1)).toNat) left)
        have e2 := pcV_or (planV t set (t 244 - k).toNat kept)
        have e3 := pcV_or (planV t set (t 244 - (k + 1)).toNat left)
        unfold okP at hpl
        refine x_aload_n (pc := 27) dX12_layPlan_27 rfl rfl ?_
        refine x_iload (pc := 28) dX12_layPlan_28 rfl ?_
        refine x_iload_n (pc := 30) dX12_layPlan_30 rfl rfl ?_
        refine x_iload (pc := 31) dX12_layPlan_31 rfl ?_
        refine x_callV3 (pc := 33) dX12_layPlan_33 rfl kX12_291 (s_costBy hfl m t hS hE2 hK g4 set k kept left hs ⟨by omega, by omega⟩ ⟨by omega, by omega⟩ ⟨by omega, by omega⟩ (g5.2 k (by omega) (by omega)) (g6 (k + 1) left (by omega) (by omega) (by omega) (by omega)).1) hS.1 rfl rfl (Nat.le_of_ble_eq_true rfl) (k_G (fun v9 M9 hM9 => ?_)) n_G
        obtain ⟨rfl, f9, p9⟩ := hM9
        have hE9 := hE2.cg f9.k
        have W9 : WCs M9 m t set := g5.cg ⟨f9 _ _ (by omega) (by omega), fun i => f9 _ _ (by omega) (by omega)⟩
        have R9 : RWs M9 m t set 0 := g6.cg fun i => ⟨f9 _ _ (by omega) (by omega), f9 _ _ (by omega) (by omega)⟩
        have F9 : frN M M9 m := g3.tr f9.n
        have J9 : ∀ j, 0 ≤ j → j < k → M9 (m + 13) j = rowV t set j := fun j x y => (f9 _ _ (by omega) (by omega)).trans (g7 j x y)
        have r1 := (R9 k kept (by omega) (by omega) (by omega) (by omega)).1
        have r2 := (R9 k kept (by omega) (by omega) (by omega) (by omega)).2
        refine x_aload_n (pc := 36) dX12_layPlan_36 rfl rfl ?_
        refine x_getR (jj := 23) (pc := 37) dX12_layPlan_37 fX12_45 hS.1 rfl (by decide) rfl rM_23 ?_
        refine x_bipush (pc := 40) dX12_layPlan_40 (by decide) ?_
        refine x_iload (pc := 42) dX12_layPlan_42 rfl ?_
        refine x_imul (pc := 44) dX12_layPlan_44 (by omega) ?_
        refine x_iload_n (pc := 45) dX12_layPlan_45 rfl rfl ?_
        refine x_iadd (pc := 46) dX12_layPlan_46 (by omega) ?_
        refine x_ialoadV (pc := 47) dX12_layPlan_47 (sM_23 hS) (by omega) (by (repeat (first | rewrite [up_s] | rewrite [up_i (by omega)] | rewrite [up_a (by omega)] | rewrite [stM_a (by omega) (by omega)])); first | exact r1 | exact r2 | exact W9.2 k (by omega) (by omega) | rfl) (fun g_47 => ?_)
        refine x_icmp_ne (tgt := 75) (pc := 48) dX12_layPlan_48 (by decide) (fun c_48 => ?_) (fun c_48 => ?_)
        · refine x_iinc (pc := 75) dX12_layPlan_75 rfl (by omega) (by decide) rfl ?_
          refine x_goto (tgt := 27) (pc := 78) dX12_layPlan_78 (by decide) ?_
          have hlt : left + 1 ≤ leftV t set (t 244 - k) kept := by
            by_cases e : left = leftV t set (t 244 - k) kept
            · exfalso
              have zz := z2
              rw [← e] at zz
              omega
            · omega
          refine x_lo (lo' := [(0, (2, m)), (3, (0, kept)), (4, (0, k)), (5, (0, left + 1))]) ⟨rfl, rfl, rfl, rfl, trivial⟩ (ih2 (left + 1) _ ⟨by omega, hlt, F9, p9, W9, R9, J9⟩ (by omega))
        · refine x_aload_n (pc := 51) dX12_layPlan_51 rfl rfl ?_
          refine x_iload (pc := 52) dX12_layPlan_52 rfl ?_
          refine x_iload_n (pc := 54) dX12_layPlan_54 rfl rfl ?_
          refine x_iload (pc := 55) dX12_layPlan_55 rfl ?_
          refine x_callV3 (pc := 57) dX12_layPlan_57 rfl kX12_295 (s_sacksBy hfl m t hS hE9 hK set k kept left hs ⟨by omega, by omega⟩ ⟨by omega, by omega⟩ ⟨by omega, by omega⟩ (W9.2 k (by omega) (by omega)) (R9 (k + 1) left (by omega) (by omega) (by omega) (by omega)).2) hS.1 rfl rfl (Nat.le_of_ble_eq_true rfl) (k_R ?_) n_R
          refine x_aload_n (pc := 60) dX12_layPlan_60 rfl rfl ?_
          refine x_getR (jj := 24) (pc := 61) dX12_layPlan_61 fX12_48 hS.1 rfl (by decide) rfl rM_24 ?_
          refine x_bipush (pc := 64) dX12_layPlan_64 (by decide) ?_
          refine x_iload (pc := 66) dX12_layPlan_66 rfl ?_
          refine x_imul (pc := 68) dX12_layPlan_68 (by omega) ?_
          refine x_iload_n (pc := 69) dX12_layPlan_69 rfl rfl ?_
          refine x_iadd (pc := 70) dX12_layPlan_70 (by omega) ?_
          refine x_ialoadV (pc := 71) dX12_layPlan_71 (sM_24 hS) (by omega) (by (repeat (first | rewrite [up_s] | rewrite [up_i (by omega)] | rewrite [up_a (by omega)] | rewrite [stM_a (by omega) (by omega)])); first | exact r1 | exact r2 | exact W9.2 k (by omega) (by omega) | rfl) (fun g_71 => ?_)
          refine x_icmp_eq (tgt := 81) (pc := 72) dX12_layPlan_72 (by decide) (fun c_72 => ?_) (fun c_72 => ?_)
          · refine x_aload_n (pc := 81) dX12_layPlan_81 rfl rfl ?_
            refine x_getR (jj := 25) (pc := 82) dX12_layPlan_82 fX12_51 hS.1 rfl (by decide) rfl rM_25 ?_
            refine x_iload (pc := 85) dX12_layPlan_85 rfl ?_
            refine x_aload_n (pc := 87) dX12_layPlan_87 rfl rfl ?_
            refine x_getR (jj := 26) (pc := 88) dX12_layPlan_88 fX12_54 hS.1 rfl (by decide) rfl rM_26 ?_
            refine x_iload (pc := 91) dX12_layPlan_91 rfl ?_
            refine x_ialoadV (pc := 93) dX12_layPlan_93 (sM_26 hS) (by omega) (by (repeat (first | rewrite [up_s] | rewrite [up_i (by omega)] | rewrite [up_a (by omega)] | rewrite [stM_a (by omega) (by omega)])); first | exact r1 | exact r2 | exact W9.2 k (by omega) (by omega) | rfl) (fun g_93 => ?_)
            refine x_iload (pc := 94) dX12_layPlan_94 rfl ?_
            refine x_iadd (pc := 96) dX12_layPlan_96 (by omega) ?_
            refine x_iload_n (pc := 97) dX12_layPlan_97 rfl rfl ?_
            refine x_isub (pc := 98) dX12_layPlan_98 (by omega) ?_
            refine x_iastore (pc := 99) dX12_layPlan_99 (sM_25 hS) (by omega) ?_
            refine x_iload (pc := 100) dX12_layPlan_100 rfl ?_
            refine x_istore_n (pc := 102) dX12_layPlan_102 rfl (by decide) rfl ?_
            refine x_iinc (pc := 103) dX12_layPlan_103 rfl (by omega) (by decide) rfl ?_
            refine x_goto (tgt := 11) (pc := 106) dX12_layPlan_106 (by decide) ?_
            have e : left = leftV t set (t 244 - k) kept := by
              by_cases e : left = leftV t set (t 244 - k) kept
              · exact e
              · exfalso
                have q := firstB_lt _ left g1 (show left < leftV t set (t 244 - k) kept by omega)
                have q := of_decide_eq_false q
                rw [show t 244 - (t 244 - k) = k by omega, show t 244 - k - 1 = t 244 - (k + 1) by omega] at q
                omega
            refine x_lo (lo' := [(0, (2, m)), (3, (0, left)), (4, (0, k + 1))]) ⟨rfl, rfl, rfl, trivial⟩ (ih1 (k + 1) _ _ ⟨by omega, by omega, ?_, fun a i x y z => ?_, ?_, ?_, ?_, fun j x y => ?_⟩ (by omega))
            · rw [keptV_1 f1, ← f3]; exact e
            · rw [up_a (by omega)]; exact F9 a i x y z
            · exact p9.cg fun a i x => up_a (by omega)
            · exact W9.cg ⟨up_a (by omega), fun i => up_a (by omega)⟩
            · exact R9.cg fun i => ⟨up_a (by omega), up_a (by omega)⟩
            · by_cases e2 : j = k
              · subst e2
                rw [up_s]
                unfold rowV
                rw [keptV_1 f1, ← f3, ← e]
              · rw [up_i e2]; exact J9 j x (by omega)
          · refine x_iinc (pc := 75) dX12_layPlan_75 rfl (by omega) (by decide) rfl ?_
            refine x_goto (tgt := 27) (pc := 78) dX12_layPlan_78 (by decide) ?_
            have hlt : left + 1 ≤ leftV t set (t 244 - k) kept := by
              by_cases e : left = leftV t set (t 244 - k) kept
              · exfalso
                have zz := z2
                rw [← e] at zz
                omega
              · omega
            refine x_lo (lo' := [(0, (2, m)), (3, (0, kept)), (4, (0, k)), (5, (0, left + 1))]) ⟨rfl, rfl, rfl, rfl, trivial⟩ (ih2 (left + 1) _ ⟨by omega, hlt, F9, p9, W9, R9, J9⟩ (by omega)))
    refine x_iload (pc := 11) dX12_layPlan_11 rfl ?_
    refine x_aload_n (pc := 13) dX12_layPlan_13 rfl rfl ?_
    refine x_getR (jj := 0) (pc := 14) dX12_layPlan_14 fX12_9 hS.1 rfl (by decide) rfl rM_0 ?_
    refine x_sipush (pc := 17) dX12_layPlan_17 (by decide) ?_
    refine x_ialoadV (pc := 20) dX12_layPlan_20 (sM_0 hS) (by omega) (by (repeat (first | rewrite [up_s] | rewrite [up_i (by omega)] | rewrite [up_a (by omega)] | rewrite [stM_a (by omega) (by omega)])); first | exact hE1.2.1 _ (by omega) (by omega) (by omega) | rfl) (fun g_20 => ?_)
    refine x_icmp_ge (tgt := 109) (pc := 21) dX12_layPlan_21 (by decide) (fun c_21 => ?_) (fun c_21 => ?_)
    · refine x_return (pc := 109) dX12_layPlan_109 rfl (by decide) ?_
      exact ⟨rfl, rfl, rfl, f4, f5, fun j x y => f8 j x (by omega)⟩
    · refine x_iconst (pc := 24) dX12_layPlan_24 (by decide) ?_
      refine x_istore (pc := 25) dX12_layPlan_25 (by decide) rfl ?_
      refine x_lo (lo' := [(0, (2, m)), (3, (0, kept)), (4, (0, k)), (5, (0, 0))]) ⟨rfl, rfl, rfl, rfl, trivial⟩ (loop27 (by omega) (0) _ ⟨by omega, (hlv (by omega)).1.1, f4, f5, f6, f7, f8⟩))
  refine x_aload_n (pc := 0) dX12_layPlan_0 rfl rfl ?_
  refine x_iload_n (pc := 1) dX12_layPlan_1 rfl rfl ?_
  refine x_callV1 (pc := 2) dX12_layPlan_2 rfl kX12_298 (s_plan hfl m t hS hE hK hP set hs) hS.1 rfl rfl (Nat.le_of_ble_eq_true rfl) (k_G (fun v9 M9 hM9 => ?_)) n_G
  obtain ⟨rfl, n1, n2, n3, n4⟩ := hM9
  refine x_istore_n (pc := 5) dX12_layPlan_5 rfl (by decide) rfl ?_
  refine x_iconst (pc := 6) dX12_layPlan_6 (by decide) ?_
  refine x_istore_n (pc := 7) dX12_layPlan_7 rfl (by decide) rfl ?_
  refine x_iconst (pc := 8) dX12_layPlan_8 (by decide) ?_
  refine x_istore (pc := 9) dX12_layPlan_9 (by decide) rfl ?_
  refine x_lo (lo' := [(0, (2, m)), (3, (0, 0)), (4, (0, 0))]) ⟨rfl, rfl, rfl, trivial⟩ (loop11 (0) (0) _ ⟨by omega, by omega, rfl, n1, n2, n3, n4, fun j x y => by omega⟩)
theorem s_isBarred {l : Launch} {E : aE} {N : Nat} {S : aS} {M : aM} (hfl : l.stackTraces = false) (m : Int) (t : Int → Int) (hS : lyM S m) (hE : RE M m t) (set : Int) : aMt l E pX12_isBarred [(2, m), (0, set)] N S M (aB (barV t set = true) N S M) := by
  refine a_met hfl rfl (by decide +kernel) (Nat.le_of_ble_eq_true rfl) ?_
  have loop2 := a_loop1 (fun a => 0 ≤ a ∧ a ≤ 7 ∧ ∀ j, 0 ≤ j → j < a → barB t set j = false) (fun a => (7 - a).toNat) (fun a => aX l E pX12_isBarred (aB (barV t set = true) N S M) 0 0 N S M 2 [(0, (2, m)), (1, (0, set)), (2, (0, a))] []) (by
    intro a hI ih1
    obtain ⟨h4, h5, h6⟩ := hI
    have loop10 : (a < 7) → ∀ (b : Int), (0 ≤ b ∧ b ≤ a ∧ ∀ j, 0 ≤ j → j < b → ¬ (hb set a = 1 ∧ hb set j = 1 ∧ t (50 + 7 * a + j) = 1)) → aX l E pX12_isBarred (aB (barV t set = true) N S M) 0 0 N S M 10 [(0, (2, m)), (1, (0, set)), (2, (0, a)), (3, (0, b))] [] := by
      intro ha7
      exact a_loop1 (fun b => 0 ≤ b ∧ b ≤ a ∧ ∀ j, 0 ≤ j → j < b → ¬ (hb set a = 1 ∧ hb set j = 1 ∧ t (50 + 7 * a + j) = 1)) (fun b => (a - b).toNat) (fun b => aX l E pX12_isBarred (aB (barV t set = true) N S M) 0 0 N S M 10 [(0, (2, m)), (1, (0, set)), (2, (0, a)), (3, (0, b))] []) (by
        intro b hI2 ih2
        obtain ⟨h1, h2, h3⟩ := hI2
        refine x_iload_n (pc := 10) dX12_isBarred_10 rfl rfl ?_
        refine x_iload_n (pc := 11) dX12_isBarred_11 rfl rfl ?_
        refine x_icmp_ge (tgt := 57) (pc := 12) dX12_isBarred_12 (by decide) (fun c_12 => ?_) (fun c_12 => ?_)
        · refine x_iinc (pc := 57) dX12_isBarred_57 rfl (by omega) (by decide) rfl ?_
          refine x_goto (tgt := 2) (pc := 60) dX12_isBarred_60 (by decide) ?_
          refine x_lo (lo' := [(0, (2, m)), (1, (0, set)), (2, (0, (a + 1)))]) ⟨rfl, rfl, rfl, trivial⟩ (ih1 (a + 1) ⟨by omega, by omega, fun j x y => ?_⟩ (by omega))
          by_cases e : j = a
          · subst e
            cases hq : barB t set j with
            | false => rfl
            | true =>
              obtain ⟨w1, b', w2, w3, w4, w5⟩ := (barB_iff h4).mp hq
              exact absurd ⟨w1, w4, w5⟩ (h3 b' w2 (by omega))
          · exact h6 j x (by omega)
        · refine x_iload_n (pc := 15) dX12_isBarred_15 rfl rfl ?_
          refine x_iload_n (pc := 16) dX12_isBarred_16 rfl rfl ?_
          refine x_callS2 (pc := 17) dX12_isBarred_17 rfl kX12_136 (s_hasM hfl _ _) rfl (Nat.le_of_ble_eq_true rfl) (k_B (fun q_17 => ?_) (fun q_17 => ?_)) n_B
          · refine x_if_eq (tgt := 51) (pc := 20) dX12_isBarred_20 (by decide) (fun c => absurd c (by decide)) (fun _ => ?_)
            refine x_iload_n (pc := 23) dX12_isBarred_23 rfl rfl ?_
            refine x_iload_n (pc := 24) dX12_isBarred_24 rfl rfl ?_
            refine x_callS2 (pc := 25) dX12_isBarred_25 rfl kX12_136 (s_hasM hfl _ _) rfl (Nat.le_of_ble_eq_true rfl) (k_B (fun q_25 => ?_) (fun q_25 => ?_)) n_B
            · refine x_if_eq (tgt := 51) (pc := 28) dX12_isBarred_28 (by decide) (fun c => absurd c (by decide)) (fun _ => ?_)
              refine x_aload_n (pc := 31) dX12_isBarred_31 rfl rfl ?_
              refine x_getR (jj := 0) (pc := 32) dX12_isBarred_32 fX12_9 hS.1 rfl (by decide) rfl rM_0 ?_
              refine x_bipush (pc := 35) dX12_isBarred_35 (by decide) ?_
              refine x_bipush (pc := 37) dX12_isBarred_37 (by decide) ?_
              refine x_iload_n (pc := 39) dX12_isBarred_39 rfl rfl ?_
              refine x_imul (pc := 40) dX12_isBarred_40 (by omega) ?_
              refine x_iadd (pc := 41) dX12_isBarred_41 (by omega) ?_
              refine x_iload_n (pc := 42) dX12_isBarred_42 rfl rfl ?_
              refine x_iadd (pc := 43) dX12_isBarred_43 (by omega) ?_
              refine x_ialoadV (pc := 44) dX12_isBarred_44 (sM_0 hS) (by omega) (by (repeat (first | rewrite [up_s] | rewrite [up_i (by omega)] | rewrite [up_a (by omega)] | rewrite [stM_a (by omega) (by omega)])); first | exact hE.1 _ (by omega) (by omega) | rfl) (fun g_44 => ?_)
              refine x_iconst (pc := 45) dX12_isBarred_45 (by decide) ?_
              refine x_icmp_ne (tgt := 51) (pc := 46) dX12_isBarred_46 (by decide) (fun c_46 => ?_) (fun c_46 => ?_)
              · refine x_iinc (pc := 51) dX12_isBarred_51 rfl (by omega) (by decide) rfl ?_
                refine x_goto (tgt := 10) (pc := 54) dX12_isBarred_54 (by decide) ?_
                refine x_lo (lo' := [(0, (2, m)), (1, (0, set)), (2, (0, a)), (3, (0, (b + 1)))]) ⟨rfl, rfl, rfl, rfl, trivial⟩ (ih2 (b + 1) ⟨by omega, by omega, fun j x y => ?_⟩ (by omega))
                by_cases e : j = b
                · subst e
                  intro q
                  exact absurd q (by simp_all)
                · exact h3 j x (by omega)
              · refine x_iconst (pc := 49) dX12_isBarred_49 (by decide) ?_
                refine x_zreturn (pc := 50) dX12_isBarred_50 rfl (by omega) (by decide) ?_
                refine b_1 ?_
                unfold barV
                refine decide_eq_true fun q => ?_
                have z := firstB_none.mp q a h4 (by omega)
                have z2 := (barB_iff (t := t) (set := set) h4).mpr ⟨by assumption, b, h1, by omega, by assumption, by assumption⟩
                rw [z] at z2
                cases z2
            · refine x_if_eq (tgt := 51) (pc := 28) dX12_isBarred_28 (by decide) (fun _ => ?_) (fun c => absurd c (by decide))
              refine x_iinc (pc := 51) dX12_isBarred_51 rfl (by omega) (by decide) rfl ?_
              refine x_goto (tgt := 10) (pc := 54) dX12_isBarred_54 (by decide) ?_
              refine x_lo (lo' := [(0, (2, m)), (1, (0, set)), (2, (0, a)), (3, (0, (b + 1)))]) ⟨rfl, rfl, rfl, rfl, trivial⟩ (ih2 (b + 1) ⟨by omega, by omega, fun j x y => ?_⟩ (by omega))
              by_cases e : j = b
              · subst e
                intro q
                exact absurd q (by simp_all)
              · exact h3 j x (by omega)
          · refine x_if_eq (tgt := 51) (pc := 20) dX12_isBarred_20 (by decide) (fun _ => ?_) (fun c => absurd c (by decide))
            refine x_iinc (pc := 51) dX12_isBarred_51 rfl (by omega) (by decide) rfl ?_
            refine x_goto (tgt := 10) (pc := 54) dX12_isBarred_54 (by decide) ?_
            refine x_lo (lo' := [(0, (2, m)), (1, (0, set)), (2, (0, a)), (3, (0, (b + 1)))]) ⟨rfl, rfl, rfl, rfl, trivial⟩ (ih2 (b + 1) ⟨by omega, by omega, fun j x y => ?_⟩ (by omega))
            by_cases e : j = b
            · subst e
              intro q
              exact absurd q (by simp_all)
            · exact h3 j x (by omega))
    refine x_iload_n (pc := 2) dX12_isBarred_2 rfl rfl ?_
    refine x_bipush (pc := 3) dX12_isBarred_3 (by decide) ?_
    refine x_icmp_ge (tgt := 63) (pc := 5) dX12_isBarred_5 (by decide) (fun c_5 => ?_) (fun c_5 => ?_)
    · refine x_iconst (pc := 63) dX12_isBarred_63 (by decide) ?_
      refine x_zreturn (pc := 64) dX12_isBarred_64 rfl (by omega) (by decide) ?_
      refine b_0 ?_
      unfold barV
      rw [firstB_none.mpr fun j x y => h6 j x (by omega)]
      decide
    · refine x_iconst (pc := 8) dX12_isBarred_8 (by decide) ?_
      refine x_istore_n (pc := 9) dX12_isBarred_9 rfl (by decide) rfl ?_
      refine x_lo (lo' := [(0, (2, m)), (1, (0, set)), (2, (0, a)), (3, (0, 0))]) ⟨rfl, rfl, rfl, rfl, trivial⟩ (loop10 (by omega) (0) ⟨by omega, by omega, fun j x y => by omega⟩))
  refine x_iconst (pc := 0) dX12_isBarred_0 (by decide) ?_
  refine x_istore_n (pc := 1) dX12_isBarred_1 rfl (by decide) rfl ?_
  refine x_lo (lo' := [(0, (2, m)), (1, (0, set)), (2, (0, 0))]) ⟨rfl, rfl, rfl, trivial⟩ (loop2 (0) ⟨by omega, by omega, fun j x y => by omega⟩)
theorem s_MWcostOf {l : Launch} {E : aE} {N : Nat} {S : aS} {M : aM} (hfl : l.stackTraces = false) (m : Int) (t : Int → Int) (hS : lyM S m) (hE : RE M m t) (hK : TQ t) (hP : RP0 M m t) (hC : RCs M m t) (set : Int) (hs : 0 < set ∧ set < 128) : aMt l E pX12_costOf [(2, m), (0, set)] N S M (aG N S (fun v M' => v = (0, costV t set) ∧ frL M M' m ∧ RP0 M' m t ∧ RCs M' m t)) := by
  refine a_met hfl rfl (by decide +kernel) (Nat.le_of_ble_eq_true rfl) ?_
  have h6 := hK.2.2.2.2.2.1
  have hsz := size_r (set := set) (by omega)
  have hall := allV_r hK (set := set) (by omega)
  have h42 := hK.2.2.2.1
  have b1 : t 242 * (sumN (hb set) 7 - 1) ≤ 99 * 6 := by
    by_cases q : 1 ≤ sumN (hb set) 7
    · have z1 : t 242 * (sumN (hb set) 7 - 1) ≤ t 242 * 6 := Int.mul_le_mul_of_nonneg_left (by omega) h42.1
      omega
    · rw [show sumN (hb set) 7 = 0 by omega]; omega
  have b2 : -99 ≤ t 242 * (sumN (hb set) 7 - 1) := by
    by_cases q : 1 ≤ sumN (hb set) 7
    · have z1 : 0 ≤ t 242 * (sumN (hb set) 7 - 1) := Int.mul_nonneg h42.1 (by omega)
      omega
    · rw [show sumN (hb set) 7 = 0 by omega]; omega
  refine x_aload_n (pc := 0) dX12_costOf_0 rfl rfl ?_
  refine x_getR (jj := 27) (pc := 1) dX12_costOf_1 fX12_57 hS.1 rfl (by decide) rfl rM_27 ?_
  refine x_iload_n (pc := 4) dX12_costOf_4 rfl rfl ?_
  refine x_ialoadV (pc := 5) dX12_costOf_5 (sM_27 hS) (by omega) (by (repeat (first | rewrite [up_s] | rewrite [up_i (by omega)] | rewrite [up_a (by omega)] | rewrite [stM_a (by omega) (by omega)])); first | exact E9.2.1 _ (by omega) (by omega) (by omega) | rfl) (fun g_5 => ?_)
  refine x_bipush (pc := 6) dX12_costOf_6 (by decide) ?_
  refine x_icmp_eq (tgt := 18) (pc := 8) dX12_costOf_8 (by decide) (fun c_8 => ?_) (fun c_8 => ?_)
  · refine x_aload_n (pc := 18) dX12_costOf_18 rfl rfl ?_
    refine x_getR (jj := 27) (pc := 19) dX12_costOf_19 fX12_57 hS.1 rfl (by decide) rfl rM_27 ?_
    refine x_iload_n (pc := 22) dX12_costOf_22 rfl rfl ?_
    refine x_iconst (pc := 23) dX12_costOf_23 (by decide) ?_
    refine x_iastore (pc := 24) dX12_costOf_24 (sM_27 hS) (by omega) ?_
    have U1 : frL M (up M (m + 15) set (-1)) m := fun a i x y z => up_a (by omega)
    have E1 : RE (up M (m + 15) set (-1)) m t := hE.cg U1.k
    have P1 : RP0 (up M (m + 15) set (-1)) m t := hP.cg fun a i x => up_a (by omega)
    have C1 : ∀ s, 0 ≤ s → s < 128 → s ≠ set → up M (m + 15) set (-1) (m + 15) s = -2 ∨ up M (m + 15) set (-1) (m + 15) s = costV t s := fun s x y z => by rw [up_i z]; exact hC s x y
    have H1 : holdV (up M (m + 15) set (-1) (m + 1)) set = holdV t set := holdV_cg fun j x y => E1.1 j (by omega) y
    refine x_aload_n (pc := 25) dX12_costOf_25 rfl rfl ?_
    refine x_iload_n (pc := 26) dX12_costOf_26 rfl rfl ?_
    refine x_callV1 (pc := 27) dX12_costOf_27 rfl kX12_301 (s_isBarred hfl m t hS E1 set) hS.1 rfl rfl (Nat.le_of_ble_eq_true rfl) (k_B (fun q_27 => ?_) (fun q_27 => ?_)) n_B
    · refine x_if_ne (tgt := 42) (pc := 30) dX12_costOf_30 (by decide) (fun _ => ?_) (fun c => absurd c (by decide))
      refine x_iconst (pc := 42) dX12_costOf_42 (by decide) ?_
      refine x_ireturn (pc := 43) dX12_costOf_43 rfl (by decide) ?_
      have hv : costV t set = -1 := by
        unfold costV
        rw [if_pos (by first | exact Or.inl (by assumption) | exact Or.inr (Or.inl (by assumption)))]
      refine ⟨_, rfl, rfl, rfl, by rw [hv], U1, P1, fun s x y => ?_⟩
      by_cases e : s = set
      · subst e; rw [up_s, hv]; exact Or.inr rfl
      · exact C1 s x y e
    · refine x_if_ne (tgt := 42) (pc := 30) dX12_costOf_30 (by decide) (fun c => absurd c (by decide)) (fun _ => ?_)
      refine x_aload_n (pc := 33) dX12_costOf_33 rfl rfl ?_
      refine x_iload_n (pc := 34) dX12_costOf_34 rfl rfl ?_
      refine x_callV1 (pc := 35) dX12_costOf_35 rfl kX12_146 (s_MholderOf hfl m set hS) hS.1 rfl rfl (Nat.le_of_ble_eq_true rfl) (k_R ?_) n_R
      rewrite [H1]
      refine x_iconst (pc := 38) dX12_costOf_38 (by decide) ?_
      refine x_icmp_ne (tgt := 44) (pc := 39) dX12_costOf_39 (by decide) (fun c_39 => ?_) (fun c_39 => ?_)
      · refine x_aload_n (pc := 44) dX12_costOf_44 rfl rfl ?_
        refine x_iload_n (pc := 45) dX12_costOf_45 rfl rfl ?_
        refine x_callV1 (pc := 46) dX12_costOf_46 rfl kX12_298 (s_plan hfl m t hS E1 hK P1 set ⟨by omega, by omega⟩) hS.1 rfl rfl (Nat.le_of_ble_eq_true rfl) (k_G (fun v9 M9 hM9 => ?_)) n_G
        obtain ⟨rfl, n1, n2, n3, n4⟩ := hM9
        have E9 := E1.cg n1.k
        have F9 : frL M M9 m := U1.tr n1.l
        have C9 : ∀ s, 0 ≤ s → s < 128 → s ≠ set → M9 (m + 15) s = -2 ∨ M9 (m + 15) s = costV t s := fun s x y z => by rw [n1 _ _ (by omega) (by omega) (by omega)]; exact C1 s x y z
        have S9 : M9 (m + 15) set = -1 := (n1 _ _ (by omega) (by omega) (by omega)).trans up_s
        have hpc := pcV_or (allV t set)
        refine x_istore_n (pc := 49) dX12_costOf_49 rfl (by decide) rfl ?_
        refine x_iload_n (pc := 50) dX12_costOf_50 rfl rfl ?_
        refine x_ldcw (n := 1000000000) (pc := 51) cX12_265 (by decide) dX12_costOf_51 ?_
        refine x_icmp_eq (tgt := 80) (pc := 54) dX12_costOf_54 (by decide) (fun c_54 => ?_) (fun c_54 => ?_)
        · refine x_aload_n (pc := 80) dX12_costOf_80 rfl rfl ?_
          refine x_getR (jj := 27) (pc := 81) dX12_costOf_81 fX12_57 hS.1 rfl (by decide) rfl rM_27 ?_
          refine x_iload_n (pc := 84) dX12_costOf_84 rfl rfl ?_
          refine x_ialoadV (pc := 85) dX12_costOf_85 (sM_27 hS) (by omega) (by (repeat (first | rewrite [up_s] | rewrite [up_i (by omega)] | rewrite [up_a (by omega)] | rewrite [stM_a (by omega) (by omega)])); first | exact E9.2.1 _ (by omega) (by omega) (by omega) | rfl) (fun g_85 => ?_)
          refine x_ireturn (pc := 86) dX12_costOf_86 rfl (by decide) ?_
          have hv : costV t set = -1 := by
            unfold costV
            rw [if_pos (Or.inr (Or.inr (by omega)))]
          refine ⟨_, rfl, rfl, rfl, by rw [S9, hv], F9, n2, fun s x y => ?_⟩
          by_cases e : s = set
          · subst e; rw [S9, hv]; exact Or.inr rfl
          · exact C9 s x y e
        · refine x_aload_n (pc := 57) dX12_costOf_57 rfl rfl ?_
          refine x_getR (jj := 27) (pc := 58) dX12_costOf_58 fX12_57 hS.1 rfl (by decide) rfl rM_27 ?_
          refine x_iload_n (pc := 61) dX12_costOf_61 rfl rfl ?_
          refine x_iload_n (pc := 62) dX12_costOf_62 rfl rfl ?_
          refine x_aload_n (pc := 63) dX12_costOf_63 rfl rfl ?_
          refine x_getR (jj := 0) (pc := 64) dX12_costOf_64 fX12_9 hS.1 rfl (by decide) rfl rM_0 ?_
          refine x_sipush (pc := 67) dX12_costOf_67 (by decide) ?_
          refine x_ialoadV (pc := 70) dX12_costOf_70 (sM_0 hS) (by omega) (by (repeat (first | rewrite [up_s] | rewrite [up_i (by omega)] | rewrite [up_a (by omega)] | rewrite [stM_a (by omega) (by omega)])); first | exact E9.2.1 _ (by omega) (by omega) (by omega) | rfl) (fun g_70 => ?_)
          refine x_iload_n (pc := 71) dX12_costOf_71 rfl rfl ?_
          refine x_callS1 (pc := 72) dX12_costOf_72 rfl kX12_304 (s_sizeOf hfl set ⟨by omega, by omega⟩) rfl (Nat.le_of_ble_eq_true rfl) (k_R ?_) n_R
          refine x_iconst (pc := 75) dX12_costOf_75 (by decide) ?_
          refine x_isub (pc := 76) dX12_costOf_76 (by omega) ?_
          refine x_imul (pc := 77) dX12_costOf_77 (by omega) ?_
          refine x_iadd (pc := 78) dX12_costOf_78 (by omega) ?_
          refine x_iastore (pc := 79) dX12_costOf_79 (sM_27 hS) (by omega) ?_
          refine x_aload_n (pc := 80) dX12_costOf_80 rfl rfl ?_
          refine x_getR (jj := 27) (pc := 81) dX12_costOf_81 fX12_57 hS.1 rfl (by decide) rfl rM_27 ?_
          refine x_iload_n (pc := 84) dX12_costOf_84 rfl rfl ?_
          refine x_ialoadV (pc := 85) dX12_costOf_85 (sM_27 hS) (by omega) (by (repeat (first | rewrite [up_s] | rewrite [up_i (by omega)] | rewrite [up_a (by omega)] | rewrite [stM_a (by omega) (by omega)])); first | exact E9.2.1 _ (by omega) (by omega) (by omega) | rfl) (fun g_85 => ?_)
          refine x_ireturn (pc := 86) dX12_costOf_86 rfl (by decide) ?_
          have hv : costV t set = pcV (allV t set) + t 242 * (sumN (hb set) 7 - 1) := by
            unfold costV
            rw [if_neg (by rintro (q | q | q) <;> first | exact absurd q (by assumption) | omega)]
            omega
          refine ⟨_, rfl, rfl, rfl, by rw [hv], fun a i x y z => (up_a (by omega)).trans (F9 a i x y z), n2.cg fun a i x => up_a (by omega), fun s x y => ?_⟩
          by_cases e : s = set
          · subst e; rw [up_s, hv]; exact Or.inr rfl
          · rw [up_i e]; exact C9 s x y e
      · refine x_iconst (pc := 42) dX12_costOf_42 (by decide) ?_
        refine x_ireturn (pc := 43) dX12_costOf_43 rfl (by decide) ?_
        have hv : costV t set = -1 := by
          unfold costV
          rw [if_pos (by first | exact Or.inl (by assumption) | exact Or.inr (Or.inl (by assumption)))]
        refine ⟨_, rfl, rfl, rfl, by rw [hv], U1, P1, fun s x y => ?_⟩
        by_cases e : s = set
        · subst e; rw [up_s, hv]; exact Or.inr rfl
        · exact C1 s x y e
  · refine x_aload_n (pc := 11) dX12_costOf_11 rfl rfl ?_
    refine x_getR (jj := 27) (pc := 12) dX12_costOf_12 fX12_57 hS.1 rfl (by decide) rfl rM_27 ?_
    refine x_iload_n (pc := 15) dX12_costOf_15 rfl rfl ?_
    refine x_ialoadV (pc := 16) dX12_costOf_16 (sM_27 hS) (by omega) (by (repeat (first | rewrite [up_s] | rewrite [up_i (by omega)] | rewrite [up_a (by omega)] | rewrite [stM_a (by omega) (by omega)])); first | exact E9.2.1 _ (by omega) (by omega) (by omega) | rfl) (fun g_16 => ?_)
    refine x_ireturn (pc := 17) dX12_costOf_17 rfl (by decide) ?_
    refine ⟨_, rfl, rfl, rfl, ?_, frL.rf, hP, hC⟩
    rcases hC set (by omega) (by omega) with q | q
    · exact absurd q (by omega)
    · rw [q]
theorem s_sacksOf {l : Launch} {E : aE} {N : Nat} {S : aS} {M : aM} (hfl : l.stackTraces = false) (m : Int) (t : Int → Int) (hS : lyM S m) (hE : RE M m t) (hK : TQ t) (hP : RP0 M m t) (set : Int) (hs : 0 ≤ set ∧ set < 128) (ha : allV t set ≠ -1) : aMt l E pX12_sacksOf [(2, m), (0, set)] N S M (aG N S (fun v M' => v = (0, allV t set % 512) ∧ frN M M' m ∧ RP0 M' m t ∧ ∀ j, 0 ≤ j → j < t 244 → M' (m + 13) j = rowV t set j)) := by
  refine a_met hfl rfl (by decide +kernel) (Nat.le_of_ble_eq_true rfl) ?_
  have h6 := hK.2.2.2.2.2.1
  have hr := roomV_r hK hs
  have hsum : ∀ n : Nat, (n : Int) ≤ t 244 → -1000000 ≤ sumN (rowV t set) n ∧ sumN (rowV t set) n ≤ 1000000 := fun n hn => by
    have q := row_sum hK hs ha n hn
    omega
  refine x_aload_n (pc := 0) dX12_sacksOf_0 rfl rfl ?_
  refine x_iload_n (pc := 1) dX12_sacksOf_1 rfl rfl ?_
  refine x_callV1 (pc := 2) dX12_sacksOf_2 rfl kX12_310 (s_layPlan hfl m t hS hE hK hP set hs ha) hS.1 rfl rfl (Nat.le_of_ble_eq_true rfl) (k_U (fun M9 hM9 => ?_)) n_U
  obtain ⟨n1, n2, n3⟩ := hM9
  have hE9 := hE.cg n1.k
  refine x_iconst (pc := 5) dX12_sacksOf_5 (by decide) ?_
  refine x_istore_n (pc := 6) dX12_sacksOf_6 rfl (by decide) rfl ?_
  refine x_iconst (pc := 7) dX12_sacksOf_7 (by decide) ?_
  refine x_istore_n (pc := 8) dX12_sacksOf_8 rfl (by decide) rfl ?_
  have loop9 := a_loop1 (fun j => 0 ≤ j ∧ j ≤ t 244) (fun j => (t 244 - j).toNat) (fun j => aX l E pX12_sacksOf (aG N S (fun v M' => v = (0, allV t set % 512) ∧ frN M M' m ∧ RP0 M' m t ∧ ∀ j, 0 ≤ j → j < t 244 → M' (m + 13) j = rowV t set j)) 0 0 N S M9 9 [(0, (2, m)), (2, (0, sumN (rowV t set) j.toNat)), (3, (0, j))] []) (by
    intro j hI ih1
    refine x_iload_n (pc := 9) dX12_sacksOf_9 rfl rfl ?_
    refine x_aload_n (pc := 10) dX12_sacksOf_10 rfl rfl ?_
    refine x_getR (jj := 0) (pc := 11) dX12_sacksOf_11 fX12_9 hS.1 rfl (by decide) rfl rM_0 ?_
    refine x_sipush (pc := 14) dX12_sacksOf_14 (by decide) ?_
    refine x_ialoadV (pc := 17) dX12_sacksOf_17 (sM_0 hS) (by omega) (by (repeat (first | rewrite [up_s] | rewrite [up_i (by omega)] | rewrite [up_a (by omega)] | rewrite [stM_a (by omega) (by omega)])); first | exact hE9.2.1 _ (by omega) (by omega) (by omega) | exact n3 _ (by omega) (by omega) | rfl) (fun g_17 => ?_)
    refine x_icmp_ge (tgt := 36) (pc := 18) dX12_sacksOf_18 (by decide) (fun c_18 => ?_) (fun c_18 => ?_)
    · refine x_iload_n (pc := 36) dX12_sacksOf_36 rfl rfl ?_
      refine x_ireturn (pc := 37) dX12_sacksOf_37 rfl (by decide) ?_
      refine ⟨_, rfl, rfl, rfl, ?_, n1, n2, n3⟩
      rw [← row_all hK hs ha, show j = t 244 by omega]
    · refine x_iload_n (pc := 21) dX12_sacksOf_21 rfl rfl ?_
      refine x_aload_n (pc := 22) dX12_sacksOf_22 rfl rfl ?_
      refine x_getR (jj := 25) (pc := 23) dX12_sacksOf_23 fX12_51 hS.1 rfl (by decide) rfl rM_25 ?_
      refine x_iload_n (pc := 26) dX12_sacksOf_26 rfl rfl ?_
      refine x_ialoadV (pc := 27) dX12_sacksOf_27 (sM_25 hS) (by omega) (by (repeat (first | rewrite [up_s] | rewrite [up_i (by omega)] | rewrite [up_a (by omega)] | rewrite [stM_a (by omega) (by omega)])); first | exact hE9.2.1 _ (by omega) (by omega) (by omega) | exact n3 _ (by omega) (by omega) | rfl) (fun g_27 => ?_)
      refine x_iadd (pc := 28) dX12_sacksOf_28 (by have x1 := hsum j.toNat (by omega); have x2 := hsum (j + 1).toNat (by omega); rw [sumN_1 (rowV t set) hI.1] at x2; omega) ?_
      refine x_istore_n (pc := 29) dX12_sacksOf_29 rfl (by decide) rfl ?_
      refine x_iinc (pc := 30) dX12_sacksOf_30 rfl (by omega) (by decide) rfl ?_
      refine x_goto (tgt := 9) (pc := 33) dX12_sacksOf_33 (by decide) ?_
      have e := sumN_1 (rowV t set) hI.1
      refine x_lo (lo' := [(0, (2, m)), (2, (0, sumN (rowV t set) j.toNat + rowV t set j)), (3, (0, j + 1))]) ⟨rfl, rfl, rfl, trivial⟩ ?_
      have z := ih1 (j + 1) ⟨by omega, by omega⟩ (by omega)
      rw [e] at z
      exact z)
  exact x_lo (lo' := [(0, (2, m)), (2, (0, 0)), (3, (0, 0))]) ⟨rfl, rfl, rfl, trivial⟩ (loop9 0 ⟨by omega, by omega⟩)
def isSetB (A : aM) (s : Int) : Prop := 0 < s ∧ s < b_shl 1 (A 0 0)
theorem isSet_lt {A : aM} {s : Int} (hA : TOK (A 0)) (h : 0 < s ∧ s < b_shl 1 (A 0 0)) : 0 < s ∧ s < 128 := by
  have t0 := hA.1
  have hs := bt_fin (n := 8) (m := 1) (P := fun i _ => 1 ≤ b_shl 1 i ∧ b_shl 1 i ≤ 128) (by decide +kernel) (a := A 0 0) (by omega) (b := 0) (by omega)
  omega
def spCost (A : aM) (s : Int) : Int × Int × aM := if ¬ (0 < s ∧ s < b_shl 1 (A 0 0)) then (1, 0, A) else (0, costV (A 0) s, A)
theorem s_Mcost {l : Launch} {E : aE} {N : Nat} {S : aS} {M : aM} (hfl : l.stackTraces = false) (s : Int) (m : Int) (A : aM) (hS : lyM S m) (hR : RM M m A) (hA : TOK (A 0)) : aMt l E pX12_cost [(2, m), (0, s)] N S M (aG N S (opM M m 0 (spCost A s))) := by
  refine a_met hfl rfl (by decide +kernel) (Nat.le_of_ble_eq_true rfl) ?_
  refine x_aload_n (pc := 0) dX12_cost_0 rfl rfl ?_
  refine x_iconst (pc := 1) dX12_cost_1 (by decide) ?_
  refine x_putI (jj := 3) (pc := 2) dX12_cost_2 fX12_103 hS.1 rfl (by decide) rfl ?_
  refine x_memI (fun M1 hM1 => ?_)
  have R1 : RM M1 m A := by rw [hM1]; exact hR.up3
  have F1 : frM M M1 m := by rw [hM1]; exact frM.rf.up (by omega)
  have T1 : M1 m 3 = 0 := by rw [hM1]; exact up_s
  clear hM1
  have e0 : M1 (m + 1) 0 = A 0 0 := R1.1.1 0 (by omega) (by omega)
  have t0 := hA.1
  refine x_aload_n (pc := 5) dX12_cost_5 rfl rfl ?_
  refine x_iload_n (pc := 6) dX12_cost_6 rfl rfl ?_
  refine x_callV1 (pc := 7) dX12_cost_7 rfl kX12_143 (s_isSet hfl m s hS) hS.1 rfl rfl (Nat.le_of_ble_eq_true rfl) (k_B (fun q_7 => ?_) (fun q_7 => ?_)) n_B
  · rw [e0] at q_7
    refine x_if_eq (tgt := 21) (pc := 10) dX12_cost_10 (by decide) (fun c => absurd c (by decide)) (fun _ => ?_)
    refine x_aload_n (pc := 13) dX12_cost_13 rfl rfl ?_
    refine x_iload_n (pc := 14) dX12_cost_14 rfl rfl ?_
    refine x_callV1 (pc := 15) dX12_cost_15 rfl kX12_307 (s_MWcostOf hfl m (core (A 0)) hS R1.re (core_tq hA.tq) R1.rp0 (R1.2.2.1.st (by first | omega | exact isSet_0 (by omega) | exact isSet_0 (s := s) (by omega) | exact isSet_0 (s := x) (by omega))) s (isSet_lt hA (by omega))) hS.1 rfl rfl (Nat.le_of_ble_eq_true rfl) (k_G (fun v9 M9 hM9 => ?_)) n_G
    obtain ⟨rfl, f9, p9, c9⟩ := hM9
    have R9 : RM M9 m A := R1.mk9 f9.k p9 c9
    have T9 : M9 m 3 = 0 := (f9 m 3 (by omega) (by omega) (by omega)).trans T1
    have F9 : frM M M9 m := F1.tr f9.k.fr
    have h6 := hA.tq.2.2.2.2.2.1
    rewrite [costV_cg (core_same _) (by rw [core_hi (by omega)]; omega)]
    refine x_goto (tgt := 26) (pc := 18) dX12_cost_18 (by decide) ?_
    refine x_ireturn (pc := 26) dX12_cost_26 rfl (by decide) ?_
    have e9 : spCost A s = (0, costV (A 0) s, A) := by
      unfold spCost
      (repeat' split) <;> first | rfl | (exfalso; omega)
    rw [e9]
    exact ⟨_, rfl, rfl, rfl, rfl, T9, fun _ => rfl, R9, F9⟩
  · rw [e0] at q_7
    refine x_if_eq (tgt := 21) (pc := 10) dX12_cost_10 (by decide) (fun _ => ?_) (fun c => absurd c (by decide))
    refine x_aload_n (pc := 21) dX12_cost_21 rfl rfl ?_
    refine x_iconst (pc := 22) dX12_cost_22 (by decide) ?_
    refine x_callV1 (pc := 23) dX12_cost_23 rfl kX12_116 (s_fails hfl m _ hS) hS.1 rfl rfl (Nat.le_of_ble_eq_true rfl) (k_G (fun v9 M9 hM9 => ?_)) n_G
    obtain ⟨rfl, rfl⟩ := hM9
    refine x_ireturn (pc := 26) dX12_cost_26 rfl (by decide) ?_
    have e9 : spCost A s = (1, 0, A) := by
      unfold spCost
      (repeat' split) <;> first | rfl | (exfalso; omega)
    rw [e9]
    exact ⟨_, rfl, rfl, rfl, rfl, up_s, fun q => absurd q (show ¬ (1 : Int) = 0 by decide), R1.up3, F1.up (by omega)⟩
def spBought (A : aM) (s k : Int) : Int × Int × aM := if k ≠ -1 ∧ ¬ (0 ≤ k ∧ k ≤ A 0 244 - 1) then (1, 0, A) else if ¬ (0 < s ∧ s < b_shl 1 (A 0 0)) then (2, 0, A) else (0, if costV (A 0) s = -1 then -1 else if k = -1 then allV (A 0) s % 512 else rowV (A 0) s k, A)
theorem all_of_cost {t : Int → Int} {s : Int} (h : costV t s ≠ -1) : allV t s ≠ -1 := fun q => h (by unfold costV; rw [if_pos (Or.inr (Or.inr q))])
theorem s_Mbought {l : Launch} {E : aE} {N : Nat} {S : aS} {M : aM} (hfl : l.stackTraces = false) (s k : Int) (m : Int) (A : aM) (hS : lyM S m) (hR : RM M m A) (hA : TOK (A 0)) : aMt l E pX12_bought [(2, m), (0, s), (0, k)] N S M (aG N S (opM M m 0 (spBought A s k))) := by
  refine a_met hfl rfl (by decide +kernel) (Nat.le_of_ble_eq_true rfl) ?_
  refine x_aload_n (pc := 0) dX12_bought_0 rfl rfl ?_
  refine x_iconst (pc := 1) dX12_bought_1 (by decide) ?_
  refine x_putI (jj := 3) (pc := 2) dX12_bought_2 fX12_103 hS.1 rfl (by decide) rfl ?_
  refine x_memI (fun M1 hM1 => ?_)
  have R1 : RM M1 m A := by rw [hM1]; exact hR.up3
  have F1 : frM M M1 m := by rw [hM1]; exact frM.rf.up (by omega)
  have T1 : M1 m 3 = 0 := by rw [hM1]; exact up_s
  clear hM1
  have e0 : M1 (m + 1) 0 = A 0 0 := R1.1.1 0 (by omega) (by omega)
  have t0 := hA.1
  refine x_iload_n (pc := 5) dX12_bought_5 rfl rfl ?_
  refine x_iconst (pc := 6) dX12_bought_6 (by decide) ?_
  refine x_icmp_eq (tgt := 36) (pc := 7) dX12_bought_7 (by decide) (fun c_7 => ?_) (fun c_7 => ?_)
  · refine x_aload_n (pc := 36) dX12_bought_36 rfl rfl ?_
    refine x_iload_n (pc := 37) dX12_bought_37 rfl rfl ?_
    refine x_callV1 (pc := 38) dX12_bought_38 rfl kX12_143 (s_isSet hfl m s hS) hS.1 rfl rfl (Nat.le_of_ble_eq_true rfl) (k_B (fun q_38 => ?_) (fun q_38 => ?_)) n_B
    · rw [e0] at q_38
      refine x_if_ne (tgt := 50) (pc := 41) dX12_bought_41 (by decide) (fun _ => ?_) (fun c => absurd c (by decide))
      refine x_aload_n (pc := 50) dX12_bought_50 rfl rfl ?_
      refine x_iload_n (pc := 51) dX12_bought_51 rfl rfl ?_
      refine x_callV1 (pc := 52) dX12_bought_52 rfl kX12_307 (s_MWcostOf hfl m (core (A 0)) hS R1.re (core_tq hA.tq) R1.rp0 (R1.2.2.1.st (by first | omega | exact isSet_0 (by omega) | exact isSet_0 (s := s) (by omega) | exact isSet_0 (s := x) (by omega))) s (isSet_lt hA (by omega))) hS.1 rfl rfl (Nat.le_of_ble_eq_true rfl) (k_G (fun v9 M9 hM9 => ?_)) n_G
      obtain ⟨rfl, f9, p9, c9⟩ := hM9
      have R9 : RM M9 m A := R1.mk9 f9.k p9 c9
      have T9 : M9 m 3 = 0 := (f9 m 3 (by omega) (by omega) (by omega)).trans T1
      have F9 : frM M M9 m := F1.tr f9.k.fr
      have h6 := hA.tq.2.2.2.2.2.1
      rewrite [costV_cg (core_same _) (by rw [core_hi (by omega)]; omega)]
      refine x_iconst (pc := 55) dX12_bought_55 (by decide) ?_
      refine x_icmp_ne (tgt := 61) (pc := 56) dX12_bought_56 (by decide) (fun c_56 => ?_) (fun c_56 => ?_)
      · refine x_aload_n (pc := 61) dX12_bought_61 rfl rfl ?_
        refine x_iload_n (pc := 62) dX12_bought_62 rfl rfl ?_
        have ha9 : allV (core (A 0)) s ≠ -1 := by
          rw [allV_cg (core_same (A 0) |>.p (by rw [core_hi (by omega)]; omega)) (by rw [core_hi (by omega)]; omega)]
          exact all_of_cost (by assumption)
        refine x_callV1 (pc := 63) dX12_bought_63 rfl kX12_313 (s_sacksOf hfl m (core (A 0)) hS R9.re (core_tq hA.tq) R9.rp0 s ⟨by have := isSet_lt hA (s := s) (by omega); omega, by have := isSet_lt hA (s := s) (by omega); omega⟩ ha9) hS.1 rfl rfl (Nat.le_of_ble_eq_true rfl) (k_G (fun v8 M8 hM8 => ?_)) n_G
        obtain ⟨rfl, f8, p8, r8⟩ := hM8
        have R8 : RM M8 m A := R9.mk9w f8.k p8 (RCw.cg R9.2.2.1 fun i => f8 _ _ (by omega) (by omega) (by omega))
        have T8 : M8 m 3 = 0 := (f8 m 3 (by omega) (by omega) (by omega)).trans T9
        have F8 : frM M M8 m := F9.tr f8.k.fr
        rewrite [allV_cg (core_same (A 0) |>.p (by rw [core_hi (by omega)]; omega)) (by rw [core_hi (by omega)]; omega)]
        refine x_istore_n (pc := 66) dX12_bought_66 rfl (by decide) rfl ?_
        refine x_iload_n (pc := 67) dX12_bought_67 rfl rfl ?_
        refine x_iconst (pc := 68) dX12_bought_68 (by decide) ?_
        refine x_icmp_ne (tgt := 76) (pc := 69) dX12_bought_69 (by decide) (fun c_69 => ?_) (fun c_69 => ?_)
        · refine x_aload_n (pc := 76) dX12_bought_76 rfl rfl ?_
          refine x_getR (jj := 25) (pc := 77) dX12_bought_77 fX12_51 hS.1 rfl (by decide) rfl rM_25 ?_
          refine x_iload_n (pc := 80) dX12_bought_80 rfl rfl ?_
          refine x_ialoadV (pc := 81) dX12_bought_81 (sM_25 hS) (by omega) (by (repeat (first | rewrite [up_s] | rewrite [up_i (by omega)] | rewrite [up_a (by omega)] | rewrite [stM_a (by omega) (by omega)])); first | exact R1.1.1 _ (by omega) (by omega) | rfl) (fun g_81 => ?_)
          refine x_ireturn (pc := 82) dX12_bought_82 rfl (by decide) ?_
          exfalso; omega
        · refine x_iload_n (pc := 72) dX12_bought_72 rfl rfl ?_
          refine x_goto (tgt := 82) (pc := 73) dX12_bought_73 (by decide) ?_
          refine x_ireturn (pc := 82) dX12_bought_82 rfl (by decide) ?_
          have e9 : spBought A s k = (0, allV (A 0) s % 512, A) := by
            unfold spBought
            (repeat' split) <;> first | rfl | (exfalso; omega)
          rw [e9]
          exact ⟨_, rfl, rfl, rfl, rfl, T8, fun _ => rfl, R8, F8⟩
      · refine x_iconst (pc := 59) dX12_bought_59 (by decide) ?_
        refine x_ireturn (pc := 60) dX12_bought_60 rfl (by decide) ?_
        have e9 : spBought A s k = (0, -1, A) := by
          unfold spBought
          (repeat' split) <;> first | rfl | (exfalso; omega)
        rw [e9]
        exact ⟨_, rfl, rfl, rfl, rfl, T9, fun _ => rfl, R9, F9⟩
    · rw [e0] at q_38
      refine x_if_ne (tgt := 50) (pc := 41) dX12_bought_41 (by decide) (fun c => absurd c (by decide)) (fun _ => ?_)
      refine x_aload_n (pc := 44) dX12_bought_44 rfl rfl ?_
      refine x_iconst (pc := 45) dX12_bought_45 (by decide) ?_
      refine x_callV1 (pc := 46) dX12_bought_46 rfl kX12_116 (s_fails hfl m _ hS) hS.1 rfl rfl (Nat.le_of_ble_eq_true rfl) (k_G (fun v9 M9 hM9 => ?_)) n_G
      obtain ⟨rfl, rfl⟩ := hM9
      refine x_ireturn (pc := 49) dX12_bought_49 rfl (by decide) ?_
      have e9 : spBought A s k = (2, 0, A) := by
        unfold spBought
        (repeat' split) <;> first | rfl | (exfalso; omega)
      rw [e9]
      exact ⟨_, rfl, rfl, rfl, rfl, up_s, fun q => absurd q (show ¬ (2 : Int) = 0 by decide), R1.up3, F1.up (by omega)⟩
  · refine x_iload_n (pc := 10) dX12_bought_10 rfl rfl ?_
    refine x_i2l (pc := 11) dX12_bought_11 ?_
    refine x_lconst0 (pc := 12) dX12_bought_12 ?_
    refine x_aload_n (pc := 13) dX12_bought_13 rfl rfl ?_
    refine x_getR (jj := 0) (pc := 14) dX12_bought_14 fX12_9 hS.1 rfl (by decide) rfl rM_0 ?_
    refine x_sipush (pc := 17) dX12_bought_17 (by decide) ?_
    refine x_ialoadV (pc := 20) dX12_bought_20 (sM_0 hS) (by omega) (by (repeat (first | rewrite [up_s] | rewrite [up_i (by omega)] | rewrite [up_a (by omega)] | rewrite [stM_a (by omega) (by omega)])); first | exact R1.1.1 _ (by omega) (by omega) | rfl) (fun g_20 => ?_)
    refine x_iconst (pc := 21) dX12_bought_21 (by decide) ?_
    refine x_isub (pc := 22) dX12_bought_22 (by have := hA.tq.2.2.2.2.2.1; omega) ?_
    refine x_i2l (pc := 23) dX12_bought_23 ?_
    refine x_callS3 (pc := 24) dX12_bought_24 rfl kX12_106 (s_within hfl _ _ _) rfl (Nat.le_of_ble_eq_true rfl) (k_B (fun q_24 => ?_) (fun q_24 => ?_)) n_B
    · refine x_if_ne (tgt := 36) (pc := 27) dX12_bought_27 (by decide) (fun _ => ?_) (fun c => absurd c (by decide))
      refine x_aload_n (pc := 36) dX12_bought_36 rfl rfl ?_
      refine x_iload_n (pc := 37) dX12_bought_37 rfl rfl ?_
      refine x_callV1 (pc := 38) dX12_bought_38 rfl kX12_143 (s_isSet hfl m s hS) hS.1 rfl rfl (Nat.le_of_ble_eq_true rfl) (k_B (fun q_38 => ?_) (fun q_38 => ?_)) n_B
      · rw [e0] at q_38
        refine x_if_ne (tgt := 50) (pc := 41) dX12_bought_41 (by decide) (fun _ => ?_) (fun c => absurd c (by decide))
        refine x_aload_n (pc := 50) dX12_bought_50 rfl rfl ?_
        refine x_iload_n (pc := 51) dX12_bought_51 rfl rfl ?_
        refine x_callV1 (pc := 52) dX12_bought_52 rfl kX12_307 (s_MWcostOf hfl m (core (A 0)) hS R1.re (core_tq hA.tq) R1.rp0 (R1.2.2.1.st (by first | omega | exact isSet_0 (by omega) | exact isSet_0 (s := s) (by omega) | exact isSet_0 (s := x) (by omega))) s (isSet_lt hA (by omega))) hS.1 rfl rfl (Nat.le_of_ble_eq_true rfl) (k_G (fun v9 M9 hM9 => ?_)) n_G
        obtain ⟨rfl, f9, p9, c9⟩ := hM9
        have R9 : RM M9 m A := R1.mk9 f9.k p9 c9
        have T9 : M9 m 3 = 0 := (f9 m 3 (by omega) (by omega) (by omega)).trans T1
        have F9 : frM M M9 m := F1.tr f9.k.fr
        have h6 := hA.tq.2.2.2.2.2.1
        rewrite [costV_cg (core_same _) (by rw [core_hi (by omega)]; omega)]
        refine x_iconst (pc := 55) dX12_bought_55 (by decide) ?_
        refine x_icmp_ne (tgt := 61) (pc := 56) dX12_bought_56 (by decide) (fun c_56 => ?_) (fun c_56 => ?_)
        · refine x_aload_n (pc := 61) dX12_bought_61 rfl rfl ?_
          refine x_iload_n (pc := 62) dX12_bought_62 rfl rfl ?_
          have ha9 : allV (core (A 0)) s ≠ -1 := by
            rw [allV_cg (core_same (A 0) |>.p (by rw [core_hi (by omega)]; omega)) (by rw [core_hi (by omega)]; omega)]
            exact all_of_cost (by assumption)
          refine x_callV1 (pc := 63) dX12_bought_63 rfl kX12_313 (s_sacksOf hfl m (core (A 0)) hS R9.re (core_tq hA.tq) R9.rp0 s ⟨by have := isSet_lt hA (s := s) (by omega); omega, by have := isSet_lt hA (s := s) (by omega); omega⟩ ha9) hS.1 rfl rfl (Nat.le_of_ble_eq_true rfl) (k_G (fun v8 M8 hM8 => ?_)) n_G
          obtain ⟨rfl, f8, p8, r8⟩ := hM8
          have R8 : RM M8 m A := R9.mk9w f8.k p8 (RCw.cg R9.2.2.1 fun i => f8 _ _ (by omega) (by omega) (by omega))
          have T8 : M8 m 3 = 0 := (f8 m 3 (by omega) (by omega) (by omega)).trans T9
          have F8 : frM M M8 m := F9.tr f8.k.fr
          rewrite [allV_cg (core_same (A 0) |>.p (by rw [core_hi (by omega)]; omega)) (by rw [core_hi (by omega)]; omega)]
          refine x_istore_n (pc := 66) dX12_bought_66 rfl (by decide) rfl ?_
          refine x_iload_n (pc := 67) dX12_bought_67 rfl rfl ?_
          refine x_iconst (pc := 68) dX12_bought_68 (by decide) ?_
          refine x_icmp_ne (tgt := 76) (pc := 69) dX12_bought_69 (by decide) (fun c_69 => ?_) (fun c_69 => ?_)
          · refine x_aload_n (pc := 76) dX12_bought_76 rfl rfl ?_
            refine x_getR (jj := 25) (pc := 77) dX12_bought_77 fX12_51 hS.1 rfl (by decide) rfl rM_25 ?_
            refine x_iload_n (pc := 80) dX12_bought_80 rfl rfl ?_
            refine x_ialoadV (pc := 81) dX12_bought_81 (sM_25 hS) (by omega) (by (repeat (first | rewrite [up_s] | rewrite [up_i (by omega)] | rewrite [up_a (by omega)] | rewrite [stM_a (by omega) (by omega)])); first | exact R1.1.1 _ (by omega) (by omega) | rfl) (fun g_81 => ?_)
            refine x_ireturn (pc := 82) dX12_bought_82 rfl (by decide) ?_
            have q8 := r8 k (by omega) (by rw [core_hi (by omega)]; omega)
            rw [rowV_cg (core_same (A 0) |>.p (by rw [core_hi (by omega)]; omega)) (by rw [core_hi (by omega)]; omega)] at q8
            rw [q8]
            have e9 : spBought A s k = (0, rowV (A 0) s k, A) := by
              unfold spBought
              (repeat' split) <;> first | rfl | (exfalso; omega)
            rw [e9]
            exact ⟨_, rfl, rfl, rfl, rfl, T8, fun _ => rfl, R8, F8⟩
          · refine x_iload_n (pc := 72) dX12_bought_72 rfl rfl ?_
            refine x_goto (tgt := 82) (pc := 73) dX12_bought_73 (by decide) ?_
            refine x_ireturn (pc := 82) dX12_bought_82 rfl (by decide) ?_
            exfalso; omega
        · refine x_iconst (pc := 59) dX12_bought_59 (by decide) ?_
          refine x_ireturn (pc := 60) dX12_bought_60 rfl (by decide) ?_
          have e9 : spBought A s k = (0, -1, A) := by
            unfold spBought
            (repeat' split) <;> first | rfl | (exfalso; omega)
          rw [e9]
          exact ⟨_, rfl, rfl, rfl, rfl, T9, fun _ => rfl, R9, F9⟩
      · rw [e0] at q_38
        refine x_if_ne (tgt := 50) (pc := 41) dX12_bought_41 (by decide) (fun c => absurd c (by decide)) (fun _ => ?_)
        refine x_aload_n (pc := 44) dX12_bought_44 rfl rfl ?_
        refine x_iconst (pc := 45) dX12_bought_45 (by decide) ?_
        refine x_callV1 (pc := 46) dX12_bought_46 rfl kX12_116 (s_fails hfl m _ hS) hS.1 rfl rfl (Nat.le_of_ble_eq_true rfl) (k_G (fun v9 M9 hM9 => ?_)) n_G
        obtain ⟨rfl, rfl⟩ := hM9
        refine x_ireturn (pc := 49) dX12_bought_49 rfl (by decide) ?_
        have e9 : spBought A s k = (2, 0, A) := by
          unfold spBought
          (repeat' split) <;> first | rfl | (exfalso; omega)
        rw [e9]
        exact ⟨_, rfl, rfl, rfl, rfl, up_s, fun q => absurd q (show ¬ (2 : Int) = 0 by decide), R1.up3, F1.up (by omega)⟩
    · refine x_if_ne (tgt := 36) (pc := 27) dX12_bought_27 (by decide) (fun c => absurd c (by decide)) (fun _ => ?_)
      refine x_aload_n (pc := 30) dX12_bought_30 rfl rfl ?_
      refine x_iconst (pc := 31) dX12_bought_31 (by decide) ?_
      refine x_callV1 (pc := 32) dX12_bought_32 rfl kX12_116 (s_fails hfl m _ hS) hS.1 rfl rfl (Nat.le_of_ble_eq_true rfl) (k_G (fun v9 M9 hM9 => ?_)) n_G
      obtain ⟨rfl, rfl⟩ := hM9
      refine x_ireturn (pc := 35) dX12_bought_35 rfl (by decide) ?_
      have e9 : spBought A s k = (1, 0, A) := by
        unfold spBought
        (repeat' split) <;> first | rfl | (exfalso; omega)
      rw [e9]
      exact ⟨_, rfl, rfl, rfl, rfl, up_s, fun q => absurd q (show ¬ (1 : Int) = 0 by decide), R1.up3, F1.up (by omega)⟩
