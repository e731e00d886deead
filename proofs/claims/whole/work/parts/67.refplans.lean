/-! the reference's plans (1) -/
theorem firstB_lt {p : Int → Bool} : ∀ n : Nat, ∀ i : Int, 0 ≤ i → i < firstB p n → p i = false
  | 0, i, a, b => by
    have e : firstB p 0 = -1 := rfl
    omega
  | n + 1, i, a, b => by
    unfold firstB at b
    by_cases e : firstB p n = -1
    · rw [if_pos e] at b
      split at b
      · exact firstB_none.mp e i a b
      · omega
    · rw [if_neg e] at b
      exact firstB_lt n i a b
def sR (t : Int → Int) (set : Int) (n : Nat) : Int := sumN (fun h => if hb set h = 1 then t (1 + h) else 0) n
def sW (t : Int → Int) (set j : Int) (n : Nat) : Int := sumN (fun h => if hb set h = 1 then t (8 + 6 * h + j) else 0) n
theorem sR_1 {t : Int → Int} {set i : Int} (h : 0 ≤ i) : sR t set (i + 1).toNat = sR t set i.toNat + (if hb set i = 1 then t (1 + i) else 0) := sumN_1 _ h
theorem sW_1 {t : Int → Int} {set j i : Int} (h : 0 ≤ i) : sW t set j (i + 1).toNat = sW t set j i.toNat + (if hb set i = 1 then t (8 + 6 * i + j) else 0) := sumN_1 _ h
theorem sR_r {t : Int → Int} {set i : Int} (hK : TQ t) (h : 0 ≤ i ∧ i ≤ 7) : 0 ≤ sR t set i.toNat ∧ sR t set i.toNat ≤ 56 := by
  have z := sumN_le (f := fun h => if hb set h = 1 then t (1 + h) else 0) (c := 8) (n := i.toNat) (fun j a b => by
    have := hK.2.1 j a (by omega)
    split <;> omega)
  have e : sR t set i.toNat = sumN (fun h => if hb set h = 1 then t (1 + h) else 0) i.toNat := rfl
  omega
theorem sW_r {t : Int → Int} {set k i : Int} (hK : TQ t) (h : 0 ≤ i ∧ i ≤ 7) (hk : 0 ≤ k ∧ k < 6) : 0 ≤ sW t set k i.toNat ∧ sW t set k i.toNat ≤ 56 := by
  have z := sumN_le (f := fun h => if hb set h = 1 then t (8 + 6 * h + k) else 0) (c := 8) (n := i.toNat) (fun j a b => by
    have := hK.2.2.1 (6 * j + k) (by omega) (by omega)
    rw [show 8 + (6 * j + k) = 8 + 6 * j + k by omega] at this
    split <;> omega)
  have e : sW t set k i.toNat = sumN (fun h => if hb set h = 1 then t (8 + 6 * h + k) else 0) i.toNat := rfl
  omega
/-- just the plan's rows -/
def frN (M M' : aM) (m : Int) : Prop := ∀ a i : Int, (a = m → i ≠ 19 ∧ i ≠ 28) → ¬ (m + 6 ≤ a ∧ a < m + 9) → ¬ (m + 11 ≤ a ∧ a < m + 15) → M' a i = M a i
theorem frN.rf {M : aM} {m : Int} : frN M M m := fun _ _ _ _ _ => rfl
theorem frN.tr {M M' M'' : aM} {m : Int} (h : frN M M' m) (h' : frN M' M'' m) : frN M M'' m := fun a i x y z => (h' a i x y z).trans (h a i x y z)
theorem frN.k {M M' : aM} {m : Int} (h : frN M M' m) : frK M M' m := fun a i x y z => h a i (fun q => by have := x q; omega) y (by omega)
theorem frZ.n {M M' : aM} {m : Int} (h : frZ M M' m) : frN M M' m := fun a i x y z => h a i (fun q => (x q).1) y
/-- just wants and cells -/
def frW (M M' : aM) (m : Int) : Prop := ∀ a i : Int, (a = m → i ≠ 28) → a ≠ m + 14 → M' a i = M a i
theorem frW.up {M M' : aM} {m a i v : Int} (h : frW M M' m) (ha : (a = m ∧ i = 28) ∨ a = m + 14) : frW M (up M' a i v) m := fun b j x y => (if_neg (by omega)).trans (h b j x y)
theorem frW.n {M M' : aM} {m : Int} (h : frW M M' m) : frN M M' m := fun a i x y z => h a i (fun q => (x q).2) (by omega)
def pcV (v : Int) : Int := if v = -1 then 1000000000 else v / 512
def psV (v : Int) : Int := if v = -1 then 0 else v % 512
theorem pcV_or (v : Int) : (v = -1 ∧ pcV v = 1000000000 ∧ psV v = 0) ∨ (v ≠ -1 ∧ pcV v = v / 512 ∧ psV v = v % 512) := by
  unfold pcV psV
  by_cases e : v = -1
  · rw [if_pos e, if_pos e]; exact Or.inl ⟨e, rfl, rfl⟩
  · rw [if_neg e, if_neg e]; exact Or.inr ⟨e, rfl, rfl⟩
theorem RP0.cg {M M' : aM} {m : Int} {t : Int → Int} (h : RP0 M m t) (f : ∀ a i, (a = m ∧ i = 19) ∨ (m + 6 ≤ a ∧ a < m + 9) → M' a i = M a i) : RP0 M' m t := by
  refine ⟨?_, (f _ _ (by omega)).trans h.2.1, (f _ _ (by omega)).trans h.2.2⟩
  rcases h.1 with g | ⟨g, g2⟩
  · exact Or.inl ((f _ _ (by omega)).trans g)
  · exact Or.inr ⟨(f _ _ (by omega)).trans g, fun q a b => ⟨(f _ _ (by omega)).trans (g2 q a b).1, fun z => (f _ _ (by omega)).trans ((g2 q a b).2 z)⟩⟩
theorem dX12_sums_0 : decode cX12_sums 0 = .ok (.aload_n 0, 1) := by decide +kernel
theorem dX12_sums_1 : decode cX12_sums 1 = .ok (.iconst 0, 1) := by decide +kernel
theorem dX12_sums_2 : decode cX12_sums 2 = .ok (.putfield 282, 3) := by decide +kernel
theorem dX12_sums_5 : decode cX12_sums 5 = .ok (.iconst 0, 1) := by decide +kernel
theorem dX12_sums_6 : decode cX12_sums 6 = .ok (.istore_n 2, 1) := by decide +kernel
theorem dX12_sums_7 : decode cX12_sums 7 = .ok (.iload_n 2, 1) := by decide +kernel
theorem dX12_sums_8 : decode cX12_sums 8 = .ok (.bipush 6, 2) := by decide +kernel
theorem dX12_sums_10 : decode cX12_sums 10 = .ok (.if_icmp .ge 16, 3) := by decide +kernel
theorem dX12_sums_13 : decode cX12_sums 13 = .ok (.aload_n 0, 1) := by decide +kernel
theorem dX12_sums_14 : decode cX12_sums 14 = .ok (.getfield 54, 3) := by decide +kernel
theorem dX12_sums_17 : decode cX12_sums 17 = .ok (.iload_n 2, 1) := by decide +kernel
theorem dX12_sums_18 : decode cX12_sums 18 = .ok (.iconst 0, 1) := by decide +kernel
theorem dX12_sums_19 : decode cX12_sums 19 = .ok (.iastore, 1) := by decide +kernel
theorem dX12_sums_20 : decode cX12_sums 20 = .ok (.iinc 2 1, 3) := by decide +kernel
theorem dX12_sums_23 : decode cX12_sums 23 = .ok (.goto (-16), 3) := by decide +kernel
theorem dX12_sums_26 : decode cX12_sums 26 = .ok (.iconst 0, 1) := by decide +kernel
theorem dX12_sums_27 : decode cX12_sums 27 = .ok (.istore_n 2, 1) := by decide +kernel
theorem dX12_sums_28 : decode cX12_sums 28 = .ok (.iload_n 2, 1) := by decide +kernel
theorem dX12_sums_29 : decode cX12_sums 29 = .ok (.bipush 7, 2) := by decide +kernel
theorem dX12_sums_31 : decode cX12_sums 31 = .ok (.if_icmp .ge 74, 3) := by decide +kernel
theorem dX12_sums_34 : decode cX12_sums 34 = .ok (.iload_n 1, 1) := by decide +kernel
theorem dX12_sums_35 : decode cX12_sums 35 = .ok (.iload_n 2, 1) := by decide +kernel
theorem dX12_sums_36 : decode cX12_sums 36 = .ok (.invokestatic 136, 3) := by decide +kernel
theorem dX12_sums_39 : decode cX12_sums 39 = .ok (.ifCond .ne 6, 3) := by decide +kernel
theorem dX12_sums_42 : decode cX12_sums 42 = .ok (.goto 57, 3) := by decide +kernel
theorem dX12_sums_45 : decode cX12_sums 45 = .ok (.aload_n 0, 1) := by decide +kernel
theorem dX12_sums_46 : decode cX12_sums 46 = .ok (.dup, 1) := by decide +kernel
theorem dX12_sums_47 : decode cX12_sums 47 = .ok (.getfield 282, 3) := by decide +kernel
theorem dX12_sums_50 : decode cX12_sums 50 = .ok (.aload_n 0, 1) := by decide +kernel
theorem dX12_sums_51 : decode cX12_sums 51 = .ok (.getfield 9, 3) := by decide +kernel
theorem dX12_sums_54 : decode cX12_sums 54 = .ok (.iconst 1, 1) := by decide +kernel
theorem dX12_sums_55 : decode cX12_sums 55 = .ok (.iload_n 2, 1) := by decide +kernel
theorem dX12_sums_56 : decode cX12_sums 56 = .ok (.iadd, 1) := by decide +kernel
theorem dX12_sums_57 : decode cX12_sums 57 = .ok (.iaload, 1) := by decide +kernel
theorem dX12_sums_58 : decode cX12_sums 58 = .ok (.iadd, 1) := by decide +kernel
theorem dX12_sums_59 : decode cX12_sums 59 = .ok (.putfield 282, 3) := by decide +kernel
theorem dX12_sums_62 : decode cX12_sums 62 = .ok (.iconst 0, 1) := by decide +kernel
theorem dX12_sums_63 : decode cX12_sums 63 = .ok (.istore_n 3, 1) := by decide +kernel
theorem dX12_sums_64 : decode cX12_sums 64 = .ok (.iload_n 3, 1) := by decide +kernel
theorem dX12_sums_65 : decode cX12_sums 65 = .ok (.bipush 6, 2) := by decide +kernel
theorem dX12_sums_67 : decode cX12_sums 67 = .ok (.if_icmp .ge 32, 3) := by decide +kernel
theorem dX12_sums_70 : decode cX12_sums 70 = .ok (.aload_n 0, 1) := by decide +kernel
theorem dX12_sums_71 : decode cX12_sums 71 = .ok (.getfield 54, 3) := by decide +kernel
theorem dX12_sums_74 : decode cX12_sums 74 = .ok (.iload_n 3, 1) := by decide +kernel
theorem dX12_sums_75 : decode cX12_sums 75 = .ok (.dup2, 1) := by decide +kernel
theorem dX12_sums_76 : decode cX12_sums 76 = .ok (.iaload, 1) := by decide +kernel
theorem dX12_sums_77 : decode cX12_sums 77 = .ok (.aload_n 0, 1) := by decide +kernel
theorem dX12_sums_78 : decode cX12_sums 78 = .ok (.getfield 9, 3) := by decide +kernel
theorem dX12_sums_81 : decode cX12_sums 81 = .ok (.bipush 8, 2) := by decide +kernel
theorem dX12_sums_83 : decode cX12_sums 83 = .ok (.bipush 6, 2) := by decide +kernel
theorem dX12_sums_85 : decode cX12_sums 85 = .ok (.iload_n 2, 1) := by decide +kernel
theorem dX12_sums_86 : decode cX12_sums 86 = .ok (.imul, 1) := by decide +kernel
theorem dX12_sums_87 : decode cX12_sums 87 = .ok (.iadd, 1) := by decide +kernel
theorem dX12_sums_88 : decode cX12_sums 88 = .ok (.iload_n 3, 1) := by decide +kernel
theorem dX12_sums_89 : decode cX12_sums 89 = .ok (.iadd, 1) := by decide +kernel
theorem dX12_sums_90 : decode cX12_sums 90 = .ok (.iaload, 1) := by decide +kernel
theorem dX12_sums_91 : decode cX12_sums 91 = .ok (.iadd, 1) := by decide +kernel
theorem dX12_sums_92 : decode cX12_sums 92 = .ok (.iastore, 1) := by decide +kernel
theorem dX12_sums_93 : decode cX12_sums 93 = .ok (.iinc 3 1, 3) := by decide +kernel
theorem dX12_sums_96 : decode cX12_sums 96 = .ok (.goto (-32), 3) := by decide +kernel
theorem dX12_sums_99 : decode cX12_sums 99 = .ok (.iinc 2 1, 3) := by decide +kernel
theorem dX12_sums_102 : decode cX12_sums 102 = .ok (.goto (-74), 3) := by decide +kernel
theorem dX12_sums_105 : decode cX12_sums 105 = .ok (.return_, 1) := by decide +kernel
theorem dX12_costBy_0 : decode cX12_costBy 0 = .ok (.aload_n 0, 1) := by decide +kernel
theorem dX12_costBy_1 : decode cX12_costBy 1 = .ok (.getfield 54, 3) := by decide +kernel
theorem dX12_costBy_4 : decode cX12_costBy 4 = .ok (.iload_n 1, 1) := by decide +kernel
theorem dX12_costBy_5 : decode cX12_costBy 5 = .ok (.iaload, 1) := by decide +kernel
theorem dX12_costBy_6 : decode cX12_costBy 6 = .ok (.iload_n 3, 1) := by decide +kernel
theorem dX12_costBy_7 : decode cX12_costBy 7 = .ok (.iadd, 1) := by decide +kernel
theorem dX12_costBy_8 : decode cX12_costBy 8 = .ok (.iload_n 2, 1) := by decide +kernel
theorem dX12_costBy_9 : decode cX12_costBy 9 = .ok (.isub, 1) := by decide +kernel
theorem dX12_costBy_10 : decode cX12_costBy 10 = .ok (.istore 4, 2) := by decide +kernel
theorem dX12_costBy_12 : decode cX12_costBy 12 = .ok (.iload 4, 2) := by decide +kernel
theorem dX12_costBy_14 : decode cX12_costBy 14 = .ok (.ifCond .lt 35, 3) := by decide +kernel
theorem dX12_costBy_17 : decode cX12_costBy 17 = .ok (.aload_n 0, 1) := by decide +kernel
theorem dX12_costBy_18 : decode cX12_costBy 18 = .ok (.getfield 45, 3) := by decide +kernel
theorem dX12_costBy_21 : decode cX12_costBy 21 = .ok (.bipush 57, 2) := by decide +kernel
theorem dX12_costBy_23 : decode cX12_costBy 23 = .ok (.iload_n 1, 1) := by decide +kernel
theorem dX12_costBy_24 : decode cX12_costBy 24 = .ok (.iconst 1, 1) := by decide +kernel
theorem dX12_costBy_25 : decode cX12_costBy 25 = .ok (.iadd, 1) := by decide +kernel
theorem dX12_costBy_26 : decode cX12_costBy 26 = .ok (.imul, 1) := by decide +kernel
theorem dX12_costBy_27 : decode cX12_costBy 27 = .ok (.iload_n 3, 1) := by decide +kernel
theorem dX12_costBy_28 : decode cX12_costBy 28 = .ok (.iadd, 1) := by decide +kernel
theorem dX12_costBy_29 : decode cX12_costBy 29 = .ok (.iaload, 1) := by decide +kernel
theorem dX12_costBy_30 : decode cX12_costBy 30 = .ok (.ldc_w 265, 3) := by decide +kernel
theorem dX12_costBy_33 : decode cX12_costBy 33 = .ok (.if_icmp .eq 16, 3) := by decide +kernel
theorem dX12_costBy_36 : decode cX12_costBy 36 = .ok (.aload_n 0, 1) := by decide +kernel
theorem dX12_costBy_37 : decode cX12_costBy 37 = .ok (.iload 4, 2) := by decide +kernel
theorem dX12_costBy_39 : decode cX12_costBy 39 = .ok (.iload_n 1, 1) := by decide +kernel
theorem dX12_costBy_40 : decode cX12_costBy 40 = .ok (.invokevirtual 279, 3) := by decide +kernel
theorem dX12_costBy_43 : decode cX12_costBy 43 = .ok (.ldc_w 265, 3) := by decide +kernel
theorem dX12_costBy_46 : decode cX12_costBy 46 = .ok (.if_icmp .ne 7, 3) := by decide +kernel
theorem dX12_costBy_49 : decode cX12_costBy 49 = .ok (.ldc_w 265, 3) := by decide +kernel
theorem dX12_costBy_52 : decode cX12_costBy 52 = .ok (.ireturn, 1) := by decide +kernel
theorem dX12_costBy_53 : decode cX12_costBy 53 = .ok (.aload_n 0, 1) := by decide +kernel
theorem dX12_costBy_54 : decode cX12_costBy 54 = .ok (.iload 4, 2) := by decide +kernel
theorem dX12_costBy_56 : decode cX12_costBy 56 = .ok (.iload_n 1, 1) := by decide +kernel
theorem dX12_costBy_57 : decode cX12_costBy 57 = .ok (.invokevirtual 279, 3) := by decide +kernel
theorem dX12_costBy_60 : decode cX12_costBy 60 = .ok (.aload_n 0, 1) := by decide +kernel
theorem dX12_costBy_61 : decode cX12_costBy 61 = .ok (.getfield 9, 3) := by decide +kernel
theorem dX12_costBy_64 : decode cX12_costBy 64 = .ok (.sipush 243, 3) := by decide +kernel
theorem dX12_costBy_67 : decode cX12_costBy 67 = .ok (.iaload, 1) := by decide +kernel
theorem dX12_costBy_68 : decode cX12_costBy 68 = .ok (.iload_n 3, 1) := by decide +kernel
theorem dX12_costBy_69 : decode cX12_costBy 69 = .ok (.imul, 1) := by decide +kernel
theorem dX12_costBy_70 : decode cX12_costBy 70 = .ok (.iadd, 1) := by decide +kernel
theorem dX12_costBy_71 : decode cX12_costBy 71 = .ok (.aload_n 0, 1) := by decide +kernel
theorem dX12_costBy_72 : decode cX12_costBy 72 = .ok (.getfield 45, 3) := by decide +kernel
theorem dX12_costBy_75 : decode cX12_costBy 75 = .ok (.bipush 57, 2) := by decide +kernel
theorem dX12_costBy_77 : decode cX12_costBy 77 = .ok (.iload_n 1, 1) := by decide +kernel
theorem dX12_costBy_78 : decode cX12_costBy 78 = .ok (.iconst 1, 1) := by decide +kernel
theorem dX12_costBy_79 : decode cX12_costBy 79 = .ok (.iadd, 1) := by decide +kernel
theorem dX12_costBy_80 : decode cX12_costBy 80 = .ok (.imul, 1) := by decide +kernel
theorem dX12_costBy_81 : decode cX12_costBy 81 = .ok (.iload_n 3, 1) := by decide +kernel
theorem dX12_costBy_82 : decode cX12_costBy 82 = .ok (.iadd, 1) := by decide +kernel
theorem dX12_costBy_83 : decode cX12_costBy 83 = .ok (.iaload, 1) := by decide +kernel
theorem dX12_costBy_84 : decode cX12_costBy 84 = .ok (.iadd, 1) := by decide +kernel
theorem dX12_costBy_85 : decode cX12_costBy 85 = .ok (.ireturn, 1) := by decide +kernel
theorem dX12_sacksBy_0 : decode cX12_sacksBy 0 = .ok (.aload_n 0, 1) := by decide +kernel
theorem dX12_sacksBy_1 : decode cX12_sacksBy 1 = .ok (.getfield 54, 3) := by decide +kernel
theorem dX12_sacksBy_4 : decode cX12_sacksBy 4 = .ok (.iload_n 1, 1) := by decide +kernel
theorem dX12_sacksBy_5 : decode cX12_sacksBy 5 = .ok (.iaload, 1) := by decide +kernel
theorem dX12_sacksBy_6 : decode cX12_sacksBy 6 = .ok (.iload_n 3, 1) := by decide +kernel
theorem dX12_sacksBy_7 : decode cX12_sacksBy 7 = .ok (.iadd, 1) := by decide +kernel
theorem dX12_sacksBy_8 : decode cX12_sacksBy 8 = .ok (.iload_n 2, 1) := by decide +kernel
theorem dX12_sacksBy_9 : decode cX12_sacksBy 9 = .ok (.isub, 1) := by decide +kernel
theorem dX12_sacksBy_10 : decode cX12_sacksBy 10 = .ok (.aload_n 0, 1) := by decide +kernel
theorem dX12_sacksBy_11 : decode cX12_sacksBy 11 = .ok (.getfield 48, 3) := by decide +kernel
theorem dX12_sacksBy_14 : decode cX12_sacksBy 14 = .ok (.bipush 57, 2) := by decide +kernel
theorem dX12_sacksBy_16 : decode cX12_sacksBy 16 = .ok (.iload_n 1, 1) := by decide +kernel
theorem dX12_sacksBy_17 : decode cX12_sacksBy 17 = .ok (.iconst 1, 1) := by decide +kernel
theorem dX12_sacksBy_18 : decode cX12_sacksBy 18 = .ok (.iadd, 1) := by decide +kernel
theorem dX12_sacksBy_19 : decode cX12_sacksBy 19 = .ok (.imul, 1) := by decide +kernel
theorem dX12_sacksBy_20 : decode cX12_sacksBy 20 = .ok (.iload_n 3, 1) := by decide +kernel
theorem dX12_sacksBy_21 : decode cX12_sacksBy 21 = .ok (.iadd, 1) := by decide +kernel
theorem dX12_sacksBy_22 : decode cX12_sacksBy 22 = .ok (.iaload, 1) := by decide +kernel
theorem dX12_sacksBy_23 : decode cX12_sacksBy 23 = .ok (.iadd, 1) := by decide +kernel
theorem dX12_sacksBy_24 : decode cX12_sacksBy 24 = .ok (.ireturn, 1) := by decide +kernel
theorem dX12_tries_0 : decode cX12_tries 0 = .ok (.aload_n 0, 1) := by decide +kernel
theorem dX12_tries_1 : decode cX12_tries 1 = .ok (.iload_n 1, 1) := by decide +kernel
theorem dX12_tries_2 : decode cX12_tries 2 = .ok (.iload_n 2, 1) := by decide +kernel
theorem dX12_tries_3 : decode cX12_tries 3 = .ok (.iload_n 3, 1) := by decide +kernel
theorem dX12_tries_4 : decode cX12_tries 4 = .ok (.invokevirtual 291, 3) := by decide +kernel
theorem dX12_tries_7 : decode cX12_tries 7 = .ok (.istore 4, 2) := by decide +kernel
theorem dX12_tries_9 : decode cX12_tries 9 = .ok (.bipush 57, 2) := by decide +kernel
theorem dX12_tries_11 : decode cX12_tries 11 = .ok (.iload_n 1, 1) := by decide +kernel
theorem dX12_tries_12 : decode cX12_tries 12 = .ok (.imul, 1) := by decide +kernel
theorem dX12_tries_13 : decode cX12_tries 13 = .ok (.iload_n 2, 1) := by decide +kernel
theorem dX12_tries_14 : decode cX12_tries 14 = .ok (.iadd, 1) := by decide +kernel
theorem dX12_tries_15 : decode cX12_tries 15 = .ok (.istore 5, 2) := by decide +kernel
theorem dX12_tries_17 : decode cX12_tries 17 = .ok (.iload 4, 2) := by decide +kernel
theorem dX12_tries_19 : decode cX12_tries 19 = .ok (.ldc_w 265, 3) := by decide +kernel
theorem dX12_tries_22 : decode cX12_tries 22 = .ok (.if_icmp .eq 44, 3) := by decide +kernel
theorem dX12_tries_25 : decode cX12_tries 25 = .ok (.iload 4, 2) := by decide +kernel
theorem dX12_tries_27 : decode cX12_tries 27 = .ok (.aload_n 0, 1) := by decide +kernel
theorem dX12_tries_28 : decode cX12_tries 28 = .ok (.getfield 45, 3) := by decide +kernel
theorem dX12_tries_31 : decode cX12_tries 31 = .ok (.iload 5, 2) := by decide +kernel
theorem dX12_tries_33 : decode cX12_tries 33 = .ok (.iaload, 1) := by decide +kernel
theorem dX12_tries_34 : decode cX12_tries 34 = .ok (.if_icmp .gt 32, 3) := by decide +kernel
theorem dX12_tries_37 : decode cX12_tries 37 = .ok (.iload 4, 2) := by decide +kernel
theorem dX12_tries_39 : decode cX12_tries 39 = .ok (.aload_n 0, 1) := by decide +kernel
theorem dX12_tries_40 : decode cX12_tries 40 = .ok (.getfield 45, 3) := by decide +kernel
theorem dX12_tries_43 : decode cX12_tries 43 = .ok (.iload 5, 2) := by decide +kernel
theorem dX12_tries_45 : decode cX12_tries 45 = .ok (.iaload, 1) := by decide +kernel
theorem dX12_tries_46 : decode cX12_tries 46 = .ok (.if_icmp .ne 21, 3) := by decide +kernel
theorem dX12_tries_49 : decode cX12_tries 49 = .ok (.aload_n 0, 1) := by decide +kernel
theorem dX12_tries_50 : decode cX12_tries 50 = .ok (.iload_n 1, 1) := by decide +kernel
theorem dX12_tries_51 : decode cX12_tries 51 = .ok (.iload_n 2, 1) := by decide +kernel
theorem dX12_tries_52 : decode cX12_tries 52 = .ok (.iload_n 3, 1) := by decide +kernel
theorem dX12_tries_53 : decode cX12_tries 53 = .ok (.invokevirtual 295, 3) := by decide +kernel
theorem dX12_tries_56 : decode cX12_tries 56 = .ok (.aload_n 0, 1) := by decide +kernel
theorem dX12_tries_57 : decode cX12_tries 57 = .ok (.getfield 48, 3) := by decide +kernel
theorem dX12_tries_60 : decode cX12_tries 60 = .ok (.iload 5, 2) := by decide +kernel
theorem dX12_tries_62 : decode cX12_tries 62 = .ok (.iaload, 1) := by decide +kernel
theorem dX12_tries_63 : decode cX12_tries 63 = .ok (.if_icmp .lt 4, 3) := by decide +kernel
theorem dX12_tries_66 : decode cX12_tries 66 = .ok (.return_, 1) := by decide +kernel
theorem dX12_tries_67 : decode cX12_tries 67 = .ok (.aload_n 0, 1) := by decide +kernel
theorem dX12_tries_68 : decode cX12_tries 68 = .ok (.getfield 45, 3) := by decide +kernel
theorem dX12_tries_71 : decode cX12_tries 71 = .ok (.iload 5, 2) := by decide +kernel
theorem dX12_tries_73 : decode cX12_tries 73 = .ok (.iload 4, 2) := by decide +kernel
theorem dX12_tries_75 : decode cX12_tries 75 = .ok (.iastore, 1) := by decide +kernel
theorem dX12_tries_76 : decode cX12_tries 76 = .ok (.aload_n 0, 1) := by decide +kernel
theorem dX12_tries_77 : decode cX12_tries 77 = .ok (.getfield 48, 3) := by decide +kernel
theorem dX12_tries_80 : decode cX12_tries 80 = .ok (.iload 5, 2) := by decide +kernel
theorem dX12_tries_82 : decode cX12_tries 82 = .ok (.aload_n 0, 1) := by decide +kernel
theorem dX12_tries_83 : decode cX12_tries 83 = .ok (.iload_n 1, 1) := by decide +kernel
theorem dX12_tries_84 : decode cX12_tries 84 = .ok (.iload_n 2, 1) := by decide +kernel
theorem dX12_tries_85 : decode cX12_tries 85 = .ok (.iload_n 3, 1) := by decide +kernel
theorem dX12_tries_86 : decode cX12_tries 86 = .ok (.invokevirtual 295, 3) := by decide +kernel
theorem dX12_tries_89 : decode cX12_tries 89 = .ok (.iastore, 1) := by decide +kernel
theorem dX12_tries_90 : decode cX12_tries 90 = .ok (.return_, 1) := by decide +kernel
theorem s_sums {l : Launch} {E : aE} {N : Nat} {S : aS} {M : aM} (hfl : l.stackTraces = false) (m : Int) (t : Int → Int) (hS : lyM S m) (hE : RE M m t) (hK : TQ t) (set : Int) : aMt l E pX12_sums [(2, m), (0, set)] N S M (aU N S (fun M' => frW M M' m ∧ M' m 28 = roomV t set ∧ ∀ j, 0 ≤ j → j < 6 → M' (m + 14) j = wantV t set j)) := by
  refine a_met hfl rfl (by decide +kernel) (Nat.le_of_ble_eq_true rfl) ?_
  have loop28 := a_loop2 (fun h M1 => 0 ≤ h ∧ h ≤ 7 ∧ frW M M1 m ∧ M1 m 28 = sR t set h.toNat ∧ ∀ j, 0 ≤ j → j < 6 → M1 (m + 14) j = sW t set j h.toNat) (fun h M1 => (7 - h).toNat) (fun h M1 => aX l E pX12_sums (aU N S (fun M' => frW M M' m ∧ M' m 28 = roomV t set ∧ ∀ j, 0 ≤ j → j < 6 → M' (m + 14) j = wantV t set j)) 0 0 N S M1 28 [(0, (2, m)), (1, (0, set)), (2, (0, h))] []) (by
    intro h M1 hI ih1
    obtain ⟨i0, i1, i2, i3, i4⟩ := hI
    have hE1 : RE M1 m t := hE.cg i2.n.k
    have loop64 : (h < 7) → (hb set h = 1) → ∀ (k : Int) (M2 : aM), (0 ≤ k ∧ k ≤ 6 ∧ frW M M2 m ∧ M2 m 28 = sR t set (h + 1).toNat ∧ (∀ j, 0 ≤ j → j < k → M2 (m + 14) j = sW t set j (h + 1).toNat) ∧ ∀ j, k ≤ j → j < 6 → M2 (m + 14) j = sW t set j h.toNat) → aX l E pX12_sums (aU N S (fun M' => frW M M' m ∧ M' m 28 = roomV t set ∧ ∀ j, 0 ≤ j → j < 6 → M' (m + 14) j = wantV t set j)) 0 0 N S M2 64 [(0, (2, m)), (1, (0, set)), (2, (0, h)), (3, (0, k))] [] := by
      intro h7 hh
      exact a_loop2 (fun k M2 => 0 ≤ k ∧ k ≤ 6 ∧ frW M M2 m ∧ M2 m 28 = sR t set (h + 1).toNat ∧ (∀ j, 0 ≤ j → j < k → M2 (m + 14) j = sW t set j (h + 1).toNat) ∧ ∀ j, k ≤ j → j < 6 → M2 (m + 14) j = sW t set j h.toNat) (fun k M2 => (6 - k).toNat) (fun k M2 => aX l E pX12_sums (aU N S (fun M' => frW M M' m ∧ M' m 28 = roomV t set ∧ ∀ j, 0 ≤ j → j < 6 → M' (m + 14) j = wantV t set j)) 0 0 N S M2 64 [(0, (2, m)), (1, (0, set)), (2, (0, h)), (3, (0, k))] []) (by
        intro k M2 hI2 ih2
        obtain ⟨k1, k2, k3, k4, k5, k6⟩ := hI2
        have hE2 : RE M2 m t := hE.cg k3.n.k
        refine x_iload_n (pc := 64) dX12_sums_64 rfl rfl ?_
        refine x_bipush (pc := 65) dX12_sums_65 (by decide) ?_
        refine x_icmp_ge (tgt := 99) (pc := 67) dX12_sums_67 (by decide) (fun c_67 => ?_) (fun c_67 => ?_)
        · refine x_iinc (pc := 99) dX12_sums_99 rfl (by omega) (by decide) rfl ?_
          refine x_goto (tgt := 28) (pc := 102) dX12_sums_102 (by decide) ?_
          refine x_lo (lo' := [(0, (2, m)), (1, (0, set)), (2, (0, (h + 1)))]) ⟨rfl, rfl, rfl, trivial⟩ (ih1 (h + 1) _ ⟨by omega, by omega, k3, k4, fun j x y => k5 j x (by omega)⟩ (by omega))
        · refine x_aload_n (pc := 70) dX12_sums_70 rfl rfl ?_
          refine x_getR (jj := 26) (pc := 71) dX12_sums_71 fX12_54 hS.1 rfl (by decide) rfl rM_26 ?_
          refine x_iload_n (pc := 74) dX12_sums_74 rfl rfl ?_
          refine x_dup2 (pc := 75) dX12_sums_75 rfl rfl ?_
          refine x_ialoadV (pc := 76) dX12_sums_76 (sM_26 hS) (by omega) (by (repeat (first | rewrite [up_s] | rewrite [up_i (by omega)] | rewrite [up_a (by omega)] | rewrite [stM_a (by omega) (by omega)])); first | exact k6 _ (by omega) (by omega) | exact hE2.1 _ (by omega) (by omega) | rfl) (fun g_76 => ?_)
          refine x_aload_n (pc := 77) dX12_sums_77 rfl rfl ?_
          refine x_getR (jj := 0) (pc := 78) dX12_sums_78 fX12_9 hS.1 rfl (by decide) rfl rM_0 ?_
          refine x_bipush (pc := 81) dX12_sums_81 (by decide) ?_
          refine x_bipush (pc := 83) dX12_sums_83 (by decide) ?_
          refine x_iload_n (pc := 85) dX12_sums_85 rfl rfl ?_
          refine x_imul (pc := 86) dX12_sums_86 (by omega) ?_
          refine x_iadd (pc := 87) dX12_sums_87 (by omega) ?_
          refine x_iload_n (pc := 88) dX12_sums_88 rfl rfl ?_
          refine x_iadd (pc := 89) dX12_sums_89 (by omega) ?_
          refine x_ialoadV (pc := 90) dX12_sums_90 (sM_0 hS) (by omega) (by (repeat (first | rewrite [up_s] | rewrite [up_i (by omega)] | rewrite [up_a (by omega)] | rewrite [stM_a (by omega) (by omega)])); first | exact k6 _ (by omega) (by omega) | exact hE2.1 _ (by omega) (by omega) | rfl) (fun g_90 => ?_)
          refine x_iadd (pc := 91) dX12_sums_91 (by have w1 := sW_r (t := t) (set := set) (k := k) hK ⟨i0, by omega⟩ (by omega); have w2 := hK.2.2.1 (6 * h + k) (by omega) (by omega); rw [show 8 + (6 * h + k) = 8 + 6 * h + k by omega] at w2; omega) ?_
          refine x_iastore (pc := 92) dX12_sums_92 (sM_26 hS) (by omega) ?_
          refine x_iinc (pc := 93) dX12_sums_93 rfl (by omega) (by decide) rfl ?_
          refine x_goto (tgt := 64) (pc := 96) dX12_sums_96 (by decide) ?_
          refine x_lo (lo' := [(0, (2, m)), (1, (0, set)), (2, (0, h)), (3, (0, (k + 1)))]) ⟨rfl, rfl, rfl, rfl, trivial⟩ (ih2 (k + 1) _ ⟨by omega, by omega, k3.up (by omega), (up_a (by omega)).trans k4, fun j x y => ?_, fun j x y => (up_i (by omega)).trans (k6 j (by omega) y)⟩ (by omega))
          by_cases e : j = k
          · subst e
            rw [up_s, sW_1 i0, if_pos hh]
          · exact (up_i e).trans (k5 j x (by omega)))
    refine x_iload_n (pc := 28) dX12_sums_28 rfl rfl ?_
    refine x_bipush (pc := 29) dX12_sums_29 (by decide) ?_
    refine x_icmp_ge (tgt := 105) (pc := 31) dX12_sums_31 (by decide) (fun c_31 => ?_) (fun c_31 => ?_)
    · refine x_return (pc := 105) dX12_sums_105 rfl (by decide) ?_
      refine ⟨rfl, rfl, rfl, i2, ?_, fun j x y => ?_⟩
      · rw [i3, show h.toNat = 7 by omega]; rfl
      · rw [i4 j x y, show h.toNat = 7 by omega]; rfl
    · refine x_iload_n (pc := 34) dX12_sums_34 rfl rfl ?_
      refine x_iload_n (pc := 35) dX12_sums_35 rfl rfl ?_
      refine x_callS2 (pc := 36) dX12_sums_36 rfl kX12_136 (s_hasM hfl _ _) rfl (Nat.le_of_ble_eq_true rfl) (k_B (fun q_36 => ?_) (fun q_36 => ?_)) n_B
      · refine x_if_ne (tgt := 45) (pc := 39) dX12_sums_39 (by decide) (fun _ => ?_) (fun c => absurd c (by decide))
        refine x_aload_n (pc := 45) dX12_sums_45 rfl rfl ?_
        refine x_dup (pc := 46) dX12_sums_46 rfl ?_
        refine x_getIV (jj := 28) (pc := 47) dX12_sums_47 fX12_282 hS.1 rfl (by decide) rfl (by (repeat (first | rewrite [up_s] | rewrite [up_i (by omega)] | rewrite [up_a (by omega)] | rewrite [stM_a (by omega) (by omega)])); first | exact i3 | exact hE1.1 _ (by omega) (by omega) | rfl) ?_
        refine x_aload_n (pc := 50) dX12_sums_50 rfl rfl ?_
        refine x_getR (jj := 0) (pc := 51) dX12_sums_51 fX12_9 hS.1 rfl (by decide) rfl rM_0 ?_
        refine x_iconst (pc := 54) dX12_sums_54 (by decide) ?_
        refine x_iload_n (pc := 55) dX12_sums_55 rfl rfl ?_
        refine x_iadd (pc := 56) dX12_sums_56 (by omega) ?_
        refine x_ialoadV (pc := 57) dX12_sums_57 (sM_0 hS) (by omega) (by (repeat (first | rewrite [up_s] | rewrite [up_i (by omega)] | rewrite [up_a (by omega)] | rewrite [stM_a (by omega) (by omega)])); first | exact i3 | exact hE1.1 _ (by omega) (by omega) | rfl) (fun g_57 => ?_)
        refine x_iadd (pc := 58) dX12_sums_58 (by have w1 := sR_r (t := t) (set := set) hK (i := h) ⟨i0, by omega⟩; have w2 := hK.2.1 h (by omega) (by omega); omega) ?_
        refine x_putI (jj := 28) (pc := 59) dX12_sums_59 fX12_282 hS.1 rfl (by decide) rfl ?_
        refine x_iconst (pc := 62) dX12_sums_62 (by decide) ?_
        refine x_istore_n (pc := 63) dX12_sums_63 rfl (by decide) rfl ?_
        refine x_lo (lo' := [(0, (2, m)), (1, (0, set)), (2, (0, h)), (3, (0, 0))]) ⟨rfl, rfl, rfl, rfl, trivial⟩ (loop64 (by omega) (by assumption) (0) _ ⟨by omega, by omega, i2.up (by omega), ?_, fun j x y => by omega, fun j x y => (up_a (by omega)).trans (i4 j x y)⟩)
        rw [up_s, sR_1 i0, if_pos (by assumption)]
      · refine x_if_ne (tgt := 45) (pc := 39) dX12_sums_39 (by decide) (fun c => absurd c (by decide)) (fun _ => ?_)
        refine x_goto (tgt := 99) (pc := 42) dX12_sums_42 (by decide) ?_
        refine x_iinc (pc := 99) dX12_sums_99 rfl (by omega) (by decide) rfl ?_
        refine x_goto (tgt := 28) (pc := 102) dX12_sums_102 (by decide) ?_
        refine x_lo (lo' := [(0, (2, m)), (1, (0, set)), (2, (0, (h + 1)))]) ⟨rfl, rfl, rfl, trivial⟩ (ih1 (h + 1) _ ⟨by omega, by omega, i2, ?_, fun j x y => ?_⟩ (by omega))
        · rw [sR_1 i0, if_neg (by assumption)]; omega
        · rw [sW_1 i0, if_neg (by assumption)]; have := i4 j x y; omega)
  have loop7 := a_loop2 (fun j M1 => 0 ≤ j ∧ j ≤ 6 ∧ frW M M1 m ∧ M1 m 28 = 0 ∧ ∀ i, 0 ≤ i → i < j → M1 (m + 14) i = 0) (fun j M1 => (6 - j).toNat) (fun j M1 => aX l E pX12_sums (aU N S (fun M' => frW M M' m ∧ M' m 28 = roomV t set ∧ ∀ j, 0 ≤ j → j < 6 → M' (m + 14) j = wantV t set j)) 0 0 N S M1 7 [(0, (2, m)), (1, (0, set)), (2, (0, j))] []) (by
    intro j M1 hI ih0
    refine x_iload_n (pc := 7) dX12_sums_7 rfl rfl ?_
    refine x_bipush (pc := 8) dX12_sums_8 (by decide) ?_
    refine x_icmp_ge (tgt := 26) (pc := 10) dX12_sums_10 (by decide) (fun c_10 => ?_) (fun c_10 => ?_)
    · refine x_iconst (pc := 26) dX12_sums_26 (by decide) ?_
      refine x_istore_n (pc := 27) dX12_sums_27 rfl (by decide) rfl ?_
      refine x_lo (lo' := [(0, (2, m)), (1, (0, set)), (2, (0, 0))]) ⟨rfl, rfl, rfl, trivial⟩ (loop28 (0) _ ⟨by omega, by omega, hI.2.2.1, hI.2.2.2.1, fun i x y => hI.2.2.2.2 i x (by omega)⟩)
    · refine x_aload_n (pc := 13) dX12_sums_13 rfl rfl ?_
      refine x_getR (jj := 26) (pc := 14) dX12_sums_14 fX12_54 hS.1 rfl (by decide) rfl rM_26 ?_
      refine x_iload_n (pc := 17) dX12_sums_17 rfl rfl ?_
      refine x_iconst (pc := 18) dX12_sums_18 (by decide) ?_
      refine x_iastore (pc := 19) dX12_sums_19 (sM_26 hS) (by omega) ?_
      refine x_iinc (pc := 20) dX12_sums_20 rfl (by omega) (by decide) rfl ?_
      refine x_goto (tgt := 7) (pc := 23) dX12_sums_23 (by decide) ?_
      refine x_lo (lo' := [(0, (2, m)), (1, (0, set)), (2, (0, (j + 1)))]) ⟨rfl, rfl, rfl, trivial⟩ (ih0 (j + 1) _ ⟨by omega, by omega, hI.2.2.1.up (by omega), (up_a (by omega)).trans hI.2.2.2.1, fun i x y => ?_⟩ (by omega))
      by_cases e : i = j
      · subst e; exact up_s
      · exact (up_i e).trans (hI.2.2.2.2 i x (by omega)))
  refine x_aload_n (pc := 0) dX12_sums_0 rfl rfl ?_
  refine x_iconst (pc := 1) dX12_sums_1 (by decide) ?_
  refine x_putI (jj := 28) (pc := 2) dX12_sums_2 fX12_282 hS.1 rfl (by decide) rfl ?_
  refine x_iconst (pc := 5) dX12_sums_5 (by decide) ?_
  refine x_istore_n (pc := 6) dX12_sums_6 rfl (by decide) rfl ?_
  refine x_lo (lo' := [(0, (2, m)), (1, (0, set)), (2, (0, 0))]) ⟨rfl, rfl, rfl, trivial⟩ (loop7 (0) _ ⟨by omega, by omega, (show frW M M m from fun _ _ _ _ => rfl).up (by omega), up_s, fun i x y => by omega⟩)
theorem s_costBy {l : Launch} {E : aE} {N : Nat} {S : aS} {M : aM} (hfl : l.stackTraces = false) (m : Int) (t : Int → Int) (hS : lyM S m) (hE : RE M m t) (hK : TQ t) (hP : RP0 M m t) (set k kept left : Int) (hs : 0 ≤ set ∧ set < 128) (hk : 0 ≤ k ∧ k < t 244) (hkp : 0 ≤ kept ∧ kept ≤ roomV t set) (hl : 0 ≤ left ∧ left ≤ roomV t set) (hw : M (m + 14) k = wantV t set k) (ha : M (m + 11) (57 * (k + 1) + left) = pcV (planV t set (t 244 - (k + 1)).toNat left)) : aMt l E pX12_costBy [(2, m), (0, k), (0, kept), (0, left)] N S M (aG N S (fun v M' => v = (0, pcV (candV t set k kept (planV t set (t 244 - (k + 1)).toNat) left)) ∧ frZ M M' m ∧ RP0 M' m t)) := by
  refine a_met hfl rfl (by decide +kernel) (Nat.le_of_ble_eq_true rfl) ?_
  have h6 := hK.2.2.2.2.2.1
  have hr := roomV_r hK hs
  have hwr := wantV_r hK hs (m := k) (by omega)
  have hp := planV_r1 (k := t 244 - (k + 1)) (kept := left) hK hs (by omega) hl
  have hpc := pcV_or (planV t set (t 244 - (k + 1)).toNat left)
  have hcc := pcV_or (candV t set k kept (planV t set (t 244 - (k + 1)).toNat) left)
  have a1 : 0 ≤ t 243 * left := Int.mul_nonneg hK.2.2.2.2.1.1 hl.1
  have a2 : t 243 * left ≤ 99 * left := Int.mul_le_mul_of_nonneg_right hK.2.2.2.2.1.2 hl.1
  have hcr := candV_r (m := k) (kept := kept) (left := left) (k := t 244 - (k + 1)) (nxt := planV t set (t 244 - (k + 1)).toNat) hK hs (by omega) (by omega) hkp hl hp
  unfold okP at hp hcr
  refine x_aload_n (pc := 0) dX12_costBy_0 rfl rfl ?_
  refine x_getR (jj := 26) (pc := 1) dX12_costBy_1 fX12_54 hS.1 rfl (by decide) rfl rM_26 ?_
  refine x_iload_n (pc := 4) dX12_costBy_4 rfl rfl ?_
  refine x_ialoadV (pc := 5) dX12_costBy_5 (sM_26 hS) (by omega) (by (repeat (first | rewrite [up_s] | rewrite [up_i (by omega)] | rewrite [up_a (by omega)] | rewrite [stM_a (by omega) (by omega)])); first | exact hw | exact ha | exact ha9.trans (by omega : pcV (planV t set (t 244 - (k + 1)).toNat left) = planV t set (t 244 - (k + 1)).toNat left / 512) | exact hE9.2.1 _ (by omega) (by omega) (by omega) | rfl) (fun g_5 => ?_)
  refine x_iload_n (pc := 6) dX12_costBy_6 rfl rfl ?_
  refine x_iadd (pc := 7) dX12_costBy_7 (by omega) ?_
  refine x_iload_n (pc := 8) dX12_costBy_8 rfl rfl ?_
  refine x_isub (pc := 9) dX12_costBy_9 (by omega) ?_
  refine x_istore (pc := 10) dX12_costBy_10 (by decide) rfl ?_
  refine x_iload (pc := 12) dX12_costBy_12 rfl ?_
  refine x_if_lt (tgt := 49) (pc := 14) dX12_costBy_14 (by decide) (fun c_14 => ?_) (fun c_14 => ?_)
  · refine x_ldcw (n := 1000000000) (pc := 49) cX12_265 (by decide) dX12_costBy_49 ?_
    refine x_ireturn (pc := 52) dX12_costBy_52 rfl (by decide) ?_
    have hc : candV t set k kept (planV t set (t 244 - (k + 1)).toNat) left = -1 := by
      unfold candV
      rw [if_pos (by omega)]
    refine ⟨_, rfl, rfl, rfl, ?_, frZ.rf, hP⟩
    rw [show pcV (candV t set k kept (planV t set (t 244 - (k + 1)).toNat) left) = 1000000000 by omega]
  · refine x_aload_n (pc := 17) dX12_costBy_17 rfl rfl ?_
    refine x_getR (jj := 23) (pc := 18) dX12_costBy_18 fX12_45 hS.1 rfl (by decide) rfl rM_23 ?_
    refine x_bipush (pc := 21) dX12_costBy_21 (by decide) ?_
    refine x_iload_n (pc := 23) dX12_costBy_23 rfl rfl ?_
    refine x_iconst (pc := 24) dX12_costBy_24 (by decide) ?_
    refine x_iadd (pc := 25) dX12_costBy_25 (by omega) ?_
    refine x_imul (pc := 26) dX12_costBy_26 (by omega) ?_
    refine x_iload_n (pc := 27) dX12_costBy_27 rfl rfl ?_
    refine x_iadd (pc := 28) dX12_costBy_28 (by omega) ?_
    refine x_ialoadV (pc := 29) dX12_costBy_29 (sM_23 hS) (by omega) (by (repeat (first | rewrite [up_s] | rewrite [up_i (by omega)] | rewrite [up_a (by omega)] | rewrite [stM_a (by omega) (by omega)])); first | exact hw | exact ha | exact ha9.trans (by omega : pcV (planV t set (t 244 - (k + 1)).toNat left) = planV t set (t 244 - (k + 1)).toNat left / 512) | exact hE9.2.1 _ (by omega) (by omega) (by omega) | rfl) (fun g_29 => ?_)
    refine x_ldcw (n := 1000000000) (pc := 30) cX12_265 (by decide) dX12_costBy_30 ?_
    refine x_icmp_eq (tgt := 49) (pc := 33) dX12_costBy_33 (by decide) (fun c_33 => ?_) (fun c_33 => ?_)
    · refine x_ldcw (n := 1000000000) (pc := 49) cX12_265 (by decide) dX12_costBy_49 ?_
      refine x_ireturn (pc := 52) dX12_costBy_52 rfl (by decide) ?_
      have hc : candV t set k kept (planV t set (t 244 - (k + 1)).toNat) left = -1 := by
        unfold candV
        rw [if_pos (by omega)]
      refine ⟨_, rfl, rfl, rfl, ?_, frZ.rf, hP⟩
      rw [show pcV (candV t set k kept (planV t set (t 244 - (k + 1)).toNat) left) = 1000000000 by omega]
    · refine x_aload_n (pc := 36) dX12_costBy_36 rfl rfl ?_
      refine x_iload (pc := 37) dX12_costBy_37 rfl ?_
      refine x_iload_n (pc := 39) dX12_costBy_39 rfl rfl ?_
      have hbr := buysV_r (q := wantV t set k + left - kept) (m := k) hK (by omega) (by omega)
      have hbe := encF_or2 (buysV t (wantV t set k + left - kept) k)
      refine x_callV2 (pc := 40) dX12_costBy_40 rfl kX12_279 (s_buysOf hfl m t hS hE hK.1 hP (wantV t set k + left - kept) k (by omega) (by omega) (hK.2.2.2.2.2.2 k (by omega) (by omega))) hS.1 rfl rfl (Nat.le_of_ble_eq_true rfl) (k_G (fun v9 M9 hM9 => ?_)) n_G
      obtain ⟨rfl, f9, p9, z9⟩ := hM9
      have hE9 := hE.cg f9.k
      have ha9 := (f9 (m + 11) (57 * (k + 1) + left) (by omega) (by omega)).trans ha
      refine x_ldcw (n := 1000000000) (pc := 43) cX12_265 (by decide) dX12_costBy_43 ?_
      refine x_icmp_ne (tgt := 53) (pc := 46) dX12_costBy_46 (by decide) (fun c_46 => ?_) (fun c_46 => ?_)
      · refine x_aload_n (pc := 53) dX12_costBy_53 rfl rfl ?_
        refine x_iload (pc := 54) dX12_costBy_54 rfl ?_
        refine x_iload_n (pc := 56) dX12_costBy_56 rfl rfl ?_
        refine x_callV2 (pc := 57) dX12_costBy_57 rfl kX12_279 (s_buysOf2 hfl m t hS hE9 hK.1 p9 (wantV t set k + left - kept) k (by omega) (by omega) (hK.2.2.2.2.2.2 k (by omega) (by omega))) hS.1 rfl rfl (Nat.le_of_ble_eq_true rfl) (k_R ?_) n_R
        refine x_aload_n (pc := 60) dX12_costBy_60 rfl rfl ?_
        refine x_getR (jj := 0) (pc := 61) dX12_costBy_61 fX12_9 hS.1 rfl (by decide) rfl rM_0 ?_
        refine x_sipush (pc := 64) dX12_costBy_64 (by decide) ?_
        refine x_ialoadV (pc := 67) dX12_costBy_67 (sM_0 hS) (by omega) (by (repeat (first | rewrite [up_s] | rewrite [up_i (by omega)] | rewrite [up_a (by omega)] | rewrite [stM_a (by omega) (by omega)])); first | exact hw | exact ha | exact ha9.trans (by omega : pcV (planV t set (t 244 - (k + 1)).toNat left) = planV t set (t 244 - (k + 1)).toNat left / 512) | exact hE9.2.1 _ (by omega) (by omega) (by omega) | rfl) (fun g_67 => ?_)
        refine x_iload_n (pc := 68) dX12_costBy_68 rfl rfl ?_
        refine x_imul (pc := 69) dX12_costBy_69 (by omega) ?_
        refine x_iadd (pc := 70) dX12_costBy_70 (by omega) ?_
        refine x_aload_n (pc := 71) dX12_costBy_71 rfl rfl ?_
        refine x_getR (jj := 23) (pc := 72) dX12_costBy_72 fX12_45 hS.1 rfl (by decide) rfl rM_23 ?_
        refine x_bipush (pc := 75) dX12_costBy_75 (by decide) ?_
        refine x_iload_n (pc := 77) dX12_costBy_77 rfl rfl ?_
        refine x_iconst (pc := 78) dX12_costBy_78 (by decide) ?_
        refine x_iadd (pc := 79) dX12_costBy_79 (by omega) ?_
        refine x_imul (pc := 80) dX12_costBy_80 (by omega) ?_
        refine x_iload_n (pc := 81) dX12_costBy_81 rfl rfl ?_
        refine x_iadd (pc := 82) dX12_costBy_82 (by omega) ?_
        refine x_ialoadV (pc := 83) dX12_costBy_83 (sM_23 hS) (by omega) (by (repeat (first | rewrite [up_s] | rewrite [up_i (by omega)] | rewrite [up_a (by omega)] | rewrite [stM_a (by omega) (by omega)])); first | exact hw | exact ha | exact ha9.trans (by omega : pcV (planV t set (t 244 - (k + 1)).toNat left) = planV t set (t 244 - (k + 1)).toNat left / 512) | exact hE9.2.1 _ (by omega) (by omega) (by omega) | rfl) (fun g_83 => ?_)
        refine x_iadd (pc := 84) dX12_costBy_84 (by omega) ?_
        refine x_ireturn (pc := 85) dX12_costBy_85 rfl (by decide) ?_
        have hc : candV t set k kept (planV t set (t 244 - (k + 1)).toNat) left = (buysV t (wantV t set k + left - kept) k + t 243 * left) * 512 + (wantV t set k + left - kept) + planV t set (t 244 - (k + 1)).toNat left := by
          unfold candV
          rw [if_neg (by omega)]
        refine ⟨_, rfl, rfl, rfl, ?_, f9, Or.inr p9, z9⟩
        have e : encF FAR2 (buysV t (wantV t set k + left - kept) k) + t 243 * left + planV t set (t 244 - (k + 1)).toNat left / 512 = pcV (candV t set k kept (planV t set (t 244 - (k + 1)).toNat) left) := by omega
        rw [← e]
      · refine x_ldcw (n := 1000000000) (pc := 49) cX12_265 (by decide) dX12_costBy_49 ?_
        refine x_ireturn (pc := 52) dX12_costBy_52 rfl (by decide) ?_
        have hc : candV t set k kept (planV t set (t 244 - (k + 1)).toNat) left = -1 := by
          unfold candV
          rw [if_pos (by omega)]
        refine ⟨_, rfl, rfl, rfl, ?_, f9, Or.inr p9, z9⟩
        rw [show pcV (candV t set k kept (planV t set (t 244 - (k + 1)).toNat) left) = 1000000000 by omega]
theorem s_sacksBy {l : Launch} {E : aE} {N : Nat} {S : aS} {M : aM} (hfl : l.stackTraces = false) (m : Int) (t : Int → Int) (hS : lyM S m) (hE : RE M m t) (hK : TQ t) (set k kept left : Int) (hs : 0 ≤ set ∧ set < 128) (hk : 0 ≤ k ∧ k < t 244) (hkp : 0 ≤ kept ∧ kept ≤ roomV t set) (hl : 0 ≤ left ∧ left ≤ roomV t set) (hw : M (m + 14) k = wantV t set k) (hb9 : M (m + 12) (57 * (k + 1) + left) = psV (planV t set (t 244 - (k + 1)).toNat left)) : aMt l E pX12_sacksBy [(2, m), (0, k), (0, kept), (0, left)] N S M (aR (0, wantV t set k + left - kept + psV (planV t set (t 244 - (k + 1)).toNat left)) N S M) := by
  refine a_met hfl rfl (by decide +kernel) (Nat.le_of_ble_eq_true rfl) ?_
  have h6 := hK.2.2.2.2.2.1
  have hr := roomV_r hK hs
  have hwr := wantV_r hK hs (m := k) (by omega)
  have hp := planV_r1 (k := t 244 - (k + 1)) (kept := left) hK hs (by omega) hl
  have hpc := pcV_or (planV t set (t 244 - (k + 1)).toNat left)
  have hcc := pcV_or (candV t set k kept (planV t set (t 244 - (k + 1)).toNat) left)
  have a1 : 0 ≤ t 243 * left := Int.mul_nonneg hK.2.2.2.2.1.1 hl.1
  have a2 : t 243 * left ≤ 99 * left := Int.mul_le_mul_of_nonneg_right hK.2.2.2.2.1.2 hl.1
  have hcr := candV_r (m := k) (kept := kept) (left := left) (k := t 244 - (k + 1)) (nxt := planV t set (t 244 - (k + 1)).toNat) hK hs (by omega) (by omega) hkp hl hp
  unfold okP at hp hcr
  refine x_aload_n (pc := 0) dX12_sacksBy_0 rfl rfl ?_
  refine x_getR (jj := 26) (pc := 1) dX12_sacksBy_1 fX12_54 hS.1 rfl (by decide) rfl rM_26 ?_
  refine x_iload_n (pc := 4) dX12_sacksBy_4 rfl rfl ?_
  refine x_ialoadV (pc := 5) dX12_sacksBy_5 (sM_26 hS) (by omega) (by (repeat (first | rewrite [up_s] | rewrite [up_i (by omega)] | rewrite [up_a (by omega)] | rewrite [stM_a (by omega) (by omega)])); first | exact hw | exact hb9 | rfl) (fun g_5 => ?_)
  refine x_iload_n (pc := 6) dX12_sacksBy_6 rfl rfl ?_
  refine x_iadd (pc := 7) dX12_sacksBy_7 (by omega) ?_
  refine x_iload_n (pc := 8) dX12_sacksBy_8 rfl rfl ?_
  refine x_isub (pc := 9) dX12_sacksBy_9 (by omega) ?_
  refine x_aload_n (pc := 10) dX12_sacksBy_10 rfl rfl ?_
  refine x_getR (jj := 24) (pc := 11) dX12_sacksBy_11 fX12_48 hS.1 rfl (by decide) rfl rM_24 ?_
  refine x_bipush (pc := 14) dX12_sacksBy_14 (by decide) ?_
  refine x_iload_n (pc := 16) dX12_sacksBy_16 rfl rfl ?_
  refine x_iconst (pc := 17) dX12_sacksBy_17 (by decide) ?_
  refine x_iadd (pc := 18) dX12_sacksBy_18 (by omega) ?_
  refine x_imul (pc := 19) dX12_sacksBy_19 (by omega) ?_
  refine x_iload_n (pc := 20) dX12_sacksBy_20 rfl rfl ?_
  refine x_iadd (pc := 21) dX12_sacksBy_21 (by omega) ?_
  refine x_ialoadV (pc := 22) dX12_sacksBy_22 (sM_24 hS) (by omega) (by (repeat (first | rewrite [up_s] | rewrite [up_i (by omega)] | rewrite [up_a (by omega)] | rewrite [stM_a (by omega) (by omega)])); first | exact hw | exact hb9 | rfl) (fun g_22 => ?_)
  refine x_iadd (pc := 23) dX12_sacksBy_23 (by omega) ?_
  refine x_ireturn (pc := 24) dX12_sacksBy_24 rfl (by decide) ?_
  exact ⟨rfl, rfl, rfl, rfl⟩
theorem s_tries {l : Launch} {E : aE} {N : Nat} {S : aS} {M : aM} (hfl : l.stackTraces = false) (m : Int) (t : Int → Int) (hS : lyM S m) (hE : RE M m t) (hK : TQ t) (hP : RP0 M m t) (set k kept left : Int) (hs : 0 ≤ set ∧ set < 128) (hk : 0 ≤ k ∧ k < t 244) (hkp : 0 ≤ kept ∧ kept ≤ roomV t set) (hl : 0 ≤ left ∧ left ≤ roomV t set) (hw : M (m + 14) k = wantV t set k) (ha : M (m + 11) (57 * (k + 1) + left) = pcV (planV t set (t 244 - (k + 1)).toNat left)) (hb9 : M (m + 12) (57 * (k + 1) + left) = psV (planV t set (t 244 - (k + 1)).toNat left)) (V : Int) (hV : V = -1 ∨ 0 ≤ V ∧ V < 536870912) (v1 : M (m + 11) (57 * k + kept) = pcV V) (v2 : M (m + 12) (57 * k + kept) = psV V) : aMt l E pX12_tries [(2, m), (0, k), (0, kept), (0, left)] N S M (aU N S (fun M' => M' (m + 11) (57 * k + kept) = pcV (omin V (candV t set k kept (planV t set (t 244 - (k + 1)).toNat) left)) ∧ M' (m + 12) (57 * k + kept) = psV (omin V (candV t set k kept (planV t set (t 244 - (k + 1)).toNat) left)) ∧ RP0 M' m t ∧ ∀ a i : Int, (a = m → i ≠ 19) → ¬ (m + 6 ≤ a ∧ a < m + 9) → ¬ ((a = m + 11 ∨ a = m + 12) ∧ i = 57 * k + kept) → M' a i = M a i)) := by
  refine a_met hfl rfl (by decide +kernel) (Nat.le_of_ble_eq_true rfl) ?_
  have h6 := hK.2.2.2.2.2.1
  have hr := roomV_r hK hs
  have hwr := wantV_r hK hs (m := k) (by omega)
  have hp := planV_r1 (k := t 244 - (k + 1)) (kept := left) hK hs (by omega) hl
  have hpc := pcV_or (planV t set (t 244 - (k + 1)).toNat left)
  have hcc := pcV_or (candV t set k kept (planV t set (t 244 - (k + 1)).toNat) left)
  have a1 : 0 ≤ t 243 * left := Int.mul_nonneg hK.2.2.2.2.1.1 hl.1
  have a2 : t 243 * left ≤ 99 * left := Int.mul_le_mul_of_nonneg_right hK.2.2.2.2.1.2 hl.1
  have hcr := candV_r (m := k) (kept := kept) (left := left) (k := t 244 - (k + 1)) (nxt := planV t set (t 244 - (k + 1)).toNat) hK hs (by omega) (by omega) hkp hl hp
  unfold okP at hp hcr
  have hcx : (candV t set k kept (planV t set (t 244 - (k + 1)).toNat) left) = -1 ∨ (candV t set k kept (planV t set (t 244 - (k + 1)).toNat) left) = (buysV t (wantV t set k + left - kept) k + t 243 * left) * 512 + (wantV t set k + left - kept) + planV t set (t 244 - (k + 1)).toNat left ∧ 0 ≤ wantV t set k + left - kept ∧ planV t set (t 244 - (k + 1)).toNat left ≠ -1 ∧ 0 ≤ buysV t (wantV t set k + left - kept) k := by
    unfold candV
    by_cases e : wantV t set k + left - kept < 0 ∨ buysV t (wantV t set k + left - kept) k = -1 ∨ planV t set (t 244 - (k + 1)).toNat left = -1
    · rw [if_pos e]; exact Or.inl rfl
    · rw [if_neg e]
      have hbr := buysV_r (q := wantV t set k + left - kept) (m := k) hK (by omega) (by omega)
      exact Or.inr ⟨rfl, by omega, by omega, by omega⟩
  have hvv := pcV_or V
  refine x_aload_n (pc := 0) dX12_tries_0 rfl rfl ?_
  refine x_iload_n (pc := 1) dX12_tries_1 rfl rfl ?_
  refine x_iload_n (pc := 2) dX12_tries_2 rfl rfl ?_
  refine x_iload_n (pc := 3) dX12_tries_3 rfl rfl ?_
  refine x_callV3 (pc := 4) dX12_tries_4 rfl kX12_291 (s_costBy hfl m t hS hE hK hP set k kept left hs hk hkp hl hw ha) hS.1 rfl rfl (Nat.le_of_ble_eq_true rfl) (k_G (fun v9 M9 hM9 => ?_)) n_G
  obtain ⟨rfl, f9, p9⟩ := hM9
  have hE9 := hE.cg f9.k
  have hw9 : M9 (m + 14) k = wantV t set k := (f9 _ _ (by omega) (by omega)).trans hw
  have hb9 : M9 (m + 12) (57 * (k + 1) + left) = psV (planV t set (t 244 - (k + 1)).toNat left) := (f9 _ _ (by omega) (by omega)).trans hb9
  have v1 : M9 (m + 11) (57 * k + kept) = pcV V := (f9 _ _ (by omega) (by omega)).trans v1
  have v2 : M9 (m + 12) (57 * k + kept) = psV V := (f9 _ _ (by omega) (by omega)).trans v2
  refine x_istore (pc := 7) dX12_tries_7 (by decide) rfl ?_
  refine x_bipush (pc := 9) dX12_tries_9 (by decide) ?_
  refine x_iload_n (pc := 11) dX12_tries_11 rfl rfl ?_
  refine x_imul (pc := 12) dX12_tries_12 (by omega) ?_
  refine x_iload_n (pc := 13) dX12_tries_13 rfl rfl ?_
  refine x_iadd (pc := 14) dX12_tries_14 (by omega) ?_
  refine x_istore (pc := 15) dX12_tries_15 (by decide) rfl ?_
  refine x_iload (pc := 17) dX12_tries_17 rfl ?_
  refine x_ldcw (n := 1000000000) (pc := 19) cX12_265 (by decide) dX12_tries_19 ?_
  refine x_icmp_eq (tgt := 66) (pc := 22) dX12_tries_22 (by decide) (fun c_22 => ?_) (fun c_22 => ?_)
  · refine x_return (pc := 66) dX12_tries_66 rfl (by decide) ?_
    have e : omin V (candV t set k kept (planV t set (t 244 - (k + 1)).toNat) left) = V := by
      unfold omin
      (repeat' split) <;> omega
    refine ⟨rfl, rfl, rfl, ?_, ?_, p9, fun a i x y z => f9 a i x y⟩
    · rw [e]; exact v1
    · rw [e]; exact v2
  · refine x_iload (pc := 25) dX12_tries_25 rfl ?_
    refine x_aload_n (pc := 27) dX12_tries_27 rfl rfl ?_
    refine x_getR (jj := 23) (pc := 28) dX12_tries_28 fX12_45 hS.1 rfl (by decide) rfl rM_23 ?_
    refine x_iload (pc := 31) dX12_tries_31 rfl ?_
    refine x_ialoadV (pc := 33) dX12_tries_33 (sM_23 hS) (by omega) (by (repeat (first | rewrite [up_s] | rewrite [up_i (by omega)] | rewrite [up_a (by omega)] | rewrite [stM_a (by omega) (by omega)])); first | exact v1 | exact v2 | rfl) (fun g_33 => ?_)
    refine x_icmp_gt (tgt := 66) (pc := 34) dX12_tries_34 (by decide) (fun c_34 => ?_) (fun c_34 => ?_)
    · refine x_return (pc := 66) dX12_tries_66 rfl (by decide) ?_
      have e : omin V (candV t set k kept (planV t set (t 244 - (k + 1)).toNat) left) = V := by
        unfold omin
        (repeat' split) <;> omega
      refine ⟨rfl, rfl, rfl, ?_, ?_, p9, fun a i x y z => f9 a i x y⟩
      · rw [e]; exact v1
      · rw [e]; exact v2
    · refine x_iload (pc := 37) dX12_tries_37 rfl ?_
      refine x_aload_n (pc := 39) dX12_tries_39 rfl rfl ?_
      refine x_getR (jj := 23) (pc := 40) dX12_tries_40 fX12_45 hS.1 rfl (by decide) rfl rM_23 ?_
      refine x_iload (pc := 43) dX12_tries_43 rfl ?_
      refine x_ialoadV (pc := 45) dX12_tries_45 (sM_23 hS) (by omega) (by (repeat (first | rewrite [up_s] | rewrite [up_i (by omega)] | rewrite [up_a (by omega)] | rewrite [stM_a (by omega) (by omega)])); first | exact v1 | exact v2 | rfl) (fun g_45 => ?_)
      refine x_icmp_ne (tgt := 67) (pc := 46) dX12_tries_46 (by decide) (fun c_46 => ?_) (fun c_46 => ?_)
      · refine x_aload_n (pc := 67) dX12_tries_67 rfl rfl ?_
        refine x_getR (jj := 23) (pc := 68) dX12_tries_68 fX12_45 hS.1 rfl (by decide) rfl rM_23 ?_
        refine x_iload (pc := 71) dX12_tries_71 rfl ?_
        refine x_iload (pc := 73) dX12_tries_73 rfl ?_
        refine x_iastore (pc := 75) dX12_tries_75 (sM_23 hS) (by omega) ?_
        refine x_aload_n (pc := 76) dX12_tries_76 rfl rfl ?_
        refine x_getR (jj := 24) (pc := 77) dX12_tries_77 fX12_48 hS.1 rfl (by decide) rfl rM_24 ?_
        refine x_iload (pc := 80) dX12_tries_80 rfl ?_
        refine x_aload_n (pc := 82) dX12_tries_82 rfl rfl ?_
        refine x_iload_n (pc := 83) dX12_tries_83 rfl rfl ?_
        refine x_iload_n (pc := 84) dX12_tries_84 rfl rfl ?_
        refine x_iload_n (pc := 85) dX12_tries_85 rfl rfl ?_
        have hE10 : RE (up M9 (m + 11) (57 * k + kept) (pcV (candV t set k kept (planV t set (t 244 - (k + 1)).toNat) left))) m t := hE9.cg (fun a i x y z => up_a (by omega))
        refine x_callV3 (pc := 86) dX12_tries_86 rfl kX12_295 (s_sacksBy hfl m t hS hE10 hK set k kept left hs hk hkp hl ((up_a (by omega)).trans hw9) ((up_a (by omega)).trans hb9)) hS.1 rfl rfl (Nat.le_of_ble_eq_true rfl) (k_R ?_) n_R
        refine x_iastore (pc := 89) dX12_tries_89 (sM_24 hS) (by omega) ?_
        refine x_return (pc := 90) dX12_tries_90 rfl (by decide) ?_
        have e : omin V (candV t set k kept (planV t set (t 244 - (k + 1)).toNat) left) = candV t set k kept (planV t set (t 244 - (k + 1)).toNat) left := by
          unfold omin
          (repeat' split) <;> omega
        refine ⟨rfl, rfl, rfl, ?_, ?_, p9.cg (fun a i x => by rw [up_a (by omega), up_a (by omega)]), fun a i x y z => ?_⟩
        · rw [e, up_a (by omega), up_s]
        · rw [e, up_s]; omega
        · rw [show up (up M9 (m + 11) (57 * k + kept) (pcV (candV t set k kept (planV t set (t 244 - (k + 1)).toNat) left))) (m + 12) (57 * k + kept) _ a i = up M9 (m + 11) (57 * k + kept) (pcV (candV t set k kept (planV t set (t 244 - (k + 1)).toNat) left)) a i from if_neg (by omega), show up M9 (m + 11) (57 * k + kept) (pcV (candV t set k kept (planV t set (t 244 - (k + 1)).toNat) left)) a i = M9 a i from if_neg (by omega)]
          exact f9 a i x y
      · refine x_aload_n (pc := 49) dX12_tries_49 rfl rfl ?_
        refine x_iload_n (pc := 50) dX12_tries_50 rfl rfl ?_
        refine x_iload_n (pc := 51) dX12_tries_51 rfl rfl ?_
        refine x_iload_n (pc := 52) dX12_tries_52 rfl rfl ?_
        refine x_callV3 (pc := 53) dX12_tries_53 rfl kX12_295 (s_sacksBy hfl m t hS hE9 hK set k kept left hs hk hkp hl hw9 hb9) hS.1 rfl rfl (Nat.le_of_ble_eq_true rfl) (k_R ?_) n_R
        refine x_aload_n (pc := 56) dX12_tries_56 rfl rfl ?_
        refine x_getR (jj := 24) (pc := 57) dX12_tries_57 fX12_48 hS.1 rfl (by decide) rfl rM_24 ?_
        refine x_iload (pc := 60) dX12_tries_60 rfl ?_
        refine x_ialoadV (pc := 62) dX12_tries_62 (sM_24 hS) (by omega) (by (repeat (first | rewrite [up_s] | rewrite [up_i (by omega)] | rewrite [up_a (by omega)] | rewrite [stM_a (by omega) (by omega)])); first | exact v1 | exact v2 | rfl) (fun g_62 => ?_)
        refine x_icmp_lt (tgt := 67) (pc := 63) dX12_tries_63 (by decide) (fun c_63 => ?_) (fun c_63 => ?_)
        · refine x_aload_n (pc := 67) dX12_tries_67 rfl rfl ?_
          refine x_getR (jj := 23) (pc := 68) dX12_tries_68 fX12_45 hS.1 rfl (by decide) rfl rM_23 ?_
          refine x_iload (pc := 71) dX12_tries_71 rfl ?_
          refine x_iload (pc := 73) dX12_tries_73 rfl ?_
          refine x_iastore (pc := 75) dX12_tries_75 (sM_23 hS) (by omega) ?_
          refine x_aload_n (pc := 76) dX12_tries_76 rfl rfl ?_
          refine x_getR (jj := 24) (pc := 77) dX12_tries_77 fX12_48 hS.1 rfl (by decide) rfl rM_24 ?_
          refine x_iload (pc := 80) dX12_tries_80 rfl ?_
          refine x_aload_n (pc := 82) dX12_tries_82 rfl rfl ?_
          refine x_iload_n (pc := 83) dX12_tries_83 rfl rfl ?_
          refine x_iload_n (pc := 84) dX12_tries_84 rfl rfl ?_
          refine x_iload_n (pc := 85) dX12_tries_85 rfl rfl ?_
          have hE10 : RE (up M9 (m + 11) (57 * k + kept) (pcV (candV t set k kept (planV t set (t 244 - (k + 1)).toNat) left))) m t := hE9.cg (fun a i x y z => up_a (by omega))
          refine x_callV3 (pc := 86) dX12_tries_86 rfl kX12_295 (s_sacksBy hfl m t hS hE10 hK set k kept left hs hk hkp hl ((up_a (by omega)).trans hw9) ((up_a (by omega)).trans hb9)) hS.1 rfl rfl (Nat.le_of_ble_eq_true rfl) (k_R ?_) n_R
          refine x_iastore (pc := 89) dX12_tries_89 (sM_24 hS) (by omega) ?_
          refine x_return (pc := 90) dX12_tries_90 rfl (by decide) ?_
          have e : omin V (candV t set k kept (planV t set (t 244 - (k + 1)).toNat) left) = candV t set k kept (planV t set (t 244 - (k + 1)).toNat) left := by
            unfold omin
            (repeat' split) <;> omega
          refine ⟨rfl, rfl, rfl, ?_, ?_, p9.cg (fun a i x => by rw [up_a (by omega), up_a (by omega)]), fun a i x y z => ?_⟩
          · rw [e, up_a (by omega), up_s]
          · rw [e, up_s]; omega
          · rw [show up (up M9 (m + 11) (57 * k + kept) (pcV (candV t set k kept (planV t set (t 244 - (k + 1)).toNat) left))) (m + 12) (57 * k + kept) _ a i = up M9 (m + 11) (57 * k + kept) (pcV (candV t set k kept (planV t set (t 244 - (k + 1)).toNat) left)) a i from if_neg (by omega), show up M9 (m + 11) (57 * k + kept) (pcV (candV t set k kept (planV t set (t 244 - (k + 1)).toNat) left)) a i = M9 a i from if_neg (by omega)]
            exact f9 a i x y
        · refine x_return (pc := 66) dX12_tries_66 rfl (by decide) ?_
          have e : omin V (candV t set k kept (planV t set (t 244 - (k + 1)).toNat) left) = V := by
            unfold omin
            (repeat' split) <;> omega
          refine ⟨rfl, rfl, rfl, ?_, ?_, p9, fun a i x y z => f9 a i x y⟩
          · rw [e]; exact v1
          · rw [e]; exact v2
