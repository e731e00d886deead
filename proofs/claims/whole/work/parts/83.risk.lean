/-! calls: risk, before -/
def spRisk (A : aM) (s q : Int) : Int × Int × aM := if ¬ (0 < s ∧ s < b_shl 1 (A 0 0)) ∨ ¬ (0 ≤ q ∧ q ≤ 8 * sumN (hb s) 7) then (1, 0, A) else if buysV (A 0) q 0 = -1 then (0, 0, A) else (0, 1, frA A (riskC (A 0) s q (buysV (A 0) q 0)) (allC (A 0) s 7))
def bestQ (t : Int → Int) (s : Int) : Nat → Int
  | 0 => 0
  | n + 1 => if buysV t (n + 1) 0 ≠ -1 ∧ riskC t s (n + 1) (buysV t (n + 1) 0) < riskC t s (bestQ t s n) (buysV t (bestQ t s n) 0) then n + 1 else bestQ t s n
def spBefore (A : aM) (s : Int) : Int × Int × aM := if ¬ (0 < s ∧ s < b_shl 1 (A 0 0)) then (1, 0, A) else (0, bestQ (A 0) s (8 * sumN (hb s) 7).toNat, frA A (riskC (A 0) s (bestQ (A 0) s (8 * sumN (hb s) 7).toNat) (buysV (A 0) (bestQ (A 0) s (8 * sumN (hb s) 7).toNat) 0)) (allC (A 0) s 7))
theorem buysV_0 {t : Int → Int} : buysV t 0 0 = 0 := by
  have e : sevV t 0 = 0 := rfl
  unfold buysV
  rw [e, if_neg (by decide)]
  omega
theorem bestQ_r {t : Int → Int} {s : Int} : ∀ n : Nat, (0 ≤ bestQ t s n ∧ bestQ t s n ≤ n) ∧ buysV t (bestQ t s n) 0 ≠ -1
  | 0 => ⟨⟨Int.le_refl 0, Int.le_refl 0⟩, by show buysV t 0 0 ≠ -1; rw [buysV_0]; decide⟩
  | n + 1 => by
    have ih := bestQ_r (t := t) (s := s) n
    unfold bestQ
    split
    · rename_i q
      exact ⟨by omega, q.1⟩
    · exact ⟨by omega, ih.2⟩
theorem bestQ_1 {t : Int → Int} {s q : Int} (hq : 1 ≤ q) : bestQ t s q.toNat = if buysV t q 0 ≠ -1 ∧ riskC t s q (buysV t q 0) < riskC t s (bestQ t s (q - 1).toNat) (buysV t (bestQ t s (q - 1).toNat) 0) then q else bestQ t s (q - 1).toNat := by
  rw [show q.toNat = (q - 1).toNat + 1 by omega]
  show (if buysV t ((((q - 1).toNat : Nat) : Int) + 1) 0 ≠ -1 ∧ riskC t s ((((q - 1).toNat : Nat) : Int) + 1) (buysV t ((((q - 1).toNat : Nat) : Int) + 1) 0) < riskC t s (bestQ t s (q - 1).toNat) (buysV t (bestQ t s (q - 1).toNat) 0) then (((q - 1).toNat : Nat) : Int) + 1 else bestQ t s (q - 1).toNat) = _
  rw [show (((q - 1).toNat : Nat) : Int) + 1 = q by omega]
theorem RC.ch {M M' A : aM} {N : Nat} {S : aS} (h : RC M N S A) (g : ∀ a i, (a = 79 → i ≠ 3) → a ≠ 80 → a ≠ 81 → M' a i = M a i) : RC M' N S A := by
  obtain ⟨h1, h2, h3, h4, h5, h6, h7, h8, h9⟩ := h
  exact ⟨h1.cg fun a x y i => g a i (by omega) (by omega) (by omega), h2.cg (fun i => g 0 i (by omega) (by omega) (by omega)), h3.cg (fun i => g 17 i (by omega) (by omega) (by omega)) (fun i => g 18 i (by omega) (by omega) (by omega)), h4.cg (fun i => g 105 i (by omega) (by omega) (by omega)) (fun i => g 106 i (by omega) (by omega) (by omega)) (fun i => g 107 i (by omega) (by omega) (by omega)), h5.cg (fun i => g 16 i (by omega) (by omega) (by omega)) (fun a x i => g a i (by omega) (by omega) (by omega)), h6.cg (fun a x y i => g a i (by omega) (by omega) (by omega)), h7.cg (fun i => g 31 i (by omega) (by omega) (by omega)), h8.cg (fun a x y i => g a i (by omega) (by omega) (by omega)) (fun a x y i => g a i (by omega) (by omega) (by omega)), h9.cg (fun i => g 82 i (by omega) (by omega) (by omega))⟩
theorem buysA {t : Int → Int} (hA : TOK t) {q : Int} (hq : 0 ≤ q ∧ q ≤ 56) : buysV t q 0 = -1 ∨ 0 ≤ buysV t q 0 ∧ buysV t q 0 ≤ 60000 := buysV_lt hA.tt (by omega) (hA.2.2.2.2.2.2.2.2.2.2.2.2.2.2.2.2.2.2.1 0 (by omega) (by omega))
theorem dX11_risk_0 : decode cX11_risk 0 = .ok (.aload_n 0, 1) := by decide +kernel
theorem dX11_risk_1 : decode cX11_risk 1 = .ok (.iload_n 1, 1) := by decide +kernel
theorem dX11_risk_2 : decode cX11_risk 2 = .ok (.invokevirtual 131, 3) := by decide +kernel
theorem dX11_risk_5 : decode cX11_risk 5 = .ok (.aload_n 0, 1) := by decide +kernel
theorem dX11_risk_6 : decode cX11_risk 6 = .ok (.iload_n 2, 1) := by decide +kernel
theorem dX11_risk_7 : decode cX11_risk 7 = .ok (.iconst 0, 1) := by decide +kernel
theorem dX11_risk_8 : decode cX11_risk 8 = .ok (.bipush 8, 2) := by decide +kernel
theorem dX11_risk_10 : decode cX11_risk 10 = .ok (.iload_n 1, 1) := by decide +kernel
theorem dX11_risk_11 : decode cX11_risk 11 = .ok (.invokestatic 296, 3) := by decide +kernel
theorem dX11_risk_14 : decode cX11_risk 14 = .ok (.imul, 1) := by decide +kernel
theorem dX11_risk_15 : decode cX11_risk 15 = .ok (.invokevirtual 175, 3) := by decide +kernel
theorem dX11_risk_18 : decode cX11_risk 18 = .ok (.aload_n 0, 1) := by decide +kernel
theorem dX11_risk_19 : decode cX11_risk 19 = .ok (.iload_n 2, 1) := by decide +kernel
theorem dX11_risk_20 : decode cX11_risk 20 = .ok (.iconst 0, 1) := by decide +kernel
theorem dX11_risk_21 : decode cX11_risk 21 = .ok (.invokevirtual 188, 3) := by decide +kernel
theorem dX11_risk_24 : decode cX11_risk 24 = .ok (.istore_n 3, 1) := by decide +kernel
theorem dX11_risk_25 : decode cX11_risk 25 = .ok (.iload_n 3, 1) := by decide +kernel
theorem dX11_risk_26 : decode cX11_risk 26 = .ok (.iconst (-1), 1) := by decide +kernel
theorem dX11_risk_27 : decode cX11_risk 27 = .ok (.if_icmp .ne 5, 3) := by decide +kernel
theorem dX11_risk_30 : decode cX11_risk 30 = .ok (.iconst 0, 1) := by decide +kernel
theorem dX11_risk_31 : decode cX11_risk 31 = .ok (.ireturn, 1) := by decide +kernel
theorem dX11_risk_32 : decode cX11_risk 32 = .ok (.aload_n 0, 1) := by decide +kernel
theorem dX11_risk_33 : decode cX11_risk 33 = .ok (.getfield 72, 3) := by decide +kernel
theorem dX11_risk_36 : decode cX11_risk 36 = .ok (.iload_n 1, 1) := by decide +kernel
theorem dX11_risk_37 : decode cX11_risk 37 = .ok (.invokevirtual 301, 3) := by decide +kernel
theorem dX11_risk_40 : decode cX11_risk 40 = .ok (.aload_n 0, 1) := by decide +kernel
theorem dX11_risk_41 : decode cX11_risk 41 = .ok (.aload_n 0, 1) := by decide +kernel
theorem dX11_risk_42 : decode cX11_risk 42 = .ok (.getfield 72, 3) := by decide +kernel
theorem dX11_risk_45 : decode cX11_risk 45 = .ok (.iload_n 2, 1) := by decide +kernel
theorem dX11_risk_46 : decode cX11_risk 46 = .ok (.iload_n 3, 1) := by decide +kernel
theorem dX11_risk_47 : decode cX11_risk 47 = .ok (.invokevirtual 304, 3) := by decide +kernel
theorem dX11_risk_50 : decode cX11_risk 50 = .ok (.aload_n 0, 1) := by decide +kernel
theorem dX11_risk_51 : decode cX11_risk 51 = .ok (.getfield 72, 3) := by decide +kernel
theorem dX11_risk_54 : decode cX11_risk 54 = .ok (.getfield 308, 3) := by decide +kernel
theorem dX11_risk_57 : decode cX11_risk 57 = .ok (.invokevirtual 252, 3) := by decide +kernel
theorem dX11_risk_60 : decode cX11_risk 60 = .ok (.iconst 1, 1) := by decide +kernel
theorem dX11_risk_61 : decode cX11_risk 61 = .ok (.ireturn, 1) := by decide +kernel
theorem dX11_before_0 : decode cX11_before 0 = .ok (.aload_n 0, 1) := by decide +kernel
theorem dX11_before_1 : decode cX11_before 1 = .ok (.iload_n 1, 1) := by decide +kernel
theorem dX11_before_2 : decode cX11_before 2 = .ok (.invokevirtual 131, 3) := by decide +kernel
theorem dX11_before_5 : decode cX11_before 5 = .ok (.aload_n 0, 1) := by decide +kernel
theorem dX11_before_6 : decode cX11_before 6 = .ok (.getfield 72, 3) := by decide +kernel
theorem dX11_before_9 : decode cX11_before 9 = .ok (.iload_n 1, 1) := by decide +kernel
theorem dX11_before_10 : decode cX11_before 10 = .ok (.invokevirtual 301, 3) := by decide +kernel
theorem dX11_before_13 : decode cX11_before 13 = .ok (.iconst 0, 1) := by decide +kernel
theorem dX11_before_14 : decode cX11_before 14 = .ok (.istore_n 2, 1) := by decide +kernel
theorem dX11_before_15 : decode cX11_before 15 = .ok (.aload_n 0, 1) := by decide +kernel
theorem dX11_before_16 : decode cX11_before 16 = .ok (.getfield 72, 3) := by decide +kernel
theorem dX11_before_19 : decode cX11_before 19 = .ok (.iconst 0, 1) := by decide +kernel
theorem dX11_before_20 : decode cX11_before 20 = .ok (.iconst 0, 1) := by decide +kernel
theorem dX11_before_21 : decode cX11_before 21 = .ok (.invokevirtual 304, 3) := by decide +kernel
theorem dX11_before_24 : decode cX11_before 24 = .ok (.lstore_n 3, 1) := by decide +kernel
theorem dX11_before_25 : decode cX11_before 25 = .ok (.bipush 8, 2) := by decide +kernel
theorem dX11_before_27 : decode cX11_before 27 = .ok (.iload_n 1, 1) := by decide +kernel
theorem dX11_before_28 : decode cX11_before 28 = .ok (.invokestatic 296, 3) := by decide +kernel
theorem dX11_before_31 : decode cX11_before 31 = .ok (.imul, 1) := by decide +kernel
theorem dX11_before_32 : decode cX11_before 32 = .ok (.istore 5, 2) := by decide +kernel
theorem dX11_before_34 : decode cX11_before 34 = .ok (.iconst 1, 1) := by decide +kernel
theorem dX11_before_35 : decode cX11_before 35 = .ok (.istore 6, 2) := by decide +kernel
theorem dX11_before_37 : decode cX11_before 37 = .ok (.iload 6, 2) := by decide +kernel
theorem dX11_before_39 : decode cX11_before 39 = .ok (.iload 5, 2) := by decide +kernel
theorem dX11_before_41 : decode cX11_before 41 = .ok (.if_icmp .gt 54, 3) := by decide +kernel
theorem dX11_before_44 : decode cX11_before 44 = .ok (.aload_n 0, 1) := by decide +kernel
theorem dX11_before_45 : decode cX11_before 45 = .ok (.iload 6, 2) := by decide +kernel
theorem dX11_before_47 : decode cX11_before 47 = .ok (.iconst 0, 1) := by decide +kernel
theorem dX11_before_48 : decode cX11_before 48 = .ok (.invokevirtual 188, 3) := by decide +kernel
theorem dX11_before_51 : decode cX11_before 51 = .ok (.istore 7, 2) := by decide +kernel
theorem dX11_before_53 : decode cX11_before 53 = .ok (.iload 7, 2) := by decide +kernel
theorem dX11_before_55 : decode cX11_before 55 = .ok (.iconst (-1), 1) := by decide +kernel
theorem dX11_before_56 : decode cX11_before 56 = .ok (.if_icmp .ne 7, 3) := by decide +kernel
theorem dX11_before_59 : decode cX11_before 59 = .ok (.lload_n 3, 1) := by decide +kernel
theorem dX11_before_60 : decode cX11_before 60 = .ok (.goto 14, 3) := by decide +kernel
theorem dX11_before_63 : decode cX11_before 63 = .ok (.aload_n 0, 1) := by decide +kernel
theorem dX11_before_64 : decode cX11_before 64 = .ok (.getfield 72, 3) := by decide +kernel
theorem dX11_before_67 : decode cX11_before 67 = .ok (.iload 6, 2) := by decide +kernel
theorem dX11_before_69 : decode cX11_before 69 = .ok (.iload 7, 2) := by decide +kernel
theorem dX11_before_71 : decode cX11_before 71 = .ok (.invokevirtual 304, 3) := by decide +kernel
theorem dX11_before_74 : decode cX11_before 74 = .ok (.lstore 8, 2) := by decide +kernel
theorem dX11_before_76 : decode cX11_before 76 = .ok (.lload 8, 2) := by decide +kernel
theorem dX11_before_78 : decode cX11_before 78 = .ok (.lload_n 3, 1) := by decide +kernel
theorem dX11_before_79 : decode cX11_before 79 = .ok (.lcmp, 1) := by decide +kernel
theorem dX11_before_80 : decode cX11_before 80 = .ok (.ifCond .ge 9, 3) := by decide +kernel
theorem dX11_before_83 : decode cX11_before 83 = .ok (.iload 6, 2) := by decide +kernel
theorem dX11_before_85 : decode cX11_before 85 = .ok (.istore_n 2, 1) := by decide +kernel
theorem dX11_before_86 : decode cX11_before 86 = .ok (.lload 8, 2) := by decide +kernel
theorem dX11_before_88 : decode cX11_before 88 = .ok (.lstore_n 3, 1) := by decide +kernel
theorem dX11_before_89 : decode cX11_before 89 = .ok (.iinc 6 1, 3) := by decide +kernel
theorem dX11_before_92 : decode cX11_before 92 = .ok (.goto (-55), 3) := by decide +kernel
theorem dX11_before_95 : decode cX11_before 95 = .ok (.aload_n 0, 1) := by decide +kernel
theorem dX11_before_96 : decode cX11_before 96 = .ok (.lload_n 3, 1) := by decide +kernel
theorem dX11_before_97 : decode cX11_before 97 = .ok (.aload_n 0, 1) := by decide +kernel
theorem dX11_before_98 : decode cX11_before 98 = .ok (.getfield 72, 3) := by decide +kernel
theorem dX11_before_101 : decode cX11_before 101 = .ok (.getfield 308, 3) := by decide +kernel
theorem dX11_before_104 : decode cX11_before 104 = .ok (.invokevirtual 252, 3) := by decide +kernel
theorem dX11_before_107 : decode cX11_before 107 = .ok (.iload_n 2, 1) := by decide +kernel
theorem dX11_before_108 : decode cX11_before 108 = .ok (.ireturn, 1) := by decide +kernel
theorem dX12_risk_0 : decode cX12_risk 0 = .ok (.aload_n 0, 1) := by decide +kernel
theorem dX12_risk_1 : decode cX12_risk 1 = .ok (.iconst 0, 1) := by decide +kernel
theorem dX12_risk_2 : decode cX12_risk 2 = .ok (.putfield 103, 3) := by decide +kernel
theorem dX12_risk_5 : decode cX12_risk 5 = .ok (.aload_n 0, 1) := by decide +kernel
theorem dX12_risk_6 : decode cX12_risk 6 = .ok (.iload_n 1, 1) := by decide +kernel
theorem dX12_risk_7 : decode cX12_risk 7 = .ok (.invokevirtual 143, 3) := by decide +kernel
theorem dX12_risk_10 : decode cX12_risk 10 = .ok (.ifCond .eq 20, 3) := by decide +kernel
theorem dX12_risk_13 : decode cX12_risk 13 = .ok (.iload_n 2, 1) := by decide +kernel
theorem dX12_risk_14 : decode cX12_risk 14 = .ok (.i2l, 1) := by decide +kernel
theorem dX12_risk_15 : decode cX12_risk 15 = .ok (.lconst 0, 1) := by decide +kernel
theorem dX12_risk_16 : decode cX12_risk 16 = .ok (.bipush 8, 2) := by decide +kernel
theorem dX12_risk_18 : decode cX12_risk 18 = .ok (.iload_n 1, 1) := by decide +kernel
theorem dX12_risk_19 : decode cX12_risk 19 = .ok (.invokestatic 304, 3) := by decide +kernel
theorem dX12_risk_22 : decode cX12_risk 22 = .ok (.imul, 1) := by decide +kernel
theorem dX12_risk_23 : decode cX12_risk 23 = .ok (.i2l, 1) := by decide +kernel
theorem dX12_risk_24 : decode cX12_risk 24 = .ok (.invokestatic 106, 3) := by decide +kernel
theorem dX12_risk_27 : decode cX12_risk 27 = .ok (.ifCond .ne 9, 3) := by decide +kernel
theorem dX12_risk_30 : decode cX12_risk 30 = .ok (.aload_n 0, 1) := by decide +kernel
theorem dX12_risk_31 : decode cX12_risk 31 = .ok (.iconst 1, 1) := by decide +kernel
theorem dX12_risk_32 : decode cX12_risk 32 = .ok (.invokevirtual 133, 3) := by decide +kernel
theorem dX12_risk_35 : decode cX12_risk 35 = .ok (.ireturn, 1) := by decide +kernel
theorem dX12_risk_36 : decode cX12_risk 36 = .ok (.aload_n 0, 1) := by decide +kernel
theorem dX12_risk_37 : decode cX12_risk 37 = .ok (.iload_n 2, 1) := by decide +kernel
theorem dX12_risk_38 : decode cX12_risk 38 = .ok (.iconst 0, 1) := by decide +kernel
theorem dX12_risk_39 : decode cX12_risk 39 = .ok (.invokevirtual 279, 3) := by decide +kernel
theorem dX12_risk_42 : decode cX12_risk 42 = .ok (.ldc_w 265, 3) := by decide +kernel
theorem dX12_risk_45 : decode cX12_risk 45 = .ok (.if_icmp .ne 5, 3) := by decide +kernel
theorem dX12_risk_48 : decode cX12_risk 48 = .ok (.iconst 0, 1) := by decide +kernel
theorem dX12_risk_49 : decode cX12_risk 49 = .ok (.ireturn, 1) := by decide +kernel
theorem dX12_risk_50 : decode cX12_risk 50 = .ok (.aload_n 0, 1) := by decide +kernel
theorem dX12_risk_51 : decode cX12_risk 51 = .ok (.iload_n 1, 1) := by decide +kernel
theorem dX12_risk_52 : decode cX12_risk 52 = .ok (.invokevirtual 420, 3) := by decide +kernel
theorem dX12_risk_55 : decode cX12_risk 55 = .ok (.aload_n 0, 1) := by decide +kernel
theorem dX12_risk_56 : decode cX12_risk 56 = .ok (.aload_n 0, 1) := by decide +kernel
theorem dX12_risk_57 : decode cX12_risk 57 = .ok (.iload_n 2, 1) := by decide +kernel
theorem dX12_risk_58 : decode cX12_risk 58 = .ok (.invokevirtual 423, 3) := by decide +kernel
theorem dX12_risk_61 : decode cX12_risk 61 = .ok (.aload_n 0, 1) := by decide +kernel
theorem dX12_risk_62 : decode cX12_risk 62 = .ok (.getfield 413, 3) := by decide +kernel
theorem dX12_risk_65 : decode cX12_risk 65 = .ok (.invokevirtual 392, 3) := by decide +kernel
theorem dX12_risk_68 : decode cX12_risk 68 = .ok (.iconst 1, 1) := by decide +kernel
theorem dX12_risk_69 : decode cX12_risk 69 = .ok (.ireturn, 1) := by decide +kernel
theorem dX12_before_0 : decode cX12_before 0 = .ok (.aload_n 0, 1) := by decide +kernel
theorem dX12_before_1 : decode cX12_before 1 = .ok (.iconst 0, 1) := by decide +kernel
theorem dX12_before_2 : decode cX12_before 2 = .ok (.putfield 103, 3) := by decide +kernel
theorem dX12_before_5 : decode cX12_before 5 = .ok (.aload_n 0, 1) := by decide +kernel
theorem dX12_before_6 : decode cX12_before 6 = .ok (.iload_n 1, 1) := by decide +kernel
theorem dX12_before_7 : decode cX12_before 7 = .ok (.invokevirtual 143, 3) := by decide +kernel
theorem dX12_before_10 : decode cX12_before 10 = .ok (.ifCond .ne 9, 3) := by decide +kernel
theorem dX12_before_13 : decode cX12_before 13 = .ok (.aload_n 0, 1) := by decide +kernel
theorem dX12_before_14 : decode cX12_before 14 = .ok (.iconst 1, 1) := by decide +kernel
theorem dX12_before_15 : decode cX12_before 15 = .ok (.invokevirtual 116, 3) := by decide +kernel
theorem dX12_before_18 : decode cX12_before 18 = .ok (.ireturn, 1) := by decide +kernel
theorem dX12_before_19 : decode cX12_before 19 = .ok (.aload_n 0, 1) := by decide +kernel
theorem dX12_before_20 : decode cX12_before 20 = .ok (.iload_n 1, 1) := by decide +kernel
theorem dX12_before_21 : decode cX12_before 21 = .ok (.invokevirtual 420, 3) := by decide +kernel
theorem dX12_before_24 : decode cX12_before 24 = .ok (.iconst 0, 1) := by decide +kernel
theorem dX12_before_25 : decode cX12_before 25 = .ok (.istore_n 2, 1) := by decide +kernel
theorem dX12_before_26 : decode cX12_before 26 = .ok (.iconst 1, 1) := by decide +kernel
theorem dX12_before_27 : decode cX12_before 27 = .ok (.istore_n 3, 1) := by decide +kernel
theorem dX12_before_28 : decode cX12_before 28 = .ok (.iload_n 3, 1) := by decide +kernel
theorem dX12_before_29 : decode cX12_before 29 = .ok (.bipush 8, 2) := by decide +kernel
theorem dX12_before_31 : decode cX12_before 31 = .ok (.iload_n 1, 1) := by decide +kernel
theorem dX12_before_32 : decode cX12_before 32 = .ok (.invokestatic 304, 3) := by decide +kernel
theorem dX12_before_35 : decode cX12_before 35 = .ok (.imul, 1) := by decide +kernel
theorem dX12_before_36 : decode cX12_before 36 = .ok (.if_icmp .gt 37, 3) := by decide +kernel
theorem dX12_before_39 : decode cX12_before 39 = .ok (.aload_n 0, 1) := by decide +kernel
theorem dX12_before_40 : decode cX12_before 40 = .ok (.iload_n 3, 1) := by decide +kernel
theorem dX12_before_41 : decode cX12_before 41 = .ok (.iconst 0, 1) := by decide +kernel
theorem dX12_before_42 : decode cX12_before 42 = .ok (.invokevirtual 279, 3) := by decide +kernel
theorem dX12_before_45 : decode cX12_before 45 = .ok (.ldc_w 265, 3) := by decide +kernel
theorem dX12_before_48 : decode cX12_before 48 = .ok (.if_icmp .eq 19, 3) := by decide +kernel
theorem dX12_before_51 : decode cX12_before 51 = .ok (.aload_n 0, 1) := by decide +kernel
theorem dX12_before_52 : decode cX12_before 52 = .ok (.iload_n 3, 1) := by decide +kernel
theorem dX12_before_53 : decode cX12_before 53 = .ok (.invokevirtual 423, 3) := by decide +kernel
theorem dX12_before_56 : decode cX12_before 56 = .ok (.aload_n 0, 1) := by decide +kernel
theorem dX12_before_57 : decode cX12_before 57 = .ok (.iload_n 2, 1) := by decide +kernel
theorem dX12_before_58 : decode cX12_before 58 = .ok (.invokevirtual 423, 3) := by decide +kernel
theorem dX12_before_61 : decode cX12_before 61 = .ok (.lcmp, 1) := by decide +kernel
theorem dX12_before_62 : decode cX12_before 62 = .ok (.ifCond .ge 5, 3) := by decide +kernel
theorem dX12_before_65 : decode cX12_before 65 = .ok (.iload_n 3, 1) := by decide +kernel
theorem dX12_before_66 : decode cX12_before 66 = .ok (.istore_n 2, 1) := by decide +kernel
theorem dX12_before_67 : decode cX12_before 67 = .ok (.iinc 3 1, 3) := by decide +kernel
theorem dX12_before_70 : decode cX12_before 70 = .ok (.goto (-42), 3) := by decide +kernel
theorem dX12_before_73 : decode cX12_before 73 = .ok (.aload_n 0, 1) := by decide +kernel
theorem dX12_before_74 : decode cX12_before 74 = .ok (.aload_n 0, 1) := by decide +kernel
theorem dX12_before_75 : decode cX12_before 75 = .ok (.iload_n 2, 1) := by decide +kernel
theorem dX12_before_76 : decode cX12_before 76 = .ok (.invokevirtual 423, 3) := by decide +kernel
theorem dX12_before_79 : decode cX12_before 79 = .ok (.aload_n 0, 1) := by decide +kernel
theorem dX12_before_80 : decode cX12_before 80 = .ok (.getfield 413, 3) := by decide +kernel
theorem dX12_before_83 : decode cX12_before 83 = .ok (.invokevirtual 392, 3) := by decide +kernel
theorem dX12_before_86 : decode cX12_before 86 = .ok (.iload_n 2, 1) := by decide +kernel
theorem dX12_before_87 : decode cX12_before 87 = .ok (.ireturn, 1) := by decide +kernel
theorem s_Crisk {l : Launch} {E : aE} {N : Nat} {S : aS} {M : aM} (hfl : l.stackTraces = false) (s q : Int) (hC : lyC S) (A : aM) (hR : RC M N S A) (hA : TOK (A 0)) : aMt l E pX11_risk [(2, 0), (0, s), (0, q)] N S M (opC M N S 0 (spRisk A s q) (fun _ => 0)) := by
  refine a_met hfl rfl (by decide +kernel) (Nat.le_of_ble_eq_true rfl) ?_
  have c0 : M 1 1 = A 0 0 := hR.1.1.1
  have t0 := hA.1
  have t9 := hA.2.2.2.2.2.2.2.2.2.2.2.2.2.2.2.2.2.1
  refine x_aload_n (pc := 0) dX11_risk_0 rfl rfl ?_
  refine x_iload_n (pc := 1) dX11_risk_1 rfl rfl ?_
  refine x_callV1 (pc := 2) dX11_risk_2 rfl kX11_131 (s_needSet hfl _ hC (by omega)) (sC_0 hC) rfl rfl (Nat.le_of_ble_eq_true rfl) (k_N (fun h_2 => ?_)) (n_N (fun h_2 => (by rw [c0] at h_2; have e9 : spRisk A s q = (1, 0, A) := (by unfold spRisk; (repeat' split) <;> first | rfl | (exfalso; omega)); rw [e9]; exact ⟨rfl, rfl, fun _ _ _ _ => rfl, hR, Or.inr ⟨show ¬ (1 : Int) = 0 by decide, rfl⟩⟩)))
  rw [c0] at h_2
  have hsl := isSet_lt hA h_2
  refine x_aload_n (pc := 5) dX11_risk_5 rfl rfl ?_
  refine x_iload_n (pc := 6) dX11_risk_6 rfl rfl ?_
  refine x_iconst (pc := 7) dX11_risk_7 (by decide) ?_
  refine x_bipush (pc := 8) dX11_risk_8 (by decide) ?_
  refine x_iload_n (pc := 10) dX11_risk_10 rfl rfl ?_
  refine x_callS1 (pc := 11) dX11_risk_11 rfl kX11_296 (s_bitCount hfl s ⟨by omega, hsl.2⟩) rfl (Nat.le_of_ble_eq_true rfl) (k_R ?_) n_R
  have hsz := size_r (set := s) (by omega)
  refine x_imul (pc := 14) dX11_risk_14 (by omega) ?_
  refine x_callV3 (pc := 15) dX11_risk_15 rfl kX11_175 (s_needWithin hfl _ _ _) (sC_0 hC) rfl rfl (Nat.le_of_ble_eq_true rfl) (k_N (fun h_15 => ?_)) (n_N (fun h_15 => (by have e9 : spRisk A s q = (1, 0, A) := (by unfold spRisk; (repeat' split) <;> first | rfl | (exfalso; omega)); rw [e9]; exact ⟨rfl, rfl, fun _ _ _ _ => rfl, hR, Or.inr ⟨show ¬ (1 : Int) = 0 by decide, rfl⟩⟩)))
  refine x_aload_n (pc := 18) dX11_risk_18 rfl rfl ?_
  refine x_iload_n (pc := 19) dX11_risk_19 rfl rfl ?_
  refine x_iconst (pc := 20) dX11_risk_20 (by decide) ?_
  refine x_callV2 (pc := 21) dX11_risk_21 rfl kX11_188 (s_costOfBuys hfl q 0 hC A hR hA (by omega) (by omega)) (sC_0 hC) rfl rfl (Nat.le_of_ble_eq_true rfl) (k_G (fun v9 M9 hM9 => ?_)) n_G
  obtain ⟨rfl, hR9, hf9⟩ := hM9
  have hbr := buysA hA (q := q) (by omega)
  refine x_istore_n (pc := 24) dX11_risk_24 rfl (by decide) rfl ?_
  refine x_iload_n (pc := 25) dX11_risk_25 rfl rfl ?_
  refine x_iconst (pc := 26) dX11_risk_26 (by decide) ?_
  refine x_icmp_ne (tgt := 32) (pc := 27) dX11_risk_27 (by decide) (fun c_27 => ?_) (fun c_27 => ?_)
  · refine x_aload_n (pc := 32) dX11_risk_32 rfl rfl ?_
    refine x_getR (jj := 7) (pc := 33) dX11_risk_33 fX11_72 (sC_0 hC) rfl (by decide) rfl rC_0_7 ?_
    refine x_iload_n (pc := 36) dX11_risk_36 rfl rfl ?_
    refine x_callV1 (pc := 37) dX11_risk_37 rfl kX11_301 (s_spread hfl s (A 0) hC hR9.1.1 hA.td) (sC_79 hC) rfl rfl (Nat.le_of_ble_eq_true rfl) (k_U (fun M8 hM8 => ?_)) n_U
    obtain ⟨s1, s2, s3⟩ := hM8
    have hR8 := hR9.ch s1
    refine x_aload_n (pc := 40) dX11_risk_40 rfl rfl ?_
    refine x_aload_n (pc := 41) dX11_risk_41 rfl rfl ?_
    refine x_getR (jj := 7) (pc := 42) dX11_risk_42 fX11_72 (sC_0 hC) rfl (by decide) rfl rC_0_7 ?_
    refine x_iload_n (pc := 45) dX11_risk_45 rfl rfl ?_
    refine x_iload_n (pc := 46) dX11_risk_46 rfl rfl ?_
    refine x_callV2 (pc := 47) dX11_risk_47 rfl kX11_304 (s_riskC hfl s q (buysV (A 0) q 0) (A 0) hC hR8.1.2 hA.td ⟨by omega, by omega⟩ (by omega) s2 s3) (sC_79 hC) rfl rfl (Nat.le_of_ble_eq_true rfl) (k_R ?_) n_R
    have hrr := riskC_r hA.td (set := s) (q := q) (cost := buysV (A 0) q 0) ⟨by omega, by omega⟩ (by omega)
    have har := allC_r hA.td (set := s) 7 (by omega)
    have hp7 := p36_le 7 (by omega)
    refine x_aload_n (pc := 50) dX11_risk_50 rfl rfl ?_
    refine x_getR (jj := 7) (pc := 51) dX11_risk_51 fX11_72 (sC_0 hC) rfl (by decide) rfl rC_0_7 ?_
    refine x_getJV (jj := 3) (pc := 54) dX11_risk_54 fX11_308 (sC_79 hC) rfl (by decide) rfl (by (repeat (first | rewrite [up_s] | rewrite [up_i (by omega)] | rewrite [up_a (by omega)])); first | exact s3 | rfl) ?_
    refine x_callV2 (pc := 57) dX11_risk_57 rfl kX11_252 (s_tell hfl (riskC (A 0) s q (buysV (A 0) q 0)) (allC (A 0) s 7) hC hrr ⟨by omega, by omega⟩) (sC_0 hC) rfl rfl (Nat.le_of_ble_eq_true rfl) (k_U (fun M7 hM7 => ?_)) n_U
    subst hM7
    refine x_iconst (pc := 60) dX11_risk_60 (by decide) ?_
    refine x_zreturn (pc := 61) dX11_risk_61 rfl (by omega) (by decide) ?_
    have e9 : spRisk A s q = (0, 1, frA A (riskC (A 0) s q (buysV (A 0) q 0)) (allC (A 0) s 7)) := by
      unfold spRisk
      (repeat' split) <;> first | rfl | (exfalso; omega)
    rw [e9]
    refine ⟨rfl, rfl, fun a j x y => ?_, hR8.fr, Or.inl ⟨rfl, rfl⟩⟩
    rw [up_a (by omega), up_a (by omega), s1 a j (by omega) (by omega) (by omega)]
    exact hf9 a (by omega) j
  · refine x_iconst (pc := 30) dX11_risk_30 (by decide) ?_
    refine x_zreturn (pc := 31) dX11_risk_31 rfl (by omega) (by decide) ?_
    have e9 : spRisk A s q = (0, 0, A) := by
      unfold spRisk
      (repeat' split) <;> first | rfl | (exfalso; omega)
    rw [e9]
    exact ⟨rfl, rfl, fun a j x y => hf9 a (by omega) j, hR9, Or.inl ⟨rfl, rfl⟩⟩
theorem s_Cbefore {l : Launch} {E : aE} {N : Nat} {S : aS} {M : aM} (hfl : l.stackTraces = false) (s : Int) (hC : lyC S) (A : aM) (hR : RC M N S A) (hA : TOK (A 0)) : aMt l E pX11_before [(2, 0), (0, s)] N S M (opC M N S 0 (spBefore A s) (fun _ => 0)) := by
  refine a_met hfl rfl (by decide +kernel) (Nat.le_of_ble_eq_true rfl) ?_
  have c0 : M 1 1 = A 0 0 := hR.1.1.1
  have t0 := hA.1
  have t9 := hA.2.2.2.2.2.2.2.2.2.2.2.2.2.2.2.2.2.1
  refine x_aload_n (pc := 0) dX11_before_0 rfl rfl ?_
  refine x_iload_n (pc := 1) dX11_before_1 rfl rfl ?_
  refine x_callV1 (pc := 2) dX11_before_2 rfl kX11_131 (s_needSet hfl _ hC (by omega)) (sC_0 hC) rfl rfl (Nat.le_of_ble_eq_true rfl) (k_N (fun h_2 => ?_)) (n_N (fun h_2 => (by rw [c0] at h_2; have e9 : spBefore A s = (1, 0, A) := (by unfold spBefore; (repeat' split) <;> first | rfl | (exfalso; omega)); rw [e9]; exact ⟨rfl, rfl, fun _ _ _ _ => rfl, hR, Or.inr ⟨show ¬ (1 : Int) = 0 by decide, rfl⟩⟩)))
  rw [c0] at h_2
  have hsl := isSet_lt hA h_2
  refine x_aload_n (pc := 5) dX11_before_5 rfl rfl ?_
  refine x_getR (jj := 7) (pc := 6) dX11_before_6 fX11_72 (sC_0 hC) rfl (by decide) rfl rC_0_7 ?_
  refine x_iload_n (pc := 9) dX11_before_9 rfl rfl ?_
  refine x_callV1 (pc := 10) dX11_before_10 rfl kX11_301 (s_spread hfl s (A 0) hC hR.1.1 hA.td) (sC_79 hC) rfl rfl (Nat.le_of_ble_eq_true rfl) (k_U (fun M8 hM8 => ?_)) n_U
  obtain ⟨s1, s2, s3⟩ := hM8
  have hR8 := hR.ch s1
  refine x_iconst (pc := 13) dX11_before_13 (by decide) ?_
  refine x_istore_n (pc := 14) dX11_before_14 rfl (by decide) rfl ?_
  refine x_aload_n (pc := 15) dX11_before_15 rfl rfl ?_
  refine x_getR (jj := 7) (pc := 16) dX11_before_16 fX11_72 (sC_0 hC) rfl (by decide) rfl rC_0_7 ?_
  refine x_iconst (pc := 19) dX11_before_19 (by decide) ?_
  refine x_iconst (pc := 20) dX11_before_20 (by decide) ?_
  refine x_callV2 (pc := 21) dX11_before_21 rfl kX11_304 (s_riskC hfl s 0 0 (A 0) hC hR8.1.2 hA.td (by omega) (by omega) s2 s3) (sC_79 hC) rfl rfl (Nat.le_of_ble_eq_true rfl) (k_R ?_) n_R
  refine x_lstore_n (pc := 24) dX11_before_24 rfl (by decide) rfl ?_
  refine x_bipush (pc := 25) dX11_before_25 (by decide) ?_
  refine x_iload_n (pc := 27) dX11_before_27 rfl rfl ?_
  refine x_callS1 (pc := 28) dX11_before_28 rfl kX11_296 (s_bitCount hfl s ⟨by omega, hsl.2⟩) rfl (Nat.le_of_ble_eq_true rfl) (k_R ?_) n_R
  have hsz := size_r (set := s) (by omega)
  have loop := a_loop2 (fun q M1 => (1 ≤ q ∧ q ≤ 8 * sumN (hb s) 7 + 1) ∧ RC M1 N S A ∧ frC M M1 ∧ (∀ k, 0 ≤ k → k < 57 → M1 80 k = oddsV (A 0) s 7 k) ∧ M1 79 3 = allC (A 0) s 7) (fun q M1 => (8 * sumN (hb s) 7 + 1 - q).toNat) (fun q M1 => aX l E pX11_before (opC M N S 0 (spBefore A s) (fun _ => 0)) 1 6 N S M1 37 [(0, (2, 0)), (1, (0, s)), (2, (0, bestQ (A 0) s (q - 1).toNat)), (3, (1, riskC (A 0) s (bestQ (A 0) s (q - 1).toNat) (buysV (A 0) (bestQ (A 0) s (q - 1).toNat) 0))), (5, (0, 8 * sumN (hb s) 7)), (6, (0, q))] []) (by
    intro q M1 hI ih
    obtain ⟨k1, k2, k3, k4, k5⟩ := hI
    refine x_iload (pc := 37) dX11_before_37 rfl ?_
    refine x_iload (pc := 39) dX11_before_39 rfl ?_
    refine x_icmp_gt (tgt := 95) (pc := 41) dX11_before_41 (by decide) (fun c_41 => ?_) (fun c_41 => ?_)
    · have e : (q - 1).toNat = (8 * sumN (hb s) 7).toNat := by omega
      rw [e]
      have hbq := bestQ_r (t := A 0) (s := s) (8 * sumN (hb s) 7).toNat
      have hb2 := buysA hA (q := bestQ (A 0) s (8 * sumN (hb s) 7).toNat) (by omega)
      have hrr := riskC_r hA.td (set := s) (q := bestQ (A 0) s (8 * sumN (hb s) 7).toNat) (cost := buysV (A 0) (bestQ (A 0) s (8 * sumN (hb s) 7).toNat) 0) ⟨by omega, by omega⟩ (by omega)
      have har := allC_r hA.td (set := s) 7 (by omega)
      have hp7 := p36_le 7 (by omega)
      refine x_aload_n (pc := 95) dX11_before_95 rfl rfl ?_
      refine x_lload_n (pc := 96) dX11_before_96 rfl rfl ?_
      refine x_aload_n (pc := 97) dX11_before_97 rfl rfl ?_
      refine x_getR (jj := 7) (pc := 98) dX11_before_98 fX11_72 (sC_0 hC) rfl (by decide) rfl rC_0_7 ?_
      refine x_getJV (jj := 3) (pc := 101) dX11_before_101 fX11_308 (sC_79 hC) rfl (by decide) rfl (by (repeat (first | rewrite [up_s] | rewrite [up_i (by omega)] | rewrite [up_a (by omega)])); first | exact k5 | rfl) ?_
      refine x_callV2 (pc := 104) dX11_before_104 rfl kX11_252 (s_tell hfl (riskC (A 0) s (bestQ (A 0) s (8 * sumN (hb s) 7).toNat) (buysV (A 0) (bestQ (A 0) s (8 * sumN (hb s) 7).toNat) 0)) (allC (A 0) s 7) hC hrr ⟨by omega, by omega⟩) (sC_0 hC) rfl rfl (Nat.le_of_ble_eq_true rfl) (k_U (fun M7 hM7 => ?_)) n_U
      subst hM7
      refine x_iload_n (pc := 107) dX11_before_107 rfl rfl ?_
      refine x_ireturn (pc := 108) dX11_before_108 rfl (by decide) ?_
      have e9 : spBefore A s = (0, bestQ (A 0) s (8 * sumN (hb s) 7).toNat, frA A (riskC (A 0) s (bestQ (A 0) s (8 * sumN (hb s) 7).toNat) (buysV (A 0) (bestQ (A 0) s (8 * sumN (hb s) 7).toNat) 0)) (allC (A 0) s 7)) := by
        unfold spBefore
        rw [if_neg (by omega)]
      rw [e9]
      refine ⟨rfl, rfl, fun a j x y => ?_, k2.fr, Or.inl ⟨rfl, rfl⟩⟩
      rw [up_a (by omega), up_a (by omega)]
      exact k3 a j x y
    · refine x_aload_n (pc := 44) dX11_before_44 rfl rfl ?_
      refine x_iload (pc := 45) dX11_before_45 rfl ?_
      refine x_iconst (pc := 47) dX11_before_47 (by decide) ?_
      refine x_callV2 (pc := 48) dX11_before_48 rfl kX11_188 (s_costOfBuys hfl q 0 hC A k2 hA (by omega) (by omega)) (sC_0 hC) rfl rfl (Nat.le_of_ble_eq_true rfl) (k_G (fun v9 M9 hM9 => ?_)) n_G
      obtain ⟨rfl, hR9, hf9⟩ := hM9
      have hbr := buysA hA (q := q) (by omega)
      have hO9 : ∀ k, 0 ≤ k → k < 57 → M9 80 k = oddsV (A 0) s 7 k := fun k x y => (hf9 80 (by omega) k).trans (k4 k x y)
      have hA9 : M9 79 3 = allC (A 0) s 7 := (hf9 79 (by omega) 3).trans k5
      have hF9 : frC M M9 := fun a j x y => (hf9 a (by omega) j).trans (k3 a j x y)
      refine x_istore (pc := 51) dX11_before_51 (by decide) rfl ?_
      refine x_iload (pc := 53) dX11_before_53 rfl ?_
      refine x_iconst (pc := 55) dX11_before_55 (by decide) ?_
      refine x_icmp_ne (tgt := 63) (pc := 56) dX11_before_56 (by decide) (fun c_56 => ?_) (fun c_56 => ?_)
      · refine x_aload_n (pc := 63) dX11_before_63 rfl rfl ?_
        refine x_getR (jj := 7) (pc := 64) dX11_before_64 fX11_72 (sC_0 hC) rfl (by decide) rfl rC_0_7 ?_
        refine x_iload (pc := 67) dX11_before_67 rfl ?_
        refine x_iload (pc := 69) dX11_before_69 rfl ?_
        refine x_callV2 (pc := 71) dX11_before_71 rfl kX11_304 (s_riskC hfl s q (buysV (A 0) q 0) (A 0) hC hR9.1.2 hA.td ⟨by omega, by omega⟩ (by omega) hO9 hA9) (sC_79 hC) rfl rfl (Nat.le_of_ble_eq_true rfl) (k_R ?_) n_R
        refine x_lstore (pc := 74) dX11_before_74 (by decide) rfl ?_
        refine x_lload (pc := 76) dX11_before_76 rfl ?_
        refine x_lload_n (pc := 78) dX11_before_78 rfl rfl ?_
        refine x_lge (tgt := 89) (pc := 79) dX11_before_79 dX11_before_80 (by decide) (fun c_79 => ?_) (fun c_79 => ?_)
        · refine x_iinc (pc := 89) dX11_before_89 rfl (by omega) (by decide) rfl ?_
          refine x_goto (tgt := 37) (pc := 92) dX11_before_92 (by decide) ?_
          have e := bestQ_1 (t := A 0) (s := s) (q := q) k1.1
          rw [if_neg (by rintro ⟨u, v⟩; omega)] at e
          refine x_lo (lo' := [(0, (2, 0)), (1, (0, s)), (2, (0, bestQ (A 0) s (q - 1).toNat)), (3, (1, riskC (A 0) s (bestQ (A 0) s (q - 1).toNat) (buysV (A 0) (bestQ (A 0) s (q - 1).toNat) 0))), (5, (0, 8 * sumN (hb s) 7)), (6, (0, q + 1))]) ⟨rfl, rfl, rfl, rfl, rfl, rfl, trivial⟩ ?_
          have z := ih (q + 1) M9 ⟨by omega, hR9, hF9, hO9, hA9⟩ (by omega)
          rw [show q + 1 - 1 = q by omega, e] at z
          exact z
        · refine x_iload (pc := 83) dX11_before_83 rfl ?_
          refine x_istore_n (pc := 85) dX11_before_85 rfl (by decide) rfl ?_
          refine x_lload (pc := 86) dX11_before_86 rfl ?_
          refine x_lstore_n (pc := 88) dX11_before_88 rfl (by decide) rfl ?_
          refine x_iinc (pc := 89) dX11_before_89 rfl (by omega) (by decide) rfl ?_
          refine x_goto (tgt := 37) (pc := 92) dX11_before_92 (by decide) ?_
          have e := bestQ_1 (t := A 0) (s := s) (q := q) k1.1
          rw [if_pos ⟨by assumption, by omega⟩] at e
          refine x_lo (lo' := [(0, (2, 0)), (1, (0, s)), (2, (0, q)), (3, (1, riskC (A 0) s (q) (buysV (A 0) (q) 0))), (5, (0, 8 * sumN (hb s) 7)), (6, (0, q + 1))]) ⟨rfl, rfl, rfl, rfl, rfl, rfl, trivial⟩ ?_
          have z := ih (q + 1) M9 ⟨by omega, hR9, hF9, hO9, hA9⟩ (by omega)
          rw [show q + 1 - 1 = q by omega, e] at z
          exact z
      · refine x_lload_n (pc := 59) dX11_before_59 rfl rfl ?_
        refine x_goto (tgt := 74) (pc := 60) dX11_before_60 (by decide) ?_
        refine x_lstore (pc := 74) dX11_before_74 (by decide) rfl ?_
        refine x_lload (pc := 76) dX11_before_76 rfl ?_
        refine x_lload_n (pc := 78) dX11_before_78 rfl rfl ?_
        refine x_lge (tgt := 89) (pc := 79) dX11_before_79 dX11_before_80 (by decide) (fun c_79 => ?_) (fun c_79 => ?_)
        · refine x_iinc (pc := 89) dX11_before_89 rfl (by omega) (by decide) rfl ?_
          refine x_goto (tgt := 37) (pc := 92) dX11_before_92 (by decide) ?_
          have e := bestQ_1 (t := A 0) (s := s) (q := q) k1.1
          rw [if_neg (by rintro ⟨u, v⟩; exact absurd (by assumption) u)] at e
          refine x_lo (lo' := [(0, (2, 0)), (1, (0, s)), (2, (0, bestQ (A 0) s (q - 1).toNat)), (3, (1, riskC (A 0) s (bestQ (A 0) s (q - 1).toNat) (buysV (A 0) (bestQ (A 0) s (q - 1).toNat) 0))), (5, (0, 8 * sumN (hb s) 7)), (6, (0, q + 1))]) ⟨rfl, rfl, rfl, rfl, rfl, rfl, trivial⟩ ?_
          have z := ih (q + 1) M9 ⟨by omega, hR9, hF9, hO9, hA9⟩ (by omega)
          rw [show q + 1 - 1 = q by omega, e] at z
          exact z
        · refine x_iload (pc := 83) dX11_before_83 rfl ?_
          refine x_istore_n (pc := 85) dX11_before_85 rfl (by decide) rfl ?_
          refine x_lload (pc := 86) dX11_before_86 rfl ?_
          refine x_lstore_n (pc := 88) dX11_before_88 rfl (by decide) rfl ?_
          refine x_iinc (pc := 89) dX11_before_89 rfl (by omega) (by decide) rfl ?_
          refine x_goto (tgt := 37) (pc := 92) dX11_before_92 (by decide) ?_
          exfalso; omega)
  refine x_imul (pc := 31) dX11_before_31 (by omega) ?_
  refine x_istore (pc := 32) dX11_before_32 (by decide) rfl ?_
  refine x_iconst (pc := 34) dX11_before_34 (by decide) ?_
  refine x_istore (pc := 35) dX11_before_35 (by decide) rfl ?_
  refine x_lo (lo' := [(0, (2, 0)), (1, (0, s)), (2, (0, bestQ (A 0) s (1 - 1 : Int).toNat)), (3, (1, riskC (A 0) s (bestQ (A 0) s (1 - 1 : Int).toNat) (buysV (A 0) (bestQ (A 0) s (1 - 1 : Int).toNat) 0))), (5, (0, 8 * sumN (hb s) 7)), (6, (0, 1))]) ⟨rfl, rfl, rfl, ?_, rfl, rfl, trivial⟩ (loop 1 _ ⟨by omega, hR8, fun a j x y => s1 a j (by omega) (by omega) (by omega), s2, s3⟩)
  show some (1, riskC (A 0) s 0 0) = some (1, riskC (A 0) s 0 (buysV (A 0) 0 0))
  rw [buysV_0]
theorem s_Mrisk {l : Launch} {E : aE} {N : Nat} {S : aS} {M : aM} (hfl : l.stackTraces = false) (s q : Int) (m : Int) (A : aM) (hS : lyM S m) (hR : RM M m A) (hA : TOK (A 0)) : aMt l E pX12_risk [(2, m), (0, s), (0, q)] N S M (aG N S (opM M m 0 (spRisk A s q))) := by
  refine a_met hfl rfl (by decide +kernel) (Nat.le_of_ble_eq_true rfl) ?_
  refine x_aload_n (pc := 0) dX12_risk_0 rfl rfl ?_
  refine x_iconst (pc := 1) dX12_risk_1 (by decide) ?_
  refine x_putI (jj := 3) (pc := 2) dX12_risk_2 fX12_103 hS.1 rfl (by decide) rfl ?_
  refine x_memI (fun M1 hM1 => ?_)
  have R1 : RM M1 m A := by rw [hM1]; exact hR.up3
  have F1 : frM M M1 m := by rw [hM1]; exact frM.rf.up (by omega)
  have T1 : M1 m 3 = 0 := by rw [hM1]; exact up_s
  clear hM1
  have e0 : M1 (m + 1) 0 = A 0 0 := R1.1.1 0 (by omega) (by omega)
  have t0 := hA.1
  refine x_aload_n (pc := 5) dX12_risk_5 rfl rfl ?_
  refine x_iload_n (pc := 6) dX12_risk_6 rfl rfl ?_
  refine x_callV1 (pc := 7) dX12_risk_7 rfl kX12_143 (s_isSet hfl m s hS) hS.1 rfl rfl (Nat.le_of_ble_eq_true rfl) (k_B (fun q_7 => ?_) (fun q_7 => ?_)) n_B
  · rw [e0] at q_7
    refine x_if_eq (tgt := 30) (pc := 10) dX12_risk_10 (by decide) (fun c => absurd c (by decide)) (fun _ => ?_)
    refine x_iload_n (pc := 13) dX12_risk_13 rfl rfl ?_
    refine x_i2l (pc := 14) dX12_risk_14 ?_
    refine x_lconst0 (pc := 15) dX12_risk_15 ?_
    refine x_bipush (pc := 16) dX12_risk_16 (by decide) ?_
    refine x_iload_n (pc := 18) dX12_risk_18 rfl rfl ?_
    refine x_callS1 (pc := 19) dX12_risk_19 rfl kX12_304 (s_sizeOf hfl s ⟨by have := isSet_lt hA (s := s) (by omega); omega, by have := isSet_lt hA (s := s) (by omega); omega⟩) rfl (Nat.le_of_ble_eq_true rfl) (k_R ?_) n_R
    have hsl := isSet_lt hA (s := s) (by omega)
    have hsz := size_r (set := s) (by omega)
    refine x_imul (pc := 22) dX12_risk_22 (by omega) ?_
    refine x_i2l (pc := 23) dX12_risk_23 ?_
    refine x_callS3 (pc := 24) dX12_risk_24 rfl kX12_106 (s_within hfl _ _ _) rfl (Nat.le_of_ble_eq_true rfl) (k_B (fun q_24 => ?_) (fun q_24 => ?_)) n_B
    · refine x_if_ne (tgt := 36) (pc := 27) dX12_risk_27 (by decide) (fun _ => ?_) (fun c => absurd c (by decide))
      refine x_aload_n (pc := 36) dX12_risk_36 rfl rfl ?_
      refine x_iload_n (pc := 37) dX12_risk_37 rfl rfl ?_
      refine x_iconst (pc := 38) dX12_risk_38 (by decide) ?_
      refine x_callV2 (pc := 39) dX12_risk_39 rfl kX12_279 (s_buysOf hfl m (core (A 0)) hS R1.re (core_tt hA.tt) R1.rp0 q 0 (by omega) (by omega) (by rw [core_hi (by omega)]; exact hA.2.2.2.2.2.2.2.2.2.2.2.2.2.2.2.2.2.2.1 0 (by omega) (by omega))) hS.1 rfl rfl (Nat.le_of_ble_eq_true rfl) (k_G (fun v9 M9 hM9 => ?_)) n_G
      obtain ⟨rfl, f9, p9, z9⟩ := hM9
      have R9 : RM M9 m A := R1.mk9w f9.k ⟨Or.inr p9, z9⟩ (RCw.cg R1.2.2.1 (fun i => f9 _ _ (by omega) (by omega)))
      rewrite [buysV_cg (u := A 0) (fun j hj => core_hi hj) _ _ (by omega)]
      have he9 := encF_or2 (buysV (A 0) q 0)
      have hbr := buysA hA (q := q) (by omega)
      have T9 : M9 m 3 = 0 := (f9 m 3 (by omega) (by omega)).trans T1
      have F9 : frM M M9 m := F1.tr f9.k.fr
      refine x_ldcw (n := 1000000000) (pc := 42) cX12_265 (by decide) dX12_risk_42 ?_
      refine x_icmp_ne (tgt := 50) (pc := 45) dX12_risk_45 (by decide) (fun c_45 => ?_) (fun c_45 => ?_)
      · refine x_aload_n (pc := 50) dX12_risk_50 rfl rfl ?_
        refine x_iload_n (pc := 51) dX12_risk_51 rfl rfl ?_
        refine x_callV1 (pc := 52) dX12_risk_52 rfl kX12_420 (s_layLikely hfl m (A 0) hS s R9.1.1 hA.td) hS.1 rfl rfl (Nat.le_of_ble_eq_true rfl) (k_U (fun M8 hM8 => ?_)) n_U
        obtain ⟨s1, s2, s3⟩ := hM8
        have K8 : frK M9 M8 m := fun a i x y z => s1 a i (by omega) (by omega) (by omega)
        have R8 : RM M8 m A := R9.mk9w K8 (RP0.cg R9.rp0 fun a i x => s1 a i (by omega) (by omega) (by omega)) (RCw.cg R9.2.2.1 fun i => s1 _ i (by omega) (by omega) (by omega))
        have T8 : M8 m 3 = 0 := (s1 m 3 (by omega) (by omega) (by omega)).trans T9
        have F8 : frM M M8 m := F9.tr K8.fr
        refine x_aload_n (pc := 55) dX12_risk_55 rfl rfl ?_
        refine x_aload_n (pc := 56) dX12_risk_56 rfl rfl ?_
        refine x_iload_n (pc := 57) dX12_risk_57 rfl rfl ?_
        refine x_callV1 (pc := 58) dX12_risk_58 rfl kX12_423 (s_riskM hfl m A hS R8 hA s (q) ⟨by omega, by omega⟩ (by omega) s2 s3) hS.1 rfl rfl (Nat.le_of_ble_eq_true rfl) (k_G (fun v7 M7 hM7 => ?_)) n_G
        obtain ⟨rfl, f7, R7⟩ := hM7
        have T7 : M7 m 3 = 0 := (f7 m 3 (by omega) (by omega)).trans T8
        have F7 : frM M M7 m := F8.tr f7.k.fr
        have O7 : ∀ k, 0 ≤ k → k < 57 → M7 (m + 25) k = oddsV (A 0) s 7 k := fun k x y => (f7 _ _ (by omega) (by omega)).trans (s2 k x y)
        have A7 : M7 m 48 = allC (A 0) s 7 := (f7 m 48 (by omega) (by omega)).trans s3
        refine x_aload_n (pc := 61) dX12_risk_61 rfl rfl ?_
        refine x_getJV (jj := 48) (pc := 62) dX12_risk_62 fX12_413 hS.1 rfl (by decide) rfl (by (repeat (first | rewrite [up_s] | rewrite [up_i (by omega)] | rewrite [up_a (by omega)] | rewrite [stM_a (by omega) (by omega)])); first | exact A7 | exact R1.1.1 _ (by omega) (by omega) | rfl) ?_
        have hrr := riskC_r hA.td (set := s) (q := q) (cost := buysV (A 0) q 0) ⟨by omega, by omega⟩ (by omega)
        have har := allC_r hA.td (set := s) 7 (by omega)
        have hp7 := p36_le 7 (by omega)
        refine x_callV2 (pc := 65) dX12_risk_65 rfl kX12_392 (s_fraction hfl m (riskC (A 0) s q (buysV (A 0) q 0)) (allC (A 0) s 7) hS hrr ⟨by omega, by omega⟩) hS.1 rfl rfl (Nat.le_of_ble_eq_true rfl) (k_U (fun M6 hM6 => ?_)) n_U
        subst hM6
        refine x_iconst (pc := 68) dX12_risk_68 (by decide) ?_
        refine x_zreturn (pc := 69) dX12_risk_69 rfl (by omega) (by decide) ?_
        have e9 : spRisk A s q = (0, 1, frA A (riskC (A 0) s q (buysV (A 0) q 0)) (allC (A 0) s 7)) := by
          unfold spRisk
          (repeat' split) <;> first | rfl | (exfalso; omega)
        rw [e9]
        refine ⟨_, rfl, rfl, rfl, rfl, ?_, fun _ => rfl, R7.fr, (F7.up (by omega)).up (by omega)⟩
        rw [up_i (by omega), up_i (by omega)]; exact T7
      · refine x_iconst (pc := 48) dX12_risk_48 (by decide) ?_
        refine x_zreturn (pc := 49) dX12_risk_49 rfl (by omega) (by decide) ?_
        have e9 : spRisk A s q = (0, 0, A) := by
          unfold spRisk
          (repeat' split) <;> first | rfl | (exfalso; omega)
        rw [e9]
        exact ⟨_, rfl, rfl, rfl, rfl, T9, fun _ => rfl, R9, F9⟩
    · refine x_if_ne (tgt := 36) (pc := 27) dX12_risk_27 (by decide) (fun c => absurd c (by decide)) (fun _ => ?_)
      refine x_aload_n (pc := 30) dX12_risk_30 rfl rfl ?_
      refine x_iconst (pc := 31) dX12_risk_31 (by decide) ?_
      refine x_callV1 (pc := 32) dX12_risk_32 rfl kX12_133 (s_fell hfl m _ hS) hS.1 rfl rfl (Nat.le_of_ble_eq_true rfl) (k_G (fun v9 M9 hM9 => ?_)) n_G
      obtain ⟨rfl, rfl⟩ := hM9
      refine x_zreturn (pc := 35) dX12_risk_35 rfl (by omega) (by decide) ?_
      have e9 : spRisk A s q = (1, 0, A) := by
        unfold spRisk
        rw [if_pos (by omega)]
      rw [e9]
      exact ⟨_, rfl, rfl, rfl, rfl, up_s, fun q => absurd q (show ¬ (1 : Int) = 0 by decide), R1.up3, F1.up (by omega)⟩
  · rw [e0] at q_7
    refine x_if_eq (tgt := 30) (pc := 10) dX12_risk_10 (by decide) (fun _ => ?_) (fun c => absurd c (by decide))
    refine x_aload_n (pc := 30) dX12_risk_30 rfl rfl ?_
    refine x_iconst (pc := 31) dX12_risk_31 (by decide) ?_
    refine x_callV1 (pc := 32) dX12_risk_32 rfl kX12_133 (s_fell hfl m _ hS) hS.1 rfl rfl (Nat.le_of_ble_eq_true rfl) (k_G (fun v9 M9 hM9 => ?_)) n_G
    obtain ⟨rfl, rfl⟩ := hM9
    refine x_zreturn (pc := 35) dX12_risk_35 rfl (by omega) (by decide) ?_
    have e9 : spRisk A s q = (1, 0, A) := by
      unfold spRisk
      rw [if_pos (by omega)]
    rw [e9]
    exact ⟨_, rfl, rfl, rfl, rfl, up_s, fun q => absurd q (show ¬ (1 : Int) = 0 by decide), R1.up3, F1.up (by omega)⟩
theorem s_Mbefore {l : Launch} {E : aE} {N : Nat} {S : aS} {M : aM} (hfl : l.stackTraces = false) (s : Int) (m : Int) (A : aM) (hS : lyM S m) (hR : RM M m A) (hA : TOK (A 0)) : aMt l E pX12_before [(2, m), (0, s)] N S M (aG N S (opM M m 0 (spBefore A s))) := by
  refine a_met hfl rfl (by decide +kernel) (Nat.le_of_ble_eq_true rfl) ?_
  refine x_aload_n (pc := 0) dX12_before_0 rfl rfl ?_
  refine x_iconst (pc := 1) dX12_before_1 (by decide) ?_
  refine x_putI (jj := 3) (pc := 2) dX12_before_2 fX12_103 hS.1 rfl (by decide) rfl ?_
  refine x_memI (fun M1 hM1 => ?_)
  have R1 : RM M1 m A := by rw [hM1]; exact hR.up3
  have F1 : frM M M1 m := by rw [hM1]; exact frM.rf.up (by omega)
  have T1 : M1 m 3 = 0 := by rw [hM1]; exact up_s
  clear hM1
  have e0 : M1 (m + 1) 0 = A 0 0 := R1.1.1 0 (by omega) (by omega)
  have t0 := hA.1
  refine x_aload_n (pc := 5) dX12_before_5 rfl rfl ?_
  refine x_iload_n (pc := 6) dX12_before_6 rfl rfl ?_
  refine x_callV1 (pc := 7) dX12_before_7 rfl kX12_143 (s_isSet hfl m s hS) hS.1 rfl rfl (Nat.le_of_ble_eq_true rfl) (k_B (fun q_7 => ?_) (fun q_7 => ?_)) n_B
  · rw [e0] at q_7
    refine x_if_ne (tgt := 19) (pc := 10) dX12_before_10 (by decide) (fun _ => ?_) (fun c => absurd c (by decide))
    have hsl := isSet_lt hA (s := s) (by omega)
    refine x_aload_n (pc := 19) dX12_before_19 rfl rfl ?_
    refine x_iload_n (pc := 20) dX12_before_20 rfl rfl ?_
    refine x_callV1 (pc := 21) dX12_before_21 rfl kX12_420 (s_layLikely hfl m (A 0) hS s R1.1.1 hA.td) hS.1 rfl rfl (Nat.le_of_ble_eq_true rfl) (k_U (fun M8 hM8 => ?_)) n_U
    obtain ⟨s1, s2, s3⟩ := hM8
    have K8 : frK M1 M8 m := fun a i x y z => s1 a i (by omega) (by omega) (by omega)
    have R8 : RM M8 m A := R1.mk9w K8 (RP0.cg R1.rp0 fun a i x => s1 a i (by omega) (by omega) (by omega)) (RCw.cg R1.2.2.1 fun i => s1 _ i (by omega) (by omega) (by omega))
    have T8 : M8 m 3 = 0 := (s1 m 3 (by omega) (by omega) (by omega)).trans T1
    have F8 : frM M M8 m := F1.tr K8.fr
    refine x_iconst (pc := 24) dX12_before_24 (by decide) ?_
    refine x_istore_n (pc := 25) dX12_before_25 rfl (by decide) rfl ?_
    refine x_iconst (pc := 26) dX12_before_26 (by decide) ?_
    refine x_istore_n (pc := 27) dX12_before_27 rfl (by decide) rfl ?_
    have hsz := size_r (set := s) (by omega)
    have loop := a_loop2 (fun q M1 => (1 ≤ q ∧ q ≤ 8 * sumN (hb s) 7 + 1) ∧ RM M1 m A ∧ M1 m 3 = 0 ∧ frM M M1 m ∧ (∀ k, 0 ≤ k → k < 57 → M1 (m + 25) k = oddsV (A 0) s 7 k) ∧ M1 m 48 = allC (A 0) s 7) (fun q M1 => (8 * sumN (hb s) 7 + 1 - q).toNat) (fun q M1 => aX l E pX12_before (aG N S (opM M m 0 (spBefore A s))) 0 0 N S M1 28 [(0, (2, m)), (1, (0, s)), (2, (0, bestQ (A 0) s (q - 1).toNat)), (3, (0, q))] []) (by
      intro q M1 hI ih
      obtain ⟨k1, k2, k3, k4, k5, k6⟩ := hI
      refine x_iload_n (pc := 28) dX12_before_28 rfl rfl ?_
      refine x_bipush (pc := 29) dX12_before_29 (by decide) ?_
      refine x_iload_n (pc := 31) dX12_before_31 rfl rfl ?_
      refine x_callS1 (pc := 32) dX12_before_32 rfl kX12_304 (s_sizeOf hfl s ⟨by omega, by omega⟩) rfl (Nat.le_of_ble_eq_true rfl) (k_R ?_) n_R
      refine x_imul (pc := 35) dX12_before_35 (by omega) ?_
      refine x_icmp_gt (tgt := 73) (pc := 36) dX12_before_36 (by decide) (fun c_36 => ?_) (fun c_36 => ?_)
      · have e : (q - 1).toNat = (8 * sumN (hb s) 7).toNat := by omega
        rw [e]
        have hbq := bestQ_r (t := A 0) (s := s) (8 * sumN (hb s) 7).toNat
        have hb2 := buysA hA (q := bestQ (A 0) s (8 * sumN (hb s) 7).toNat) (by omega)
        have hrr := riskC_r hA.td (set := s) (q := bestQ (A 0) s (8 * sumN (hb s) 7).toNat) (cost := buysV (A 0) (bestQ (A 0) s (8 * sumN (hb s) 7).toNat) 0) ⟨by omega, by omega⟩ (by omega)
        have har := allC_r hA.td (set := s) 7 (by omega)
        have hp7 := p36_le 7 (by omega)
        refine x_aload_n (pc := 73) dX12_before_73 rfl rfl ?_
        refine x_aload_n (pc := 74) dX12_before_74 rfl rfl ?_
        refine x_iload_n (pc := 75) dX12_before_75 rfl rfl ?_
        refine x_callV1 (pc := 76) dX12_before_76 rfl kX12_423 (s_riskM hfl m A hS k2 hA s (bestQ (A 0) s (8 * sumN (hb s) 7).toNat) ⟨by omega, by omega⟩ hbq.2 k5 k6) hS.1 rfl rfl (Nat.le_of_ble_eq_true rfl) (k_G (fun v5 M5 hM5 => ?_)) n_G
        obtain ⟨rfl, f5, R5⟩ := hM5
        have T5 : M5 m 3 = 0 := (f5 m 3 (by omega) (by omega)).trans k3
        have F5 : frM M M5 m := k4.tr f5.k.fr
        have O5 : ∀ k, 0 ≤ k → k < 57 → M5 (m + 25) k = oddsV (A 0) s 7 k := fun k x y => (f5 _ _ (by omega) (by omega)).trans (k5 k x y)
        have A5 : M5 m 48 = allC (A 0) s 7 := (f5 m 48 (by omega) (by omega)).trans k6
        refine x_aload_n (pc := 79) dX12_before_79 rfl rfl ?_
        refine x_getJV (jj := 48) (pc := 80) dX12_before_80 fX12_413 hS.1 rfl (by decide) rfl (by (repeat (first | rewrite [up_s] | rewrite [up_i (by omega)] | rewrite [up_a (by omega)] | rewrite [stM_a (by omega) (by omega)])); first | exact A5 | rfl) ?_
        refine x_callV2 (pc := 83) dX12_before_83 rfl kX12_392 (s_fraction hfl m (riskC (A 0) s (bestQ (A 0) s (8 * sumN (hb s) 7).toNat) (buysV (A 0) (bestQ (A 0) s (8 * sumN (hb s) 7).toNat) 0)) (allC (A 0) s 7) hS hrr ⟨by omega, by omega⟩) hS.1 rfl rfl (Nat.le_of_ble_eq_true rfl) (k_U (fun M6 hM6 => ?_)) n_U
        subst hM6
        refine x_iload_n (pc := 86) dX12_before_86 rfl rfl ?_
        refine x_ireturn (pc := 87) dX12_before_87 rfl (by decide) ?_
        have e9 : spBefore A s = (0, bestQ (A 0) s (8 * sumN (hb s) 7).toNat, frA A (riskC (A 0) s (bestQ (A 0) s (8 * sumN (hb s) 7).toNat) (buysV (A 0) (bestQ (A 0) s (8 * sumN (hb s) 7).toNat) 0)) (allC (A 0) s 7)) := by
          unfold spBefore
          rw [if_neg (by omega)]
        rw [e9]
        refine ⟨_, rfl, rfl, rfl, rfl, ?_, fun _ => rfl, R5.fr, (F5.up (by omega)).up (by omega)⟩
        rw [up_i (by omega), up_i (by omega)]; exact T5
      · refine x_aload_n (pc := 39) dX12_before_39 rfl rfl ?_
        refine x_iload_n (pc := 40) dX12_before_40 rfl rfl ?_
        refine x_iconst (pc := 41) dX12_before_41 (by decide) ?_
        refine x_callV2 (pc := 42) dX12_before_42 rfl kX12_279 (s_buysOf hfl m (core (A 0)) hS k2.re (core_tt hA.tt) k2.rp0 q 0 (by omega) (by omega) (by rw [core_hi (by omega)]; exact hA.2.2.2.2.2.2.2.2.2.2.2.2.2.2.2.2.2.2.1 0 (by omega) (by omega))) hS.1 rfl rfl (Nat.le_of_ble_eq_true rfl) (k_G (fun v9 M9 hM9 => ?_)) n_G
        obtain ⟨rfl, f9, p9, z9⟩ := hM9
        have R9 : RM M9 m A := k2.mk9w f9.k ⟨Or.inr p9, z9⟩ (RCw.cg k2.2.2.1 (fun i => f9 _ _ (by omega) (by omega)))
        rewrite [buysV_cg (u := A 0) (fun j hj => core_hi hj) _ _ (by omega)]
        have he9 := encF_or2 (buysV (A 0) q 0)
        have hbr := buysA hA (q := q) (by omega)
        have T9 : M9 m 3 = 0 := (f9 m 3 (by omega) (by omega)).trans k3
        have F9 : frM M M9 m := k4.tr f9.k.fr
        have O9 : ∀ k, 0 ≤ k → k < 57 → M9 (m + 25) k = oddsV (A 0) s 7 k := fun k x y => (f9 _ _ (by omega) (by omega)).trans (k5 k x y)
        have A9 : M9 m 48 = allC (A 0) s 7 := (f9 m 48 (by omega) (by omega)).trans k6
        have hbq := bestQ_r (t := A 0) (s := s) (q - 1).toNat
        refine x_ldcw (n := 1000000000) (pc := 45) cX12_265 (by decide) dX12_before_45 ?_
        refine x_icmp_eq (tgt := 67) (pc := 48) dX12_before_48 (by decide) (fun c_48 => ?_) (fun c_48 => ?_)
        · refine x_iinc (pc := 67) dX12_before_67 rfl (by omega) (by decide) rfl ?_
          refine x_goto (tgt := 28) (pc := 70) dX12_before_70 (by decide) ?_
          have e := bestQ_1 (t := A 0) (s := s) (q := q) k1.1
          rw [if_neg (by rintro ⟨u, v⟩; omega)] at e
          refine x_lo (lo' := [(0, (2, m)), (1, (0, s)), (2, (0, bestQ (A 0) s (q - 1).toNat)), (3, (0, q + 1))]) ⟨rfl, rfl, rfl, rfl, trivial⟩ ?_
          have z := ih (q + 1) M9 ⟨by omega, R9, T9, F9, O9, A9⟩ (by omega)
          rw [show q + 1 - 1 = q by omega, e] at z
          exact z
        · refine x_aload_n (pc := 51) dX12_before_51 rfl rfl ?_
          refine x_iload_n (pc := 52) dX12_before_52 rfl rfl ?_
          refine x_callV1 (pc := 53) dX12_before_53 rfl kX12_423 (s_riskM hfl m A hS R9 hA s (q) ⟨by omega, by omega⟩ (by omega) O9 A9) hS.1 rfl rfl (Nat.le_of_ble_eq_true rfl) (k_G (fun v8 M8 hM8 => ?_)) n_G
          obtain ⟨rfl, f8, R8⟩ := hM8
          have T8 : M8 m 3 = 0 := (f8 m 3 (by omega) (by omega)).trans T9
          have F8 : frM M M8 m := F9.tr f8.k.fr
          have O8 : ∀ k, 0 ≤ k → k < 57 → M8 (m + 25) k = oddsV (A 0) s 7 k := fun k x y => (f8 _ _ (by omega) (by omega)).trans (O9 k x y)
          have A8 : M8 m 48 = allC (A 0) s 7 := (f8 m 48 (by omega) (by omega)).trans A9
          refine x_aload_n (pc := 56) dX12_before_56 rfl rfl ?_
          refine x_iload_n (pc := 57) dX12_before_57 rfl rfl ?_
          refine x_callV1 (pc := 58) dX12_before_58 rfl kX12_423 (s_riskM hfl m A hS R8 hA s (bestQ (A 0) s (q - 1).toNat) ⟨by omega, by omega⟩ hbq.2 O8 A8) hS.1 rfl rfl (Nat.le_of_ble_eq_true rfl) (k_G (fun v7 M7 hM7 => ?_)) n_G
          obtain ⟨rfl, f7, R7⟩ := hM7
          have T7 : M7 m 3 = 0 := (f7 m 3 (by omega) (by omega)).trans T8
          have F7 : frM M M7 m := F8.tr f7.k.fr
          have O7 : ∀ k, 0 ≤ k → k < 57 → M7 (m + 25) k = oddsV (A 0) s 7 k := fun k x y => (f7 _ _ (by omega) (by omega)).trans (O8 k x y)
          have A7 : M7 m 48 = allC (A 0) s 7 := (f7 m 48 (by omega) (by omega)).trans A8
          refine x_lge (tgt := 67) (pc := 61) dX12_before_61 dX12_before_62 (by decide) (fun c_61 => ?_) (fun c_61 => ?_)
          · refine x_iinc (pc := 67) dX12_before_67 rfl (by omega) (by decide) rfl ?_
            refine x_goto (tgt := 28) (pc := 70) dX12_before_70 (by decide) ?_
            have e := bestQ_1 (t := A 0) (s := s) (q := q) k1.1
            rw [if_neg (by rintro ⟨u, v⟩; omega)] at e
            refine x_lo (lo' := [(0, (2, m)), (1, (0, s)), (2, (0, bestQ (A 0) s (q - 1).toNat)), (3, (0, q + 1))]) ⟨rfl, rfl, rfl, rfl, trivial⟩ ?_
            have z := ih (q + 1) M7 ⟨by omega, R7, T7, F7, O7, A7⟩ (by omega)
            rw [show q + 1 - 1 = q by omega, e] at z
            exact z
          · refine x_iload_n (pc := 65) dX12_before_65 rfl rfl ?_
            refine x_istore_n (pc := 66) dX12_before_66 rfl (by decide) rfl ?_
            refine x_iinc (pc := 67) dX12_before_67 rfl (by omega) (by decide) rfl ?_
            refine x_goto (tgt := 28) (pc := 70) dX12_before_70 (by decide) ?_
            have e := bestQ_1 (t := A 0) (s := s) (q := q) k1.1
            rw [if_pos ⟨by omega, by omega⟩] at e
            refine x_lo (lo' := [(0, (2, m)), (1, (0, s)), (2, (0, q)), (3, (0, q + 1))]) ⟨rfl, rfl, rfl, rfl, trivial⟩ ?_
            have z := ih (q + 1) M7 ⟨by omega, R7, T7, F7, O7, A7⟩ (by omega)
            rw [show q + 1 - 1 = q by omega, e] at z
            exact z)
    exact x_lo (lo' := [(0, (2, m)), (1, (0, s)), (2, (0, bestQ (A 0) s (1 - 1 : Int).toNat)), (3, (0, 1))]) ⟨rfl, rfl, rfl, rfl, trivial⟩ (loop 1 _ ⟨by omega, R8, T8, F8, s2, s3⟩)
  · rw [e0] at q_7
    refine x_if_ne (tgt := 19) (pc := 10) dX12_before_10 (by decide) (fun c => absurd c (by decide)) (fun _ => ?_)
    refine x_aload_n (pc := 13) dX12_before_13 rfl rfl ?_
    refine x_iconst (pc := 14) dX12_before_14 (by decide) ?_
    refine x_callV1 (pc := 15) dX12_before_15 rfl kX12_116 (s_fails hfl m _ hS) hS.1 rfl rfl (Nat.le_of_ble_eq_true rfl) (k_G (fun v9 M9 hM9 => ?_)) n_G
    obtain ⟨rfl, rfl⟩ := hM9
    refine x_ireturn (pc := 18) dX12_before_18 rfl (by decide) ?_
    have e9 : spBefore A s = (1, 0, A) := by
      unfold spBefore
      (repeat' split) <;> first | rfl | (exfalso; omega)
    rw [e9]
    exact ⟨_, rfl, rfl, rfl, rfl, up_s, fun q => absurd q (show ¬ (1 : Int) = 0 by decide), R1.up3, F1.up (by omega)⟩
