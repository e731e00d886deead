/-! partings by rule -/
theorem RC.pt {M M' A : aM} {N : Nat} {S : aS} (h : RC M N S A) (g : ∀ a i, ¬ (40 ≤ a ∧ a < 79) → M' a i = M a i) : RC M' N S A := by
  obtain ⟨h1, h2, h3, h4, h5, h6, h7, h8, h9⟩ := h
  exact ⟨h1.cg fun a x y i => g a i (by omega), h2.cg (fun i => g 0 i (by omega)), h3.cg (fun i => g 17 i (by omega)) (fun i => g 18 i (by omega)), h4.cg (fun i => g 105 i (by omega)) (fun i => g 106 i (by omega)) (fun i => g 107 i (by omega)), h5.cg (fun i => g 16 i (by omega)) (fun a x i => g a i (by omega)), h6.cg (fun a x y i => g a i (by omega)), h7.cg (fun i => g 31 i (by omega)), h8.cg (fun a x y i => g a i (by omega)) (fun a x y i => g a i (by omega)), h9.cg (fun i => g 82 i (by omega))⟩
theorem GA.cg {M M' : aM} {b : Int} {t : Int → Int} {s : Int} (h : GA M b t s) (e : ∀ a i, b + 6 ≤ a → a < b + 14 → M' a i = M a i) : GA M' b t s := fun x a q z => ⟨(h x a q z).1.cg fun c u v => e _ _ (by omega) (by omega), fun w => (e _ _ (by omega) (by omega)).trans ((h x a q z).2 w)⟩
def spRuled (A : aM) (s h : Int) : Int × Int × aM := if ¬ (0 < s ∧ s < b_shl 1 (A 0 0)) ∨ isOfV s h ≠ 1 then (1, 0, A) else if totE (costV (A 0)) s = -1 ∨ wOK (A 0) (costV (A 0)) s = false then (2, 0, A) else (0, 0, frA A (totV (costV (A 0)) s * wV (A 0) (costV (A 0)) s h) (payS (wV (A 0) (costV (A 0)) s) s))
def spKeeps (A : aM) (s : Int) : Int × Int × aM := if ¬ (0 < s ∧ s < b_shl 1 (A 0 0)) then (1, 0, A) else if totE (costV (A 0)) s = -1 ∨ wOK (A 0) (costV (A 0)) s = false then (2, 0, A) else (0, leavesV (costV (A 0)) (fun h => wV (A 0) (costV (A 0)) s h * totV (costV (A 0)) s) (payS (wV (A 0) (costV (A 0)) s) s) s, A)
theorem dX2_weigh_0 : decode cX2_weigh 0 = .ok (.aload_n 0, 1) := by decide +kernel
theorem dX2_weigh_1 : decode cX2_weigh 1 = .ok (.getfield 30, 3) := by decide +kernel
theorem dX2_weigh_4 : decode cX2_weigh 4 = .ok (.iconst 0, 1) := by decide +kernel
theorem dX2_weigh_5 : decode cX2_weigh 5 = .ok (.invokestatic 109, 3) := by decide +kernel
theorem dX2_weigh_8 : decode cX2_weigh 8 = .ok (.iconst 0, 1) := by decide +kernel
theorem dX2_weigh_9 : decode cX2_weigh 9 = .ok (.istore_n 2, 1) := by decide +kernel
theorem dX2_weigh_10 : decode cX2_weigh 10 = .ok (.iload_n 2, 1) := by decide +kernel
theorem dX2_weigh_11 : decode cX2_weigh 11 = .ok (.bipush 7, 2) := by decide +kernel
theorem dX2_weigh_13 : decode cX2_weigh 13 = .ok (.if_icmp .ge 50, 3) := by decide +kernel
theorem dX2_weigh_16 : decode cX2_weigh 16 = .ok (.iload_n 1, 1) := by decide +kernel
theorem dX2_weigh_17 : decode cX2_weigh 17 = .ok (.iload_n 2, 1) := by decide +kernel
theorem dX2_weigh_18 : decode cX2_weigh 18 = .ok (.invokestatic 71, 3) := by decide +kernel
theorem dX2_weigh_21 : decode cX2_weigh 21 = .ok (.ifCond .eq 36, 3) := by decide +kernel
theorem dX2_weigh_24 : decode cX2_weigh 24 = .ok (.aload_n 0, 1) := by decide +kernel
theorem dX2_weigh_25 : decode cX2_weigh 25 = .ok (.getfield 30, 3) := by decide +kernel
theorem dX2_weigh_28 : decode cX2_weigh 28 = .ok (.iload_n 2, 1) := by decide +kernel
theorem dX2_weigh_29 : decode cX2_weigh 29 = .ok (.aload_n 0, 1) := by decide +kernel
theorem dX2_weigh_30 : decode cX2_weigh 30 = .ok (.aload_n 0, 1) := by decide +kernel
theorem dX2_weigh_31 : decode cX2_weigh 31 = .ok (.getfield 33, 3) := by decide +kernel
theorem dX2_weigh_34 : decode cX2_weigh 34 = .ok (.getfield 112, 3) := by decide +kernel
theorem dX2_weigh_37 : decode cX2_weigh 37 = .ok (.getfield 118, 3) := by decide +kernel
theorem dX2_weigh_40 : decode cX2_weigh 40 = .ok (.iload_n 2, 1) := by decide +kernel
theorem dX2_weigh_41 : decode cX2_weigh 41 = .ok (.invokevirtual 123, 3) := by decide +kernel
theorem dX2_weigh_44 : decode cX2_weigh 44 = .ok (.iastore, 1) := by decide +kernel
theorem dX2_weigh_45 : decode cX2_weigh 45 = .ok (.aload_n 0, 1) := by decide +kernel
theorem dX2_weigh_46 : decode cX2_weigh 46 = .ok (.getfield 30, 3) := by decide +kernel
theorem dX2_weigh_49 : decode cX2_weigh 49 = .ok (.iload_n 2, 1) := by decide +kernel
theorem dX2_weigh_50 : decode cX2_weigh 50 = .ok (.iaload, 1) := by decide +kernel
theorem dX2_weigh_51 : decode cX2_weigh 51 = .ok (.iconst (-1), 1) := by decide +kernel
theorem dX2_weigh_52 : decode cX2_weigh 52 = .ok (.if_icmp .ne 5, 3) := by decide +kernel
theorem dX2_weigh_55 : decode cX2_weigh 55 = .ok (.iconst 0, 1) := by decide +kernel
theorem dX2_weigh_56 : decode cX2_weigh 56 = .ok (.ireturn, 1) := by decide +kernel
theorem dX2_weigh_57 : decode cX2_weigh 57 = .ok (.iinc 2 1, 3) := by decide +kernel
theorem dX2_weigh_60 : decode cX2_weigh 60 = .ok (.goto (-50), 3) := by decide +kernel
theorem dX2_weigh_63 : decode cX2_weigh 63 = .ok (.aload_n 0, 1) := by decide +kernel
theorem dX2_weigh_64 : decode cX2_weigh 64 = .ok (.iload_n 1, 1) := by decide +kernel
theorem dX2_weigh_65 : decode cX2_weigh 65 = .ok (.invokevirtual 127, 3) := by decide +kernel
theorem dX2_weigh_68 : decode cX2_weigh 68 = .ok (.lconst 0, 1) := by decide +kernel
theorem dX2_weigh_69 : decode cX2_weigh 69 = .ok (.lcmp, 1) := by decide +kernel
theorem dX2_weigh_70 : decode cX2_weigh 70 = .ok (.ifCond .ne 11, 3) := by decide +kernel
theorem dX2_weigh_73 : decode cX2_weigh 73 = .ok (.aload_n 0, 1) := by decide +kernel
theorem dX2_weigh_74 : decode cX2_weigh 74 = .ok (.getfield 30, 3) := by decide +kernel
theorem dX2_weigh_77 : decode cX2_weigh 77 = .ok (.iconst 1, 1) := by decide +kernel
theorem dX2_weigh_78 : decode cX2_weigh 78 = .ok (.invokestatic 109, 3) := by decide +kernel
theorem dX2_weigh_81 : decode cX2_weigh 81 = .ok (.iconst 1, 1) := by decide +kernel
theorem dX2_weigh_82 : decode cX2_weigh 82 = .ok (.ireturn, 1) := by decide +kernel
theorem dX2_weightBy_0 : decode cX2_weightBy 0 = .ok (.iload_n 1, 1) := by decide +kernel
theorem dX2_weightBy_1 : decode cX2_weightBy 1 = .ok (.ifCond .ne 12, 3) := by decide +kernel
theorem dX2_weightBy_4 : decode cX2_weightBy 4 = .ok (.aload_n 0, 1) := by decide +kernel
theorem dX2_weightBy_5 : decode cX2_weightBy 5 = .ok (.getfield 33, 3) := by decide +kernel
theorem dX2_weightBy_8 : decode cX2_weightBy 8 = .ok (.iload_n 2, 1) := by decide +kernel
theorem dX2_weightBy_9 : decode cX2_weightBy 9 = .ok (.invokevirtual 131, 3) := by decide +kernel
theorem dX2_weightBy_12 : decode cX2_weightBy 12 = .ok (.ireturn, 1) := by decide +kernel
theorem dX2_weightBy_13 : decode cX2_weightBy 13 = .ok (.iload_n 1, 1) := by decide +kernel
theorem dX2_weightBy_14 : decode cX2_weightBy 14 = .ok (.iconst 1, 1) := by decide +kernel
theorem dX2_weightBy_15 : decode cX2_weightBy 15 = .ok (.if_icmp .ne 17, 3) := by decide +kernel
theorem dX2_weightBy_18 : decode cX2_weightBy 18 = .ok (.aload_n 0, 1) := by decide +kernel
theorem dX2_weightBy_19 : decode cX2_weightBy 19 = .ok (.getfield 37, 3) := by decide +kernel
theorem dX2_weightBy_22 : decode cX2_weightBy 22 = .ok (.getfield 75, 3) := by decide +kernel
theorem dX2_weightBy_25 : decode cX2_weightBy 25 = .ok (.iconst 1, 1) := by decide +kernel
theorem dX2_weightBy_26 : decode cX2_weightBy 26 = .ok (.iload_n 2, 1) := by decide +kernel
theorem dX2_weightBy_27 : decode cX2_weightBy 27 = .ok (.ishl, 1) := by decide +kernel
theorem dX2_weightBy_28 : decode cX2_weightBy 28 = .ok (.iaload, 1) := by decide +kernel
theorem dX2_weightBy_29 : decode cX2_weightBy 29 = .ok (.goto 4, 3) := by decide +kernel
theorem dX2_weightBy_32 : decode cX2_weightBy 32 = .ok (.iconst 1, 1) := by decide +kernel
theorem dX2_weightBy_33 : decode cX2_weightBy 33 = .ok (.ireturn, 1) := by decide +kernel
theorem dX2_weightOf_0 : decode cX2_weightOf 0 = .ok (.lconst 0, 1) := by decide +kernel
theorem dX2_weightOf_1 : decode cX2_weightOf 1 = .ok (.lstore_n 2, 1) := by decide +kernel
theorem dX2_weightOf_2 : decode cX2_weightOf 2 = .ok (.iconst 0, 1) := by decide +kernel
theorem dX2_weightOf_3 : decode cX2_weightOf 3 = .ok (.istore 4, 2) := by decide +kernel
theorem dX2_weightOf_5 : decode cX2_weightOf 5 = .ok (.iload 4, 2) := by decide +kernel
theorem dX2_weightOf_7 : decode cX2_weightOf 7 = .ok (.bipush 7, 2) := by decide +kernel
theorem dX2_weightOf_9 : decode cX2_weightOf 9 = .ok (.if_icmp .ge 29, 3) := by decide +kernel
theorem dX2_weightOf_12 : decode cX2_weightOf 12 = .ok (.iload_n 1, 1) := by decide +kernel
theorem dX2_weightOf_13 : decode cX2_weightOf 13 = .ok (.iload 4, 2) := by decide +kernel
theorem dX2_weightOf_15 : decode cX2_weightOf 15 = .ok (.invokestatic 71, 3) := by decide +kernel
theorem dX2_weightOf_18 : decode cX2_weightOf 18 = .ok (.ifCond .eq 14, 3) := by decide +kernel
theorem dX2_weightOf_21 : decode cX2_weightOf 21 = .ok (.lload_n 2, 1) := by decide +kernel
theorem dX2_weightOf_22 : decode cX2_weightOf 22 = .ok (.aload_n 0, 1) := by decide +kernel
theorem dX2_weightOf_23 : decode cX2_weightOf 23 = .ok (.getfield 30, 3) := by decide +kernel
theorem dX2_weightOf_26 : decode cX2_weightOf 26 = .ok (.iload 4, 2) := by decide +kernel
theorem dX2_weightOf_28 : decode cX2_weightOf 28 = .ok (.iaload, 1) := by decide +kernel
theorem dX2_weightOf_29 : decode cX2_weightOf 29 = .ok (.i2l, 1) := by decide +kernel
theorem dX2_weightOf_30 : decode cX2_weightOf 30 = .ok (.ladd, 1) := by decide +kernel
theorem dX2_weightOf_31 : decode cX2_weightOf 31 = .ok (.lstore_n 2, 1) := by decide +kernel
theorem dX2_weightOf_32 : decode cX2_weightOf 32 = .ok (.iinc 4 1, 3) := by decide +kernel
theorem dX2_weightOf_35 : decode cX2_weightOf 35 = .ok (.goto (-30), 3) := by decide +kernel
theorem dX2_weightOf_38 : decode cX2_weightOf 38 = .ok (.lload_n 2, 1) := by decide +kernel
theorem dX2_weightOf_39 : decode cX2_weightOf 39 = .ok (.lreturn, 1) := by decide +kernel
theorem dX2_firstToLeave_0 : decode cX2_firstToLeave 0 = .ok (.aload_n 0, 1) := by decide +kernel
theorem dX2_firstToLeave_1 : decode cX2_firstToLeave 1 = .ok (.iload_n 1, 1) := by decide +kernel
theorem dX2_firstToLeave_2 : decode cX2_firstToLeave 2 = .ok (.invokevirtual 127, 3) := by decide +kernel
theorem dX2_firstToLeave_5 : decode cX2_firstToLeave 5 = .ok (.lstore_n 2, 1) := by decide +kernel
theorem dX2_firstToLeave_6 : decode cX2_firstToLeave 6 = .ok (.iconst 1, 1) := by decide +kernel
theorem dX2_firstToLeave_7 : decode cX2_firstToLeave 7 = .ok (.istore 4, 2) := by decide +kernel
theorem dX2_firstToLeave_9 : decode cX2_firstToLeave 9 = .ok (.iload 4, 2) := by decide +kernel
theorem dX2_firstToLeave_11 : decode cX2_firstToLeave 11 = .ok (.iload_n 1, 1) := by decide +kernel
theorem dX2_firstToLeave_12 : decode cX2_firstToLeave 12 = .ok (.if_icmp .gt 69, 3) := by decide +kernel
theorem dX2_firstToLeave_15 : decode cX2_firstToLeave 15 = .ok (.iload 4, 2) := by decide +kernel
theorem dX2_firstToLeave_17 : decode cX2_firstToLeave 17 = .ok (.iload_n 1, 1) := by decide +kernel
theorem dX2_firstToLeave_18 : decode cX2_firstToLeave 18 = .ok (.iconst (-1), 1) := by decide +kernel
theorem dX2_firstToLeave_19 : decode cX2_firstToLeave 19 = .ok (.ixor, 1) := by decide +kernel
theorem dX2_firstToLeave_20 : decode cX2_firstToLeave 20 = .ok (.iand, 1) := by decide +kernel
theorem dX2_firstToLeave_21 : decode cX2_firstToLeave 21 = .ok (.ifCond .ne 54, 3) := by decide +kernel
theorem dX2_firstToLeave_24 : decode cX2_firstToLeave 24 = .ok (.aload_n 0, 1) := by decide +kernel
theorem dX2_firstToLeave_25 : decode cX2_firstToLeave 25 = .ok (.getfield 37, 3) := by decide +kernel
theorem dX2_firstToLeave_28 : decode cX2_firstToLeave 28 = .ok (.getfield 75, 3) := by decide +kernel
theorem dX2_firstToLeave_31 : decode cX2_firstToLeave 31 = .ok (.iload 4, 2) := by decide +kernel
theorem dX2_firstToLeave_33 : decode cX2_firstToLeave 33 = .ok (.iaload, 1) := by decide +kernel
theorem dX2_firstToLeave_34 : decode cX2_firstToLeave 34 = .ok (.iconst (-1), 1) := by decide +kernel
theorem dX2_firstToLeave_35 : decode cX2_firstToLeave 35 = .ok (.if_icmp .eq 40, 3) := by decide +kernel
theorem dX2_firstToLeave_38 : decode cX2_firstToLeave 38 = .ok (.aload_n 0, 1) := by decide +kernel
theorem dX2_firstToLeave_39 : decode cX2_firstToLeave 39 = .ok (.getfield 37, 3) := by decide +kernel
theorem dX2_firstToLeave_42 : decode cX2_firstToLeave 42 = .ok (.getfield 52, 3) := by decide +kernel
theorem dX2_firstToLeave_45 : decode cX2_firstToLeave 45 = .ok (.iload_n 1, 1) := by decide +kernel
theorem dX2_firstToLeave_46 : decode cX2_firstToLeave 46 = .ok (.iaload, 1) := by decide +kernel
theorem dX2_firstToLeave_47 : decode cX2_firstToLeave 47 = .ok (.i2l, 1) := by decide +kernel
theorem dX2_firstToLeave_48 : decode cX2_firstToLeave 48 = .ok (.aload_n 0, 1) := by decide +kernel
theorem dX2_firstToLeave_49 : decode cX2_firstToLeave 49 = .ok (.iload 4, 2) := by decide +kernel
theorem dX2_firstToLeave_51 : decode cX2_firstToLeave 51 = .ok (.invokevirtual 127, 3) := by decide +kernel
theorem dX2_firstToLeave_54 : decode cX2_firstToLeave 54 = .ok (.lmul, 1) := by decide +kernel
theorem dX2_firstToLeave_55 : decode cX2_firstToLeave 55 = .ok (.aload_n 0, 1) := by decide +kernel
theorem dX2_firstToLeave_56 : decode cX2_firstToLeave 56 = .ok (.getfield 37, 3) := by decide +kernel
theorem dX2_firstToLeave_59 : decode cX2_firstToLeave 59 = .ok (.getfield 75, 3) := by decide +kernel
theorem dX2_firstToLeave_62 : decode cX2_firstToLeave 62 = .ok (.iload 4, 2) := by decide +kernel
theorem dX2_firstToLeave_64 : decode cX2_firstToLeave 64 = .ok (.iaload, 1) := by decide +kernel
theorem dX2_firstToLeave_65 : decode cX2_firstToLeave 65 = .ok (.i2l, 1) := by decide +kernel
theorem dX2_firstToLeave_66 : decode cX2_firstToLeave 66 = .ok (.lload_n 2, 1) := by decide +kernel
theorem dX2_firstToLeave_67 : decode cX2_firstToLeave 67 = .ok (.lmul, 1) := by decide +kernel
theorem dX2_firstToLeave_68 : decode cX2_firstToLeave 68 = .ok (.lcmp, 1) := by decide +kernel
theorem dX2_firstToLeave_69 : decode cX2_firstToLeave 69 = .ok (.ifCond .le 6, 3) := by decide +kernel
theorem dX2_firstToLeave_72 : decode cX2_firstToLeave 72 = .ok (.iload 4, 2) := by decide +kernel
theorem dX2_firstToLeave_74 : decode cX2_firstToLeave 74 = .ok (.ireturn, 1) := by decide +kernel
theorem dX2_firstToLeave_75 : decode cX2_firstToLeave 75 = .ok (.iinc 4 1, 3) := by decide +kernel
theorem dX2_firstToLeave_78 : decode cX2_firstToLeave 78 = .ok (.goto (-69), 3) := by decide +kernel
theorem dX2_firstToLeave_81 : decode cX2_firstToLeave 81 = .ok (.iconst (-1), 1) := by decide +kernel
theorem dX2_firstToLeave_82 : decode cX2_firstToLeave 82 = .ok (.ireturn, 1) := by decide +kernel
theorem dX11_ruled_0 : decode cX11_ruled 0 = .ok (.aload_n 0, 1) := by decide +kernel
theorem dX11_ruled_1 : decode cX11_ruled 1 = .ok (.iload_n 1, 1) := by decide +kernel
theorem dX11_ruled_2 : decode cX11_ruled 2 = .ok (.invokevirtual 131, 3) := by decide +kernel
theorem dX11_ruled_5 : decode cX11_ruled 5 = .ok (.aload_n 0, 1) := by decide +kernel
theorem dX11_ruled_6 : decode cX11_ruled 6 = .ok (.iload_n 1, 1) := by decide +kernel
theorem dX11_ruled_7 : decode cX11_ruled 7 = .ok (.iload_n 2, 1) := by decide +kernel
theorem dX11_ruled_8 : decode cX11_ruled 8 = .ok (.invokevirtual 256, 3) := by decide +kernel
theorem dX11_ruled_11 : decode cX11_ruled 11 = .ok (.aload_n 0, 1) := by decide +kernel
theorem dX11_ruled_12 : decode cX11_ruled 12 = .ok (.iload_n 1, 1) := by decide +kernel
theorem dX11_ruled_13 : decode cX11_ruled 13 = .ok (.invokevirtual 280, 3) := by decide +kernel
theorem dX11_ruled_16 : decode cX11_ruled 16 = .ok (.aload_n 0, 1) := by decide +kernel
theorem dX11_ruled_17 : decode cX11_ruled 17 = .ok (.aload_n 0, 1) := by decide +kernel
theorem dX11_ruled_18 : decode cX11_ruled 18 = .ok (.getfield 54, 3) := by decide +kernel
theorem dX11_ruled_21 : decode cX11_ruled 21 = .ok (.getfield 206, 3) := by decide +kernel
theorem dX11_ruled_24 : decode cX11_ruled 24 = .ok (.iload_n 1, 1) := by decide +kernel
theorem dX11_ruled_25 : decode cX11_ruled 25 = .ok (.iaload, 1) := by decide +kernel
theorem dX11_ruled_26 : decode cX11_ruled 26 = .ok (.i2l, 1) := by decide +kernel
theorem dX11_ruled_27 : decode cX11_ruled 27 = .ok (.aload_n 0, 1) := by decide +kernel
theorem dX11_ruled_28 : decode cX11_ruled 28 = .ok (.getfield 63, 3) := by decide +kernel
theorem dX11_ruled_31 : decode cX11_ruled 31 = .ok (.getfield 283, 3) := by decide +kernel
theorem dX11_ruled_34 : decode cX11_ruled 34 = .ok (.iload_n 2, 1) := by decide +kernel
theorem dX11_ruled_35 : decode cX11_ruled 35 = .ok (.iaload, 1) := by decide +kernel
theorem dX11_ruled_36 : decode cX11_ruled 36 = .ok (.i2l, 1) := by decide +kernel
theorem dX11_ruled_37 : decode cX11_ruled 37 = .ok (.lmul, 1) := by decide +kernel
theorem dX11_ruled_38 : decode cX11_ruled 38 = .ok (.aload_n 0, 1) := by decide +kernel
theorem dX11_ruled_39 : decode cX11_ruled 39 = .ok (.getfield 63, 3) := by decide +kernel
theorem dX11_ruled_42 : decode cX11_ruled 42 = .ok (.iload_n 1, 1) := by decide +kernel
theorem dX11_ruled_43 : decode cX11_ruled 43 = .ok (.invokevirtual 286, 3) := by decide +kernel
theorem dX11_ruled_46 : decode cX11_ruled 46 = .ok (.invokevirtual 252, 3) := by decide +kernel
theorem dX11_ruled_49 : decode cX11_ruled 49 = .ok (.return_, 1) := by decide +kernel
theorem dX11_keeps_0 : decode cX11_keeps 0 = .ok (.aload_n 0, 1) := by decide +kernel
theorem dX11_keeps_1 : decode cX11_keeps 1 = .ok (.iload_n 1, 1) := by decide +kernel
theorem dX11_keeps_2 : decode cX11_keeps 2 = .ok (.invokevirtual 131, 3) := by decide +kernel
theorem dX11_keeps_5 : decode cX11_keeps 5 = .ok (.aload_n 0, 1) := by decide +kernel
theorem dX11_keeps_6 : decode cX11_keeps 6 = .ok (.iload_n 1, 1) := by decide +kernel
theorem dX11_keeps_7 : decode cX11_keeps 7 = .ok (.invokevirtual 280, 3) := by decide +kernel
theorem dX11_keeps_10 : decode cX11_keeps 10 = .ok (.aload_n 0, 1) := by decide +kernel
theorem dX11_keeps_11 : decode cX11_keeps 11 = .ok (.getfield 63, 3) := by decide +kernel
theorem dX11_keeps_14 : decode cX11_keeps 14 = .ok (.iload_n 1, 1) := by decide +kernel
theorem dX11_keeps_15 : decode cX11_keeps 15 = .ok (.invokevirtual 289, 3) := by decide +kernel
theorem dX11_keeps_18 : decode cX11_keeps 18 = .ok (.ireturn, 1) := by decide +kernel
theorem dX11_needRule_0 : decode cX11_needRule 0 = .ok (.aload_n 0, 1) := by decide +kernel
theorem dX11_needRule_1 : decode cX11_needRule 1 = .ok (.iload_n 1, 1) := by decide +kernel
theorem dX11_needRule_2 : decode cX11_needRule 2 = .ok (.invokevirtual 234, 3) := by decide +kernel
theorem dX11_needRule_5 : decode cX11_needRule 5 = .ok (.aload_n 0, 1) := by decide +kernel
theorem dX11_needRule_6 : decode cX11_needRule 6 = .ok (.getfield 63, 3) := by decide +kernel
theorem dX11_needRule_9 : decode cX11_needRule 9 = .ok (.iload_n 1, 1) := by decide +kernel
theorem dX11_needRule_10 : decode cX11_needRule 10 = .ok (.invokevirtual 386, 3) := by decide +kernel
theorem dX11_needRule_13 : decode cX11_needRule 13 = .ok (.ifCond .ne 11, 3) := by decide +kernel
theorem dX11_needRule_16 : decode cX11_needRule 16 = .ok (.new 352, 3) := by decide +kernel
theorem dX11_needRule_19 : decode cX11_needRule 19 = .ok (.dup, 1) := by decide +kernel
theorem dX11_needRule_20 : decode cX11_needRule 20 = .ok (.invokespecial 354, 3) := by decide +kernel
theorem dX11_needRule_23 : decode cX11_needRule 23 = .ok (.athrow, 1) := by decide +kernel
theorem dX11_needRule_24 : decode cX11_needRule 24 = .ok (.return_, 1) := by decide +kernel
theorem s_weightBy {l : Launch} {E : aE} {N : Nat} {S : aS} {M : aM} (hfl : l.stackTraces = false) (s : Int) (t : Int → Int) (hC : lyC S) (hK : TQ t) (hr : 0 ≤ t 252 ∧ t 252 ≤ 2) (hH : RHs M 1 t) (hT : RTar M (1 + 1) t) (hs : 0 < s ∧ s < 128) (hA : GA M 25 t s) (h : Int) (hh : 0 ≤ h ∧ h < 7) (hb9 : hb s h = 1) : aMt l E pX2_weightBy [(2, 40), (0, t 252), (0, h)] N S M (aR (0, wgtV t (costV t) h) N S M) := by
  refine a_met hfl rfl (by decide +kernel) (Nat.le_of_ble_eq_true rfl) ?_
  refine x_iload_n (pc := 0) dX2_weightBy_0 rfl rfl ?_
  refine x_if_ne (tgt := 13) (pc := 1) dX2_weightBy_1 (by decide) (fun c_1 => ?_) (fun c_1 => ?_)
  · refine x_iload_n (pc := 13) dX2_weightBy_13 rfl rfl ?_
    refine x_iconst (pc := 14) dX2_weightBy_14 (by decide) ?_
    refine x_icmp_ne (tgt := 32) (pc := 15) dX2_weightBy_15 (by decide) (fun c_15 => ?_) (fun c_15 => ?_)
    · refine x_iconst (pc := 32) dX2_weightBy_32 (by decide) ?_
      refine x_ireturn (pc := 33) dX2_weightBy_33 rfl (by decide) ?_
      refine ⟨?_, rfl, rfl, rfl⟩
      unfold wgtV
      rw [if_neg (by assumption), if_neg (by assumption)]
    · refine x_aload_n (pc := 18) dX2_weightBy_18 rfl rfl ?_
      have hsp := shl_pos hh
      have hsb : b_and (b_shl 1 h) (b_xor s (-1)) = 0 := (sub_iff (by omega) (by omega)).mpr fun j a b w => by
        rw [hb_shl1 hh ⟨a, b⟩] at w
        rw [w]; exact hb9
      have hcb := (hA (b_shl 1 h) hsp.1 (sub_le (by omega) (by omega) hsb) hsb).1.1
      refine x_getR (jj := 1) (pc := 19) dX2_weightBy_19 fX2_37 (sC_40 hC) rfl (by decide) rfl rC_40_1 ?_
      refine x_getR (jj := 1) (pc := 22) dX2_weightBy_22 fX2_75 (sC_34 hC) rfl (by decide) rfl rC_34_1 ?_
      refine x_iconst (pc := 25) dX2_weightBy_25 (by decide) ?_
      refine x_iload_n (pc := 26) dX2_weightBy_26 rfl rfl ?_
      refine x_ishl (pc := 27) dX2_weightBy_27 ?_
      refine x_ialoadV (pc := 28) dX2_weightBy_28 (sC_35 hC) (by omega) (by (repeat (first | rewrite [up_s] | rewrite [up_i (by omega)] | rewrite [up_a (by omega)])); first | exact hcb | rfl) (fun g_28 => ?_)
      refine x_goto (tgt := 33) (pc := 29) dX2_weightBy_29 (by decide) ?_
      refine x_ireturn (pc := 33) dX2_weightBy_33 rfl (by decide) ?_
      refine ⟨?_, rfl, rfl, rfl⟩
      unfold wgtV
      rw [if_neg (by assumption), if_pos (by assumption)]
  · refine x_aload_n (pc := 4) dX2_weightBy_4 rfl rfl ?_
    refine x_getR (jj := 0) (pc := 5) dX2_weightBy_5 fX2_33 (sC_40 hC) rfl (by decide) rfl rC_40_0 ?_
    refine x_iload_n (pc := 8) dX2_weightBy_8 rfl rfl ?_
    have h6 := hK.2.2.2.2.2.1
    refine x_callV1 (pc := 9) dX2_weightBy_9 rfl kX2_131 (s_wantsThatCount hfl 1 h hC.2.1 hh (by have := hT.2.2.2.2.2.2.2.1; omega) (hH.c8 hK)) (hC.2.1).2.1 rfl rfl (Nat.le_of_ble_eq_true rfl) (k_R ?_) n_R
    have e : sumN (fun m => M (1 + 8) (h * 6 + m)) (M (1 + 1) 9).toNat = sumN (fun m => t (8 + 6 * h + m)) (t 244).toNat := by
      rw [hT.2.2.2.2.2.2.2.1]
      exact sumN_congr fun i a b => by rw [hH.2.2.1 (h * 6 + i) (by omega) (by omega), show 8 + (h * 6 + i) = 8 + 6 * h + i by omega]
    rewrite [e]
    refine x_ireturn (pc := 12) dX2_weightBy_12 rfl (by decide) ?_
    refine ⟨?_, rfl, rfl, rfl⟩
    unfold wgtV
    rw [if_pos (by assumption)]
theorem s_weightOf {l : Launch} {E : aE} {N : Nat} {S : aS} {M : aM} (hfl : l.stackTraces = false) (x : Int) (p : Int → Int) (hC : lyC S) (hp : ∀ i, 0 ≤ i → i < 7 → hb x i = 1 → 0 ≤ p i ∧ p i ≤ 1000000) (hP0 : ∀ i, 0 ≤ i → i < 7 → hb x i = 1 → M 78 i = p i) : aMt l E pX2_weightOf [(2, 40), (0, x)] N S M (aR (1, payS p x) N S M) := by
  refine a_met hfl rfl (by decide +kernel) (Nat.le_of_ble_eq_true rfl) ?_
  have loop := a_loop1 (fun h => 0 ≤ h ∧ h ≤ 7) (fun h => (7 - h).toNat) (fun h => aX l E pX2_weightOf (aR (1, payS p x) N S M) 0 0 N S M 5 [(0, (2, 40)), (1, (0, x)), (2, (1, sumN (fun h => if hb x h = 1 then p h else 0) h.toNat)), (4, (0, h))] []) (by
    intro h hI ih
    have hso := payS_r (p := p) (s := x) (b := 1000000) hp (by omega) h.toNat (by omega)
    have hpz := fun (z : h < 7) (y : hb x h = 1) => hp h hI.1 z y
    refine x_iload (pc := 5) dX2_weightOf_5 rfl ?_
    refine x_bipush (pc := 7) dX2_weightOf_7 (by decide) ?_
    refine x_icmp_ge (tgt := 38) (pc := 9) dX2_weightOf_9 (by decide) (fun c_9 => ?_) (fun c_9 => ?_)
    · refine x_lload_n (pc := 38) dX2_weightOf_38 rfl rfl ?_
      refine x_lreturn (pc := 39) dX2_weightOf_39 rfl (by decide) ?_
      refine ⟨?_, rfl, rfl, rfl⟩
      rw [show h.toNat = 7 by omega]
      rfl
    · refine x_iload_n (pc := 12) dX2_weightOf_12 rfl rfl ?_
      refine x_iload (pc := 13) dX2_weightOf_13 rfl ?_
      refine x_callSN2 (pc := 15) dX2_weightOf_15 rfl kX2_71 (s_isOf hfl _ _) rfl (Nat.le_of_ble_eq_true rfl) (k_R ?_) n_R
      have his := isOf_iff (x := x) (h := h) ⟨by omega, by omega⟩
      have his1 := isOfV01 x h
      refine x_if_eq (tgt := 32) (pc := 18) dX2_weightOf_18 (by decide) (fun c_18 => ?_) (fun c_18 => ?_)
      · refine x_iinc (pc := 32) dX2_weightOf_32 rfl (by omega) (by decide) rfl ?_
        refine x_goto (tgt := 5) (pc := 35) dX2_weightOf_35 (by decide) ?_
        have e := sumN_1 (fun h => if hb x h = 1 then p h else 0) hI.1
        rw [if_neg (by first | assumption | omega), Int.add_zero] at e
        refine x_lo (lo' := [(0, (2, 40)), (1, (0, x)), (2, (1, sumN (fun h => if hb x h = 1 then p h else 0) h.toNat)), (4, (0, h + 1))]) ⟨rfl, rfl, rfl, rfl, trivial⟩ ?_
        have z := ih (h + 1) ⟨by omega, by omega⟩ (by omega)
        rw [e] at z
        exact z
      · refine x_lload_n (pc := 21) dX2_weightOf_21 rfl rfl ?_
        refine x_aload_n (pc := 22) dX2_weightOf_22 rfl rfl ?_
        refine x_getR (jj := 11) (pc := 23) dX2_weightOf_23 fX2_30 (sC_40 hC) rfl (by decide) rfl rC_40_11 ?_
        refine x_iload (pc := 26) dX2_weightOf_26 rfl ?_
        refine x_ialoadV (pc := 28) dX2_weightOf_28 (sC_78 hC) (by omega) (by (repeat (first | rewrite [up_s] | rewrite [up_i (by omega)] | rewrite [up_a (by omega)])); first | exact hP0 h hI.1 (by omega) (by omega) | rfl) (fun g_28 => ?_)
        refine x_i2l (pc := 29) dX2_weightOf_29 ?_
        refine x_ladd (pc := 30) dX2_weightOf_30 (by have := hpz (by omega) (by omega); omega) ?_
        refine x_lstore_n (pc := 31) dX2_weightOf_31 rfl (by decide) rfl ?_
        refine x_iinc (pc := 32) dX2_weightOf_32 rfl (by omega) (by decide) rfl ?_
        refine x_goto (tgt := 5) (pc := 35) dX2_weightOf_35 (by decide) ?_
        have e := sumN_1 (fun h => if hb x h = 1 then p h else 0) hI.1
        rw [if_pos (by first | assumption | omega)] at e
        refine x_lo (lo' := [(0, (2, 40)), (1, (0, x)), (2, (1, sumN (fun h => if hb x h = 1 then p h else 0) h.toNat + p h)), (4, (0, h + 1))]) ⟨rfl, rfl, rfl, rfl, trivial⟩ ?_
        have z := ih (h + 1) ⟨by omega, by omega⟩ (by omega)
        rw [e] at z
        exact z)
  refine x_lconst0 (pc := 0) dX2_weightOf_0 ?_
  refine x_lstore_n (pc := 1) dX2_weightOf_1 rfl (by decide) rfl ?_
  refine x_iconst (pc := 2) dX2_weightOf_2 (by decide) ?_
  refine x_istore (pc := 3) dX2_weightOf_3 (by decide) rfl ?_
  refine x_lo (lo' := [(0, (2, 40)), (1, (0, x)), (2, (1, sumN (fun h => if hb x h = 1 then p h else 0) (0 : Int).toNat)), (4, (0, 0))]) ⟨rfl, rfl, rfl, rfl, trivial⟩ (loop (0) ⟨by omega, by omega⟩)
theorem s_weighR {l : Launch} {E : aE} {N : Nat} {S : aS} {M : aM} (hfl : l.stackTraces = false) (s : Int) (t : Int → Int) (hC : lyC S) (hK : TQ t) (hr : 0 ≤ t 252 ∧ t 252 ≤ 2) (hH : RHs M 1 t) (hT : RTar M (1 + 1) t) (hs : 0 < s ∧ s < 128) (hA : GA M 25 t s) : aMt l E pX2_weigh [(2, 40), (0, s)] N S M (aG N S (fun v M' => v = (0, if wOK t (costV t) s = true then 1 else 0) ∧ (∀ a i, a ≠ 78 → M' a i = M a i) ∧ (wOK t (costV t) s = true → ∀ h, 0 ≤ h → h < 7 → hb s h = 1 → M' 78 h = wV t (costV t) s h))) := by
  refine a_met hfl rfl (by decide +kernel) (Nat.le_of_ble_eq_true rfl) ?_
  have loop := a_loop2 (fun h M1 => (0 ≤ h ∧ h ≤ 7) ∧ (∀ a i, a ≠ 78 → M1 a i = M a i) ∧ ∀ i, 0 ≤ i → i < h → hb s i = 1 → M1 78 i = wgtV t (costV t) i ∧ wgtV t (costV t) i ≠ -1) (fun h M1 => (7 - h).toNat) (fun h M1 => aX l E pX2_weigh (aG N S (fun v M' => v = (0, if wOK t (costV t) s = true then 1 else 0) ∧ (∀ a i, a ≠ 78 → M' a i = M a i) ∧ (wOK t (costV t) s = true → ∀ h, 0 ≤ h → h < 7 → hb s h = 1 → M' 78 h = wV t (costV t) s h))) 0 0 N S M1 10 [(0, (2, 40)), (1, (0, s)), (2, (0, h))] []) (by
    intro h M1 hI ih
    obtain ⟨k1, k2, k3⟩ := hI
    refine x_iload_n (pc := 10) dX2_weigh_10 rfl rfl ?_
    refine x_bipush (pc := 11) dX2_weigh_11 (by decide) ?_
    refine x_icmp_ge (tgt := 63) (pc := 13) dX2_weigh_13 (by decide) (fun c_13 => ?_) (fun c_13 => ?_)
    · have hok : wOK t (costV t) s = true := wOK_iff.mpr fun q i a b w => by
        have z := (k3 i a (by omega) w).2
        unfold wgtV at z
        rw [if_neg (by omega), if_pos q] at z
        exact z
      have hwr := fun i a b w => wgtV_r hK hr (costs_t hK) (s := s) (h := i) ⟨a, b⟩ w hok
      refine x_aload_n (pc := 63) dX2_weigh_63 rfl rfl ?_
      refine x_iload_n (pc := 64) dX2_weigh_64 rfl rfl ?_
      refine x_callV1 (pc := 65) dX2_weigh_65 rfl kX2_127 (s_weightOf hfl s (wgtV t (costV t)) hC (fun i a b w => by have := hwr i a b w; omega) (fun i a b w => (k3 i a (by omega) w).1)) (sC_40 hC) rfl rfl (Nat.le_of_ble_eq_true rfl) (k_R ?_) n_R
      refine x_lconst0 (pc := 68) dX2_weigh_68 ?_
      refine x_lne (tgt := 81) (pc := 69) dX2_weigh_69 dX2_weigh_70 (by decide) (fun c_69 => ?_) (fun c_69 => ?_)
      · refine x_iconst (pc := 81) dX2_weigh_81 (by decide) ?_
        refine x_zreturn (pc := 82) dX2_weigh_82 rfl (by omega) (by decide) ?_
        refine ⟨_, rfl, rfl, rfl, ?_, k2, fun _ i a b w => ?_⟩
        · rw [if_pos hok]
        · rw [(k3 i a (by omega) w).1]
          unfold wV
          rw [if_neg (by assumption)]
      · refine x_aload_n (pc := 73) dX2_weigh_73 rfl rfl ?_
        refine x_getR (jj := 11) (pc := 74) dX2_weigh_74 fX2_30 (sC_40 hC) rfl (by decide) rfl rC_40_11 ?_
        refine x_iconst (pc := 77) dX2_weigh_77 (by decide) ?_
        refine x_callS2 (pc := 78) dX2_weigh_78 rfl kX2_109 (s_fill hfl 78 1 7 rN (sC_78 hC) (by omega)) rfl (Nat.le_of_ble_eq_true rfl) (k_U (fun M9 hM9 => ?_)) n_U
        refine x_iconst (pc := 81) dX2_weigh_81 (by decide) ?_
        refine x_zreturn (pc := 82) dX2_weigh_82 rfl (by omega) (by decide) ?_
        refine ⟨_, rfl, rfl, rfl, ?_, fun a i x => ?_, fun _ i a b w => ?_⟩
        · rw [if_pos hok]
        · rw [hM9, flM_a x]; exact k2 a i x
        · rw [hM9, flM_s ⟨a, b⟩]
          unfold wV
          rw [if_pos (by assumption)]
    · refine x_iload_n (pc := 16) dX2_weigh_16 rfl rfl ?_
      refine x_iload_n (pc := 17) dX2_weigh_17 rfl rfl ?_
      refine x_callSN2 (pc := 18) dX2_weigh_18 rfl kX2_71 (s_isOf hfl _ _) rfl (Nat.le_of_ble_eq_true rfl) (k_R ?_) n_R
      have his := isOf_iff (x := s) (h := h) ⟨by omega, by omega⟩
      have his1 := isOfV01 s h
      refine x_if_eq (tgt := 57) (pc := 21) dX2_weigh_21 (by decide) (fun c_21 => ?_) (fun c_21 => ?_)
      · refine x_iinc (pc := 57) dX2_weigh_57 rfl (by omega) (by decide) rfl ?_
        refine x_goto (tgt := 10) (pc := 60) dX2_weigh_60 (by decide) ?_
        refine x_lo (lo' := [(0, (2, 40)), (1, (0, s)), (2, (0, (h + 1)))]) ⟨rfl, rfl, rfl, trivial⟩ (ih (h + 1) (M1) ⟨by omega, k2, fun i x y z => ?_⟩ (by omega))
        by_cases e : i = h
        · subst e; exact absurd z (by omega)
        · exact k3 i x (by omega) z
      · refine x_aload_n (pc := 24) dX2_weigh_24 rfl rfl ?_
        refine x_getR (jj := 11) (pc := 25) dX2_weigh_25 fX2_30 (sC_40 hC) rfl (by decide) rfl rC_40_11 ?_
        refine x_iload_n (pc := 28) dX2_weigh_28 rfl rfl ?_
        refine x_aload_n (pc := 29) dX2_weigh_29 rfl rfl ?_
        refine x_aload_n (pc := 30) dX2_weigh_30 rfl rfl ?_
        refine x_getR (jj := 0) (pc := 31) dX2_weigh_31 fX2_33 (sC_40 hC) rfl (by decide) rfl rC_40_0 ?_
        refine x_getR (jj := 0) (pc := 34) dX2_weigh_34 fX2_112 (hC.2.1).2.1 rfl (by decide) rfl rS_0 ?_
        refine x_getIV (jj := 12) (pc := 37) dX2_weigh_37 fX2_118 ((hC.2.1).1).1 rfl (by decide) rfl (by (repeat (first | rewrite [up_s] | rewrite [up_i (by omega)] | rewrite [up_a (by omega)])); first | exact (k2 _ _ (by omega)).trans hT.2.2.2.2.2.2.2.2.2.2 | rfl) ?_
        refine x_iload_n (pc := 40) dX2_weigh_40 rfl rfl ?_
        refine x_callV2 (pc := 41) dX2_weigh_41 rfl kX2_123 (s_weightBy hfl s t hC hK hr (hH.cg fun a x y i => k2 a i (by omega)) (hT.cg fun a x y i => k2 a i (by omega)) hs (hA.cg fun a i x y => k2 a i (by omega)) h ⟨by omega, by omega⟩ (by omega)) (sC_40 hC) rfl rfl (Nat.le_of_ble_eq_true rfl) (k_R ?_) n_R
        have hx9 : -2147483648 ≤ wgtV t (costV t) h ∧ wgtV t (costV t) h ≤ 2147483647 → True := fun _ => trivial
        refine x_iastore (pc := 44) dX2_weigh_44 (sC_78 hC) (by omega) ?_
        refine x_aload_n (pc := 45) dX2_weigh_45 rfl rfl ?_
        refine x_getR (jj := 11) (pc := 46) dX2_weigh_46 fX2_30 (sC_40 hC) rfl (by decide) rfl rC_40_11 ?_
        refine x_iload_n (pc := 49) dX2_weigh_49 rfl rfl ?_
        refine x_ialoadV (pc := 50) dX2_weigh_50 (sC_78 hC) (by omega) (by (repeat (first | rewrite [up_s] | rewrite [up_i (by omega)] | rewrite [up_a (by omega)])); first | exact (k2 _ _ (by omega)).trans hT.2.2.2.2.2.2.2.2.2.2 | rfl) (fun g_50 => ?_)
        refine x_iconst (pc := 51) dX2_weigh_51 (by decide) ?_
        refine x_icmp_ne (tgt := 57) (pc := 52) dX2_weigh_52 (by decide) (fun c_52 => ?_) (fun c_52 => ?_)
        · refine x_iinc (pc := 57) dX2_weigh_57 rfl (by omega) (by decide) rfl ?_
          refine x_goto (tgt := 10) (pc := 60) dX2_weigh_60 (by decide) ?_
          refine x_lo (lo' := [(0, (2, 40)), (1, (0, s)), (2, (0, (h + 1)))]) ⟨rfl, rfl, rfl, trivial⟩ (ih (h + 1) _ ⟨by omega, fun a i x => (up_a x).trans (k2 a i x), fun i x y z => ?_⟩ (by omega))
          by_cases e : i = h
          · subst e; exact ⟨up_s, by assumption⟩
          · rw [up_i e]; exact k3 i x (by omega) z
        · refine x_iconst (pc := 55) dX2_weigh_55 (by decide) ?_
          refine x_zreturn (pc := 56) dX2_weigh_56 rfl (by omega) (by decide) ?_
          have hno : wOK t (costV t) s = false := by
            cases hq : wOK t (costV t) s with
            | false => rfl
            | true =>
              have := wgtV_r hK hr (costs_t hK) (s := s) (h := h) ⟨by omega, by omega⟩ (by omega) hq
              omega
          refine ⟨_, rfl, rfl, rfl, ?_, fun a i x => (up_a x).trans (k2 a i x), fun q => absurd q (by rw [hno]; decide)⟩
          rw [if_neg (by rw [hno]; decide)])
  refine x_aload_n (pc := 0) dX2_weigh_0 rfl rfl ?_
  refine x_getR (jj := 11) (pc := 1) dX2_weigh_1 fX2_30 (sC_40 hC) rfl (by decide) rfl rC_40_11 ?_
  refine x_iconst (pc := 4) dX2_weigh_4 (by decide) ?_
  refine x_callS2 (pc := 5) dX2_weigh_5 rfl kX2_109 (s_fill hfl 78 0 7 rN (sC_78 hC) (by omega)) rfl (Nat.le_of_ble_eq_true rfl) (k_U (fun M9 hM9 => ?_)) n_U
  refine x_iconst (pc := 8) dX2_weigh_8 (by decide) ?_
  refine x_istore_n (pc := 9) dX2_weigh_9 rfl (by decide) rfl ?_
  refine x_lo (lo' := [(0, (2, 40)), (1, (0, s)), (2, (0, 0))]) ⟨rfl, rfl, rfl, trivial⟩ (loop (0) _ ⟨by omega, fun a i x => by rw [hM9, flM_a x], fun i x y z => by omega⟩)
theorem s_firstToLeave {l : Launch} {E : aE} {N : Nat} {S : aS} {M : aM} (hfl : l.stackTraces = false) (s : Int) (t : Int → Int) (hC : lyC S) (hK : TQ t) (hr : 0 ≤ t 252 ∧ t 252 ≤ 2) (hH : RHs M 1 t) (hT : RTar M (1 + 1) t) (hs : 0 < s ∧ s < 128) (hA : GA M 25 t s) (ht : totE (costV t) s ≠ -1) (hok : wOK t (costV t) s = true) (hP : ∀ h, 0 ≤ h → h < 7 → hb s h = 1 → M 78 h = wV t (costV t) s h) : aMt l E pX2_firstToLeave [(2, 40), (0, s)] N S M (aR (0, leavesV (costV t) (fun h => wV t (costV t) s h * totV (costV t) s) (payS (wV t (costV t) s) s) s) N S M) := by
  refine a_met hfl rfl (by decide +kernel) (Nat.le_of_ble_eq_true rfl) ?_
  have hwr := fun i a b w => wV_r hK hr (costs_t hK) (s := s) (h := i) ⟨a, b⟩ w hok
  have hwp := wV_pos hK hr (costs_t hK) hs hok
  have hgs := hA s hs.1 (Int.le_refl s) (sub_rf (by omega))
  have hto := totV_or (c := costV t) s
  have hlt := totE_lt (costs_t hK) (s := s) (by omega)
  have het : encT (totE (costV t) s) = totV (costV t) s := by omega
  have loop := a_loop1 (fun x => 1 ≤ x ∧ x ≤ s + 1 ∧ ∀ j, 0 ≤ j → j < x → (fun x => decide (0 < x ∧ b_and x (b_xor s (-1)) = 0 ∧ costV t x ≠ -1 ∧ costV t x * payS (wV t (costV t) s) s < payS (fun h => wV t (costV t) s h * totV (costV t) s) x)) j = false) (fun x => (s + 1 - x).toNat) (fun x => aX l E pX2_firstToLeave (aR (0, leavesV (costV t) (fun h => wV t (costV t) s h * totV (costV t) s) (payS (wV t (costV t) s) s) s) N S M) 0 0 N S M 9 [(0, (2, 40)), (1, (0, s)), (2, (1, payS (wV t (costV t) s) s)), (4, (0, x))] []) (by
    intro x hI ih
    obtain ⟨h1, h2, h3⟩ := hI
    refine x_iload (pc := 9) dX2_firstToLeave_9 rfl ?_
    refine x_iload_n (pc := 11) dX2_firstToLeave_11 rfl rfl ?_
    refine x_icmp_gt (tgt := 81) (pc := 12) dX2_firstToLeave_12 (by decide) (fun c_12 => ?_) (fun c_12 => ?_)
    · refine x_iconst (pc := 81) dX2_firstToLeave_81 (by decide) ?_
      refine x_ireturn (pc := 82) dX2_firstToLeave_82 rfl (by decide) ?_
      refine ⟨?_, rfl, rfl, rfl⟩
      unfold leavesV
      rw [firstB_none.mpr fun j p q => h3 j p (by omega)]
    · refine x_iload (pc := 15) dX2_firstToLeave_15 rfl ?_
      refine x_iload_n (pc := 17) dX2_firstToLeave_17 rfl rfl ?_
      refine x_iconst (pc := 18) dX2_firstToLeave_18 (by decide) ?_
      refine x_ixor (pc := 19) dX2_firstToLeave_19 ?_
      refine x_iand (pc := 20) dX2_firstToLeave_20 ?_
      refine x_if_ne (tgt := 75) (pc := 21) dX2_firstToLeave_21 (by decide) (fun c_21 => ?_) (fun c_21 => ?_)
      · refine x_iinc (pc := 75) dX2_firstToLeave_75 rfl (by omega) (by decide) rfl ?_
        refine x_goto (tgt := 9) (pc := 78) dX2_firstToLeave_78 (by decide) ?_
        refine x_lo (lo' := [(0, (2, 40)), (1, (0, s)), (2, (1, payS (wV t (costV t) s) s)), (4, (0, (x + 1)))]) ⟨rfl, rfl, rfl, rfl, trivial⟩ (ih (x + 1) ⟨by omega, by omega, fun j p q => ?_⟩ (by omega))
        by_cases e : j = x
        · subst e
          refine decide_eq_false ?_
          rintro ⟨u1, u2, u3, u4⟩
          exact absurd u2 (by assumption)
        · exact h3 j p (by omega)
      · have hgx := hA x (by omega) (by omega) (by assumption)
        have hcx := costs_m hK x ⟨by omega, by omega⟩
        have hm1 : costV t x * payS (wV t (costV t) s) s ≤ costV t x * 1634094 ∨ costV t x = -1 := by
          by_cases q : costV t x = -1
          · exact Or.inr q
          · exact Or.inl (Int.mul_le_mul_of_nonneg_left hwp.2 (by omega))
        have hm2 : 0 ≤ costV t x * payS (wV t (costV t) s) s ∨ costV t x = -1 := by
          by_cases q : costV t x = -1
          · exact Or.inr q
          · exact Or.inl (Int.mul_nonneg (by omega) (by omega))
        refine x_aload_n (pc := 24) dX2_firstToLeave_24 rfl rfl ?_
        refine x_getR (jj := 1) (pc := 25) dX2_firstToLeave_25 fX2_37 (sC_40 hC) rfl (by decide) rfl rC_40_1 ?_
        refine x_getR (jj := 1) (pc := 28) dX2_firstToLeave_28 fX2_75 (sC_34 hC) rfl (by decide) rfl rC_34_1 ?_
        refine x_iload (pc := 31) dX2_firstToLeave_31 rfl ?_
        refine x_ialoadV (pc := 33) dX2_firstToLeave_33 (sC_35 hC) (by omega) (by (repeat (first | rewrite [up_s] | rewrite [up_i (by omega)] | rewrite [up_a (by omega)])); first | exact hgx.1.1 | exact hgs.1.2.1.trans het | rfl) (fun g_33 => ?_)
        refine x_iconst (pc := 34) dX2_firstToLeave_34 (by decide) ?_
        refine x_icmp_eq (tgt := 75) (pc := 35) dX2_firstToLeave_35 (by decide) (fun c_35 => ?_) (fun c_35 => ?_)
        · refine x_iinc (pc := 75) dX2_firstToLeave_75 rfl (by omega) (by decide) rfl ?_
          refine x_goto (tgt := 9) (pc := 78) dX2_firstToLeave_78 (by decide) ?_
          refine x_lo (lo' := [(0, (2, 40)), (1, (0, s)), (2, (1, payS (wV t (costV t) s) s)), (4, (0, (x + 1)))]) ⟨rfl, rfl, rfl, rfl, trivial⟩ (ih (x + 1) ⟨by omega, by omega, fun j p q => ?_⟩ (by omega))
          by_cases e : j = x
          · subst e
            refine decide_eq_false ?_
            rintro ⟨u1, u2, u3, u4⟩
            exact absurd (by assumption) u3
          · exact h3 j p (by omega)
        · refine x_aload_n (pc := 38) dX2_firstToLeave_38 rfl rfl ?_
          refine x_getR (jj := 1) (pc := 39) dX2_firstToLeave_39 fX2_37 (sC_40 hC) rfl (by decide) rfl rC_40_1 ?_
          refine x_getR (jj := 2) (pc := 42) dX2_firstToLeave_42 fX2_52 (sC_34 hC) rfl (by decide) rfl rC_34_2 ?_
          refine x_iload_n (pc := 45) dX2_firstToLeave_45 rfl rfl ?_
          refine x_ialoadV (pc := 46) dX2_firstToLeave_46 (sC_36 hC) (by omega) (by (repeat (first | rewrite [up_s] | rewrite [up_i (by omega)] | rewrite [up_a (by omega)])); first | exact hgx.1.1 | exact hgs.1.2.1.trans het | rfl) (fun g_46 => ?_)
          refine x_i2l (pc := 47) dX2_firstToLeave_47 ?_
          refine x_aload_n (pc := 48) dX2_firstToLeave_48 rfl rfl ?_
          refine x_iload (pc := 49) dX2_firstToLeave_49 rfl ?_
          have hxs := (sub_iff (g := x) (s := s) ⟨by omega, by omega⟩ ⟨by omega, by omega⟩).mp (by assumption)
          refine x_callV1 (pc := 51) dX2_firstToLeave_51 rfl kX2_127 (s_weightOf hfl x (wV t (costV t) s) hC (fun i a b w => by have := hwr i a b (hxs i a b w); omega) (fun i a b w => hP i a b (hxs i a b w))) (sC_40 hC) rfl rfl (Nat.le_of_ble_eq_true rfl) (k_R ?_) n_R
          have hpx := payS_r (p := wV t (costV t) s) (s := x) (b := 233442) (fun i a b w => hwr i a b (hxs i a b w)) (by omega) 7 (by omega)
          have hpe : payS (wV t (costV t) s) x = sumN (fun h => if hb x h = 1 then wV t (costV t) s h else 0) 7 := rfl
          have hq1 : totV (costV t) s * payS (wV t (costV t) s) x ≤ totV (costV t) s * 1634094 := Int.mul_le_mul_of_nonneg_left (by omega) (by omega)
          have hq2 : 0 ≤ totV (costV t) s * payS (wV t (costV t) s) x := Int.mul_nonneg (by omega) (by omega)
          refine x_lmul (pc := 54) dX2_firstToLeave_54 (by omega) ?_
          refine x_aload_n (pc := 55) dX2_firstToLeave_55 rfl rfl ?_
          refine x_getR (jj := 1) (pc := 56) dX2_firstToLeave_56 fX2_37 (sC_40 hC) rfl (by decide) rfl rC_40_1 ?_
          refine x_getR (jj := 1) (pc := 59) dX2_firstToLeave_59 fX2_75 (sC_34 hC) rfl (by decide) rfl rC_34_1 ?_
          refine x_iload (pc := 62) dX2_firstToLeave_62 rfl ?_
          refine x_ialoadV (pc := 64) dX2_firstToLeave_64 (sC_35 hC) (by omega) (by (repeat (first | rewrite [up_s] | rewrite [up_i (by omega)] | rewrite [up_a (by omega)])); first | exact hgx.1.1 | exact hgs.1.2.1.trans het | rfl) (fun g_64 => ?_)
          refine x_i2l (pc := 65) dX2_firstToLeave_65 ?_
          refine x_lload_n (pc := 66) dX2_firstToLeave_66 rfl rfl ?_
          refine x_lmul (pc := 67) dX2_firstToLeave_67 (by omega) ?_
          refine x_lle (tgt := 75) (pc := 68) dX2_firstToLeave_68 dX2_firstToLeave_69 (by decide) (fun c_68 => ?_) (fun c_68 => ?_)
          · refine x_iinc (pc := 75) dX2_firstToLeave_75 rfl (by omega) (by decide) rfl ?_
            refine x_goto (tgt := 9) (pc := 78) dX2_firstToLeave_78 (by decide) ?_
            refine x_lo (lo' := [(0, (2, 40)), (1, (0, s)), (2, (1, payS (wV t (costV t) s) s)), (4, (0, (x + 1)))]) ⟨rfl, rfl, rfl, rfl, trivial⟩ (ih (x + 1) ⟨by omega, by omega, fun j p q => ?_⟩ (by omega))
            by_cases e : j = x
            · subst e
              refine decide_eq_false ?_
              rintro ⟨u1, u2, u3, u4⟩
              rw [payS_mul] at u4
              omega
            · exact h3 j p (by omega)
          · refine x_iload (pc := 72) dX2_firstToLeave_72 rfl ?_
            refine x_ireturn (pc := 74) dX2_firstToLeave_74 rfl (by decide) ?_
            refine ⟨?_, rfl, rfl, rfl⟩
            unfold leavesV
            rw [firstB_some (v := x) (by omega) (by omega) (decide_eq_true ⟨by omega, by assumption, by assumption, by rw [payS_mul]; omega⟩) h3])
  refine x_aload_n (pc := 0) dX2_firstToLeave_0 rfl rfl ?_
  refine x_iload_n (pc := 1) dX2_firstToLeave_1 rfl rfl ?_
  refine x_callV1 (pc := 2) dX2_firstToLeave_2 rfl kX2_127 (s_weightOf hfl s (wV t (costV t) s) hC (fun i a b w => by have := hwr i a b w; omega) hP) (sC_40 hC) rfl rfl (Nat.le_of_ble_eq_true rfl) (k_R ?_) n_R
  refine x_lstore_n (pc := 5) dX2_firstToLeave_5 rfl (by decide) rfl ?_
  refine x_iconst (pc := 6) dX2_firstToLeave_6 (by decide) ?_
  refine x_istore (pc := 7) dX2_firstToLeave_7 (by decide) rfl ?_
  refine x_lo (lo' := [(0, (2, 40)), (1, (0, s)), (2, (1, payS (wV t (costV t) s) s)), (4, (0, 1))]) ⟨rfl, rfl, rfl, rfl, trivial⟩ (loop (1) ⟨by omega, by omega, fun j p q => decide_eq_false (by rintro ⟨u1, u2, u3, u4⟩; omega)⟩)
theorem s_needRule {l : Launch} {E : aE} {N : Nat} {S : aS} {M : aM} (hfl : l.stackTraces = false) (s : Int) (hC : lyC S) (A : aM) (hR : RC M N S A) (hA : TOK (A 0)) (hB : TB (A 0)) (hs : 0 < s ∧ s < 128) : aMt l E pX11_needRule [(2, 0), (0, s)] N S M (aW (fun M' => RC M' N S A ∧ frC M M' ∧ GA M' 25 (A 0) s ∧ (totE (costV (A 0)) s ≠ -1 ∧ wOK (A 0) (costV (A 0)) s = true → ∀ h, 0 ≤ h → h < 7 → hb s h = 1 → M' 78 h = wV (A 0) (costV (A 0)) s h)) (totE (costV (A 0)) s ≠ -1 ∧ wOK (A 0) (costV (A 0)) s = true) 1 N S) := by
  refine a_met hfl rfl (by decide +kernel) (Nat.le_of_ble_eq_true rfl) ?_
  refine x_aload_n (pc := 0) dX11_needRule_0 rfl rfl ?_
  refine x_iload_n (pc := 1) dX11_needRule_1 rfl rfl ?_
  refine x_callV1 (pc := 2) dX11_needRule_2 rfl kX11_234 (s_needTotal hfl s hC A hR hA hB hs) (sC_0 hC) rfl rfl (Nat.le_of_ble_eq_true rfl) (k_W (fun M9 h9 ht9 => ?_)) (n_W (fun M9 h9 h8 => ⟨rfl, rfl, ⟨h9.1, h9.2.1, h9.2.2, fun q => absurd q.1 h8⟩, Or.inr ⟨fun q => h8 q.1, rfl⟩⟩))
  obtain ⟨hR9, FC9, g9⟩ := h9
  refine x_aload_n (pc := 5) dX11_needRule_5 rfl rfl ?_
  refine x_getR (jj := 6) (pc := 6) dX11_needRule_6 fX11_63 (sC_0 hC) rfl (by decide) rfl rC_0_6 ?_
  refine x_iload_n (pc := 9) dX11_needRule_9 rfl rfl ?_
  have hrl : 0 ≤ A 0 252 ∧ A 0 252 ≤ 2 := hA.2.2.2.2.2.2.2.2.2.2.2.2.2.2.2.2.2.2.2.2
  refine x_callV1 (pc := 10) dX11_needRule_10 rfl kX11_386 (s_weighR hfl s (A 0) hC hA.tq hrl hR9.1.1 hR9.1.2 hs g9) (sC_40 hC) rfl rfl (Nat.le_of_ble_eq_true rfl) (k_G (fun v8 M8 hM8 => ?_)) n_G
  obtain ⟨rfl, s1, s2⟩ := hM8
  have hR8 := hR9.pt (M' := M8) fun a i x => s1 a i (by omega)
  have FC8 : frC M M8 := fun a j x y => (s1 a j (by omega)).trans (FC9 a j x y)
  have g8 := g9.cg (M' := M8) fun a i x y => s1 a i (by omega)
  refine x_if_ne (tgt := 24) (pc := 13) dX11_needRule_13 (by decide) (fun c_13 => ?_) (fun c_13 => ?_)
  · refine x_return (pc := 24) dX11_needRule_24 rfl (by decide) ?_
    have hok : wOK (A 0) (costV (A 0)) s = true := by
      cases hq : wOK (A 0) (costV (A 0)) s with
      | true => rfl
      | false => rw [hq, if_neg (by decide)] at c_13; omega
    exact ⟨rfl, rfl, ⟨hR8, FC8, g8, fun q => s2 q.2⟩, Or.inl ⟨⟨ht9, hok⟩, rfl⟩⟩
  · refine x_throw (pc := 16) thX11_352_354 rfl trivial dX11_needRule_16 dX11_needRule_19 dX11_needRule_20 dX11_needRule_23 (by decide) ?_
    have hno : ¬ wOK (A 0) (costV (A 0)) s = true := fun q => by rw [q, if_pos rfl] at c_13; omega
    exact ⟨rfl, rfl, ⟨hR8, FC8, g8, fun q => s2 q.2⟩, Or.inr ⟨fun q => hno q.2, rfl⟩⟩
theorem not_rule {a : Int} {b : Bool} (h : ¬ (a ≠ -1 ∧ b = true)) : a = -1 ∨ b = false := by
  cases b with
  | false => exact Or.inr rfl
  | true =>
    refine Or.inl ?_
    by_cases q : a = -1
    · exact q
    · exact absurd ⟨q, rfl⟩ h
theorem is_rule {a : Int} {b : Bool} (h : a ≠ -1 ∧ b = true) : ¬ (a = -1 ∨ b = false) := by
  rintro (q | q)
  · exact h.1 q
  · rw [h.2] at q; cases q
theorem s_Ckeeps {l : Launch} {E : aE} {N : Nat} {S : aS} {M : aM} (hfl : l.stackTraces = false) (s : Int) (hC : lyC S) (A : aM) (hR : RC M N S A) (hA : TOK (A 0)) (hB : TB (A 0)) : aMt l E pX11_keeps [(2, 0), (0, s)] N S M (opC M N S 0 (spKeeps A s) (fun k => if k = 1 then 0 else 1)) := by
  refine a_met hfl rfl (by decide +kernel) (Nat.le_of_ble_eq_true rfl) ?_
  have c0 : M 1 1 = A 0 0 := hR.1.1.1
  have t0 := hA.1
  have t9 := hA.2.2.2.2.2.2.2.2.2.2.2.2.2.2.2.2.2.1
  refine x_aload_n (pc := 0) dX11_keeps_0 rfl rfl ?_
  refine x_iload_n (pc := 1) dX11_keeps_1 rfl rfl ?_
  refine x_callV1 (pc := 2) dX11_keeps_2 rfl kX11_131 (s_needSet hfl _ hC (by omega)) (sC_0 hC) rfl rfl (Nat.le_of_ble_eq_true rfl) (k_N (fun h_2 => ?_)) (n_N (fun h_2 => (by rw [c0] at h_2; have e9 : spKeeps A s = (1, 0, A) := (by unfold spKeeps; (repeat' split) <;> first | rfl | (exfalso; omega)); rw [e9]; exact ⟨rfl, rfl, fun _ _ _ _ => rfl, hR, Or.inr ⟨show ¬ (1 : Int) = 0 by decide, rfl⟩⟩)))
  rw [c0] at h_2
  have hsl := isSet_lt hA h_2
  refine x_aload_n (pc := 5) dX11_keeps_5 rfl rfl ?_
  refine x_iload_n (pc := 6) dX11_keeps_6 rfl rfl ?_
  refine x_callV1 (pc := 7) dX11_keeps_7 rfl kX11_280 (s_needRule hfl s hC A hR hA hB hsl) (sC_0 hC) rfl rfl (Nat.le_of_ble_eq_true rfl) (k_W (fun M9 h9 ht9 => ?_)) (n_W (fun M9 h9 h8 => by obtain ⟨hR9, FC9, g9, -⟩ := h9; have e9 : spKeeps A s = (2, 0, A) := (by unfold spKeeps; rw [if_neg (by omega), if_pos (not_rule h8)]); rw [e9]; exact ⟨rfl, rfl, FC9, hR9, Or.inr ⟨show ¬ (2 : Int) = 0 by decide, rfl⟩⟩))
  obtain ⟨hR9, FC9, g9, r9⟩ := h9
  have hrl : 0 ≤ A 0 252 ∧ A 0 252 ≤ 2 := hA.2.2.2.2.2.2.2.2.2.2.2.2.2.2.2.2.2.2.2.2
  have r9 := r9 ht9
  have hwr := fun i a b w => wV_r hA.tq hrl (costs_t hA.tq) (s := s) (h := i) ⟨a, b⟩ w ht9.2
  have hwp := wV_pos hA.tq hrl (costs_t hA.tq) hsl ht9.2
  have hgs := g9 s hsl.1 (Int.le_refl s) (sub_rf (by omega))
  have hto := totV_or (c := costV (A 0)) s
  have hlt := totE_lt (costs_t hA.tq) (s := s) (by omega)
  have htn := ht9.1
  have het : encT (totE (costV (A 0)) s) = totV (costV (A 0)) s := by omega
  refine x_aload_n (pc := 10) dX11_keeps_10 rfl rfl ?_
  refine x_getR (jj := 6) (pc := 11) dX11_keeps_11 fX11_63 (sC_0 hC) rfl (by decide) rfl rC_0_6 ?_
  refine x_iload_n (pc := 14) dX11_keeps_14 rfl rfl ?_
  refine x_callV1 (pc := 15) dX11_keeps_15 rfl kX11_289 (s_firstToLeave hfl s (A 0) hC hA.tq hrl hR9.1.1 hR9.1.2 hsl g9 ht9.1 ht9.2 r9) (sC_40 hC) rfl rfl (Nat.le_of_ble_eq_true rfl) (k_R ?_) n_R
  refine x_ireturn (pc := 18) dX11_keeps_18 rfl (by decide) ?_
  have e9 : spKeeps A s = (0, leavesV (costV (A 0)) (fun h => wV (A 0) (costV (A 0)) s h * totV (costV (A 0)) s) (payS (wV (A 0) (costV (A 0)) s) s) s, A) := by
    unfold spKeeps
    rw [if_neg (by omega), if_neg (is_rule ht9)]
  rw [e9]
  exact ⟨rfl, rfl, FC9, hR9, Or.inl ⟨rfl, rfl⟩⟩
theorem s_Cruled {l : Launch} {E : aE} {N : Nat} {S : aS} {M : aM} (hfl : l.stackTraces = false) (s h : Int) (hC : lyC S) (A : aM) (hR : RC M N S A) (hA : TOK (A 0)) (hB : TB (A 0)) : aMt l E pX11_ruled [(2, 0), (0, s), (0, h)] N S M (opCv M N S (spRuled A s h) (fun k => if k = 1 then 0 else 1)) := by
  refine a_met hfl rfl (by decide +kernel) (Nat.le_of_ble_eq_true rfl) ?_
  have c0 : M 1 1 = A 0 0 := hR.1.1.1
  have t0 := hA.1
  have t9 := hA.2.2.2.2.2.2.2.2.2.2.2.2.2.2.2.2.2.1
  refine x_aload_n (pc := 0) dX11_ruled_0 rfl rfl ?_
  refine x_iload_n (pc := 1) dX11_ruled_1 rfl rfl ?_
  refine x_callV1 (pc := 2) dX11_ruled_2 rfl kX11_131 (s_needSet hfl _ hC (by omega)) (sC_0 hC) rfl rfl (Nat.le_of_ble_eq_true rfl) (k_N (fun h_2 => ?_)) (n_N (fun h_2 => (by rw [c0] at h_2; have e9 : spRuled A s h = (1, 0, A) := (by unfold spRuled; (repeat' split) <;> first | rfl | (exfalso; omega)); rw [e9]; exact ⟨rfl, rfl, fun _ _ _ _ => rfl, hR, Or.inr ⟨show ¬ (1 : Int) = 0 by decide, rfl⟩⟩)))
  rw [c0] at h_2
  have hsl := isSet_lt hA h_2
  refine x_aload_n (pc := 5) dX11_ruled_5 rfl rfl ?_
  refine x_iload_n (pc := 6) dX11_ruled_6 rfl rfl ?_
  refine x_iload_n (pc := 7) dX11_ruled_7 rfl rfl ?_
  refine x_callV2 (pc := 8) dX11_ruled_8 rfl kX11_256 (s_needMember hfl s h) (sC_0 hC) rfl rfl (Nat.le_of_ble_eq_true rfl) (k_N (fun h_8 => ?_)) (n_N (fun h_8 => (by have e9 : spRuled A s h = (1, 0, A) := (by unfold spRuled; rw [if_pos (Or.inr (by assumption))]); rw [e9]; exact ⟨rfl, rfl, fun _ _ _ _ => rfl, hR, Or.inr ⟨show ¬ (1 : Int) = 0 by decide, rfl⟩⟩)))
  have hh9 := isOf_in (s := s) (h := h) (by omega)
  have hhb := (isOf_iff (x := s) hh9).mp (by assumption)
  refine x_aload_n (pc := 11) dX11_ruled_11 rfl rfl ?_
  refine x_iload_n (pc := 12) dX11_ruled_12 rfl rfl ?_
  refine x_callV1 (pc := 13) dX11_ruled_13 rfl kX11_280 (s_needRule hfl s hC A hR hA hB hsl) (sC_0 hC) rfl rfl (Nat.le_of_ble_eq_true rfl) (k_W (fun M9 h9 ht9 => ?_)) (n_W (fun M9 h9 h8 => by obtain ⟨hR9, FC9, g9, -⟩ := h9; have e9 : spRuled A s h = (2, 0, A) := (by unfold spRuled; rw [if_neg (by omega), if_pos (not_rule h8)]); rw [e9]; exact ⟨rfl, rfl, FC9, hR9, Or.inr ⟨show ¬ (2 : Int) = 0 by decide, rfl⟩⟩))
  obtain ⟨hR9, FC9, g9, r9⟩ := h9
  have hrl : 0 ≤ A 0 252 ∧ A 0 252 ≤ 2 := hA.2.2.2.2.2.2.2.2.2.2.2.2.2.2.2.2.2.2.2.2
  have r9 := r9 ht9
  have hwr := fun i a b w => wV_r hA.tq hrl (costs_t hA.tq) (s := s) (h := i) ⟨a, b⟩ w ht9.2
  have hwp := wV_pos hA.tq hrl (costs_t hA.tq) hsl ht9.2
  have hgs := g9 s hsl.1 (Int.le_refl s) (sub_rf (by omega))
  have hto := totV_or (c := costV (A 0)) s
  have hlt := totE_lt (costs_t hA.tq) (s := s) (by omega)
  have htn := ht9.1
  have het : encT (totE (costV (A 0)) s) = totV (costV (A 0)) s := by omega
  refine x_aload_n (pc := 16) dX11_ruled_16 rfl rfl ?_
  have hwh := hwr h hh9.1 hh9.2 hhb
  have hm1 : totV (costV (A 0)) s * wV (A 0) (costV (A 0)) s h ≤ totV (costV (A 0)) s * 233442 := Int.mul_le_mul_of_nonneg_left hwh.2 (by omega)
  have hm2 : 0 ≤ totV (costV (A 0)) s * wV (A 0) (costV (A 0)) s h := Int.mul_nonneg (by omega) hwh.1
  refine x_aload_n (pc := 17) dX11_ruled_17 rfl rfl ?_
  refine x_getR (jj := 5) (pc := 18) dX11_ruled_18 fX11_54 (sC_0 hC) rfl (by decide) rfl rC_0_5 ?_
  refine x_getR (jj := 2) (pc := 21) dX11_ruled_21 fX11_206 (sC_34 hC) rfl (by decide) rfl rC_34_2 ?_
  refine x_iload_n (pc := 24) dX11_ruled_24 rfl rfl ?_
  refine x_ialoadV (pc := 25) dX11_ruled_25 (sC_36 hC) (by omega) (by (repeat (first | rewrite [up_s] | rewrite [up_i (by omega)] | rewrite [up_a (by omega)])); first | exact hgs.1.2.1.trans het | exact r9 h hh9.1 hh9.2 hhb | rfl) (fun g_25 => ?_)
  refine x_i2l (pc := 26) dX11_ruled_26 ?_
  refine x_aload_n (pc := 27) dX11_ruled_27 rfl rfl ?_
  refine x_getR (jj := 6) (pc := 28) dX11_ruled_28 fX11_63 (sC_0 hC) rfl (by decide) rfl rC_0_6 ?_
  refine x_getR (jj := 11) (pc := 31) dX11_ruled_31 fX11_283 (sC_40 hC) rfl (by decide) rfl rC_40_11 ?_
  refine x_iload_n (pc := 34) dX11_ruled_34 rfl rfl ?_
  refine x_ialoadV (pc := 35) dX11_ruled_35 (sC_78 hC) (by omega) (by (repeat (first | rewrite [up_s] | rewrite [up_i (by omega)] | rewrite [up_a (by omega)])); first | exact hgs.1.2.1.trans het | exact r9 h hh9.1 hh9.2 hhb | rfl) (fun g_35 => ?_)
  refine x_i2l (pc := 36) dX11_ruled_36 ?_
  refine x_lmul (pc := 37) dX11_ruled_37 (by omega) ?_
  refine x_aload_n (pc := 38) dX11_ruled_38 rfl rfl ?_
  refine x_getR (jj := 6) (pc := 39) dX11_ruled_39 fX11_63 (sC_0 hC) rfl (by decide) rfl rC_0_6 ?_
  refine x_iload_n (pc := 42) dX11_ruled_42 rfl rfl ?_
  refine x_callV1 (pc := 43) dX11_ruled_43 rfl kX11_286 (s_weightOf hfl s (wV (A 0) (costV (A 0)) s) hC (fun i a b w => by have := hwr i a b w; omega) r9) (sC_40 hC) rfl rfl (Nat.le_of_ble_eq_true rfl) (k_R ?_) n_R
  refine x_callV2 (pc := 46) dX11_ruled_46 rfl kX11_252 (s_tell hfl (totV (costV (A 0)) s * wV (A 0) (costV (A 0)) s h) (payS (wV (A 0) (costV (A 0)) s) s) hC ⟨by omega, by omega⟩ ⟨by omega, by omega⟩) (sC_0 hC) rfl rfl (Nat.le_of_ble_eq_true rfl) (k_U (fun M7 hM7 => ?_)) n_U
  subst hM7
  refine x_return (pc := 49) dX11_ruled_49 rfl (by decide) ?_
  have e9 : spRuled A s h = (0, 0, frA A (totV (costV (A 0)) s * wV (A 0) (costV (A 0)) s h) (payS (wV (A 0) (costV (A 0)) s) s)) := by
    unfold spRuled
    rw [if_neg (by omega), if_neg (is_rule ht9)]
  rw [e9]
  refine ⟨rfl, rfl, fun a j x y => ?_, hR9.fr, Or.inl ⟨rfl, rfl⟩⟩
  rw [up_a (by omega), up_a (by omega)]
  exact FC9 a j x y
