/-! the reference: calls without prices (1) -/
/-- what a call of the reference leaves: the word in thrown, the answer, the state -/
def opM (M : aM) (m : Int) (t : Nat) (sp : Int × Int × aM) : aV → aM → Prop := fun v M' => v.1 = t ∧ M' m 3 = sp.1 ∧ (sp.1 = 0 → v = (t, sp.2.1)) ∧ RM M' m sp.2.2 ∧ frM M M' m
/-- the numbers that told may hold -/
def TOK (t : Int → Int) : Prop := (0 ≤ t 0 ∧ t 0 ≤ 7) ∧ (∀ h, 0 ≤ h → h < 7 → 0 ≤ t (1 + h) ∧ t (1 + h) ≤ 8) ∧ (∀ i, 0 ≤ i → i < 42 → 0 ≤ t (8 + i) ∧ t (8 + i) ≤ 8) ∧ (∀ a b, 0 ≤ a → a < 7 → 0 ≤ b → b < 7 → (t (50 + 7 * a + b) = 0 ∨ t (50 + 7 * a + b) = 1) ∧ t (50 + 7 * a + b) = t (50 + 7 * b + a)) ∧ (∀ a b, 0 ≤ a → a < 7 → 0 ≤ b → b < 7 → (t (99 + 7 * a + b) = 0 ∨ t (99 + 7 * a + b) = 1 ∧ a < t 0 ∧ b < t 0)) ∧ (∀ h, 0 ≤ h → h < 7 → 0 ≤ t (148 + h) ∧ t (148 + h) ≤ 100000) ∧ (1 ≤ t 155 ∧ t 155 ≤ 1000) ∧ (∀ h, 0 ≤ h → h < 7 → 0 ≤ t (156 + h) ∧ t (156 + h) ≤ 4) ∧ (∀ i, 0 ≤ i → i < 28 → 0 ≤ t (163 + i) ∧ t (163 + i) ≤ 8) ∧ (∀ h n, 0 ≤ h → h < 7 → 0 ≤ n → n < t (156 + h) → 1 ≤ t (191 + 4 * h + n) ∧ t (191 + 4 * h + n) ≤ 9) ∧ (t 219 = 0 ∨ t 219 = 1) ∧ (0 ≤ t 220 ∧ t 220 ≤ 6) ∧ (∀ k, 0 ≤ k → k < t 220 → 1 ≤ t (221 + k) ∧ t (221 + k) ≤ 60 ∧ 1 ≤ t (227 + k) ∧ t (227 + k) ≤ 99) ∧ (0 ≤ t 233 ∧ t 233 ≤ 4) ∧ (∀ k, 0 ≤ k → k < t 233 → 1 ≤ t (234 + k) ∧ t (234 + k) ≤ 60 ∧ 0 ≤ t (238 + k) ∧ t (238 + k) ≤ 99) ∧ (0 ≤ t 242 ∧ t 242 ≤ 99) ∧ (0 ≤ t 243 ∧ t 243 ≤ 99) ∧ (1 ≤ t 244 ∧ t 244 ≤ 6) ∧ (∀ i, 0 ≤ i → i < 6 → 0 ≤ t (245 + i) ∧ t (245 + i) ≤ 99) ∧ (0 ≤ t 251 ∧ t 251 ≤ 999) ∧ (0 ≤ t 252 ∧ t 252 ≤ 2)
theorem dX12_house_0 : decode cX12_house 0 = .ok (.aload_n 0, 1) := by decide +kernel
theorem dX12_house_1 : decode cX12_house 1 = .ok (.iconst 0, 1) := by decide +kernel
theorem dX12_house_2 : decode cX12_house 2 = .ok (.putfield 103, 3) := by decide +kernel
theorem dX12_house_5 : decode cX12_house 5 = .ok (.iload_n 1, 1) := by decide +kernel
theorem dX12_house_6 : decode cX12_house 6 = .ok (.i2l, 1) := by decide +kernel
theorem dX12_house_7 : decode cX12_house 7 = .ok (.lconst 0, 1) := by decide +kernel
theorem dX12_house_8 : decode cX12_house 8 = .ok (.ldc2_w 114, 3) := by decide +kernel
theorem dX12_house_11 : decode cX12_house 11 = .ok (.invokestatic 106, 3) := by decide +kernel
theorem dX12_house_14 : decode cX12_house 14 = .ok (.ifCond .ne 9, 3) := by decide +kernel
theorem dX12_house_17 : decode cX12_house 17 = .ok (.aload_n 0, 1) := by decide +kernel
theorem dX12_house_18 : decode cX12_house 18 = .ok (.iconst 1, 1) := by decide +kernel
theorem dX12_house_19 : decode cX12_house 19 = .ok (.invokevirtual 116, 3) := by decide +kernel
theorem dX12_house_22 : decode cX12_house 22 = .ok (.ireturn, 1) := by decide +kernel
theorem dX12_house_23 : decode cX12_house 23 = .ok (.aload_n 0, 1) := by decide +kernel
theorem dX12_house_24 : decode cX12_house 24 = .ok (.getfield 9, 3) := by decide +kernel
theorem dX12_house_27 : decode cX12_house 27 = .ok (.iconst 0, 1) := by decide +kernel
theorem dX12_house_28 : decode cX12_house 28 = .ok (.iaload, 1) := by decide +kernel
theorem dX12_house_29 : decode cX12_house 29 = .ok (.bipush 7, 2) := by decide +kernel
theorem dX12_house_31 : decode cX12_house 31 = .ok (.if_icmp .ne 5, 3) := by decide +kernel
theorem dX12_house_34 : decode cX12_house 34 = .ok (.iconst (-1), 1) := by decide +kernel
theorem dX12_house_35 : decode cX12_house 35 = .ok (.ireturn, 1) := by decide +kernel
theorem dX12_house_36 : decode cX12_house 36 = .ok (.aload_n 0, 1) := by decide +kernel
theorem dX12_house_37 : decode cX12_house 37 = .ok (.getfield 9, 3) := by decide +kernel
theorem dX12_house_40 : decode cX12_house 40 = .ok (.iconst 1, 1) := by decide +kernel
theorem dX12_house_41 : decode cX12_house 41 = .ok (.aload_n 0, 1) := by decide +kernel
theorem dX12_house_42 : decode cX12_house 42 = .ok (.getfield 9, 3) := by decide +kernel
theorem dX12_house_45 : decode cX12_house 45 = .ok (.iconst 0, 1) := by decide +kernel
theorem dX12_house_46 : decode cX12_house 46 = .ok (.iaload, 1) := by decide +kernel
theorem dX12_house_47 : decode cX12_house 47 = .ok (.iadd, 1) := by decide +kernel
theorem dX12_house_48 : decode cX12_house 48 = .ok (.iload_n 1, 1) := by decide +kernel
theorem dX12_house_49 : decode cX12_house 49 = .ok (.iastore, 1) := by decide +kernel
theorem dX12_house_50 : decode cX12_house 50 = .ok (.aload_n 0, 1) := by decide +kernel
theorem dX12_house_51 : decode cX12_house 51 = .ok (.getfield 9, 3) := by decide +kernel
theorem dX12_house_54 : decode cX12_house 54 = .ok (.iconst 0, 1) := by decide +kernel
theorem dX12_house_55 : decode cX12_house 55 = .ok (.dup2, 1) := by decide +kernel
theorem dX12_house_56 : decode cX12_house 56 = .ok (.iaload, 1) := by decide +kernel
theorem dX12_house_57 : decode cX12_house 57 = .ok (.iconst 1, 1) := by decide +kernel
theorem dX12_house_58 : decode cX12_house 58 = .ok (.iadd, 1) := by decide +kernel
theorem dX12_house_59 : decode cX12_house 59 = .ok (.iastore, 1) := by decide +kernel
theorem dX12_house_60 : decode cX12_house 60 = .ok (.aload_n 0, 1) := by decide +kernel
theorem dX12_house_61 : decode cX12_house 61 = .ok (.invokevirtual 120, 3) := by decide +kernel
theorem dX12_house_64 : decode cX12_house 64 = .ok (.aload_n 0, 1) := by decide +kernel
theorem dX12_house_65 : decode cX12_house 65 = .ok (.getfield 9, 3) := by decide +kernel
theorem dX12_house_68 : decode cX12_house 68 = .ok (.iconst 0, 1) := by decide +kernel
theorem dX12_house_69 : decode cX12_house 69 = .ok (.iaload, 1) := by decide +kernel
theorem dX12_house_70 : decode cX12_house 70 = .ok (.iconst 1, 1) := by decide +kernel
theorem dX12_house_71 : decode cX12_house 71 = .ok (.isub, 1) := by decide +kernel
theorem dX12_house_72 : decode cX12_house 72 = .ok (.ireturn, 1) := by decide +kernel
theorem dX12_want_0 : decode cX12_want 0 = .ok (.aload_n 0, 1) := by decide +kernel
theorem dX12_want_1 : decode cX12_want 1 = .ok (.iconst 0, 1) := by decide +kernel
theorem dX12_want_2 : decode cX12_want 2 = .ok (.putfield 103, 3) := by decide +kernel
theorem dX12_want_5 : decode cX12_want 5 = .ok (.aload_n 0, 1) := by decide +kernel
theorem dX12_want_6 : decode cX12_want 6 = .ok (.iload_n 1, 1) := by decide +kernel
theorem dX12_want_7 : decode cX12_want 7 = .ok (.invokevirtual 123, 3) := by decide +kernel
theorem dX12_want_10 : decode cX12_want 10 = .ok (.ifCond .eq 15, 3) := by decide +kernel
theorem dX12_want_13 : decode cX12_want 13 = .ok (.iload_n 2, 1) := by decide +kernel
theorem dX12_want_14 : decode cX12_want 14 = .ok (.i2l, 1) := by decide +kernel
theorem dX12_want_15 : decode cX12_want 15 = .ok (.lconst 0, 1) := by decide +kernel
theorem dX12_want_16 : decode cX12_want 16 = .ok (.ldc2_w 127, 3) := by decide +kernel
theorem dX12_want_19 : decode cX12_want 19 = .ok (.invokestatic 106, 3) := by decide +kernel
theorem dX12_want_22 : decode cX12_want 22 = .ok (.ifCond .ne 9, 3) := by decide +kernel
theorem dX12_want_25 : decode cX12_want 25 = .ok (.aload_n 0, 1) := by decide +kernel
theorem dX12_want_26 : decode cX12_want 26 = .ok (.iconst 1, 1) := by decide +kernel
theorem dX12_want_27 : decode cX12_want 27 = .ok (.invokevirtual 116, 3) := by decide +kernel
theorem dX12_want_30 : decode cX12_want 30 = .ok (.ireturn, 1) := by decide +kernel
theorem dX12_want_31 : decode cX12_want 31 = .ok (.iload_n 3, 1) := by decide +kernel
theorem dX12_want_32 : decode cX12_want 32 = .ok (.i2l, 1) := by decide +kernel
theorem dX12_want_33 : decode cX12_want 33 = .ok (.lconst 0, 1) := by decide +kernel
theorem dX12_want_34 : decode cX12_want 34 = .ok (.ldc2_w 114, 3) := by decide +kernel
theorem dX12_want_37 : decode cX12_want 37 = .ok (.invokestatic 106, 3) := by decide +kernel
theorem dX12_want_40 : decode cX12_want 40 = .ok (.ifCond .eq 20, 3) := by decide +kernel
theorem dX12_want_43 : decode cX12_want 43 = .ok (.aload_n 0, 1) := by decide +kernel
theorem dX12_want_44 : decode cX12_want 44 = .ok (.bipush 8, 2) := by decide +kernel
theorem dX12_want_46 : decode cX12_want 46 = .ok (.bipush 6, 2) := by decide +kernel
theorem dX12_want_48 : decode cX12_want 48 = .ok (.iload_n 1, 1) := by decide +kernel
theorem dX12_want_49 : decode cX12_want 49 = .ok (.imul, 1) := by decide +kernel
theorem dX12_want_50 : decode cX12_want 50 = .ok (.iadd, 1) := by decide +kernel
theorem dX12_want_51 : decode cX12_want 51 = .ok (.iload_n 2, 1) := by decide +kernel
theorem dX12_want_52 : decode cX12_want 52 = .ok (.iadd, 1) := by decide +kernel
theorem dX12_want_53 : decode cX12_want 53 = .ok (.iload_n 3, 1) := by decide +kernel
theorem dX12_want_54 : decode cX12_want 54 = .ok (.invokevirtual 129, 3) := by decide +kernel
theorem dX12_want_57 : decode cX12_want 57 = .ok (.goto 8, 3) := by decide +kernel
theorem dX12_want_60 : decode cX12_want 60 = .ok (.aload_n 0, 1) := by decide +kernel
theorem dX12_want_61 : decode cX12_want 61 = .ok (.iconst 2, 1) := by decide +kernel
theorem dX12_want_62 : decode cX12_want 62 = .ok (.invokevirtual 116, 3) := by decide +kernel
theorem dX12_want_65 : decode cX12_want 65 = .ok (.ireturn, 1) := by decide +kernel
theorem dX12_cellar_0 : decode cX12_cellar 0 = .ok (.aload_n 0, 1) := by decide +kernel
theorem dX12_cellar_1 : decode cX12_cellar 1 = .ok (.iconst 0, 1) := by decide +kernel
theorem dX12_cellar_2 : decode cX12_cellar 2 = .ok (.putfield 103, 3) := by decide +kernel
theorem dX12_cellar_5 : decode cX12_cellar 5 = .ok (.aload_n 0, 1) := by decide +kernel
theorem dX12_cellar_6 : decode cX12_cellar 6 = .ok (.iload_n 1, 1) := by decide +kernel
theorem dX12_cellar_7 : decode cX12_cellar 7 = .ok (.invokevirtual 123, 3) := by decide +kernel
theorem dX12_cellar_10 : decode cX12_cellar 10 = .ok (.ifCond .ne 9, 3) := by decide +kernel
theorem dX12_cellar_13 : decode cX12_cellar 13 = .ok (.aload_n 0, 1) := by decide +kernel
theorem dX12_cellar_14 : decode cX12_cellar 14 = .ok (.iconst 1, 1) := by decide +kernel
theorem dX12_cellar_15 : decode cX12_cellar 15 = .ok (.invokevirtual 116, 3) := by decide +kernel
theorem dX12_cellar_18 : decode cX12_cellar 18 = .ok (.ireturn, 1) := by decide +kernel
theorem dX12_cellar_19 : decode cX12_cellar 19 = .ok (.iload_n 2, 1) := by decide +kernel
theorem dX12_cellar_20 : decode cX12_cellar 20 = .ok (.i2l, 1) := by decide +kernel
theorem dX12_cellar_21 : decode cX12_cellar 21 = .ok (.lconst 0, 1) := by decide +kernel
theorem dX12_cellar_22 : decode cX12_cellar 22 = .ok (.ldc2_w 114, 3) := by decide +kernel
theorem dX12_cellar_25 : decode cX12_cellar 25 = .ok (.invokestatic 106, 3) := by decide +kernel
theorem dX12_cellar_28 : decode cX12_cellar 28 = .ok (.ifCond .eq 14, 3) := by decide +kernel
theorem dX12_cellar_31 : decode cX12_cellar 31 = .ok (.aload_n 0, 1) := by decide +kernel
theorem dX12_cellar_32 : decode cX12_cellar 32 = .ok (.iconst 1, 1) := by decide +kernel
theorem dX12_cellar_33 : decode cX12_cellar 33 = .ok (.iload_n 1, 1) := by decide +kernel
theorem dX12_cellar_34 : decode cX12_cellar 34 = .ok (.iadd, 1) := by decide +kernel
theorem dX12_cellar_35 : decode cX12_cellar 35 = .ok (.iload_n 2, 1) := by decide +kernel
theorem dX12_cellar_36 : decode cX12_cellar 36 = .ok (.invokevirtual 129, 3) := by decide +kernel
theorem dX12_cellar_39 : decode cX12_cellar 39 = .ok (.goto 8, 3) := by decide +kernel
theorem dX12_cellar_42 : decode cX12_cellar 42 = .ok (.aload_n 0, 1) := by decide +kernel
theorem dX12_cellar_43 : decode cX12_cellar 43 = .ok (.iconst 2, 1) := by decide +kernel
theorem dX12_cellar_44 : decode cX12_cellar 44 = .ok (.invokevirtual 116, 3) := by decide +kernel
theorem dX12_cellar_47 : decode cX12_cellar 47 = .ok (.ireturn, 1) := by decide +kernel
theorem dX12_bar_0 : decode cX12_bar 0 = .ok (.aload_n 0, 1) := by decide +kernel
theorem dX12_bar_1 : decode cX12_bar 1 = .ok (.iconst 0, 1) := by decide +kernel
theorem dX12_bar_2 : decode cX12_bar 2 = .ok (.putfield 103, 3) := by decide +kernel
theorem dX12_bar_5 : decode cX12_bar 5 = .ok (.aload_n 0, 1) := by decide +kernel
theorem dX12_bar_6 : decode cX12_bar 6 = .ok (.iload_n 1, 1) := by decide +kernel
theorem dX12_bar_7 : decode cX12_bar 7 = .ok (.invokevirtual 123, 3) := by decide +kernel
theorem dX12_bar_10 : decode cX12_bar 10 = .ok (.ifCond .eq 11, 3) := by decide +kernel
theorem dX12_bar_13 : decode cX12_bar 13 = .ok (.aload_n 0, 1) := by decide +kernel
theorem dX12_bar_14 : decode cX12_bar 14 = .ok (.iload_n 2, 1) := by decide +kernel
theorem dX12_bar_15 : decode cX12_bar 15 = .ok (.invokevirtual 123, 3) := by decide +kernel
theorem dX12_bar_18 : decode cX12_bar 18 = .ok (.ifCond .ne 9, 3) := by decide +kernel
theorem dX12_bar_21 : decode cX12_bar 21 = .ok (.aload_n 0, 1) := by decide +kernel
theorem dX12_bar_22 : decode cX12_bar 22 = .ok (.iconst 1, 1) := by decide +kernel
theorem dX12_bar_23 : decode cX12_bar 23 = .ok (.invokevirtual 133, 3) := by decide +kernel
theorem dX12_bar_26 : decode cX12_bar 26 = .ok (.ireturn, 1) := by decide +kernel
theorem dX12_bar_27 : decode cX12_bar 27 = .ok (.iload_n 1, 1) := by decide +kernel
theorem dX12_bar_28 : decode cX12_bar 28 = .ok (.iload_n 2, 1) := by decide +kernel
theorem dX12_bar_29 : decode cX12_bar 29 = .ok (.if_icmp .ne 9, 3) := by decide +kernel
theorem dX12_bar_32 : decode cX12_bar 32 = .ok (.aload_n 0, 1) := by decide +kernel
theorem dX12_bar_33 : decode cX12_bar 33 = .ok (.iconst 2, 1) := by decide +kernel
theorem dX12_bar_34 : decode cX12_bar 34 = .ok (.invokevirtual 133, 3) := by decide +kernel
theorem dX12_bar_37 : decode cX12_bar 37 = .ok (.ireturn, 1) := by decide +kernel
theorem dX12_bar_38 : decode cX12_bar 38 = .ok (.aload_n 0, 1) := by decide +kernel
theorem dX12_bar_39 : decode cX12_bar 39 = .ok (.bipush 50, 2) := by decide +kernel
theorem dX12_bar_41 : decode cX12_bar 41 = .ok (.bipush 7, 2) := by decide +kernel
theorem dX12_bar_43 : decode cX12_bar 43 = .ok (.iload_n 1, 1) := by decide +kernel
theorem dX12_bar_44 : decode cX12_bar 44 = .ok (.imul, 1) := by decide +kernel
theorem dX12_bar_45 : decode cX12_bar 45 = .ok (.iadd, 1) := by decide +kernel
theorem dX12_bar_46 : decode cX12_bar 46 = .ok (.iload_n 2, 1) := by decide +kernel
theorem dX12_bar_47 : decode cX12_bar 47 = .ok (.iadd, 1) := by decide +kernel
theorem dX12_bar_48 : decode cX12_bar 48 = .ok (.iconst 1, 1) := by decide +kernel
theorem dX12_bar_49 : decode cX12_bar 49 = .ok (.invokevirtual 129, 3) := by decide +kernel
theorem dX12_bar_52 : decode cX12_bar 52 = .ok (.istore_n 3, 1) := by decide +kernel
theorem dX12_bar_53 : decode cX12_bar 53 = .ok (.aload_n 0, 1) := by decide +kernel
theorem dX12_bar_54 : decode cX12_bar 54 = .ok (.getfield 9, 3) := by decide +kernel
theorem dX12_bar_57 : decode cX12_bar 57 = .ok (.bipush 50, 2) := by decide +kernel
theorem dX12_bar_59 : decode cX12_bar 59 = .ok (.bipush 7, 2) := by decide +kernel
theorem dX12_bar_61 : decode cX12_bar 61 = .ok (.iload_n 2, 1) := by decide +kernel
theorem dX12_bar_62 : decode cX12_bar 62 = .ok (.imul, 1) := by decide +kernel
theorem dX12_bar_63 : decode cX12_bar 63 = .ok (.iadd, 1) := by decide +kernel
theorem dX12_bar_64 : decode cX12_bar 64 = .ok (.iload_n 1, 1) := by decide +kernel
theorem dX12_bar_65 : decode cX12_bar 65 = .ok (.iadd, 1) := by decide +kernel
theorem dX12_bar_66 : decode cX12_bar 66 = .ok (.iconst 1, 1) := by decide +kernel
theorem dX12_bar_67 : decode cX12_bar 67 = .ok (.iastore, 1) := by decide +kernel
theorem dX12_bar_68 : decode cX12_bar 68 = .ok (.iload_n 3, 1) := by decide +kernel
theorem dX12_bar_69 : decode cX12_bar 69 = .ok (.ifCond .ne 7, 3) := by decide +kernel
theorem dX12_bar_72 : decode cX12_bar 72 = .ok (.iconst 1, 1) := by decide +kernel
theorem dX12_bar_73 : decode cX12_bar 73 = .ok (.goto 4, 3) := by decide +kernel
theorem dX12_bar_76 : decode cX12_bar 76 = .ok (.iconst 0, 1) := by decide +kernel
theorem dX12_bar_77 : decode cX12_bar 77 = .ok (.ireturn, 1) := by decide +kernel
theorem dX12_trust_0 : decode cX12_trust 0 = .ok (.aload_n 0, 1) := by decide +kernel
theorem dX12_trust_1 : decode cX12_trust 1 = .ok (.iconst 0, 1) := by decide +kernel
theorem dX12_trust_2 : decode cX12_trust 2 = .ok (.putfield 103, 3) := by decide +kernel
theorem dX12_trust_5 : decode cX12_trust 5 = .ok (.aload_n 0, 1) := by decide +kernel
theorem dX12_trust_6 : decode cX12_trust 6 = .ok (.iload_n 1, 1) := by decide +kernel
theorem dX12_trust_7 : decode cX12_trust 7 = .ok (.invokevirtual 123, 3) := by decide +kernel
theorem dX12_trust_10 : decode cX12_trust 10 = .ok (.ifCond .eq 11, 3) := by decide +kernel
theorem dX12_trust_13 : decode cX12_trust 13 = .ok (.aload_n 0, 1) := by decide +kernel
theorem dX12_trust_14 : decode cX12_trust 14 = .ok (.iload_n 2, 1) := by decide +kernel
theorem dX12_trust_15 : decode cX12_trust 15 = .ok (.invokevirtual 123, 3) := by decide +kernel
theorem dX12_trust_18 : decode cX12_trust 18 = .ok (.ifCond .ne 9, 3) := by decide +kernel
theorem dX12_trust_21 : decode cX12_trust 21 = .ok (.aload_n 0, 1) := by decide +kernel
theorem dX12_trust_22 : decode cX12_trust 22 = .ok (.iconst 1, 1) := by decide +kernel
theorem dX12_trust_23 : decode cX12_trust 23 = .ok (.invokevirtual 133, 3) := by decide +kernel
theorem dX12_trust_26 : decode cX12_trust 26 = .ok (.ireturn, 1) := by decide +kernel
theorem dX12_trust_27 : decode cX12_trust 27 = .ok (.iload_n 1, 1) := by decide +kernel
theorem dX12_trust_28 : decode cX12_trust 28 = .ok (.iload_n 2, 1) := by decide +kernel
theorem dX12_trust_29 : decode cX12_trust 29 = .ok (.if_icmp .ne 9, 3) := by decide +kernel
theorem dX12_trust_32 : decode cX12_trust 32 = .ok (.aload_n 0, 1) := by decide +kernel
theorem dX12_trust_33 : decode cX12_trust 33 = .ok (.iconst 2, 1) := by decide +kernel
theorem dX12_trust_34 : decode cX12_trust 34 = .ok (.invokevirtual 133, 3) := by decide +kernel
theorem dX12_trust_37 : decode cX12_trust 37 = .ok (.ireturn, 1) := by decide +kernel
theorem dX12_trust_38 : decode cX12_trust 38 = .ok (.aload_n 0, 1) := by decide +kernel
theorem dX12_trust_39 : decode cX12_trust 39 = .ok (.bipush 99, 2) := by decide +kernel
theorem dX12_trust_41 : decode cX12_trust 41 = .ok (.bipush 7, 2) := by decide +kernel
theorem dX12_trust_43 : decode cX12_trust 43 = .ok (.iload_n 1, 1) := by decide +kernel
theorem dX12_trust_44 : decode cX12_trust 44 = .ok (.imul, 1) := by decide +kernel
theorem dX12_trust_45 : decode cX12_trust 45 = .ok (.iadd, 1) := by decide +kernel
theorem dX12_trust_46 : decode cX12_trust 46 = .ok (.iload_n 2, 1) := by decide +kernel
theorem dX12_trust_47 : decode cX12_trust 47 = .ok (.iadd, 1) := by decide +kernel
theorem dX12_trust_48 : decode cX12_trust 48 = .ok (.iload_n 3, 1) := by decide +kernel
theorem dX12_trust_49 : decode cX12_trust 49 = .ok (.ifCond .eq 7, 3) := by decide +kernel
theorem dX12_trust_52 : decode cX12_trust 52 = .ok (.iconst 1, 1) := by decide +kernel
theorem dX12_trust_53 : decode cX12_trust 53 = .ok (.goto 4, 3) := by decide +kernel
theorem dX12_trust_56 : decode cX12_trust 56 = .ok (.iconst 0, 1) := by decide +kernel
theorem dX12_trust_57 : decode cX12_trust 57 = .ok (.invokevirtual 129, 3) := by decide +kernel
theorem dX12_trust_60 : decode cX12_trust 60 = .ok (.iconst 1, 1) := by decide +kernel
theorem dX12_trust_61 : decode cX12_trust 61 = .ok (.if_icmp .ne 7, 3) := by decide +kernel
theorem dX12_trust_64 : decode cX12_trust 64 = .ok (.iconst 1, 1) := by decide +kernel
theorem dX12_trust_65 : decode cX12_trust 65 = .ok (.goto 4, 3) := by decide +kernel
theorem dX12_trust_68 : decode cX12_trust 68 = .ok (.iconst 0, 1) := by decide +kernel
theorem dX12_trust_69 : decode cX12_trust 69 = .ok (.ireturn, 1) := by decide +kernel
theorem dX12_pay_0 : decode cX12_pay 0 = .ok (.aload_n 0, 1) := by decide +kernel
theorem dX12_pay_1 : decode cX12_pay 1 = .ok (.iconst 0, 1) := by decide +kernel
theorem dX12_pay_2 : decode cX12_pay 2 = .ok (.putfield 103, 3) := by decide +kernel
theorem dX12_pay_5 : decode cX12_pay 5 = .ok (.aload_n 0, 1) := by decide +kernel
theorem dX12_pay_6 : decode cX12_pay 6 = .ok (.iload_n 1, 1) := by decide +kernel
theorem dX12_pay_7 : decode cX12_pay 7 = .ok (.invokevirtual 123, 3) := by decide +kernel
theorem dX12_pay_10 : decode cX12_pay 10 = .ok (.ifCond .ne 9, 3) := by decide +kernel
theorem dX12_pay_13 : decode cX12_pay 13 = .ok (.aload_n 0, 1) := by decide +kernel
theorem dX12_pay_14 : decode cX12_pay 14 = .ok (.iconst 1, 1) := by decide +kernel
theorem dX12_pay_15 : decode cX12_pay 15 = .ok (.invokevirtual 116, 3) := by decide +kernel
theorem dX12_pay_18 : decode cX12_pay 18 = .ok (.ireturn, 1) := by decide +kernel
theorem dX12_pay_19 : decode cX12_pay 19 = .ok (.iload_n 2, 1) := by decide +kernel
theorem dX12_pay_20 : decode cX12_pay 20 = .ok (.i2l, 1) := by decide +kernel
theorem dX12_pay_21 : decode cX12_pay 21 = .ok (.lconst 0, 1) := by decide +kernel
theorem dX12_pay_22 : decode cX12_pay 22 = .ok (.ldc2_w 336, 3) := by decide +kernel
theorem dX12_pay_25 : decode cX12_pay 25 = .ok (.invokestatic 106, 3) := by decide +kernel
theorem dX12_pay_28 : decode cX12_pay 28 = .ok (.ifCond .ne 9, 3) := by decide +kernel
theorem dX12_pay_31 : decode cX12_pay 31 = .ok (.aload_n 0, 1) := by decide +kernel
theorem dX12_pay_32 : decode cX12_pay 32 = .ok (.iconst 2, 1) := by decide +kernel
theorem dX12_pay_33 : decode cX12_pay 33 = .ok (.invokevirtual 116, 3) := by decide +kernel
theorem dX12_pay_36 : decode cX12_pay 36 = .ok (.ireturn, 1) := by decide +kernel
theorem dX12_pay_37 : decode cX12_pay 37 = .ok (.aload_n 0, 1) := by decide +kernel
theorem dX12_pay_38 : decode cX12_pay 38 = .ok (.getfield 9, 3) := by decide +kernel
theorem dX12_pay_41 : decode cX12_pay 41 = .ok (.sipush 148, 3) := by decide +kernel
theorem dX12_pay_44 : decode cX12_pay 44 = .ok (.iload_n 1, 1) := by decide +kernel
theorem dX12_pay_45 : decode cX12_pay 45 = .ok (.iadd, 1) := by decide +kernel
theorem dX12_pay_46 : decode cX12_pay 46 = .ok (.iaload, 1) := by decide +kernel
theorem dX12_pay_47 : decode cX12_pay 47 = .ok (.istore_n 3, 1) := by decide +kernel
theorem dX12_pay_48 : decode cX12_pay 48 = .ok (.aload_n 0, 1) := by decide +kernel
theorem dX12_pay_49 : decode cX12_pay 49 = .ok (.getfield 9, 3) := by decide +kernel
theorem dX12_pay_52 : decode cX12_pay 52 = .ok (.sipush 148, 3) := by decide +kernel
theorem dX12_pay_55 : decode cX12_pay 55 = .ok (.iload_n 1, 1) := by decide +kernel
theorem dX12_pay_56 : decode cX12_pay 56 = .ok (.iadd, 1) := by decide +kernel
theorem dX12_pay_57 : decode cX12_pay 57 = .ok (.iload_n 2, 1) := by decide +kernel
theorem dX12_pay_58 : decode cX12_pay 58 = .ok (.iastore, 1) := by decide +kernel
theorem dX12_pay_59 : decode cX12_pay 59 = .ok (.iload_n 3, 1) := by decide +kernel
theorem dX12_pay_60 : decode cX12_pay 60 = .ok (.ireturn, 1) := by decide +kernel
theorem dX12_by_0 : decode cX12_by 0 = .ok (.aload_n 0, 1) := by decide +kernel
theorem dX12_by_1 : decode cX12_by 1 = .ok (.iconst 0, 1) := by decide +kernel
theorem dX12_by_2 : decode cX12_by 2 = .ok (.putfield 103, 3) := by decide +kernel
theorem dX12_by_5 : decode cX12_by 5 = .ok (.iload_n 1, 1) := by decide +kernel
theorem dX12_by_6 : decode cX12_by 6 = .ok (.i2l, 1) := by decide +kernel
theorem dX12_by_7 : decode cX12_by 7 = .ok (.lconst 1, 1) := by decide +kernel
theorem dX12_by_8 : decode cX12_by 8 = .ok (.ldc2_w 346, 3) := by decide +kernel
theorem dX12_by_11 : decode cX12_by 11 = .ok (.invokestatic 106, 3) := by decide +kernel
theorem dX12_by_14 : decode cX12_by 14 = .ok (.ifCond .ne 9, 3) := by decide +kernel
theorem dX12_by_17 : decode cX12_by 17 = .ok (.aload_n 0, 1) := by decide +kernel
theorem dX12_by_18 : decode cX12_by 18 = .ok (.iconst 1, 1) := by decide +kernel
theorem dX12_by_19 : decode cX12_by 19 = .ok (.invokevirtual 116, 3) := by decide +kernel
theorem dX12_by_22 : decode cX12_by 22 = .ok (.ireturn, 1) := by decide +kernel
theorem dX12_by_23 : decode cX12_by 23 = .ok (.aload_n 0, 1) := by decide +kernel
theorem dX12_by_24 : decode cX12_by 24 = .ok (.getfield 9, 3) := by decide +kernel
theorem dX12_by_27 : decode cX12_by 27 = .ok (.sipush 155, 3) := by decide +kernel
theorem dX12_by_30 : decode cX12_by 30 = .ok (.iaload, 1) := by decide +kernel
theorem dX12_by_31 : decode cX12_by 31 = .ok (.istore_n 2, 1) := by decide +kernel
theorem dX12_by_32 : decode cX12_by 32 = .ok (.aload_n 0, 1) := by decide +kernel
theorem dX12_by_33 : decode cX12_by 33 = .ok (.getfield 9, 3) := by decide +kernel
theorem dX12_by_36 : decode cX12_by 36 = .ok (.sipush 155, 3) := by decide +kernel
theorem dX12_by_39 : decode cX12_by 39 = .ok (.iload_n 1, 1) := by decide +kernel
theorem dX12_by_40 : decode cX12_by 40 = .ok (.iastore, 1) := by decide +kernel
theorem dX12_by_41 : decode cX12_by 41 = .ok (.iload_n 2, 1) := by decide +kernel
theorem dX12_by_42 : decode cX12_by 42 = .ok (.ireturn, 1) := by decide +kernel
theorem dX12_doubt_0 : decode cX12_doubt 0 = .ok (.aload_n 0, 1) := by decide +kernel
theorem dX12_doubt_1 : decode cX12_doubt 1 = .ok (.iconst 0, 1) := by decide +kernel
theorem dX12_doubt_2 : decode cX12_doubt 2 = .ok (.putfield 103, 3) := by decide +kernel
theorem dX12_doubt_5 : decode cX12_doubt 5 = .ok (.aload_n 0, 1) := by decide +kernel
theorem dX12_doubt_6 : decode cX12_doubt 6 = .ok (.iload_n 1, 1) := by decide +kernel
theorem dX12_doubt_7 : decode cX12_doubt 7 = .ok (.invokevirtual 123, 3) := by decide +kernel
theorem dX12_doubt_10 : decode cX12_doubt 10 = .ok (.ifCond .ne 9, 3) := by decide +kernel
theorem dX12_doubt_13 : decode cX12_doubt 13 = .ok (.aload_n 0, 1) := by decide +kernel
theorem dX12_doubt_14 : decode cX12_doubt 14 = .ok (.iconst 1, 1) := by decide +kernel
theorem dX12_doubt_15 : decode cX12_doubt 15 = .ok (.invokevirtual 116, 3) := by decide +kernel
theorem dX12_doubt_18 : decode cX12_doubt 18 = .ok (.ireturn, 1) := by decide +kernel
theorem dX12_doubt_19 : decode cX12_doubt 19 = .ok (.iload_n 2, 1) := by decide +kernel
theorem dX12_doubt_20 : decode cX12_doubt 20 = .ok (.i2l, 1) := by decide +kernel
theorem dX12_doubt_21 : decode cX12_doubt 21 = .ok (.lconst 0, 1) := by decide +kernel
theorem dX12_doubt_22 : decode cX12_doubt 22 = .ok (.ldc2_w 114, 3) := by decide +kernel
theorem dX12_doubt_25 : decode cX12_doubt 25 = .ok (.invokestatic 106, 3) := by decide +kernel
theorem dX12_doubt_28 : decode cX12_doubt 28 = .ok (.ifCond .eq 15, 3) := by decide +kernel
theorem dX12_doubt_31 : decode cX12_doubt 31 = .ok (.iload_n 3, 1) := by decide +kernel
theorem dX12_doubt_32 : decode cX12_doubt 32 = .ok (.i2l, 1) := by decide +kernel
theorem dX12_doubt_33 : decode cX12_doubt 33 = .ok (.lconst 1, 1) := by decide +kernel
theorem dX12_doubt_34 : decode cX12_doubt 34 = .ok (.ldc2_w 411, 3) := by decide +kernel
theorem dX12_doubt_37 : decode cX12_doubt 37 = .ok (.invokestatic 106, 3) := by decide +kernel
theorem dX12_doubt_40 : decode cX12_doubt 40 = .ok (.ifCond .ne 9, 3) := by decide +kernel
theorem dX12_doubt_43 : decode cX12_doubt 43 = .ok (.aload_n 0, 1) := by decide +kernel
theorem dX12_doubt_44 : decode cX12_doubt 44 = .ok (.iconst 2, 1) := by decide +kernel
theorem dX12_doubt_45 : decode cX12_doubt 45 = .ok (.invokevirtual 116, 3) := by decide +kernel
theorem dX12_doubt_48 : decode cX12_doubt 48 = .ok (.ireturn, 1) := by decide +kernel
theorem dX12_doubt_49 : decode cX12_doubt 49 = .ok (.aload_n 0, 1) := by decide +kernel
theorem dX12_doubt_50 : decode cX12_doubt 50 = .ok (.getfield 9, 3) := by decide +kernel
theorem dX12_doubt_53 : decode cX12_doubt 53 = .ok (.sipush 156, 3) := by decide +kernel
theorem dX12_doubt_56 : decode cX12_doubt 56 = .ok (.iload_n 1, 1) := by decide +kernel
theorem dX12_doubt_57 : decode cX12_doubt 57 = .ok (.iadd, 1) := by decide +kernel
theorem dX12_doubt_58 : decode cX12_doubt 58 = .ok (.iaload, 1) := by decide +kernel
theorem dX12_doubt_59 : decode cX12_doubt 59 = .ok (.istore 4, 2) := by decide +kernel
theorem dX12_doubt_61 : decode cX12_doubt 61 = .ok (.iload 4, 2) := by decide +kernel
theorem dX12_doubt_63 : decode cX12_doubt 63 = .ok (.iconst 4, 1) := by decide +kernel
theorem dX12_doubt_64 : decode cX12_doubt 64 = .ok (.if_icmp .ne 5, 3) := by decide +kernel
theorem dX12_doubt_67 : decode cX12_doubt 67 = .ok (.iconst (-1), 1) := by decide +kernel
theorem dX12_doubt_68 : decode cX12_doubt 68 = .ok (.ireturn, 1) := by decide +kernel
theorem dX12_doubt_69 : decode cX12_doubt 69 = .ok (.aload_n 0, 1) := by decide +kernel
theorem dX12_doubt_70 : decode cX12_doubt 70 = .ok (.getfield 9, 3) := by decide +kernel
theorem dX12_doubt_73 : decode cX12_doubt 73 = .ok (.sipush 163, 3) := by decide +kernel
theorem dX12_doubt_76 : decode cX12_doubt 76 = .ok (.iconst 4, 1) := by decide +kernel
theorem dX12_doubt_77 : decode cX12_doubt 77 = .ok (.iload_n 1, 1) := by decide +kernel
theorem dX12_doubt_78 : decode cX12_doubt 78 = .ok (.imul, 1) := by decide +kernel
theorem dX12_doubt_79 : decode cX12_doubt 79 = .ok (.iadd, 1) := by decide +kernel
theorem dX12_doubt_80 : decode cX12_doubt 80 = .ok (.iload 4, 2) := by decide +kernel
theorem dX12_doubt_82 : decode cX12_doubt 82 = .ok (.iadd, 1) := by decide +kernel
theorem dX12_doubt_83 : decode cX12_doubt 83 = .ok (.iload_n 2, 1) := by decide +kernel
theorem dX12_doubt_84 : decode cX12_doubt 84 = .ok (.iastore, 1) := by decide +kernel
theorem dX12_doubt_85 : decode cX12_doubt 85 = .ok (.aload_n 0, 1) := by decide +kernel
theorem dX12_doubt_86 : decode cX12_doubt 86 = .ok (.getfield 9, 3) := by decide +kernel
theorem dX12_doubt_89 : decode cX12_doubt 89 = .ok (.sipush 191, 3) := by decide +kernel
theorem dX12_doubt_92 : decode cX12_doubt 92 = .ok (.iconst 4, 1) := by decide +kernel
theorem dX12_doubt_93 : decode cX12_doubt 93 = .ok (.iload_n 1, 1) := by decide +kernel
theorem dX12_doubt_94 : decode cX12_doubt 94 = .ok (.imul, 1) := by decide +kernel
theorem dX12_doubt_95 : decode cX12_doubt 95 = .ok (.iadd, 1) := by decide +kernel
theorem dX12_doubt_96 : decode cX12_doubt 96 = .ok (.iload 4, 2) := by decide +kernel
theorem dX12_doubt_98 : decode cX12_doubt 98 = .ok (.iadd, 1) := by decide +kernel
theorem dX12_doubt_99 : decode cX12_doubt 99 = .ok (.iload_n 3, 1) := by decide +kernel
theorem dX12_doubt_100 : decode cX12_doubt 100 = .ok (.iastore, 1) := by decide +kernel
theorem dX12_doubt_101 : decode cX12_doubt 101 = .ok (.aload_n 0, 1) := by decide +kernel
theorem dX12_doubt_102 : decode cX12_doubt 102 = .ok (.getfield 9, 3) := by decide +kernel
theorem dX12_doubt_105 : decode cX12_doubt 105 = .ok (.sipush 156, 3) := by decide +kernel
theorem dX12_doubt_108 : decode cX12_doubt 108 = .ok (.iload_n 1, 1) := by decide +kernel
theorem dX12_doubt_109 : decode cX12_doubt 109 = .ok (.iadd, 1) := by decide +kernel
theorem dX12_doubt_110 : decode cX12_doubt 110 = .ok (.dup2, 1) := by decide +kernel
theorem dX12_doubt_111 : decode cX12_doubt 111 = .ok (.iaload, 1) := by decide +kernel
theorem dX12_doubt_112 : decode cX12_doubt 112 = .ok (.iconst 1, 1) := by decide +kernel
theorem dX12_doubt_113 : decode cX12_doubt 113 = .ok (.iadd, 1) := by decide +kernel
theorem dX12_doubt_114 : decode cX12_doubt 114 = .ok (.iastore, 1) := by decide +kernel
theorem dX12_doubt_115 : decode cX12_doubt 115 = .ok (.iload 4, 2) := by decide +kernel
theorem dX12_doubt_117 : decode cX12_doubt 117 = .ok (.iconst 1, 1) := by decide +kernel
theorem dX12_doubt_118 : decode cX12_doubt 118 = .ok (.iadd, 1) := by decide +kernel
theorem dX12_doubt_119 : decode cX12_doubt 119 = .ok (.ireturn, 1) := by decide +kernel
theorem dX12_upper_0 : decode cX12_upper 0 = .ok (.aload_n 0, 1) := by decide +kernel
theorem dX12_upper_1 : decode cX12_upper 1 = .ok (.iconst 0, 1) := by decide +kernel
theorem dX12_upper_2 : decode cX12_upper 2 = .ok (.putfield 103, 3) := by decide +kernel
theorem dX12_upper_5 : decode cX12_upper 5 = .ok (.aload_n 0, 1) := by decide +kernel
theorem dX12_upper_6 : decode cX12_upper 6 = .ok (.getfield 339, 3) := by decide +kernel
theorem dX12_upper_9 : decode cX12_upper 9 = .ok (.lreturn, 1) := by decide +kernel
theorem dX12_lower_0 : decode cX12_lower 0 = .ok (.aload_n 0, 1) := by decide +kernel
theorem dX12_lower_1 : decode cX12_lower 1 = .ok (.iconst 0, 1) := by decide +kernel
theorem dX12_lower_2 : decode cX12_lower 2 = .ok (.putfield 103, 3) := by decide +kernel
theorem dX12_lower_5 : decode cX12_lower 5 = .ok (.aload_n 0, 1) := by decide +kernel
theorem dX12_lower_6 : decode cX12_lower 6 = .ok (.getfield 343, 3) := by decide +kernel
theorem dX12_lower_9 : decode cX12_lower 9 = .ok (.lreturn, 1) := by decide +kernel
theorem dX12_fault_0 : decode cX12_fault 0 = .ok (.aload_n 0, 1) := by decide +kernel
theorem dX12_fault_1 : decode cX12_fault 1 = .ok (.iconst 0, 1) := by decide +kernel
theorem dX12_fault_2 : decode cX12_fault 2 = .ok (.putfield 103, 3) := by decide +kernel
theorem dX12_fault_5 : decode cX12_fault 5 = .ok (.iload_n 1, 1) := by decide +kernel
theorem dX12_fault_6 : decode cX12_fault 6 = .ok (.ifCond .ne 10, 3) := by decide +kernel
theorem dX12_fault_9 : decode cX12_fault 9 = .ok (.aload_n 0, 1) := by decide +kernel
theorem dX12_fault_10 : decode cX12_fault 10 = .ok (.getfield 256, 3) := by decide +kernel
theorem dX12_fault_13 : decode cX12_fault 13 = .ok (.goto 16, 3) := by decide +kernel
theorem dX12_fault_16 : decode cX12_fault 16 = .ok (.iload_n 1, 1) := by decide +kernel
theorem dX12_fault_17 : decode cX12_fault 17 = .ok (.iconst 1, 1) := by decide +kernel
theorem dX12_fault_18 : decode cX12_fault 18 = .ok (.if_icmp .ne 10, 3) := by decide +kernel
theorem dX12_fault_21 : decode cX12_fault 21 = .ok (.aload_n 0, 1) := by decide +kernel
theorem dX12_fault_22 : decode cX12_fault 22 = .ok (.getfield 26, 3) := by decide +kernel
theorem dX12_fault_25 : decode cX12_fault 25 = .ok (.goto 4, 3) := by decide +kernel
theorem dX12_fault_28 : decode cX12_fault 28 = .ok (.iconst (-1), 1) := by decide +kernel
theorem dX12_fault_29 : decode cX12_fault 29 = .ok (.ireturn, 1) := by decide +kernel
def spHouse (A : aM) (c : Int) : Int × Int × aM := if ¬ (0 ≤ c ∧ c ≤ 8) then (1, 0, A) else if A 0 0 = 7 then (0, -1, A) else (0, A 0 0, up (up A 0 (1 + A 0 0) c) 0 0 (A 0 0 + 1))
theorem s_Mhouse {l : Launch} {E : aE} {N : Nat} {S : aS} {M : aM} (hfl : l.stackTraces = false) (c : Int) (m : Int) (A : aM) (hS : lyM S m) (hR : RM M m A) (hA : TOK (A 0)) : aMt l E pX12_house [(2, m), (0, c)] N S M (aG N S (opM M m 0 (spHouse A c))) := by
  refine a_met hfl rfl (by decide +kernel) (Nat.le_of_ble_eq_true rfl) ?_
  refine x_aload_n (pc := 0) dX12_house_0 rfl rfl ?_
  refine x_iconst (pc := 1) dX12_house_1 (by decide) ?_
  refine x_putI (jj := 3) (pc := 2) dX12_house_2 fX12_103 hS.1 rfl (by decide) rfl ?_
  refine x_memI (fun M1 hM1 => ?_)
  have R1 : RM M1 m A := by rw [hM1]; exact hR.up3
  have F1 : frM M M1 m := by rw [hM1]; exact frM.rf.up (by omega)
  have T1 : M1 m 3 = 0 := by rw [hM1]; exact up_s
  clear hM1
  have e0 : M1 (m + 1) 0 = A 0 0 := R1.1.1 0 (by omega) (by omega)
  have t0 := hA.1
  refine x_iload_n (pc := 5) dX12_house_5 rfl rfl ?_
  refine x_i2l (pc := 6) dX12_house_6 ?_
  refine x_lconst0 (pc := 7) dX12_house_7 ?_
  refine x_ldc2 (n := 8) (pc := 8) cX12_114 (by decide) dX12_house_8 ?_
  refine x_callS3 (pc := 11) dX12_house_11 rfl kX12_106 (s_within hfl _ _ _) rfl (Nat.le_of_ble_eq_true rfl) (k_B (fun q_11 => ?_) (fun q_11 => ?_)) n_B
  · refine x_if_ne (tgt := 23) (pc := 14) dX12_house_14 (by decide) (fun _ => ?_) (fun c => absurd c (by decide))
    refine x_aload_n (pc := 23) dX12_house_23 rfl rfl ?_
    refine x_getR (jj := 0) (pc := 24) dX12_house_24 fX12_9 hS.1 rfl (by decide) rfl rM_0 ?_
    refine x_iconst (pc := 27) dX12_house_27 (by decide) ?_
    refine x_ialoadV (pc := 28) dX12_house_28 (sM_0 hS) (by omega) (by (repeat (first | rewrite [up_s] | rewrite [up_i (by omega)] | rewrite [up_a (by omega)] | rewrite [stM_a (by omega) (by omega)])); first | exact R1.1.1 _ (by omega) (by omega) | rfl) (fun g_28 => ?_)
    refine x_bipush (pc := 29) dX12_house_29 (by decide) ?_
    refine x_icmp_ne (tgt := 36) (pc := 31) dX12_house_31 (by decide) (fun c_31 => ?_) (fun c_31 => ?_)
    · refine x_aload_n (pc := 36) dX12_house_36 rfl rfl ?_
      refine x_getR (jj := 0) (pc := 37) dX12_house_37 fX12_9 hS.1 rfl (by decide) rfl rM_0 ?_
      refine x_iconst (pc := 40) dX12_house_40 (by decide) ?_
      refine x_aload_n (pc := 41) dX12_house_41 rfl rfl ?_
      refine x_getR (jj := 0) (pc := 42) dX12_house_42 fX12_9 hS.1 rfl (by decide) rfl rM_0 ?_
      refine x_iconst (pc := 45) dX12_house_45 (by decide) ?_
      refine x_ialoadV (pc := 46) dX12_house_46 (sM_0 hS) (by omega) (by (repeat (first | rewrite [up_s] | rewrite [up_i (by omega)] | rewrite [up_a (by omega)] | rewrite [stM_a (by omega) (by omega)])); first | exact R1.1.1 _ (by omega) (by omega) | rfl) (fun g_46 => ?_)
      refine x_iadd (pc := 47) dX12_house_47 (by omega) ?_
      refine x_iload_n (pc := 48) dX12_house_48 rfl rfl ?_
      refine x_iastore (pc := 49) dX12_house_49 (sM_0 hS) (by omega) ?_
      refine x_aload_n (pc := 50) dX12_house_50 rfl rfl ?_
      refine x_getR (jj := 0) (pc := 51) dX12_house_51 fX12_9 hS.1 rfl (by decide) rfl rM_0 ?_
      refine x_iconst (pc := 54) dX12_house_54 (by decide) ?_
      refine x_dup2 (pc := 55) dX12_house_55 rfl rfl ?_
      refine x_ialoadV (pc := 56) dX12_house_56 (sM_0 hS) (by omega) (by (repeat (first | rewrite [up_s] | rewrite [up_i (by omega)] | rewrite [up_a (by omega)] | rewrite [stM_a (by omega) (by omega)])); first | exact R1.1.1 _ (by omega) (by omega) | rfl) (fun g_56 => ?_)
      refine x_iconst (pc := 57) dX12_house_57 (by decide) ?_
      refine x_iadd (pc := 58) dX12_house_58 (by omega) ?_
      refine x_iastore (pc := 59) dX12_house_59 (sM_0 hS) (by omega) ?_
      refine x_aload_n (pc := 60) dX12_house_60 rfl rfl ?_
      refine x_callV0 (pc := 61) dX12_house_61 rfl kX12_120 (s_stale hfl m hS) hS.1 rfl rfl (Nat.le_of_ble_eq_true rfl) (k_U (fun M9 hM9 => ?_)) n_U
      subst hM9
      refine x_aload_n (pc := 64) dX12_house_64 rfl rfl ?_
      refine x_getR (jj := 0) (pc := 65) dX12_house_65 fX12_9 hS.1 rfl (by decide) rfl rM_0 ?_
      refine x_iconst (pc := 68) dX12_house_68 (by decide) ?_
      refine x_ialoadV (pc := 69) dX12_house_69 (sM_0 hS) (by omega) (by (repeat (first | rewrite [up_s] | rewrite [up_i (by omega)] | rewrite [up_a (by omega)] | rewrite [stM_a (by omega) (by omega)])); first | exact R1.1.1 _ (by omega) (by omega) | rfl) (fun g_69 => ?_)
      refine x_iconst (pc := 70) dX12_house_70 (by decide) ?_
      refine x_isub (pc := 71) dX12_house_71 (by omega) ?_
      refine x_ireturn (pc := 72) dX12_house_72 rfl (by decide) ?_
      have e9 : spHouse A c = (0, A 0 0, up (up A 0 (1 + A 0 0) c) 0 0 (A 0 0 + 1)) := by
        unfold spHouse
        (repeat' split) <;> first | rfl | (exfalso; omega)
      rw [e9]
      refine ⟨_, rfl, rfl, rfl, rfl, ?_, fun _ => ?_, RM.stale R1.1.told.told ((R1.z.up (by omega)).up (by omega)), ((F1.up (by omega)).up (by omega)).st⟩
      · rw [stM_a (by omega) (by omega), up_a (by omega), up_a (by omega)]; exact T1
      · rw [show A 0 0 + 1 - 1 = A 0 0 by omega]
    · refine x_iconst (pc := 34) dX12_house_34 (by decide) ?_
      refine x_ireturn (pc := 35) dX12_house_35 rfl (by decide) ?_
      have e9 : spHouse A c = (0, -1, A) := by
        unfold spHouse
        (repeat' split) <;> first | rfl | (exfalso; omega)
      rw [e9]
      exact ⟨_, rfl, rfl, rfl, rfl, T1, fun _ => rfl, R1, F1⟩
  · refine x_if_ne (tgt := 23) (pc := 14) dX12_house_14 (by decide) (fun c => absurd c (by decide)) (fun _ => ?_)
    refine x_aload_n (pc := 17) dX12_house_17 rfl rfl ?_
    refine x_iconst (pc := 18) dX12_house_18 (by decide) ?_
    refine x_callV1 (pc := 19) dX12_house_19 rfl kX12_116 (s_fails hfl m _ hS) hS.1 rfl rfl (Nat.le_of_ble_eq_true rfl) (k_G (fun v9 M9 hM9 => ?_)) n_G
    obtain ⟨rfl, rfl⟩ := hM9
    refine x_ireturn (pc := 22) dX12_house_22 rfl (by decide) ?_
    have e9 : spHouse A c = (1, 0, A) := by
      unfold spHouse
      (repeat' split) <;> first | rfl | (exfalso; omega)
    rw [e9]
    exact ⟨_, rfl, rfl, rfl, rfl, up_s, fun q => absurd q (show ¬ (1 : Int) = 0 by decide), R1.up3, F1.up (by omega)⟩
def spWant (A : aM) (h i s : Int) : Int × Int × aM := if ¬ (0 ≤ h ∧ h < A 0 0) ∨ ¬ (0 ≤ i ∧ i ≤ 5) then (1, 0, A) else if ¬ (0 ≤ s ∧ s ≤ 8) then (2, 0, A) else (0, A 0 (8 + 6 * h + i), up A 0 (8 + 6 * h + i) s)
theorem s_Mwant {l : Launch} {E : aE} {N : Nat} {S : aS} {M : aM} (hfl : l.stackTraces = false) (h i s : Int) (m : Int) (A : aM) (hS : lyM S m) (hR : RM M m A) (hA : TOK (A 0)) : aMt l E pX12_want [(2, m), (0, h), (0, i), (0, s)] N S M (aG N S (opM M m 0 (spWant A h i s))) := by
  refine a_met hfl rfl (by decide +kernel) (Nat.le_of_ble_eq_true rfl) ?_
  refine x_aload_n (pc := 0) dX12_want_0 rfl rfl ?_
  refine x_iconst (pc := 1) dX12_want_1 (by decide) ?_
  refine x_putI (jj := 3) (pc := 2) dX12_want_2 fX12_103 hS.1 rfl (by decide) rfl ?_
  refine x_memI (fun M1 hM1 => ?_)
  have R1 : RM M1 m A := by rw [hM1]; exact hR.up3
  have F1 : frM M M1 m := by rw [hM1]; exact frM.rf.up (by omega)
  have T1 : M1 m 3 = 0 := by rw [hM1]; exact up_s
  clear hM1
  have e0 : M1 (m + 1) 0 = A 0 0 := R1.1.1 0 (by omega) (by omega)
  have t0 := hA.1
  refine x_aload_n (pc := 5) dX12_want_5 rfl rfl ?_
  refine x_iload_n (pc := 6) dX12_want_6 rfl rfl ?_
  refine x_callV1 (pc := 7) dX12_want_7 rfl kX12_123 (s_isHouse hfl m h hS (by omega)) hS.1 rfl rfl (Nat.le_of_ble_eq_true rfl) (k_B (fun q_7 => ?_) (fun q_7 => ?_)) n_B
  · refine x_if_eq (tgt := 25) (pc := 10) dX12_want_10 (by decide) (fun c => absurd c (by decide)) (fun _ => ?_)
    refine x_iload_n (pc := 13) dX12_want_13 rfl rfl ?_
    refine x_i2l (pc := 14) dX12_want_14 ?_
    refine x_lconst0 (pc := 15) dX12_want_15 ?_
    refine x_ldc2 (n := 5) (pc := 16) cX12_127 (by decide) dX12_want_16 ?_
    refine x_callS3 (pc := 19) dX12_want_19 rfl kX12_106 (s_within hfl _ _ _) rfl (Nat.le_of_ble_eq_true rfl) (k_B (fun q_19 => ?_) (fun q_19 => ?_)) n_B
    · refine x_if_ne (tgt := 31) (pc := 22) dX12_want_22 (by decide) (fun _ => ?_) (fun c => absurd c (by decide))
      refine x_iload_n (pc := 31) dX12_want_31 rfl rfl ?_
      refine x_i2l (pc := 32) dX12_want_32 ?_
      refine x_lconst0 (pc := 33) dX12_want_33 ?_
      refine x_ldc2 (n := 8) (pc := 34) cX12_114 (by decide) dX12_want_34 ?_
      refine x_callS3 (pc := 37) dX12_want_37 rfl kX12_106 (s_within hfl _ _ _) rfl (Nat.le_of_ble_eq_true rfl) (k_B (fun q_37 => ?_) (fun q_37 => ?_)) n_B
      · refine x_if_eq (tgt := 60) (pc := 40) dX12_want_40 (by decide) (fun c => absurd c (by decide)) (fun _ => ?_)
        refine x_aload_n (pc := 43) dX12_want_43 rfl rfl ?_
        refine x_bipush (pc := 44) dX12_want_44 (by decide) ?_
        refine x_bipush (pc := 46) dX12_want_46 (by decide) ?_
        refine x_iload_n (pc := 48) dX12_want_48 rfl rfl ?_
        refine x_imul (pc := 49) dX12_want_49 (by omega) ?_
        refine x_iadd (pc := 50) dX12_want_50 (by omega) ?_
        refine x_iload_n (pc := 51) dX12_want_51 rfl rfl ?_
        refine x_iadd (pc := 52) dX12_want_52 (by omega) ?_
        refine x_iload_n (pc := 53) dX12_want_53 rfl rfl ?_
        refine x_callV2 (pc := 54) dX12_want_54 rfl kX12_129 (s_becomes hfl m _ _ hS (by omega)) hS.1 rfl rfl (Nat.le_of_ble_eq_true rfl) (k_G (fun v9 M9 hM9 => ?_)) n_G
        obtain ⟨rfl, rfl⟩ := hM9
        rw [R1.1.1 _ (by omega) (by omega)]
        refine x_goto (tgt := 65) (pc := 57) dX12_want_57 (by decide) ?_
        refine x_ireturn (pc := 65) dX12_want_65 rfl (by decide) ?_
        have e9 : spWant A h i s = (0, A 0 (8 + 6 * h + i), up A 0 (8 + 6 * h + i) (s)) := by
          unfold spWant
          (repeat' split) <;> first | rfl | (exfalso; omega)
        rw [e9]
        refine ⟨_, rfl, rfl, rfl, rfl, ?_, fun _ => rfl, RM.stale R1.1.told (R1.z.up (by omega)), (F1.up (by omega)).st⟩
        rw [stM_a (by omega) (by omega), up_a (by omega)]; exact T1
      · refine x_if_eq (tgt := 60) (pc := 40) dX12_want_40 (by decide) (fun _ => ?_) (fun c => absurd c (by decide))
        refine x_aload_n (pc := 60) dX12_want_60 rfl rfl ?_
        refine x_iconst (pc := 61) dX12_want_61 (by decide) ?_
        refine x_callV1 (pc := 62) dX12_want_62 rfl kX12_116 (s_fails hfl m _ hS) hS.1 rfl rfl (Nat.le_of_ble_eq_true rfl) (k_G (fun v9 M9 hM9 => ?_)) n_G
        obtain ⟨rfl, rfl⟩ := hM9
        refine x_ireturn (pc := 65) dX12_want_65 rfl (by decide) ?_
        have e9 : spWant A h i s = (2, 0, A) := by
          unfold spWant
          (repeat' split) <;> first | rfl | (exfalso; omega)
        rw [e9]
        exact ⟨_, rfl, rfl, rfl, rfl, up_s, fun q => absurd q (show ¬ (2 : Int) = 0 by decide), R1.up3, F1.up (by omega)⟩
    · refine x_if_ne (tgt := 31) (pc := 22) dX12_want_22 (by decide) (fun c => absurd c (by decide)) (fun _ => ?_)
      refine x_aload_n (pc := 25) dX12_want_25 rfl rfl ?_
      refine x_iconst (pc := 26) dX12_want_26 (by decide) ?_
      refine x_callV1 (pc := 27) dX12_want_27 rfl kX12_116 (s_fails hfl m _ hS) hS.1 rfl rfl (Nat.le_of_ble_eq_true rfl) (k_G (fun v9 M9 hM9 => ?_)) n_G
      obtain ⟨rfl, rfl⟩ := hM9
      refine x_ireturn (pc := 30) dX12_want_30 rfl (by decide) ?_
      have e9 : spWant A h i s = (1, 0, A) := by
        unfold spWant
        (repeat' split) <;> first | rfl | (exfalso; omega)
      rw [e9]
      exact ⟨_, rfl, rfl, rfl, rfl, up_s, fun q => absurd q (show ¬ (1 : Int) = 0 by decide), R1.up3, F1.up (by omega)⟩
  · refine x_if_eq (tgt := 25) (pc := 10) dX12_want_10 (by decide) (fun _ => ?_) (fun c => absurd c (by decide))
    refine x_aload_n (pc := 25) dX12_want_25 rfl rfl ?_
    refine x_iconst (pc := 26) dX12_want_26 (by decide) ?_
    refine x_callV1 (pc := 27) dX12_want_27 rfl kX12_116 (s_fails hfl m _ hS) hS.1 rfl rfl (Nat.le_of_ble_eq_true rfl) (k_G (fun v9 M9 hM9 => ?_)) n_G
    obtain ⟨rfl, rfl⟩ := hM9
    refine x_ireturn (pc := 30) dX12_want_30 rfl (by decide) ?_
    have e9 : spWant A h i s = (1, 0, A) := by
      unfold spWant
      (repeat' split) <;> first | rfl | (exfalso; omega)
    rw [e9]
    exact ⟨_, rfl, rfl, rfl, rfl, up_s, fun q => absurd q (show ¬ (1 : Int) = 0 by decide), R1.up3, F1.up (by omega)⟩
def spCellar (A : aM) (h s : Int) : Int × Int × aM := if ¬ (0 ≤ h ∧ h < A 0 0) then (1, 0, A) else if ¬ (0 ≤ s ∧ s ≤ 8) then (2, 0, A) else (0, A 0 (1 + h), up A 0 (1 + h) s)
theorem s_Mcellar {l : Launch} {E : aE} {N : Nat} {S : aS} {M : aM} (hfl : l.stackTraces = false) (h s : Int) (m : Int) (A : aM) (hS : lyM S m) (hR : RM M m A) (hA : TOK (A 0)) : aMt l E pX12_cellar [(2, m), (0, h), (0, s)] N S M (aG N S (opM M m 0 (spCellar A h s))) := by
  refine a_met hfl rfl (by decide +kernel) (Nat.le_of_ble_eq_true rfl) ?_
  refine x_aload_n (pc := 0) dX12_cellar_0 rfl rfl ?_
  refine x_iconst (pc := 1) dX12_cellar_1 (by decide) ?_
  refine x_putI (jj := 3) (pc := 2) dX12_cellar_2 fX12_103 hS.1 rfl (by decide) rfl ?_
  refine x_memI (fun M1 hM1 => ?_)
  have R1 : RM M1 m A := by rw [hM1]; exact hR.up3
  have F1 : frM M M1 m := by rw [hM1]; exact frM.rf.up (by omega)
  have T1 : M1 m 3 = 0 := by rw [hM1]; exact up_s
  clear hM1
  have e0 : M1 (m + 1) 0 = A 0 0 := R1.1.1 0 (by omega) (by omega)
  have t0 := hA.1
  refine x_aload_n (pc := 5) dX12_cellar_5 rfl rfl ?_
  refine x_iload_n (pc := 6) dX12_cellar_6 rfl rfl ?_
  refine x_callV1 (pc := 7) dX12_cellar_7 rfl kX12_123 (s_isHouse hfl m h hS (by omega)) hS.1 rfl rfl (Nat.le_of_ble_eq_true rfl) (k_B (fun q_7 => ?_) (fun q_7 => ?_)) n_B
  · refine x_if_ne (tgt := 19) (pc := 10) dX12_cellar_10 (by decide) (fun _ => ?_) (fun c => absurd c (by decide))
    refine x_iload_n (pc := 19) dX12_cellar_19 rfl rfl ?_
    refine x_i2l (pc := 20) dX12_cellar_20 ?_
    refine x_lconst0 (pc := 21) dX12_cellar_21 ?_
    refine x_ldc2 (n := 8) (pc := 22) cX12_114 (by decide) dX12_cellar_22 ?_
    refine x_callS3 (pc := 25) dX12_cellar_25 rfl kX12_106 (s_within hfl _ _ _) rfl (Nat.le_of_ble_eq_true rfl) (k_B (fun q_25 => ?_) (fun q_25 => ?_)) n_B
    · refine x_if_eq (tgt := 42) (pc := 28) dX12_cellar_28 (by decide) (fun c => absurd c (by decide)) (fun _ => ?_)
      refine x_aload_n (pc := 31) dX12_cellar_31 rfl rfl ?_
      refine x_iconst (pc := 32) dX12_cellar_32 (by decide) ?_
      refine x_iload_n (pc := 33) dX12_cellar_33 rfl rfl ?_
      refine x_iadd (pc := 34) dX12_cellar_34 (by omega) ?_
      refine x_iload_n (pc := 35) dX12_cellar_35 rfl rfl ?_
      refine x_callV2 (pc := 36) dX12_cellar_36 rfl kX12_129 (s_becomes hfl m _ _ hS (by omega)) hS.1 rfl rfl (Nat.le_of_ble_eq_true rfl) (k_G (fun v9 M9 hM9 => ?_)) n_G
      obtain ⟨rfl, rfl⟩ := hM9
      rw [R1.1.1 _ (by omega) (by omega)]
      refine x_goto (tgt := 47) (pc := 39) dX12_cellar_39 (by decide) ?_
      refine x_ireturn (pc := 47) dX12_cellar_47 rfl (by decide) ?_
      have e9 : spCellar A h s = (0, A 0 (1 + h), up A 0 (1 + h) (s)) := by
        unfold spCellar
        (repeat' split) <;> first | rfl | (exfalso; omega)
      rw [e9]
      refine ⟨_, rfl, rfl, rfl, rfl, ?_, fun _ => rfl, RM.stale R1.1.told (R1.z.up (by omega)), (F1.up (by omega)).st⟩
      rw [stM_a (by omega) (by omega), up_a (by omega)]; exact T1
    · refine x_if_eq (tgt := 42) (pc := 28) dX12_cellar_28 (by decide) (fun _ => ?_) (fun c => absurd c (by decide))
      refine x_aload_n (pc := 42) dX12_cellar_42 rfl rfl ?_
      refine x_iconst (pc := 43) dX12_cellar_43 (by decide) ?_
      refine x_callV1 (pc := 44) dX12_cellar_44 rfl kX12_116 (s_fails hfl m _ hS) hS.1 rfl rfl (Nat.le_of_ble_eq_true rfl) (k_G (fun v9 M9 hM9 => ?_)) n_G
      obtain ⟨rfl, rfl⟩ := hM9
      refine x_ireturn (pc := 47) dX12_cellar_47 rfl (by decide) ?_
      have e9 : spCellar A h s = (2, 0, A) := by
        unfold spCellar
        (repeat' split) <;> first | rfl | (exfalso; omega)
      rw [e9]
      exact ⟨_, rfl, rfl, rfl, rfl, up_s, fun q => absurd q (show ¬ (2 : Int) = 0 by decide), R1.up3, F1.up (by omega)⟩
  · refine x_if_ne (tgt := 19) (pc := 10) dX12_cellar_10 (by decide) (fun c => absurd c (by decide)) (fun _ => ?_)
    refine x_aload_n (pc := 13) dX12_cellar_13 rfl rfl ?_
    refine x_iconst (pc := 14) dX12_cellar_14 (by decide) ?_
    refine x_callV1 (pc := 15) dX12_cellar_15 rfl kX12_116 (s_fails hfl m _ hS) hS.1 rfl rfl (Nat.le_of_ble_eq_true rfl) (k_G (fun v9 M9 hM9 => ?_)) n_G
    obtain ⟨rfl, rfl⟩ := hM9
    refine x_ireturn (pc := 18) dX12_cellar_18 rfl (by decide) ?_
    have e9 : spCellar A h s = (1, 0, A) := by
      unfold spCellar
      (repeat' split) <;> first | rfl | (exfalso; omega)
    rw [e9]
    exact ⟨_, rfl, rfl, rfl, rfl, up_s, fun q => absurd q (show ¬ (1 : Int) = 0 by decide), R1.up3, F1.up (by omega)⟩
def spBar (A : aM) (a b : Int) : Int × Int × aM := if ¬ (0 ≤ a ∧ a < A 0 0) ∨ ¬ (0 ≤ b ∧ b < A 0 0) then (1, 0, A) else if a = b then (2, 0, A) else (0, if A 0 (50 + 7 * a + b) = 0 then 1 else 0, up (up A 0 (50 + 7 * a + b) 1) 0 (50 + 7 * b + a) 1)
theorem stM_up {M : aM} {m a i v : Int} (h1 : a ≠ m ∨ i ≠ 19) (h2 : a ≠ m + 15) : up (stM M m) a i v = stM (up M a i v) m := by
  funext b j
  unfold up stM
  dsimp only
  by_cases e : b = a ∧ j = i
  · rw [if_pos e, if_neg (by omega), if_neg (by omega), if_pos e]
  · rw [if_neg e]
    split
    · rfl
    · split <;> rfl
theorem s_Mbar {l : Launch} {E : aE} {N : Nat} {S : aS} {M : aM} (hfl : l.stackTraces = false) (a b : Int) (m : Int) (A : aM) (hS : lyM S m) (hR : RM M m A) (hA : TOK (A 0)) : aMt l E pX12_bar [(2, m), (0, a), (0, b)] N S M (aG N S (opM M m 0 (spBar A a b))) := by
  refine a_met hfl rfl (by decide +kernel) (Nat.le_of_ble_eq_true rfl) ?_
  refine x_aload_n (pc := 0) dX12_bar_0 rfl rfl ?_
  refine x_iconst (pc := 1) dX12_bar_1 (by decide) ?_
  refine x_putI (jj := 3) (pc := 2) dX12_bar_2 fX12_103 hS.1 rfl (by decide) rfl ?_
  refine x_memI (fun M1 hM1 => ?_)
  have R1 : RM M1 m A := by rw [hM1]; exact hR.up3
  have F1 : frM M M1 m := by rw [hM1]; exact frM.rf.up (by omega)
  have T1 : M1 m 3 = 0 := by rw [hM1]; exact up_s
  clear hM1
  have e0 : M1 (m + 1) 0 = A 0 0 := R1.1.1 0 (by omega) (by omega)
  have t0 := hA.1
  refine x_aload_n (pc := 5) dX12_bar_5 rfl rfl ?_
  refine x_iload_n (pc := 6) dX12_bar_6 rfl rfl ?_
  refine x_callV1 (pc := 7) dX12_bar_7 rfl kX12_123 (s_isHouse hfl m a hS (by omega)) hS.1 rfl rfl (Nat.le_of_ble_eq_true rfl) (k_B (fun q_7 => ?_) (fun q_7 => ?_)) n_B
  · refine x_if_eq (tgt := 21) (pc := 10) dX12_bar_10 (by decide) (fun c => absurd c (by decide)) (fun _ => ?_)
    refine x_aload_n (pc := 13) dX12_bar_13 rfl rfl ?_
    refine x_iload_n (pc := 14) dX12_bar_14 rfl rfl ?_
    refine x_callV1 (pc := 15) dX12_bar_15 rfl kX12_123 (s_isHouse hfl m b hS (by omega)) hS.1 rfl rfl (Nat.le_of_ble_eq_true rfl) (k_B (fun q_15 => ?_) (fun q_15 => ?_)) n_B
    · refine x_if_ne (tgt := 27) (pc := 18) dX12_bar_18 (by decide) (fun _ => ?_) (fun c => absurd c (by decide))
      refine x_iload_n (pc := 27) dX12_bar_27 rfl rfl ?_
      refine x_iload_n (pc := 28) dX12_bar_28 rfl rfl ?_
      refine x_icmp_ne (tgt := 38) (pc := 29) dX12_bar_29 (by decide) (fun c_29 => ?_) (fun c_29 => ?_)
      · refine x_aload_n (pc := 38) dX12_bar_38 rfl rfl ?_
        refine x_bipush (pc := 39) dX12_bar_39 (by decide) ?_
        refine x_bipush (pc := 41) dX12_bar_41 (by decide) ?_
        refine x_iload_n (pc := 43) dX12_bar_43 rfl rfl ?_
        refine x_imul (pc := 44) dX12_bar_44 (by omega) ?_
        refine x_iadd (pc := 45) dX12_bar_45 (by omega) ?_
        refine x_iload_n (pc := 46) dX12_bar_46 rfl rfl ?_
        refine x_iadd (pc := 47) dX12_bar_47 (by omega) ?_
        refine x_iconst (pc := 48) dX12_bar_48 (by decide) ?_
        refine x_callV2 (pc := 49) dX12_bar_49 rfl kX12_129 (s_becomes hfl m _ _ hS (by omega)) hS.1 rfl rfl (Nat.le_of_ble_eq_true rfl) (k_G (fun v9 M9 hM9 => ?_)) n_G
        obtain ⟨rfl, rfl⟩ := hM9
        rw [R1.1.1 _ (by omega) (by omega)]
        refine x_istore_n (pc := 52) dX12_bar_52 rfl (by decide) rfl ?_
        refine x_aload_n (pc := 53) dX12_bar_53 rfl rfl ?_
        refine x_getR (jj := 0) (pc := 54) dX12_bar_54 fX12_9 hS.1 rfl (by decide) rfl rM_0 ?_
        refine x_bipush (pc := 57) dX12_bar_57 (by decide) ?_
        refine x_bipush (pc := 59) dX12_bar_59 (by decide) ?_
        refine x_iload_n (pc := 61) dX12_bar_61 rfl rfl ?_
        refine x_imul (pc := 62) dX12_bar_62 (by omega) ?_
        refine x_iadd (pc := 63) dX12_bar_63 (by omega) ?_
        refine x_iload_n (pc := 64) dX12_bar_64 rfl rfl ?_
        refine x_iadd (pc := 65) dX12_bar_65 (by omega) ?_
        refine x_iconst (pc := 66) dX12_bar_66 (by decide) ?_
        refine x_iastore (pc := 67) dX12_bar_67 (sM_0 hS) (by omega) ?_
        refine x_iload_n (pc := 68) dX12_bar_68 rfl rfl ?_
        refine x_if_ne (tgt := 76) (pc := 69) dX12_bar_69 (by decide) (fun c_69 => ?_) (fun c_69 => ?_)
        · refine x_iconst (pc := 76) dX12_bar_76 (by decide) ?_
          refine x_zreturn (pc := 77) dX12_bar_77 rfl (by omega) (by decide) ?_
          have e9 : spBar A a b = (0, 0, up (up A 0 (50 + 7 * a + b) 1) 0 (50 + 7 * b + a) 1) := by
            unfold spBar
            rw [if_neg (by omega), if_neg (by omega)]
            rw [if_neg (by assumption)]
          rw [e9]
          refine ⟨_, rfl, rfl, rfl, rfl, ?_, fun _ => rfl, ?_, (((F1.up (by omega)).st).up (by omega))⟩
          · rw [up_a (by omega), stM_a (by omega) (by omega), up_a (by omega)]; exact T1
          · rw [stM_up (by omega) (by omega)]
            exact RM.stale R1.1.told.told ((R1.z.up (by omega)).up (by omega))
        · refine x_iconst (pc := 72) dX12_bar_72 (by decide) ?_
          refine x_goto (tgt := 77) (pc := 73) dX12_bar_73 (by decide) ?_
          refine x_zreturn (pc := 77) dX12_bar_77 rfl (by omega) (by decide) ?_
          have e9 : spBar A a b = (0, 1, up (up A 0 (50 + 7 * a + b) 1) 0 (50 + 7 * b + a) 1) := by
            unfold spBar
            rw [if_neg (by omega), if_neg (by omega)]
            rw [if_pos (by assumption)]
          rw [e9]
          refine ⟨_, rfl, rfl, rfl, rfl, ?_, fun _ => rfl, ?_, (((F1.up (by omega)).st).up (by omega))⟩
          · rw [up_a (by omega), stM_a (by omega) (by omega), up_a (by omega)]; exact T1
          · rw [stM_up (by omega) (by omega)]
            exact RM.stale R1.1.told.told ((R1.z.up (by omega)).up (by omega))
      · refine x_aload_n (pc := 32) dX12_bar_32 rfl rfl ?_
        refine x_iconst (pc := 33) dX12_bar_33 (by decide) ?_
        refine x_callV1 (pc := 34) dX12_bar_34 rfl kX12_133 (s_fell hfl m _ hS) hS.1 rfl rfl (Nat.le_of_ble_eq_true rfl) (k_G (fun v9 M9 hM9 => ?_)) n_G
        obtain ⟨rfl, rfl⟩ := hM9
        refine x_zreturn (pc := 37) dX12_bar_37 rfl (by omega) (by decide) ?_
        have e9 : spBar A a b = (2, 0, A) := by
          unfold spBar
          (repeat' split) <;> first | rfl | (exfalso; omega)
        rw [e9]
        exact ⟨_, rfl, rfl, rfl, rfl, up_s, fun q => absurd q (show ¬ (2 : Int) = 0 by decide), R1.up3, F1.up (by omega)⟩
    · refine x_if_ne (tgt := 27) (pc := 18) dX12_bar_18 (by decide) (fun c => absurd c (by decide)) (fun _ => ?_)
      refine x_aload_n (pc := 21) dX12_bar_21 rfl rfl ?_
      refine x_iconst (pc := 22) dX12_bar_22 (by decide) ?_
      refine x_callV1 (pc := 23) dX12_bar_23 rfl kX12_133 (s_fell hfl m _ hS) hS.1 rfl rfl (Nat.le_of_ble_eq_true rfl) (k_G (fun v9 M9 hM9 => ?_)) n_G
      obtain ⟨rfl, rfl⟩ := hM9
      refine x_zreturn (pc := 26) dX12_bar_26 rfl (by omega) (by decide) ?_
      have e9 : spBar A a b = (1, 0, A) := by
        unfold spBar
        (repeat' split) <;> first | rfl | (exfalso; omega)
      rw [e9]
      exact ⟨_, rfl, rfl, rfl, rfl, up_s, fun q => absurd q (show ¬ (1 : Int) = 0 by decide), R1.up3, F1.up (by omega)⟩
  · refine x_if_eq (tgt := 21) (pc := 10) dX12_bar_10 (by decide) (fun _ => ?_) (fun c => absurd c (by decide))
    refine x_aload_n (pc := 21) dX12_bar_21 rfl rfl ?_
    refine x_iconst (pc := 22) dX12_bar_22 (by decide) ?_
    refine x_callV1 (pc := 23) dX12_bar_23 rfl kX12_133 (s_fell hfl m _ hS) hS.1 rfl rfl (Nat.le_of_ble_eq_true rfl) (k_G (fun v9 M9 hM9 => ?_)) n_G
    obtain ⟨rfl, rfl⟩ := hM9
    refine x_zreturn (pc := 26) dX12_bar_26 rfl (by omega) (by decide) ?_
    have e9 : spBar A a b = (1, 0, A) := by
      unfold spBar
      (repeat' split) <;> first | rfl | (exfalso; omega)
    rw [e9]
    exact ⟨_, rfl, rfl, rfl, rfl, up_s, fun q => absurd q (show ¬ (1 : Int) = 0 by decide), R1.up3, F1.up (by omega)⟩
def spTrust (A : aM) (a b x : Int) : Int × Int × aM := if ¬ (0 ≤ a ∧ a < A 0 0) ∨ ¬ (0 ≤ b ∧ b < A 0 0) then (1, 0, A) else if a = b then (2, 0, A) else (0, if A 0 (99 + 7 * a + b) = 1 then 1 else 0, up A 0 (99 + 7 * a + b) (if x = 0 then 0 else 1))
theorem s_Mtrust {l : Launch} {E : aE} {N : Nat} {S : aS} {M : aM} (hfl : l.stackTraces = false) (a b x : Int) (m : Int) (A : aM) (hS : lyM S m) (hR : RM M m A) (hA : TOK (A 0)) : aMt l E pX12_trust [(2, m), (0, a), (0, b), (0, x)] N S M (aG N S (opM M m 0 (spTrust A a b x))) := by
  refine a_met hfl rfl (by decide +kernel) (Nat.le_of_ble_eq_true rfl) ?_
  refine x_aload_n (pc := 0) dX12_trust_0 rfl rfl ?_
  refine x_iconst (pc := 1) dX12_trust_1 (by decide) ?_
  refine x_putI (jj := 3) (pc := 2) dX12_trust_2 fX12_103 hS.1 rfl (by decide) rfl ?_
  refine x_memI (fun M1 hM1 => ?_)
  have R1 : RM M1 m A := by rw [hM1]; exact hR.up3
  have F1 : frM M M1 m := by rw [hM1]; exact frM.rf.up (by omega)
  have T1 : M1 m 3 = 0 := by rw [hM1]; exact up_s
  clear hM1
  have e0 : M1 (m + 1) 0 = A 0 0 := R1.1.1 0 (by omega) (by omega)
  have t0 := hA.1
  refine x_aload_n (pc := 5) dX12_trust_5 rfl rfl ?_
  refine x_iload_n (pc := 6) dX12_trust_6 rfl rfl ?_
  refine x_callV1 (pc := 7) dX12_trust_7 rfl kX12_123 (s_isHouse hfl m a hS (by omega)) hS.1 rfl rfl (Nat.le_of_ble_eq_true rfl) (k_B (fun q_7 => ?_) (fun q_7 => ?_)) n_B
  · refine x_if_eq (tgt := 21) (pc := 10) dX12_trust_10 (by decide) (fun c => absurd c (by decide)) (fun _ => ?_)
    refine x_aload_n (pc := 13) dX12_trust_13 rfl rfl ?_
    refine x_iload_n (pc := 14) dX12_trust_14 rfl rfl ?_
    refine x_callV1 (pc := 15) dX12_trust_15 rfl kX12_123 (s_isHouse hfl m b hS (by omega)) hS.1 rfl rfl (Nat.le_of_ble_eq_true rfl) (k_B (fun q_15 => ?_) (fun q_15 => ?_)) n_B
    · refine x_if_ne (tgt := 27) (pc := 18) dX12_trust_18 (by decide) (fun _ => ?_) (fun c => absurd c (by decide))
      refine x_iload_n (pc := 27) dX12_trust_27 rfl rfl ?_
      refine x_iload_n (pc := 28) dX12_trust_28 rfl rfl ?_
      refine x_icmp_ne (tgt := 38) (pc := 29) dX12_trust_29 (by decide) (fun c_29 => ?_) (fun c_29 => ?_)
      · refine x_aload_n (pc := 38) dX12_trust_38 rfl rfl ?_
        refine x_bipush (pc := 39) dX12_trust_39 (by decide) ?_
        refine x_bipush (pc := 41) dX12_trust_41 (by decide) ?_
        refine x_iload_n (pc := 43) dX12_trust_43 rfl rfl ?_
        refine x_imul (pc := 44) dX12_trust_44 (by omega) ?_
        refine x_iadd (pc := 45) dX12_trust_45 (by omega) ?_
        refine x_iload_n (pc := 46) dX12_trust_46 rfl rfl ?_
        refine x_iadd (pc := 47) dX12_trust_47 (by omega) ?_
        refine x_iload_n (pc := 48) dX12_trust_48 rfl rfl ?_
        refine x_if_eq (tgt := 56) (pc := 49) dX12_trust_49 (by decide) (fun c_49 => ?_) (fun c_49 => ?_)
        · refine x_iconst (pc := 56) dX12_trust_56 (by decide) ?_
          refine x_callV2 (pc := 57) dX12_trust_57 rfl kX12_129 (s_becomes hfl m _ _ hS (by omega)) hS.1 rfl rfl (Nat.le_of_ble_eq_true rfl) (k_G (fun v9 M9 hM9 => ?_)) n_G
          obtain ⟨rfl, rfl⟩ := hM9
          rw [R1.1.1 _ (by omega) (by omega)]
          refine x_iconst (pc := 60) dX12_trust_60 (by decide) ?_
          refine x_icmp_ne (tgt := 68) (pc := 61) dX12_trust_61 (by decide) (fun c_61 => ?_) (fun c_61 => ?_)
          · refine x_iconst (pc := 68) dX12_trust_68 (by decide) ?_
            refine x_zreturn (pc := 69) dX12_trust_69 rfl (by omega) (by decide) ?_
            have e9 : spTrust A a b x = (0, 0, up A 0 (99 + 7 * a + b) 0) := by
              unfold spTrust
              rw [if_neg (by omega), if_neg (by omega), if_neg (by assumption), if_pos (by assumption)]
            rw [e9]
            refine ⟨_, rfl, rfl, rfl, rfl, ?_, fun _ => rfl, RM.stale R1.1.told (R1.z.up (by omega)), (F1.up (by omega)).st⟩
            rw [stM_a (by omega) (by omega), up_a (by omega)]; exact T1
          · refine x_iconst (pc := 64) dX12_trust_64 (by decide) ?_
            refine x_goto (tgt := 69) (pc := 65) dX12_trust_65 (by decide) ?_
            refine x_zreturn (pc := 69) dX12_trust_69 rfl (by omega) (by decide) ?_
            have e9 : spTrust A a b x = (0, 1, up A 0 (99 + 7 * a + b) 0) := by
              unfold spTrust
              rw [if_neg (by omega), if_neg (by omega), if_pos (by assumption), if_pos (by assumption)]
            rw [e9]
            refine ⟨_, rfl, rfl, rfl, rfl, ?_, fun _ => rfl, RM.stale R1.1.told (R1.z.up (by omega)), (F1.up (by omega)).st⟩
            rw [stM_a (by omega) (by omega), up_a (by omega)]; exact T1
        · refine x_iconst (pc := 52) dX12_trust_52 (by decide) ?_
          refine x_goto (tgt := 57) (pc := 53) dX12_trust_53 (by decide) ?_
          refine x_callV2 (pc := 57) dX12_trust_57 rfl kX12_129 (s_becomes hfl m _ _ hS (by omega)) hS.1 rfl rfl (Nat.le_of_ble_eq_true rfl) (k_G (fun v9 M9 hM9 => ?_)) n_G
          obtain ⟨rfl, rfl⟩ := hM9
          rw [R1.1.1 _ (by omega) (by omega)]
          refine x_iconst (pc := 60) dX12_trust_60 (by decide) ?_
          refine x_icmp_ne (tgt := 68) (pc := 61) dX12_trust_61 (by decide) (fun c_61 => ?_) (fun c_61 => ?_)
          · refine x_iconst (pc := 68) dX12_trust_68 (by decide) ?_
            refine x_zreturn (pc := 69) dX12_trust_69 rfl (by omega) (by decide) ?_
            have e9 : spTrust A a b x = (0, 0, up A 0 (99 + 7 * a + b) 1) := by
              unfold spTrust
              rw [if_neg (by omega), if_neg (by omega), if_neg (by assumption), if_neg (by assumption)]
            rw [e9]
            refine ⟨_, rfl, rfl, rfl, rfl, ?_, fun _ => rfl, RM.stale R1.1.told (R1.z.up (by omega)), (F1.up (by omega)).st⟩
            rw [stM_a (by omega) (by omega), up_a (by omega)]; exact T1
          · refine x_iconst (pc := 64) dX12_trust_64 (by decide) ?_
            refine x_goto (tgt := 69) (pc := 65) dX12_trust_65 (by decide) ?_
            refine x_zreturn (pc := 69) dX12_trust_69 rfl (by omega) (by decide) ?_
            have e9 : spTrust A a b x = (0, 1, up A 0 (99 + 7 * a + b) 1) := by
              unfold spTrust
              rw [if_neg (by omega), if_neg (by omega), if_pos (by assumption), if_neg (by assumption)]
            rw [e9]
            refine ⟨_, rfl, rfl, rfl, rfl, ?_, fun _ => rfl, RM.stale R1.1.told (R1.z.up (by omega)), (F1.up (by omega)).st⟩
            rw [stM_a (by omega) (by omega), up_a (by omega)]; exact T1
      · refine x_aload_n (pc := 32) dX12_trust_32 rfl rfl ?_
        refine x_iconst (pc := 33) dX12_trust_33 (by decide) ?_
        refine x_callV1 (pc := 34) dX12_trust_34 rfl kX12_133 (s_fell hfl m _ hS) hS.1 rfl rfl (Nat.le_of_ble_eq_true rfl) (k_G (fun v9 M9 hM9 => ?_)) n_G
        obtain ⟨rfl, rfl⟩ := hM9
        refine x_zreturn (pc := 37) dX12_trust_37 rfl (by omega) (by decide) ?_
        have e9 : spTrust A a b x = (2, 0, A) := by
          unfold spTrust
          (repeat' split) <;> first | rfl | (exfalso; omega)
        rw [e9]
        exact ⟨_, rfl, rfl, rfl, rfl, up_s, fun q => absurd q (show ¬ (2 : Int) = 0 by decide), R1.up3, F1.up (by omega)⟩
    · refine x_if_ne (tgt := 27) (pc := 18) dX12_trust_18 (by decide) (fun c => absurd c (by decide)) (fun _ => ?_)
      refine x_aload_n (pc := 21) dX12_trust_21 rfl rfl ?_
      refine x_iconst (pc := 22) dX12_trust_22 (by decide) ?_
      refine x_callV1 (pc := 23) dX12_trust_23 rfl kX12_133 (s_fell hfl m _ hS) hS.1 rfl rfl (Nat.le_of_ble_eq_true rfl) (k_G (fun v9 M9 hM9 => ?_)) n_G
      obtain ⟨rfl, rfl⟩ := hM9
      refine x_zreturn (pc := 26) dX12_trust_26 rfl (by omega) (by decide) ?_
      have e9 : spTrust A a b x = (1, 0, A) := by
        unfold spTrust
        (repeat' split) <;> first | rfl | (exfalso; omega)
      rw [e9]
      exact ⟨_, rfl, rfl, rfl, rfl, up_s, fun q => absurd q (show ¬ (1 : Int) = 0 by decide), R1.up3, F1.up (by omega)⟩
  · refine x_if_eq (tgt := 21) (pc := 10) dX12_trust_10 (by decide) (fun _ => ?_) (fun c => absurd c (by decide))
    refine x_aload_n (pc := 21) dX12_trust_21 rfl rfl ?_
    refine x_iconst (pc := 22) dX12_trust_22 (by decide) ?_
    refine x_callV1 (pc := 23) dX12_trust_23 rfl kX12_133 (s_fell hfl m _ hS) hS.1 rfl rfl (Nat.le_of_ble_eq_true rfl) (k_G (fun v9 M9 hM9 => ?_)) n_G
    obtain ⟨rfl, rfl⟩ := hM9
    refine x_zreturn (pc := 26) dX12_trust_26 rfl (by omega) (by decide) ?_
    have e9 : spTrust A a b x = (1, 0, A) := by
      unfold spTrust
      (repeat' split) <;> first | rfl | (exfalso; omega)
    rw [e9]
    exact ⟨_, rfl, rfl, rfl, rfl, up_s, fun q => absurd q (show ¬ (1 : Int) = 0 by decide), R1.up3, F1.up (by omega)⟩
def spPay (A : aM) (h v : Int) : Int × Int × aM := if ¬ (0 ≤ h ∧ h < A 0 0) then (1, 0, A) else if ¬ (0 ≤ v ∧ v ≤ 100000) then (2, 0, A) else (0, A 0 (148 + h), up A 0 (148 + h) v)
theorem s_Mpay {l : Launch} {E : aE} {N : Nat} {S : aS} {M : aM} (hfl : l.stackTraces = false) (h v : Int) (m : Int) (A : aM) (hS : lyM S m) (hR : RM M m A) (hA : TOK (A 0)) : aMt l E pX12_pay [(2, m), (0, h), (0, v)] N S M (aG N S (opM M m 0 (spPay A h v))) := by
  refine a_met hfl rfl (by decide +kernel) (Nat.le_of_ble_eq_true rfl) ?_
  refine x_aload_n (pc := 0) dX12_pay_0 rfl rfl ?_
  refine x_iconst (pc := 1) dX12_pay_1 (by decide) ?_
  refine x_putI (jj := 3) (pc := 2) dX12_pay_2 fX12_103 hS.1 rfl (by decide) rfl ?_
  refine x_memI (fun M1 hM1 => ?_)
  have R1 : RM M1 m A := by rw [hM1]; exact hR.up3
  have F1 : frM M M1 m := by rw [hM1]; exact frM.rf.up (by omega)
  have T1 : M1 m 3 = 0 := by rw [hM1]; exact up_s
  clear hM1
  have e0 : M1 (m + 1) 0 = A 0 0 := R1.1.1 0 (by omega) (by omega)
  have t0 := hA.1
  refine x_aload_n (pc := 5) dX12_pay_5 rfl rfl ?_
  refine x_iload_n (pc := 6) dX12_pay_6 rfl rfl ?_
  refine x_callV1 (pc := 7) dX12_pay_7 rfl kX12_123 (s_isHouse hfl m h hS (by omega)) hS.1 rfl rfl (Nat.le_of_ble_eq_true rfl) (k_B (fun q_7 => ?_) (fun q_7 => ?_)) n_B
  · refine x_if_ne (tgt := 19) (pc := 10) dX12_pay_10 (by decide) (fun _ => ?_) (fun c => absurd c (by decide))
    refine x_iload_n (pc := 19) dX12_pay_19 rfl rfl ?_
    refine x_i2l (pc := 20) dX12_pay_20 ?_
    refine x_lconst0 (pc := 21) dX12_pay_21 ?_
    refine x_ldc2 (n := 100000) (pc := 22) cX12_336 (by decide) dX12_pay_22 ?_
    refine x_callS3 (pc := 25) dX12_pay_25 rfl kX12_106 (s_within hfl _ _ _) rfl (Nat.le_of_ble_eq_true rfl) (k_B (fun q_25 => ?_) (fun q_25 => ?_)) n_B
    · refine x_if_ne (tgt := 37) (pc := 28) dX12_pay_28 (by decide) (fun _ => ?_) (fun c => absurd c (by decide))
      refine x_aload_n (pc := 37) dX12_pay_37 rfl rfl ?_
      refine x_getR (jj := 0) (pc := 38) dX12_pay_38 fX12_9 hS.1 rfl (by decide) rfl rM_0 ?_
      refine x_sipush (pc := 41) dX12_pay_41 (by decide) ?_
      refine x_iload_n (pc := 44) dX12_pay_44 rfl rfl ?_
      refine x_iadd (pc := 45) dX12_pay_45 (by omega) ?_
      refine x_ialoadV (pc := 46) dX12_pay_46 (sM_0 hS) (by omega) (by (repeat (first | rewrite [up_s] | rewrite [up_i (by omega)] | rewrite [up_a (by omega)] | rewrite [stM_a (by omega) (by omega)])); first | exact R1.1.1 _ (by omega) (by omega) | rfl) (fun g_46 => ?_)
      refine x_istore_n (pc := 47) dX12_pay_47 rfl (by decide) rfl ?_
      refine x_aload_n (pc := 48) dX12_pay_48 rfl rfl ?_
      refine x_getR (jj := 0) (pc := 49) dX12_pay_49 fX12_9 hS.1 rfl (by decide) rfl rM_0 ?_
      refine x_sipush (pc := 52) dX12_pay_52 (by decide) ?_
      refine x_iload_n (pc := 55) dX12_pay_55 rfl rfl ?_
      refine x_iadd (pc := 56) dX12_pay_56 (by omega) ?_
      refine x_iload_n (pc := 57) dX12_pay_57 rfl rfl ?_
      refine x_iastore (pc := 58) dX12_pay_58 (sM_0 hS) (by omega) ?_
      refine x_iload_n (pc := 59) dX12_pay_59 rfl rfl ?_
      refine x_ireturn (pc := 60) dX12_pay_60 rfl (by decide) ?_
      have e9 : spPay A h v = (0, A 0 (148 + h), up A 0 (148 + h) (v)) := by
        unfold spPay
        (repeat' split) <;> first | rfl | (exfalso; omega)
      rw [e9]
      refine ⟨_, rfl, rfl, rfl, rfl, ?_, fun _ => rfl, R1.free (by omega), F1.up (by omega)⟩
      rw [up_a (by omega)]; exact T1
    · refine x_if_ne (tgt := 37) (pc := 28) dX12_pay_28 (by decide) (fun c => absurd c (by decide)) (fun _ => ?_)
      refine x_aload_n (pc := 31) dX12_pay_31 rfl rfl ?_
      refine x_iconst (pc := 32) dX12_pay_32 (by decide) ?_
      refine x_callV1 (pc := 33) dX12_pay_33 rfl kX12_116 (s_fails hfl m _ hS) hS.1 rfl rfl (Nat.le_of_ble_eq_true rfl) (k_G (fun v9 M9 hM9 => ?_)) n_G
      obtain ⟨rfl, rfl⟩ := hM9
      refine x_ireturn (pc := 36) dX12_pay_36 rfl (by decide) ?_
      have e9 : spPay A h v = (2, 0, A) := by
        unfold spPay
        (repeat' split) <;> first | rfl | (exfalso; omega)
      rw [e9]
      exact ⟨_, rfl, rfl, rfl, rfl, up_s, fun q => absurd q (show ¬ (2 : Int) = 0 by decide), R1.up3, F1.up (by omega)⟩
  · refine x_if_ne (tgt := 19) (pc := 10) dX12_pay_10 (by decide) (fun c => absurd c (by decide)) (fun _ => ?_)
    refine x_aload_n (pc := 13) dX12_pay_13 rfl rfl ?_
    refine x_iconst (pc := 14) dX12_pay_14 (by decide) ?_
    refine x_callV1 (pc := 15) dX12_pay_15 rfl kX12_116 (s_fails hfl m _ hS) hS.1 rfl rfl (Nat.le_of_ble_eq_true rfl) (k_G (fun v9 M9 hM9 => ?_)) n_G
    obtain ⟨rfl, rfl⟩ := hM9
    refine x_ireturn (pc := 18) dX12_pay_18 rfl (by decide) ?_
    have e9 : spPay A h v = (1, 0, A) := by
      unfold spPay
      (repeat' split) <;> first | rfl | (exfalso; omega)
    rw [e9]
    exact ⟨_, rfl, rfl, rfl, rfl, up_s, fun q => absurd q (show ¬ (1 : Int) = 0 by decide), R1.up3, F1.up (by omega)⟩
def spBy (A : aM) (v : Int) : Int × Int × aM := if ¬ (1 ≤ v ∧ v ≤ 1000) then (1, 0, A) else (0, A 0 155, up A 0 155 v)
theorem s_Mby {l : Launch} {E : aE} {N : Nat} {S : aS} {M : aM} (hfl : l.stackTraces = false) (v : Int) (m : Int) (A : aM) (hS : lyM S m) (hR : RM M m A) (hA : TOK (A 0)) : aMt l E pX12_by [(2, m), (0, v)] N S M (aG N S (opM M m 0 (spBy A v))) := by
  refine a_met hfl rfl (by decide +kernel) (Nat.le_of_ble_eq_true rfl) ?_
  refine x_aload_n (pc := 0) dX12_by_0 rfl rfl ?_
  refine x_iconst (pc := 1) dX12_by_1 (by decide) ?_
  refine x_putI (jj := 3) (pc := 2) dX12_by_2 fX12_103 hS.1 rfl (by decide) rfl ?_
  refine x_memI (fun M1 hM1 => ?_)
  have R1 : RM M1 m A := by rw [hM1]; exact hR.up3
  have F1 : frM M M1 m := by rw [hM1]; exact frM.rf.up (by omega)
  have T1 : M1 m 3 = 0 := by rw [hM1]; exact up_s
  clear hM1
  have e0 : M1 (m + 1) 0 = A 0 0 := R1.1.1 0 (by omega) (by omega)
  have t0 := hA.1
  refine x_iload_n (pc := 5) dX12_by_5 rfl rfl ?_
  refine x_i2l (pc := 6) dX12_by_6 ?_
  refine x_lconst1 (pc := 7) dX12_by_7 ?_
  refine x_ldc2 (n := 1000) (pc := 8) cX12_346 (by decide) dX12_by_8 ?_
  refine x_callS3 (pc := 11) dX12_by_11 rfl kX12_106 (s_within hfl _ _ _) rfl (Nat.le_of_ble_eq_true rfl) (k_B (fun q_11 => ?_) (fun q_11 => ?_)) n_B
  · refine x_if_ne (tgt := 23) (pc := 14) dX12_by_14 (by decide) (fun _ => ?_) (fun c => absurd c (by decide))
    refine x_aload_n (pc := 23) dX12_by_23 rfl rfl ?_
    refine x_getR (jj := 0) (pc := 24) dX12_by_24 fX12_9 hS.1 rfl (by decide) rfl rM_0 ?_
    refine x_sipush (pc := 27) dX12_by_27 (by decide) ?_
    refine x_ialoadV (pc := 30) dX12_by_30 (sM_0 hS) (by omega) (by (repeat (first | rewrite [up_s] | rewrite [up_i (by omega)] | rewrite [up_a (by omega)] | rewrite [stM_a (by omega) (by omega)])); first | exact R1.1.1 _ (by omega) (by omega) | rfl) (fun g_30 => ?_)
    refine x_istore_n (pc := 31) dX12_by_31 rfl (by decide) rfl ?_
    refine x_aload_n (pc := 32) dX12_by_32 rfl rfl ?_
    refine x_getR (jj := 0) (pc := 33) dX12_by_33 fX12_9 hS.1 rfl (by decide) rfl rM_0 ?_
    refine x_sipush (pc := 36) dX12_by_36 (by decide) ?_
    refine x_iload_n (pc := 39) dX12_by_39 rfl rfl ?_
    refine x_iastore (pc := 40) dX12_by_40 (sM_0 hS) (by omega) ?_
    refine x_iload_n (pc := 41) dX12_by_41 rfl rfl ?_
    refine x_ireturn (pc := 42) dX12_by_42 rfl (by decide) ?_
    have e9 : spBy A v = (0, A 0 (155), up A 0 (155) (v)) := by
      unfold spBy
      (repeat' split) <;> first | rfl | (exfalso; omega)
    rw [e9]
    refine ⟨_, rfl, rfl, rfl, rfl, ?_, fun _ => rfl, R1.free (by omega), F1.up (by omega)⟩
    rw [up_a (by omega)]; exact T1
  · refine x_if_ne (tgt := 23) (pc := 14) dX12_by_14 (by decide) (fun c => absurd c (by decide)) (fun _ => ?_)
    refine x_aload_n (pc := 17) dX12_by_17 rfl rfl ?_
    refine x_iconst (pc := 18) dX12_by_18 (by decide) ?_
    refine x_callV1 (pc := 19) dX12_by_19 rfl kX12_116 (s_fails hfl m _ hS) hS.1 rfl rfl (Nat.le_of_ble_eq_true rfl) (k_G (fun v9 M9 hM9 => ?_)) n_G
    obtain ⟨rfl, rfl⟩ := hM9
    refine x_ireturn (pc := 22) dX12_by_22 rfl (by decide) ?_
    have e9 : spBy A v = (1, 0, A) := by
      unfold spBy
      (repeat' split) <;> first | rfl | (exfalso; omega)
    rw [e9]
    exact ⟨_, rfl, rfl, rfl, rfl, up_s, fun q => absurd q (show ¬ (1 : Int) = 0 by decide), R1.up3, F1.up (by omega)⟩
def spUpper (A : aM) : Int × Int × aM := (0, A 2 3, A)
def spLower (A : aM) : Int × Int × aM := (0, A 2 4, A)
theorem s_Mupper {l : Launch} {E : aE} {N : Nat} {S : aS} {M : aM} (hfl : l.stackTraces = false)  (m : Int) (A : aM) (hS : lyM S m) (hR : RM M m A) (hA : TOK (A 0)) : aMt l E pX12_upper [(2, m)] N S M (aG N S (opM M m 1 (spUpper A))) := by
  refine a_met hfl rfl (by decide +kernel) (Nat.le_of_ble_eq_true rfl) ?_
  refine x_aload_n (pc := 0) dX12_upper_0 rfl rfl ?_
  refine x_iconst (pc := 1) dX12_upper_1 (by decide) ?_
  refine x_putI (jj := 3) (pc := 2) dX12_upper_2 fX12_103 hS.1 rfl (by decide) rfl ?_
  refine x_memI (fun M1 hM1 => ?_)
  have R1 : RM M1 m A := by rw [hM1]; exact hR.up3
  have F1 : frM M M1 m := by rw [hM1]; exact frM.rf.up (by omega)
  have T1 : M1 m 3 = 0 := by rw [hM1]; exact up_s
  clear hM1
  have e0 : M1 (m + 1) 0 = A 0 0 := R1.1.1 0 (by omega) (by omega)
  have t0 := hA.1
  refine x_aload_n (pc := 5) dX12_upper_5 rfl rfl ?_
  refine x_getJV (jj := 34) (pc := 6) dX12_upper_6 fX12_339 hS.1 rfl (by decide) rfl (by (repeat (first | rewrite [up_s] | rewrite [up_i (by omega)] | rewrite [up_a (by omega)] | rewrite [stM_a (by omega) (by omega)])); first | exact R1.1.1 _ (by omega) (by omega) | rfl) ?_
  refine x_lreturn (pc := 9) dX12_upper_9 rfl (by decide) ?_
  exact ⟨_, rfl, rfl, rfl, rfl, T1, fun _ => by rw [R1.1.2.2.2.1.2.2.1]; rfl, R1, F1⟩
theorem s_Mlower {l : Launch} {E : aE} {N : Nat} {S : aS} {M : aM} (hfl : l.stackTraces = false)  (m : Int) (A : aM) (hS : lyM S m) (hR : RM M m A) (hA : TOK (A 0)) : aMt l E pX12_lower [(2, m)] N S M (aG N S (opM M m 1 (spLower A))) := by
  refine a_met hfl rfl (by decide +kernel) (Nat.le_of_ble_eq_true rfl) ?_
  refine x_aload_n (pc := 0) dX12_lower_0 rfl rfl ?_
  refine x_iconst (pc := 1) dX12_lower_1 (by decide) ?_
  refine x_putI (jj := 3) (pc := 2) dX12_lower_2 fX12_103 hS.1 rfl (by decide) rfl ?_
  refine x_memI (fun M1 hM1 => ?_)
  have R1 : RM M1 m A := by rw [hM1]; exact hR.up3
  have F1 : frM M M1 m := by rw [hM1]; exact frM.rf.up (by omega)
  have T1 : M1 m 3 = 0 := by rw [hM1]; exact up_s
  clear hM1
  have e0 : M1 (m + 1) 0 = A 0 0 := R1.1.1 0 (by omega) (by omega)
  have t0 := hA.1
  refine x_aload_n (pc := 5) dX12_lower_5 rfl rfl ?_
  refine x_getJV (jj := 35) (pc := 6) dX12_lower_6 fX12_343 hS.1 rfl (by decide) rfl (by (repeat (first | rewrite [up_s] | rewrite [up_i (by omega)] | rewrite [up_a (by omega)] | rewrite [stM_a (by omega) (by omega)])); first | exact R1.1.1 _ (by omega) (by omega) | rfl) ?_
  refine x_lreturn (pc := 9) dX12_lower_9 rfl (by decide) ?_
  exact ⟨_, rfl, rfl, rfl, rfl, T1, fun _ => by rw [R1.1.2.2.2.1.2.2.2]; rfl, R1, F1⟩
def spFault (A : aM) (w : Int) : Int × Int × aM := (0, if w = 0 then A 2 1 else if w = 1 then A 2 2 else -1, A)
theorem s_Mfault {l : Launch} {E : aE} {N : Nat} {S : aS} {M : aM} (hfl : l.stackTraces = false) (w : Int) (m : Int) (A : aM) (hS : lyM S m) (hR : RM M m A) (hA : TOK (A 0)) : aMt l E pX12_fault [(2, m), (0, w)] N S M (aG N S (opM M m 0 (spFault A w))) := by
  refine a_met hfl rfl (by decide +kernel) (Nat.le_of_ble_eq_true rfl) ?_
  refine x_aload_n (pc := 0) dX12_fault_0 rfl rfl ?_
  refine x_iconst (pc := 1) dX12_fault_1 (by decide) ?_
  refine x_putI (jj := 3) (pc := 2) dX12_fault_2 fX12_103 hS.1 rfl (by decide) rfl ?_
  refine x_memI (fun M1 hM1 => ?_)
  have R1 : RM M1 m A := by rw [hM1]; exact hR.up3
  have F1 : frM M M1 m := by rw [hM1]; exact frM.rf.up (by omega)
  have T1 : M1 m 3 = 0 := by rw [hM1]; exact up_s
  clear hM1
  have e0 : M1 (m + 1) 0 = A 0 0 := R1.1.1 0 (by omega) (by omega)
  have t0 := hA.1
  refine x_iload_n (pc := 5) dX12_fault_5 rfl rfl ?_
  refine x_if_ne (tgt := 16) (pc := 6) dX12_fault_6 (by decide) (fun c_6 => ?_) (fun c_6 => ?_)
  · refine x_iload_n (pc := 16) dX12_fault_16 rfl rfl ?_
    refine x_iconst (pc := 17) dX12_fault_17 (by decide) ?_
    refine x_icmp_ne (tgt := 28) (pc := 18) dX12_fault_18 (by decide) (fun c_18 => ?_) (fun c_18 => ?_)
    · refine x_iconst (pc := 28) dX12_fault_28 (by decide) ?_
      refine x_ireturn (pc := 29) dX12_fault_29 rfl (by decide) ?_
      refine ⟨_, rfl, rfl, rfl, rfl, T1, fun _ => ?_, R1, F1⟩
      unfold spFault
      (repeat' split) <;> first | (exfalso; omega) | rfl | rw [R1.1.2.2.2.1.1] | rw [R1.1.2.2.2.1.2.1]
    · refine x_aload_n (pc := 21) dX12_fault_21 rfl rfl ?_
      refine x_getIV (jj := 15) (pc := 22) dX12_fault_22 fX12_26 hS.1 rfl (by decide) rfl (by (repeat (first | rewrite [up_s] | rewrite [up_i (by omega)] | rewrite [up_a (by omega)] | rewrite [stM_a (by omega) (by omega)])); first | exact R1.1.1 _ (by omega) (by omega) | rfl) ?_
      refine x_goto (tgt := 29) (pc := 25) dX12_fault_25 (by decide) ?_
      refine x_ireturn (pc := 29) dX12_fault_29 rfl (by decide) ?_
      refine ⟨_, rfl, rfl, rfl, rfl, T1, fun _ => ?_, R1, F1⟩
      unfold spFault
      (repeat' split) <;> first | (exfalso; omega) | rfl | rw [R1.1.2.2.2.1.1] | rw [R1.1.2.2.2.1.2.1]
  · refine x_aload_n (pc := 9) dX12_fault_9 rfl rfl ?_
    refine x_getIV (jj := 14) (pc := 10) dX12_fault_10 fX12_256 hS.1 rfl (by decide) rfl (by (repeat (first | rewrite [up_s] | rewrite [up_i (by omega)] | rewrite [up_a (by omega)] | rewrite [stM_a (by omega) (by omega)])); first | exact R1.1.1 _ (by omega) (by omega) | rfl) ?_
    refine x_goto (tgt := 29) (pc := 13) dX12_fault_13 (by decide) ?_
    refine x_ireturn (pc := 29) dX12_fault_29 rfl (by decide) ?_
    refine ⟨_, rfl, rfl, rfl, rfl, T1, fun _ => ?_, R1, F1⟩
    unfold spFault
    (repeat' split) <;> first | (exfalso; omega) | rfl | rw [R1.1.2.2.2.1.1] | rw [R1.1.2.2.2.1.2.1]
def spDoubt (A : aM) (h s c : Int) : Int × Int × aM := if ¬ (0 ≤ h ∧ h < A 0 0) then (1, 0, A) else if ¬ (0 ≤ s ∧ s ≤ 8) ∨ ¬ (1 ≤ c ∧ c ≤ 9) then (2, 0, A) else if A 0 (156 + h) = 4 then (0, -1, A) else (0, A 0 (156 + h) + 1, up (up (up A 0 (163 + 4 * h + A 0 (156 + h)) s) 0 (191 + 4 * h + A 0 (156 + h)) c) 0 (156 + h) (A 0 (156 + h) + 1))
theorem s_Mdoubt {l : Launch} {E : aE} {N : Nat} {S : aS} {M : aM} (hfl : l.stackTraces = false) (h s c : Int) (m : Int) (A : aM) (hS : lyM S m) (hR : RM M m A) (hA : TOK (A 0)) : aMt l E pX12_doubt [(2, m), (0, h), (0, s), (0, c)] N S M (aG N S (opM M m 0 (spDoubt A h s c))) := by
  refine a_met hfl rfl (by decide +kernel) (Nat.le_of_ble_eq_true rfl) ?_
  refine x_aload_n (pc := 0) dX12_doubt_0 rfl rfl ?_
  refine x_iconst (pc := 1) dX12_doubt_1 (by decide) ?_
  refine x_putI (jj := 3) (pc := 2) dX12_doubt_2 fX12_103 hS.1 rfl (by decide) rfl ?_
  refine x_memI (fun M1 hM1 => ?_)
  have R1 : RM M1 m A := by rw [hM1]; exact hR.up3
  have F1 : frM M M1 m := by rw [hM1]; exact frM.rf.up (by omega)
  have T1 : M1 m 3 = 0 := by rw [hM1]; exact up_s
  clear hM1
  have e0 : M1 (m + 1) 0 = A 0 0 := R1.1.1 0 (by omega) (by omega)
  have t0 := hA.1
  refine x_aload_n (pc := 5) dX12_doubt_5 rfl rfl ?_
  refine x_iload_n (pc := 6) dX12_doubt_6 rfl rfl ?_
  refine x_callV1 (pc := 7) dX12_doubt_7 rfl kX12_123 (s_isHouse hfl m h hS (by omega)) hS.1 rfl rfl (Nat.le_of_ble_eq_true rfl) (k_B (fun q_7 => ?_) (fun q_7 => ?_)) n_B
  · refine x_if_ne (tgt := 19) (pc := 10) dX12_doubt_10 (by decide) (fun _ => ?_) (fun c => absurd c (by decide))
    refine x_iload_n (pc := 19) dX12_doubt_19 rfl rfl ?_
    refine x_i2l (pc := 20) dX12_doubt_20 ?_
    refine x_lconst0 (pc := 21) dX12_doubt_21 ?_
    refine x_ldc2 (n := 8) (pc := 22) cX12_114 (by decide) dX12_doubt_22 ?_
    refine x_callS3 (pc := 25) dX12_doubt_25 rfl kX12_106 (s_within hfl _ _ _) rfl (Nat.le_of_ble_eq_true rfl) (k_B (fun q_25 => ?_) (fun q_25 => ?_)) n_B
    · refine x_if_eq (tgt := 43) (pc := 28) dX12_doubt_28 (by decide) (fun c => absurd c (by decide)) (fun _ => ?_)
      refine x_iload_n (pc := 31) dX12_doubt_31 rfl rfl ?_
      refine x_i2l (pc := 32) dX12_doubt_32 ?_
      refine x_lconst1 (pc := 33) dX12_doubt_33 ?_
      refine x_ldc2 (n := 9) (pc := 34) cX12_411 (by decide) dX12_doubt_34 ?_
      refine x_callS3 (pc := 37) dX12_doubt_37 rfl kX12_106 (s_within hfl _ _ _) rfl (Nat.le_of_ble_eq_true rfl) (k_B (fun q_37 => ?_) (fun q_37 => ?_)) n_B
      · refine x_if_ne (tgt := 49) (pc := 40) dX12_doubt_40 (by decide) (fun _ => ?_) (fun c => absurd c (by decide))
        have td := hA.2.2.2.2.2.2.2.1 h (by omega) (by omega)
        refine x_aload_n (pc := 49) dX12_doubt_49 rfl rfl ?_
        refine x_getR (jj := 0) (pc := 50) dX12_doubt_50 fX12_9 hS.1 rfl (by decide) rfl rM_0 ?_
        refine x_sipush (pc := 53) dX12_doubt_53 (by decide) ?_
        refine x_iload_n (pc := 56) dX12_doubt_56 rfl rfl ?_
        refine x_iadd (pc := 57) dX12_doubt_57 (by omega) ?_
        refine x_ialoadV (pc := 58) dX12_doubt_58 (sM_0 hS) (by omega) (by (repeat (first | rewrite [up_s] | rewrite [up_i (by omega)] | rewrite [up_a (by omega)] | rewrite [stM_a (by omega) (by omega)])); first | exact R1.1.1 _ (by omega) (by omega) | rfl) (fun g_58 => ?_)
        refine x_istore (pc := 59) dX12_doubt_59 (by decide) rfl ?_
        refine x_iload (pc := 61) dX12_doubt_61 rfl ?_
        refine x_iconst (pc := 63) dX12_doubt_63 (by decide) ?_
        refine x_icmp_ne (tgt := 69) (pc := 64) dX12_doubt_64 (by decide) (fun c_64 => ?_) (fun c_64 => ?_)
        · refine x_aload_n (pc := 69) dX12_doubt_69 rfl rfl ?_
          refine x_getR (jj := 0) (pc := 70) dX12_doubt_70 fX12_9 hS.1 rfl (by decide) rfl rM_0 ?_
          refine x_sipush (pc := 73) dX12_doubt_73 (by decide) ?_
          refine x_iconst (pc := 76) dX12_doubt_76 (by decide) ?_
          refine x_iload_n (pc := 77) dX12_doubt_77 rfl rfl ?_
          refine x_imul (pc := 78) dX12_doubt_78 (by omega) ?_
          refine x_iadd (pc := 79) dX12_doubt_79 (by omega) ?_
          refine x_iload (pc := 80) dX12_doubt_80 rfl ?_
          refine x_iadd (pc := 82) dX12_doubt_82 (by omega) ?_
          refine x_iload_n (pc := 83) dX12_doubt_83 rfl rfl ?_
          refine x_iastore (pc := 84) dX12_doubt_84 (sM_0 hS) (by omega) ?_
          refine x_aload_n (pc := 85) dX12_doubt_85 rfl rfl ?_
          refine x_getR (jj := 0) (pc := 86) dX12_doubt_86 fX12_9 hS.1 rfl (by decide) rfl rM_0 ?_
          refine x_sipush (pc := 89) dX12_doubt_89 (by decide) ?_
          refine x_iconst (pc := 92) dX12_doubt_92 (by decide) ?_
          refine x_iload_n (pc := 93) dX12_doubt_93 rfl rfl ?_
          refine x_imul (pc := 94) dX12_doubt_94 (by omega) ?_
          refine x_iadd (pc := 95) dX12_doubt_95 (by omega) ?_
          refine x_iload (pc := 96) dX12_doubt_96 rfl ?_
          refine x_iadd (pc := 98) dX12_doubt_98 (by omega) ?_
          refine x_iload_n (pc := 99) dX12_doubt_99 rfl rfl ?_
          refine x_iastore (pc := 100) dX12_doubt_100 (sM_0 hS) (by omega) ?_
          refine x_aload_n (pc := 101) dX12_doubt_101 rfl rfl ?_
          refine x_getR (jj := 0) (pc := 102) dX12_doubt_102 fX12_9 hS.1 rfl (by decide) rfl rM_0 ?_
          refine x_sipush (pc := 105) dX12_doubt_105 (by decide) ?_
          refine x_iload_n (pc := 108) dX12_doubt_108 rfl rfl ?_
          refine x_iadd (pc := 109) dX12_doubt_109 (by omega) ?_
          refine x_dup2 (pc := 110) dX12_doubt_110 rfl rfl ?_
          refine x_ialoadV (pc := 111) dX12_doubt_111 (sM_0 hS) (by omega) (by (repeat (first | rewrite [up_s] | rewrite [up_i (by omega)] | rewrite [up_a (by omega)] | rewrite [stM_a (by omega) (by omega)])); first | exact R1.1.1 _ (by omega) (by omega) | rfl) (fun g_111 => ?_)
          refine x_iconst (pc := 112) dX12_doubt_112 (by decide) ?_
          refine x_iadd (pc := 113) dX12_doubt_113 (by omega) ?_
          refine x_iastore (pc := 114) dX12_doubt_114 (sM_0 hS) (by omega) ?_
          refine x_iload (pc := 115) dX12_doubt_115 rfl ?_
          refine x_iconst (pc := 117) dX12_doubt_117 (by decide) ?_
          refine x_iadd (pc := 118) dX12_doubt_118 (by omega) ?_
          refine x_ireturn (pc := 119) dX12_doubt_119 rfl (by decide) ?_
          have e9 : spDoubt A h s c = (0, A 0 (156 + h) + 1, up (up (up A 0 (163 + 4 * h + A 0 (156 + h)) s) 0 (191 + 4 * h + A 0 (156 + h)) c) 0 (156 + h) (A 0 (156 + h) + 1)) := by
            unfold spDoubt
            (repeat' split) <;> first | rfl | (exfalso; omega)
          rw [e9]
          refine ⟨_, rfl, rfl, rfl, rfl, ?_, fun _ => rfl, ((R1.free (by omega)).free (by omega)).free (by omega), ((F1.up (by omega)).up (by omega)).up (by omega)⟩
          rw [up_a (by omega), up_a (by omega), up_a (by omega)]; exact T1
        · refine x_iconst (pc := 67) dX12_doubt_67 (by decide) ?_
          refine x_ireturn (pc := 68) dX12_doubt_68 rfl (by decide) ?_
          have e9 : spDoubt A h s c = (0, -1, A) := by
            unfold spDoubt
            (repeat' split) <;> first | rfl | (exfalso; omega)
          rw [e9]
          exact ⟨_, rfl, rfl, rfl, rfl, T1, fun _ => rfl, R1, F1⟩
      · refine x_if_ne (tgt := 49) (pc := 40) dX12_doubt_40 (by decide) (fun c => absurd c (by decide)) (fun _ => ?_)
        refine x_aload_n (pc := 43) dX12_doubt_43 rfl rfl ?_
        refine x_iconst (pc := 44) dX12_doubt_44 (by decide) ?_
        refine x_callV1 (pc := 45) dX12_doubt_45 rfl kX12_116 (s_fails hfl m _ hS) hS.1 rfl rfl (Nat.le_of_ble_eq_true rfl) (k_G (fun v9 M9 hM9 => ?_)) n_G
        obtain ⟨rfl, rfl⟩ := hM9
        refine x_ireturn (pc := 48) dX12_doubt_48 rfl (by decide) ?_
        have e9 : spDoubt A h s c = (2, 0, A) := by
          unfold spDoubt
          (repeat' split) <;> first | rfl | (exfalso; omega)
        rw [e9]
        exact ⟨_, rfl, rfl, rfl, rfl, up_s, fun q => absurd q (show ¬ (2 : Int) = 0 by decide), R1.up3, F1.up (by omega)⟩
    · refine x_if_eq (tgt := 43) (pc := 28) dX12_doubt_28 (by decide) (fun _ => ?_) (fun c => absurd c (by decide))
      refine x_aload_n (pc := 43) dX12_doubt_43 rfl rfl ?_
      refine x_iconst (pc := 44) dX12_doubt_44 (by decide) ?_
      refine x_callV1 (pc := 45) dX12_doubt_45 rfl kX12_116 (s_fails hfl m _ hS) hS.1 rfl rfl (Nat.le_of_ble_eq_true rfl) (k_G (fun v9 M9 hM9 => ?_)) n_G
      obtain ⟨rfl, rfl⟩ := hM9
      refine x_ireturn (pc := 48) dX12_doubt_48 rfl (by decide) ?_
      have e9 : spDoubt A h s c = (2, 0, A) := by
        unfold spDoubt
        (repeat' split) <;> first | rfl | (exfalso; omega)
      rw [e9]
      exact ⟨_, rfl, rfl, rfl, rfl, up_s, fun q => absurd q (show ¬ (2 : Int) = 0 by decide), R1.up3, F1.up (by omega)⟩
  · refine x_if_ne (tgt := 19) (pc := 10) dX12_doubt_10 (by decide) (fun c => absurd c (by decide)) (fun _ => ?_)
    refine x_aload_n (pc := 13) dX12_doubt_13 rfl rfl ?_
    refine x_iconst (pc := 14) dX12_doubt_14 (by decide) ?_
    refine x_callV1 (pc := 15) dX12_doubt_15 rfl kX12_116 (s_fails hfl m _ hS) hS.1 rfl rfl (Nat.le_of_ble_eq_true rfl) (k_G (fun v9 M9 hM9 => ?_)) n_G
    obtain ⟨rfl, rfl⟩ := hM9
    refine x_ireturn (pc := 18) dX12_doubt_18 rfl (by decide) ?_
    have e9 : spDoubt A h s c = (1, 0, A) := by
      unfold spDoubt
      (repeat' split) <;> first | rfl | (exfalso; omega)
    rw [e9]
    exact ⟨_, rfl, rfl, rfl, rfl, up_s, fun q => absurd q (show ¬ (1 : Int) = 0 by decide), R1.up3, F1.up (by omega)⟩
