/-! the reference's simplex algorithm -/
def UM (h : Nat) (F : Nat → Nat → Int) (st : sx) (Zs : Nat → Nat → Int) (r : Nat) : Nat → Int := if r < h then F (st.2.1 r) else Zs (r - h)
def cw (w c : Nat) : Nat := if c = 5 then w else c
/-- the reference's table is the tableau, with q9 aims -/
def RTm (M : aM) (m : Int) (w h : Nat) (F : Nat → Nat → Int) (st : sx) (nm : Nat → Int) (q9 : Nat) (Zs : Nat → Nat → Int) (fx : Nat → Bool) : Prop := (M m 42 = w ∧ M m 43 = h ∧ M m 44 = q9 ∧ M m 45 = ov w F st) ∧ (∀ r c : Nat, r < h + q9 → c < w ∨ c = 5 → M (m + 20) (6 * r + c) = ta w F st (UM h F st Zs r) (cw w c)) ∧ (∀ i : Nat, i < h → M (m + 22) i = nm (st.2.1 i)) ∧ (∀ j : Nat, j < w → M (m + 23) j = nm (st.1 j)) ∧ ∀ j : Nat, j < w → M (m + 24) j = if fx j = true then 1 else 0
/-- what the algorithm may change -/
def frT (M M' : aM) (m : Int) : Prop := ∀ a i, ¬ (m + 20 ≤ a ∧ a < m + 25 ∧ a ≠ m + 21) → ¬ (a = m ∧ 42 ≤ i ∧ i ≤ 45) → M' a i = M a i
theorem frT.rf {M : aM} {m : Int} : frT M M m := fun _ _ _ _ => rfl
theorem frT.tr {M M' M'' : aM} {m : Int} (h : frT M M' m) (h' : frT M' M'' m) : frT M M'' m := fun a i x y => (h' a i x y).trans (h a i x y)
theorem cw_lt {w c : Nat} (hw : w ≤ 5) (h : c < w ∨ c = 5) : cw w c < w + 1 := by
  unfold cw
  split <;> omega
theorem cw_5 {w : Nat} : cw w 5 = w := if_pos rfl
theorem cw_n {w c : Nat} (hw : w ≤ 5) (h : c < w) : cw w c = c := if_neg (by omega)
theorem cw_ne {w c j : Nat} (hw : w ≤ 5) (hj : j < w) (h : c < w ∨ c = 5) (hc : c ≠ j) : cw w c ≠ j := by
  unfold cw
  split <;> omega
section RM9
variable {M : aM} {m : Int} {w h q9 : Nat} {F : Nat → Nat → Int} {st : sx} {nm : Nat → Int} {Zs : Nat → Nat → Int} {fx : Nat → Bool}
theorem RTm.c (hR : RTm M m w h F st nm q9 Zs fx) (hw : w ≤ 5) {r c : Nat} (hr : r < h + q9) (hc : c < w) : M (m + 20) (6 * r + c) = ta w F st (UM h F st Zs r) c := by
  rw [hR.2.1 r c hr (Or.inl hc), cw_n hw hc]
theorem RTm.k (hR : RTm M m w h F st nm q9 Zs fx) {r : Nat} (hr : r < h + q9) : M (m + 20) (6 * r + 5) = ta w F st (UM h F st Zs r) w := by
  have := hR.2.1 r 5 hr (Or.inr rfl)
  rw [cw_5] at this
  exact this
theorem UM_F {r : Nat} (hr : r < h) : UM h F st Zs r = F (st.2.1 r) := if_pos hr
theorem UM_Z {q : Nat} : UM h F st Zs (h + q) = Zs q := by
  unfold UM
  rw [if_neg (by omega), show h + q - h = q by omega]
theorem UM_bd (hP : PBx w h F 1048576) (hO : OKx w h F st) (hZ : ∀ q, q < q9 → bdV w (Zs q)) {r : Nat} (hr : r < h + q9) : (∀ c, c < w → (UM h F st Zs r c).natAbs ≤ 1) ∧ (UM h F st Zs r w).natAbs ≤ 1048576 := by
  unfold UM
  by_cases e : r < h
  · rw [if_pos e]; exact FV_bd hP (by omega) (hO.2.2.2.1.2.1 r e)
  · rw [if_neg e]; exact hZ _ (by omega)
end RM9
theorem dX12_comesIn_0 : decode cX12_comesIn 0 = .ok (.iconst (-1), 1) := by decide +kernel
theorem dX12_comesIn_1 : decode cX12_comesIn 1 = .ok (.istore_n 2, 1) := by decide +kernel
theorem dX12_comesIn_2 : decode cX12_comesIn 2 = .ok (.iconst 0, 1) := by decide +kernel
theorem dX12_comesIn_3 : decode cX12_comesIn 3 = .ok (.istore_n 3, 1) := by decide +kernel
theorem dX12_comesIn_4 : decode cX12_comesIn 4 = .ok (.iload_n 3, 1) := by decide +kernel
theorem dX12_comesIn_5 : decode cX12_comesIn 5 = .ok (.aload_n 0, 1) := by decide +kernel
theorem dX12_comesIn_6 : decode cX12_comesIn 6 = .ok (.getfield 358, 3) := by decide +kernel
theorem dX12_comesIn_9 : decode cX12_comesIn 9 = .ok (.if_icmp .ge 61, 3) := by decide +kernel
theorem dX12_comesIn_12 : decode cX12_comesIn 12 = .ok (.aload_n 0, 1) := by decide +kernel
theorem dX12_comesIn_13 : decode cX12_comesIn 13 = .ok (.getfield 85, 3) := by decide +kernel
theorem dX12_comesIn_16 : decode cX12_comesIn 16 = .ok (.iload_n 3, 1) := by decide +kernel
theorem dX12_comesIn_17 : decode cX12_comesIn 17 = .ok (.baload, 1) := by decide +kernel
theorem dX12_comesIn_18 : decode cX12_comesIn 18 = .ok (.ifCond .ne 46, 3) := by decide +kernel
theorem dX12_comesIn_21 : decode cX12_comesIn 21 = .ok (.aload_n 0, 1) := by decide +kernel
theorem dX12_comesIn_22 : decode cX12_comesIn 22 = .ok (.getfield 73, 3) := by decide +kernel
theorem dX12_comesIn_25 : decode cX12_comesIn 25 = .ok (.bipush 6, 2) := by decide +kernel
theorem dX12_comesIn_27 : decode cX12_comesIn 27 = .ok (.aload_n 0, 1) := by decide +kernel
theorem dX12_comesIn_28 : decode cX12_comesIn 28 = .ok (.getfield 361, 3) := by decide +kernel
theorem dX12_comesIn_31 : decode cX12_comesIn 31 = .ok (.iload_n 1, 1) := by decide +kernel
theorem dX12_comesIn_32 : decode cX12_comesIn 32 = .ok (.iadd, 1) := by decide +kernel
theorem dX12_comesIn_33 : decode cX12_comesIn 33 = .ok (.imul, 1) := by decide +kernel
theorem dX12_comesIn_34 : decode cX12_comesIn 34 = .ok (.iload_n 3, 1) := by decide +kernel
theorem dX12_comesIn_35 : decode cX12_comesIn 35 = .ok (.iadd, 1) := by decide +kernel
theorem dX12_comesIn_36 : decode cX12_comesIn 36 = .ok (.laload, 1) := by decide +kernel
theorem dX12_comesIn_37 : decode cX12_comesIn 37 = .ok (.lconst 0, 1) := by decide +kernel
theorem dX12_comesIn_38 : decode cX12_comesIn 38 = .ok (.lcmp, 1) := by decide +kernel
theorem dX12_comesIn_39 : decode cX12_comesIn 39 = .ok (.ifCond .ge 25, 3) := by decide +kernel
theorem dX12_comesIn_42 : decode cX12_comesIn 42 = .ok (.iload_n 2, 1) := by decide +kernel
theorem dX12_comesIn_43 : decode cX12_comesIn 43 = .ok (.iconst (-1), 1) := by decide +kernel
theorem dX12_comesIn_44 : decode cX12_comesIn 44 = .ok (.if_icmp .eq 18, 3) := by decide +kernel
theorem dX12_comesIn_47 : decode cX12_comesIn 47 = .ok (.aload_n 0, 1) := by decide +kernel
theorem dX12_comesIn_48 : decode cX12_comesIn 48 = .ok (.getfield 82, 3) := by decide +kernel
theorem dX12_comesIn_51 : decode cX12_comesIn 51 = .ok (.iload_n 3, 1) := by decide +kernel
theorem dX12_comesIn_52 : decode cX12_comesIn 52 = .ok (.iaload, 1) := by decide +kernel
theorem dX12_comesIn_53 : decode cX12_comesIn 53 = .ok (.aload_n 0, 1) := by decide +kernel
theorem dX12_comesIn_54 : decode cX12_comesIn 54 = .ok (.getfield 82, 3) := by decide +kernel
theorem dX12_comesIn_57 : decode cX12_comesIn 57 = .ok (.iload_n 2, 1) := by decide +kernel
theorem dX12_comesIn_58 : decode cX12_comesIn 58 = .ok (.iaload, 1) := by decide +kernel
theorem dX12_comesIn_59 : decode cX12_comesIn 59 = .ok (.if_icmp .ge 5, 3) := by decide +kernel
theorem dX12_comesIn_62 : decode cX12_comesIn 62 = .ok (.iload_n 3, 1) := by decide +kernel
theorem dX12_comesIn_63 : decode cX12_comesIn 63 = .ok (.istore_n 2, 1) := by decide +kernel
theorem dX12_comesIn_64 : decode cX12_comesIn 64 = .ok (.iinc 3 1, 3) := by decide +kernel
theorem dX12_comesIn_67 : decode cX12_comesIn 67 = .ok (.goto (-63), 3) := by decide +kernel
theorem dX12_comesIn_70 : decode cX12_comesIn 70 = .ok (.iload_n 2, 1) := by decide +kernel
theorem dX12_comesIn_71 : decode cX12_comesIn 71 = .ok (.ireturn, 1) := by decide +kernel
theorem dX12_goesOut_0 : decode cX12_goesOut 0 = .ok (.iconst (-1), 1) := by decide +kernel
theorem dX12_goesOut_1 : decode cX12_goesOut 1 = .ok (.istore_n 2, 1) := by decide +kernel
theorem dX12_goesOut_2 : decode cX12_goesOut 2 = .ok (.iconst 0, 1) := by decide +kernel
theorem dX12_goesOut_3 : decode cX12_goesOut 3 = .ok (.istore_n 3, 1) := by decide +kernel
theorem dX12_goesOut_4 : decode cX12_goesOut 4 = .ok (.iload_n 3, 1) := by decide +kernel
theorem dX12_goesOut_5 : decode cX12_goesOut 5 = .ok (.aload_n 0, 1) := by decide +kernel
theorem dX12_goesOut_6 : decode cX12_goesOut 6 = .ok (.getfield 361, 3) := by decide +kernel
theorem dX12_goesOut_9 : decode cX12_goesOut 9 = .ok (.if_icmp .ge 116, 3) := by decide +kernel
theorem dX12_goesOut_12 : decode cX12_goesOut 12 = .ok (.aload_n 0, 1) := by decide +kernel
theorem dX12_goesOut_13 : decode cX12_goesOut 13 = .ok (.getfield 73, 3) := by decide +kernel
theorem dX12_goesOut_16 : decode cX12_goesOut 16 = .ok (.bipush 6, 2) := by decide +kernel
theorem dX12_goesOut_18 : decode cX12_goesOut 18 = .ok (.iload_n 3, 1) := by decide +kernel
theorem dX12_goesOut_19 : decode cX12_goesOut 19 = .ok (.imul, 1) := by decide +kernel
theorem dX12_goesOut_20 : decode cX12_goesOut 20 = .ok (.iload_n 1, 1) := by decide +kernel
theorem dX12_goesOut_21 : decode cX12_goesOut 21 = .ok (.iadd, 1) := by decide +kernel
theorem dX12_goesOut_22 : decode cX12_goesOut 22 = .ok (.laload, 1) := by decide +kernel
theorem dX12_goesOut_23 : decode cX12_goesOut 23 = .ok (.lstore 4, 2) := by decide +kernel
theorem dX12_goesOut_25 : decode cX12_goesOut 25 = .ok (.lload 4, 2) := by decide +kernel
theorem dX12_goesOut_27 : decode cX12_goesOut 27 = .ok (.lconst 0, 1) := by decide +kernel
theorem dX12_goesOut_28 : decode cX12_goesOut 28 = .ok (.lcmp, 1) := by decide +kernel
theorem dX12_goesOut_29 : decode cX12_goesOut 29 = .ok (.ifCond .gt 6, 3) := by decide +kernel
theorem dX12_goesOut_32 : decode cX12_goesOut 32 = .ok (.goto 87, 3) := by decide +kernel
theorem dX12_goesOut_35 : decode cX12_goesOut 35 = .ok (.iload_n 2, 1) := by decide +kernel
theorem dX12_goesOut_36 : decode cX12_goesOut 36 = .ok (.iconst (-1), 1) := by decide +kernel
theorem dX12_goesOut_37 : decode cX12_goesOut 37 = .ok (.if_icmp .ne 8, 3) := by decide +kernel
theorem dX12_goesOut_40 : decode cX12_goesOut 40 = .ok (.iload_n 3, 1) := by decide +kernel
theorem dX12_goesOut_41 : decode cX12_goesOut 41 = .ok (.istore_n 2, 1) := by decide +kernel
theorem dX12_goesOut_42 : decode cX12_goesOut 42 = .ok (.goto 77, 3) := by decide +kernel
theorem dX12_goesOut_45 : decode cX12_goesOut 45 = .ok (.aload_n 0, 1) := by decide +kernel
theorem dX12_goesOut_46 : decode cX12_goesOut 46 = .ok (.getfield 73, 3) := by decide +kernel
theorem dX12_goesOut_49 : decode cX12_goesOut 49 = .ok (.bipush 6, 2) := by decide +kernel
theorem dX12_goesOut_51 : decode cX12_goesOut 51 = .ok (.iload_n 3, 1) := by decide +kernel
theorem dX12_goesOut_52 : decode cX12_goesOut 52 = .ok (.imul, 1) := by decide +kernel
theorem dX12_goesOut_53 : decode cX12_goesOut 53 = .ok (.iconst 5, 1) := by decide +kernel
theorem dX12_goesOut_54 : decode cX12_goesOut 54 = .ok (.iadd, 1) := by decide +kernel
theorem dX12_goesOut_55 : decode cX12_goesOut 55 = .ok (.laload, 1) := by decide +kernel
theorem dX12_goesOut_56 : decode cX12_goesOut 56 = .ok (.aload_n 0, 1) := by decide +kernel
theorem dX12_goesOut_57 : decode cX12_goesOut 57 = .ok (.getfield 73, 3) := by decide +kernel
theorem dX12_goesOut_60 : decode cX12_goesOut 60 = .ok (.bipush 6, 2) := by decide +kernel
theorem dX12_goesOut_62 : decode cX12_goesOut 62 = .ok (.iload_n 2, 1) := by decide +kernel
theorem dX12_goesOut_63 : decode cX12_goesOut 63 = .ok (.imul, 1) := by decide +kernel
theorem dX12_goesOut_64 : decode cX12_goesOut 64 = .ok (.iload_n 1, 1) := by decide +kernel
theorem dX12_goesOut_65 : decode cX12_goesOut 65 = .ok (.iadd, 1) := by decide +kernel
theorem dX12_goesOut_66 : decode cX12_goesOut 66 = .ok (.laload, 1) := by decide +kernel
theorem dX12_goesOut_67 : decode cX12_goesOut 67 = .ok (.lmul, 1) := by decide +kernel
theorem dX12_goesOut_68 : decode cX12_goesOut 68 = .ok (.lstore 6, 2) := by decide +kernel
theorem dX12_goesOut_70 : decode cX12_goesOut 70 = .ok (.aload_n 0, 1) := by decide +kernel
theorem dX12_goesOut_71 : decode cX12_goesOut 71 = .ok (.getfield 73, 3) := by decide +kernel
theorem dX12_goesOut_74 : decode cX12_goesOut 74 = .ok (.bipush 6, 2) := by decide +kernel
theorem dX12_goesOut_76 : decode cX12_goesOut 76 = .ok (.iload_n 2, 1) := by decide +kernel
theorem dX12_goesOut_77 : decode cX12_goesOut 77 = .ok (.imul, 1) := by decide +kernel
theorem dX12_goesOut_78 : decode cX12_goesOut 78 = .ok (.iconst 5, 1) := by decide +kernel
theorem dX12_goesOut_79 : decode cX12_goesOut 79 = .ok (.iadd, 1) := by decide +kernel
theorem dX12_goesOut_80 : decode cX12_goesOut 80 = .ok (.laload, 1) := by decide +kernel
theorem dX12_goesOut_81 : decode cX12_goesOut 81 = .ok (.lload 4, 2) := by decide +kernel
theorem dX12_goesOut_83 : decode cX12_goesOut 83 = .ok (.lmul, 1) := by decide +kernel
theorem dX12_goesOut_84 : decode cX12_goesOut 84 = .ok (.lstore 8, 2) := by decide +kernel
theorem dX12_goesOut_86 : decode cX12_goesOut 86 = .ok (.lload 6, 2) := by decide +kernel
theorem dX12_goesOut_88 : decode cX12_goesOut 88 = .ok (.lload 8, 2) := by decide +kernel
theorem dX12_goesOut_90 : decode cX12_goesOut 90 = .ok (.lcmp, 1) := by decide +kernel
theorem dX12_goesOut_91 : decode cX12_goesOut 91 = .ok (.ifCond .lt 26, 3) := by decide +kernel
theorem dX12_goesOut_94 : decode cX12_goesOut 94 = .ok (.lload 6, 2) := by decide +kernel
theorem dX12_goesOut_96 : decode cX12_goesOut 96 = .ok (.lload 8, 2) := by decide +kernel
theorem dX12_goesOut_98 : decode cX12_goesOut 98 = .ok (.lcmp, 1) := by decide +kernel
theorem dX12_goesOut_99 : decode cX12_goesOut 99 = .ok (.ifCond .ne 20, 3) := by decide +kernel
theorem dX12_goesOut_102 : decode cX12_goesOut 102 = .ok (.aload_n 0, 1) := by decide +kernel
theorem dX12_goesOut_103 : decode cX12_goesOut 103 = .ok (.getfield 79, 3) := by decide +kernel
theorem dX12_goesOut_106 : decode cX12_goesOut 106 = .ok (.iload_n 3, 1) := by decide +kernel
theorem dX12_goesOut_107 : decode cX12_goesOut 107 = .ok (.iaload, 1) := by decide +kernel
theorem dX12_goesOut_108 : decode cX12_goesOut 108 = .ok (.aload_n 0, 1) := by decide +kernel
theorem dX12_goesOut_109 : decode cX12_goesOut 109 = .ok (.getfield 79, 3) := by decide +kernel
theorem dX12_goesOut_112 : decode cX12_goesOut 112 = .ok (.iload_n 2, 1) := by decide +kernel
theorem dX12_goesOut_113 : decode cX12_goesOut 113 = .ok (.iaload, 1) := by decide +kernel
theorem dX12_goesOut_114 : decode cX12_goesOut 114 = .ok (.if_icmp .ge 5, 3) := by decide +kernel
theorem dX12_goesOut_117 : decode cX12_goesOut 117 = .ok (.iload_n 3, 1) := by decide +kernel
theorem dX12_goesOut_118 : decode cX12_goesOut 118 = .ok (.istore_n 2, 1) := by decide +kernel
theorem dX12_goesOut_119 : decode cX12_goesOut 119 = .ok (.iinc 3 1, 3) := by decide +kernel
theorem dX12_goesOut_122 : decode cX12_goesOut 122 = .ok (.goto (-118), 3) := by decide +kernel
theorem dX12_goesOut_125 : decode cX12_goesOut 125 = .ok (.iload_n 2, 1) := by decide +kernel
theorem dX12_goesOut_126 : decode cX12_goesOut 126 = .ok (.ireturn, 1) := by decide +kernel
theorem dX12_turns_0 : decode cX12_turns 0 = .ok (.aload_n 0, 1) := by decide +kernel
theorem dX12_turns_1 : decode cX12_turns 1 = .ok (.getfield 73, 3) := by decide +kernel
theorem dX12_turns_4 : decode cX12_turns 4 = .ok (.bipush 6, 2) := by decide +kernel
theorem dX12_turns_6 : decode cX12_turns 6 = .ok (.iload_n 1, 1) := by decide +kernel
theorem dX12_turns_7 : decode cX12_turns 7 = .ok (.imul, 1) := by decide +kernel
theorem dX12_turns_8 : decode cX12_turns 8 = .ok (.iload_n 2, 1) := by decide +kernel
theorem dX12_turns_9 : decode cX12_turns 9 = .ok (.iadd, 1) := by decide +kernel
theorem dX12_turns_10 : decode cX12_turns 10 = .ok (.laload, 1) := by decide +kernel
theorem dX12_turns_11 : decode cX12_turns 11 = .ok (.lstore_n 3, 1) := by decide +kernel
theorem dX12_turns_12 : decode cX12_turns 12 = .ok (.iconst 0, 1) := by decide +kernel
theorem dX12_turns_13 : decode cX12_turns 13 = .ok (.istore 5, 2) := by decide +kernel
theorem dX12_turns_15 : decode cX12_turns 15 = .ok (.iload 5, 2) := by decide +kernel
theorem dX12_turns_17 : decode cX12_turns 17 = .ok (.aload_n 0, 1) := by decide +kernel
theorem dX12_turns_18 : decode cX12_turns 18 = .ok (.getfield 361, 3) := by decide +kernel
theorem dX12_turns_21 : decode cX12_turns 21 = .ok (.aload_n 0, 1) := by decide +kernel
theorem dX12_turns_22 : decode cX12_turns 22 = .ok (.getfield 367, 3) := by decide +kernel
theorem dX12_turns_25 : decode cX12_turns 25 = .ok (.iadd, 1) := by decide +kernel
theorem dX12_turns_26 : decode cX12_turns 26 = .ok (.if_icmp .ge 133, 3) := by decide +kernel
theorem dX12_turns_29 : decode cX12_turns 29 = .ok (.iload 5, 2) := by decide +kernel
theorem dX12_turns_31 : decode cX12_turns 31 = .ok (.iload_n 1, 1) := by decide +kernel
theorem dX12_turns_32 : decode cX12_turns 32 = .ok (.if_icmp .ne 6, 3) := by decide +kernel
theorem dX12_turns_35 : decode cX12_turns 35 = .ok (.goto 118, 3) := by decide +kernel
theorem dX12_turns_38 : decode cX12_turns 38 = .ok (.aload_n 0, 1) := by decide +kernel
theorem dX12_turns_39 : decode cX12_turns 39 = .ok (.getfield 73, 3) := by decide +kernel
theorem dX12_turns_42 : decode cX12_turns 42 = .ok (.bipush 6, 2) := by decide +kernel
theorem dX12_turns_44 : decode cX12_turns 44 = .ok (.iload 5, 2) := by decide +kernel
theorem dX12_turns_46 : decode cX12_turns 46 = .ok (.imul, 1) := by decide +kernel
theorem dX12_turns_47 : decode cX12_turns 47 = .ok (.iload_n 2, 1) := by decide +kernel
theorem dX12_turns_48 : decode cX12_turns 48 = .ok (.iadd, 1) := by decide +kernel
theorem dX12_turns_49 : decode cX12_turns 49 = .ok (.laload, 1) := by decide +kernel
theorem dX12_turns_50 : decode cX12_turns 50 = .ok (.lstore 6, 2) := by decide +kernel
theorem dX12_turns_52 : decode cX12_turns 52 = .ok (.iconst 0, 1) := by decide +kernel
theorem dX12_turns_53 : decode cX12_turns 53 = .ok (.istore 8, 2) := by decide +kernel
theorem dX12_turns_55 : decode cX12_turns 55 = .ok (.iload 8, 2) := by decide +kernel
theorem dX12_turns_57 : decode cX12_turns 57 = .ok (.bipush 6, 2) := by decide +kernel
theorem dX12_turns_59 : decode cX12_turns 59 = .ok (.if_icmp .ge 79, 3) := by decide +kernel
theorem dX12_turns_62 : decode cX12_turns 62 = .ok (.iload 8, 2) := by decide +kernel
theorem dX12_turns_64 : decode cX12_turns 64 = .ok (.iload_n 2, 1) := by decide +kernel
theorem dX12_turns_65 : decode cX12_turns 65 = .ok (.if_icmp .eq 67, 3) := by decide +kernel
theorem dX12_turns_68 : decode cX12_turns 68 = .ok (.iload 8, 2) := by decide +kernel
theorem dX12_turns_70 : decode cX12_turns 70 = .ok (.aload_n 0, 1) := by decide +kernel
theorem dX12_turns_71 : decode cX12_turns 71 = .ok (.getfield 358, 3) := by decide +kernel
theorem dX12_turns_74 : decode cX12_turns 74 = .ok (.if_icmp .lt 9, 3) := by decide +kernel
theorem dX12_turns_77 : decode cX12_turns 77 = .ok (.iload 8, 2) := by decide +kernel
theorem dX12_turns_79 : decode cX12_turns 79 = .ok (.iconst 5, 1) := by decide +kernel
theorem dX12_turns_80 : decode cX12_turns 80 = .ok (.if_icmp .ne 52, 3) := by decide +kernel
theorem dX12_turns_83 : decode cX12_turns 83 = .ok (.aload_n 0, 1) := by decide +kernel
theorem dX12_turns_84 : decode cX12_turns 84 = .ok (.getfield 73, 3) := by decide +kernel
theorem dX12_turns_87 : decode cX12_turns 87 = .ok (.bipush 6, 2) := by decide +kernel
theorem dX12_turns_89 : decode cX12_turns 89 = .ok (.iload 5, 2) := by decide +kernel
theorem dX12_turns_91 : decode cX12_turns 91 = .ok (.imul, 1) := by decide +kernel
theorem dX12_turns_92 : decode cX12_turns 92 = .ok (.iload 8, 2) := by decide +kernel
theorem dX12_turns_94 : decode cX12_turns 94 = .ok (.iadd, 1) := by decide +kernel
theorem dX12_turns_95 : decode cX12_turns 95 = .ok (.lload_n 3, 1) := by decide +kernel
theorem dX12_turns_96 : decode cX12_turns 96 = .ok (.aload_n 0, 1) := by decide +kernel
theorem dX12_turns_97 : decode cX12_turns 97 = .ok (.getfield 73, 3) := by decide +kernel
theorem dX12_turns_100 : decode cX12_turns 100 = .ok (.bipush 6, 2) := by decide +kernel
theorem dX12_turns_102 : decode cX12_turns 102 = .ok (.iload 5, 2) := by decide +kernel
theorem dX12_turns_104 : decode cX12_turns 104 = .ok (.imul, 1) := by decide +kernel
theorem dX12_turns_105 : decode cX12_turns 105 = .ok (.iload 8, 2) := by decide +kernel
theorem dX12_turns_107 : decode cX12_turns 107 = .ok (.iadd, 1) := by decide +kernel
theorem dX12_turns_108 : decode cX12_turns 108 = .ok (.laload, 1) := by decide +kernel
theorem dX12_turns_109 : decode cX12_turns 109 = .ok (.lmul, 1) := by decide +kernel
theorem dX12_turns_110 : decode cX12_turns 110 = .ok (.lload 6, 2) := by decide +kernel
theorem dX12_turns_112 : decode cX12_turns 112 = .ok (.aload_n 0, 1) := by decide +kernel
theorem dX12_turns_113 : decode cX12_turns 113 = .ok (.getfield 73, 3) := by decide +kernel
theorem dX12_turns_116 : decode cX12_turns 116 = .ok (.bipush 6, 2) := by decide +kernel
theorem dX12_turns_118 : decode cX12_turns 118 = .ok (.iload_n 1, 1) := by decide +kernel
theorem dX12_turns_119 : decode cX12_turns 119 = .ok (.imul, 1) := by decide +kernel
theorem dX12_turns_120 : decode cX12_turns 120 = .ok (.iload 8, 2) := by decide +kernel
theorem dX12_turns_122 : decode cX12_turns 122 = .ok (.iadd, 1) := by decide +kernel
theorem dX12_turns_123 : decode cX12_turns 123 = .ok (.laload, 1) := by decide +kernel
theorem dX12_turns_124 : decode cX12_turns 124 = .ok (.lmul, 1) := by decide +kernel
theorem dX12_turns_125 : decode cX12_turns 125 = .ok (.lsub, 1) := by decide +kernel
theorem dX12_turns_126 : decode cX12_turns 126 = .ok (.aload_n 0, 1) := by decide +kernel
theorem dX12_turns_127 : decode cX12_turns 127 = .ok (.getfield 364, 3) := by decide +kernel
theorem dX12_turns_130 : decode cX12_turns 130 = .ok (.ldiv, 1) := by decide +kernel
theorem dX12_turns_131 : decode cX12_turns 131 = .ok (.lastore, 1) := by decide +kernel
theorem dX12_turns_132 : decode cX12_turns 132 = .ok (.iinc 8 1, 3) := by decide +kernel
theorem dX12_turns_135 : decode cX12_turns 135 = .ok (.goto (-80), 3) := by decide +kernel
theorem dX12_turns_138 : decode cX12_turns 138 = .ok (.aload_n 0, 1) := by decide +kernel
theorem dX12_turns_139 : decode cX12_turns 139 = .ok (.getfield 73, 3) := by decide +kernel
theorem dX12_turns_142 : decode cX12_turns 142 = .ok (.bipush 6, 2) := by decide +kernel
theorem dX12_turns_144 : decode cX12_turns 144 = .ok (.iload 5, 2) := by decide +kernel
theorem dX12_turns_146 : decode cX12_turns 146 = .ok (.imul, 1) := by decide +kernel
theorem dX12_turns_147 : decode cX12_turns 147 = .ok (.iload_n 2, 1) := by decide +kernel
theorem dX12_turns_148 : decode cX12_turns 148 = .ok (.iadd, 1) := by decide +kernel
theorem dX12_turns_149 : decode cX12_turns 149 = .ok (.lload 6, 2) := by decide +kernel
theorem dX12_turns_151 : decode cX12_turns 151 = .ok (.lneg, 1) := by decide +kernel
theorem dX12_turns_152 : decode cX12_turns 152 = .ok (.lastore, 1) := by decide +kernel
theorem dX12_turns_153 : decode cX12_turns 153 = .ok (.iinc 5 1, 3) := by decide +kernel
theorem dX12_turns_156 : decode cX12_turns 156 = .ok (.goto (-141), 3) := by decide +kernel
theorem dX12_turns_159 : decode cX12_turns 159 = .ok (.aload_n 0, 1) := by decide +kernel
theorem dX12_turns_160 : decode cX12_turns 160 = .ok (.getfield 73, 3) := by decide +kernel
theorem dX12_turns_163 : decode cX12_turns 163 = .ok (.bipush 6, 2) := by decide +kernel
theorem dX12_turns_165 : decode cX12_turns 165 = .ok (.iload_n 1, 1) := by decide +kernel
theorem dX12_turns_166 : decode cX12_turns 166 = .ok (.imul, 1) := by decide +kernel
theorem dX12_turns_167 : decode cX12_turns 167 = .ok (.iload_n 2, 1) := by decide +kernel
theorem dX12_turns_168 : decode cX12_turns 168 = .ok (.iadd, 1) := by decide +kernel
theorem dX12_turns_169 : decode cX12_turns 169 = .ok (.aload_n 0, 1) := by decide +kernel
theorem dX12_turns_170 : decode cX12_turns 170 = .ok (.getfield 364, 3) := by decide +kernel
theorem dX12_turns_173 : decode cX12_turns 173 = .ok (.lastore, 1) := by decide +kernel
theorem dX12_turns_174 : decode cX12_turns 174 = .ok (.aload_n 0, 1) := by decide +kernel
theorem dX12_turns_175 : decode cX12_turns 175 = .ok (.lload_n 3, 1) := by decide +kernel
theorem dX12_turns_176 : decode cX12_turns 176 = .ok (.putfield 364, 3) := by decide +kernel
theorem dX12_turns_179 : decode cX12_turns 179 = .ok (.aload_n 0, 1) := by decide +kernel
theorem dX12_turns_180 : decode cX12_turns 180 = .ok (.getfield 79, 3) := by decide +kernel
theorem dX12_turns_183 : decode cX12_turns 183 = .ok (.iload_n 1, 1) := by decide +kernel
theorem dX12_turns_184 : decode cX12_turns 184 = .ok (.iaload, 1) := by decide +kernel
theorem dX12_turns_185 : decode cX12_turns 185 = .ok (.istore 5, 2) := by decide +kernel
theorem dX12_turns_187 : decode cX12_turns 187 = .ok (.aload_n 0, 1) := by decide +kernel
theorem dX12_turns_188 : decode cX12_turns 188 = .ok (.getfield 79, 3) := by decide +kernel
theorem dX12_turns_191 : decode cX12_turns 191 = .ok (.iload_n 1, 1) := by decide +kernel
theorem dX12_turns_192 : decode cX12_turns 192 = .ok (.aload_n 0, 1) := by decide +kernel
theorem dX12_turns_193 : decode cX12_turns 193 = .ok (.getfield 82, 3) := by decide +kernel
theorem dX12_turns_196 : decode cX12_turns 196 = .ok (.iload_n 2, 1) := by decide +kernel
theorem dX12_turns_197 : decode cX12_turns 197 = .ok (.iaload, 1) := by decide +kernel
theorem dX12_turns_198 : decode cX12_turns 198 = .ok (.iastore, 1) := by decide +kernel
theorem dX12_turns_199 : decode cX12_turns 199 = .ok (.aload_n 0, 1) := by decide +kernel
theorem dX12_turns_200 : decode cX12_turns 200 = .ok (.getfield 82, 3) := by decide +kernel
theorem dX12_turns_203 : decode cX12_turns 203 = .ok (.iload_n 2, 1) := by decide +kernel
theorem dX12_turns_204 : decode cX12_turns 204 = .ok (.iload 5, 2) := by decide +kernel
theorem dX12_turns_206 : decode cX12_turns 206 = .ok (.iastore, 1) := by decide +kernel
theorem dX12_turns_207 : decode cX12_turns 207 = .ok (.return_, 1) := by decide +kernel
theorem dX12_aim_0 : decode cX12_aim 0 = .ok (.bipush 6, 2) := by decide +kernel
theorem dX12_aim_2 : decode cX12_aim 2 = .ok (.aload_n 0, 1) := by decide +kernel
theorem dX12_aim_3 : decode cX12_aim 3 = .ok (.getfield 361, 3) := by decide +kernel
theorem dX12_aim_6 : decode cX12_aim 6 = .ok (.aload_n 0, 1) := by decide +kernel
theorem dX12_aim_7 : decode cX12_aim 7 = .ok (.getfield 367, 3) := by decide +kernel
theorem dX12_aim_10 : decode cX12_aim 10 = .ok (.iadd, 1) := by decide +kernel
theorem dX12_aim_11 : decode cX12_aim 11 = .ok (.imul, 1) := by decide +kernel
theorem dX12_aim_12 : decode cX12_aim 12 = .ok (.istore_n 3, 1) := by decide +kernel
theorem dX12_aim_13 : decode cX12_aim 13 = .ok (.iconst 0, 1) := by decide +kernel
theorem dX12_aim_14 : decode cX12_aim 14 = .ok (.istore 4, 2) := by decide +kernel
theorem dX12_aim_16 : decode cX12_aim 16 = .ok (.iload 4, 2) := by decide +kernel
theorem dX12_aim_18 : decode cX12_aim 18 = .ok (.aload_n 0, 1) := by decide +kernel
theorem dX12_aim_19 : decode cX12_aim 19 = .ok (.getfield 358, 3) := by decide +kernel
theorem dX12_aim_22 : decode cX12_aim 22 = .ok (.if_icmp .ge 36, 3) := by decide +kernel
theorem dX12_aim_25 : decode cX12_aim 25 = .ok (.aload_n 0, 1) := by decide +kernel
theorem dX12_aim_26 : decode cX12_aim 26 = .ok (.getfield 73, 3) := by decide +kernel
theorem dX12_aim_29 : decode cX12_aim 29 = .ok (.iload_n 3, 1) := by decide +kernel
theorem dX12_aim_30 : decode cX12_aim 30 = .ok (.iload 4, 2) := by decide +kernel
theorem dX12_aim_32 : decode cX12_aim 32 = .ok (.iadd, 1) := by decide +kernel
theorem dX12_aim_33 : decode cX12_aim 33 = .ok (.iload_n 1, 1) := by decide +kernel
theorem dX12_aim_34 : decode cX12_aim 34 = .ok (.iconst (-1), 1) := by decide +kernel
theorem dX12_aim_35 : decode cX12_aim 35 = .ok (.if_icmp .eq 9, 3) := by decide +kernel
theorem dX12_aim_38 : decode cX12_aim 38 = .ok (.iload_n 1, 1) := by decide +kernel
theorem dX12_aim_39 : decode cX12_aim 39 = .ok (.iload 4, 2) := by decide +kernel
theorem dX12_aim_41 : decode cX12_aim 41 = .ok (.if_icmp .ne 9, 3) := by decide +kernel
theorem dX12_aim_44 : decode cX12_aim 44 = .ok (.iload_n 2, 1) := by decide +kernel
theorem dX12_aim_45 : decode cX12_aim 45 = .ok (.ineg, 1) := by decide +kernel
theorem dX12_aim_46 : decode cX12_aim 46 = .ok (.i2l, 1) := by decide +kernel
theorem dX12_aim_47 : decode cX12_aim 47 = .ok (.goto 4, 3) := by decide +kernel
theorem dX12_aim_50 : decode cX12_aim 50 = .ok (.lconst 0, 1) := by decide +kernel
theorem dX12_aim_51 : decode cX12_aim 51 = .ok (.lastore, 1) := by decide +kernel
theorem dX12_aim_52 : decode cX12_aim 52 = .ok (.iinc 4 1, 3) := by decide +kernel
theorem dX12_aim_55 : decode cX12_aim 55 = .ok (.goto (-39), 3) := by decide +kernel
theorem dX12_aim_58 : decode cX12_aim 58 = .ok (.aload_n 0, 1) := by decide +kernel
theorem dX12_aim_59 : decode cX12_aim 59 = .ok (.getfield 73, 3) := by decide +kernel
theorem dX12_aim_62 : decode cX12_aim 62 = .ok (.iload_n 3, 1) := by decide +kernel
theorem dX12_aim_63 : decode cX12_aim 63 = .ok (.iconst 5, 1) := by decide +kernel
theorem dX12_aim_64 : decode cX12_aim 64 = .ok (.iadd, 1) := by decide +kernel
theorem dX12_aim_65 : decode cX12_aim 65 = .ok (.lconst 0, 1) := by decide +kernel
theorem dX12_aim_66 : decode cX12_aim 66 = .ok (.lastore, 1) := by decide +kernel
theorem dX12_aim_67 : decode cX12_aim 67 = .ok (.aload_n 0, 1) := by decide +kernel
theorem dX12_aim_68 : decode cX12_aim 68 = .ok (.dup, 1) := by decide +kernel
theorem dX12_aim_69 : decode cX12_aim 69 = .ok (.getfield 367, 3) := by decide +kernel
theorem dX12_aim_72 : decode cX12_aim 72 = .ok (.iconst 1, 1) := by decide +kernel
theorem dX12_aim_73 : decode cX12_aim 73 = .ok (.iadd, 1) := by decide +kernel
theorem dX12_aim_74 : decode cX12_aim 74 = .ok (.putfield 367, 3) := by decide +kernel
theorem dX12_aim_77 : decode cX12_aim 77 = .ok (.return_, 1) := by decide +kernel
theorem dX12_solve_0 : decode cX12_solve 0 = .ok (.iconst 0, 1) := by decide +kernel
theorem dX12_solve_1 : decode cX12_solve 1 = .ok (.istore_n 1, 1) := by decide +kernel
theorem dX12_solve_2 : decode cX12_solve 2 = .ok (.iload_n 1, 1) := by decide +kernel
theorem dX12_solve_3 : decode cX12_solve 3 = .ok (.aload_n 0, 1) := by decide +kernel
theorem dX12_solve_4 : decode cX12_solve 4 = .ok (.getfield 367, 3) := by decide +kernel
theorem dX12_solve_7 : decode cX12_solve 7 = .ok (.if_icmp .ge 96, 3) := by decide +kernel
theorem dX12_solve_10 : decode cX12_solve 10 = .ok (.aload_n 0, 1) := by decide +kernel
theorem dX12_solve_11 : decode cX12_solve 11 = .ok (.iload_n 1, 1) := by decide +kernel
theorem dX12_solve_12 : decode cX12_solve 12 = .ok (.invokevirtual 374, 3) := by decide +kernel
theorem dX12_solve_15 : decode cX12_solve 15 = .ok (.istore_n 2, 1) := by decide +kernel
theorem dX12_solve_16 : decode cX12_solve 16 = .ok (.iload_n 2, 1) := by decide +kernel
theorem dX12_solve_17 : decode cX12_solve 17 = .ok (.iconst (-1), 1) := by decide +kernel
theorem dX12_solve_18 : decode cX12_solve 18 = .ok (.if_icmp .eq 22, 3) := by decide +kernel
theorem dX12_solve_21 : decode cX12_solve 21 = .ok (.aload_n 0, 1) := by decide +kernel
theorem dX12_solve_22 : decode cX12_solve 22 = .ok (.aload_n 0, 1) := by decide +kernel
theorem dX12_solve_23 : decode cX12_solve 23 = .ok (.iload_n 2, 1) := by decide +kernel
theorem dX12_solve_24 : decode cX12_solve 24 = .ok (.invokevirtual 377, 3) := by decide +kernel
theorem dX12_solve_27 : decode cX12_solve 27 = .ok (.iload_n 2, 1) := by decide +kernel
theorem dX12_solve_28 : decode cX12_solve 28 = .ok (.invokevirtual 380, 3) := by decide +kernel
theorem dX12_solve_31 : decode cX12_solve 31 = .ok (.aload_n 0, 1) := by decide +kernel
theorem dX12_solve_32 : decode cX12_solve 32 = .ok (.iload_n 1, 1) := by decide +kernel
theorem dX12_solve_33 : decode cX12_solve 33 = .ok (.invokevirtual 374, 3) := by decide +kernel
theorem dX12_solve_36 : decode cX12_solve 36 = .ok (.istore_n 2, 1) := by decide +kernel
theorem dX12_solve_37 : decode cX12_solve 37 = .ok (.goto (-21), 3) := by decide +kernel
theorem dX12_solve_40 : decode cX12_solve 40 = .ok (.iconst 0, 1) := by decide +kernel
theorem dX12_solve_41 : decode cX12_solve 41 = .ok (.istore_n 3, 1) := by decide +kernel
theorem dX12_solve_42 : decode cX12_solve 42 = .ok (.iload_n 3, 1) := by decide +kernel
theorem dX12_solve_43 : decode cX12_solve 43 = .ok (.aload_n 0, 1) := by decide +kernel
theorem dX12_solve_44 : decode cX12_solve 44 = .ok (.getfield 358, 3) := by decide +kernel
theorem dX12_solve_47 : decode cX12_solve 47 = .ok (.if_icmp .ge 50, 3) := by decide +kernel
theorem dX12_solve_50 : decode cX12_solve 50 = .ok (.aload_n 0, 1) := by decide +kernel
theorem dX12_solve_51 : decode cX12_solve 51 = .ok (.getfield 85, 3) := by decide +kernel
theorem dX12_solve_54 : decode cX12_solve 54 = .ok (.iload_n 3, 1) := by decide +kernel
theorem dX12_solve_55 : decode cX12_solve 55 = .ok (.aload_n 0, 1) := by decide +kernel
theorem dX12_solve_56 : decode cX12_solve 56 = .ok (.getfield 85, 3) := by decide +kernel
theorem dX12_solve_59 : decode cX12_solve 59 = .ok (.iload_n 3, 1) := by decide +kernel
theorem dX12_solve_60 : decode cX12_solve 60 = .ok (.baload, 1) := by decide +kernel
theorem dX12_solve_61 : decode cX12_solve 61 = .ok (.ifCond .ne 24, 3) := by decide +kernel
theorem dX12_solve_64 : decode cX12_solve 64 = .ok (.aload_n 0, 1) := by decide +kernel
theorem dX12_solve_65 : decode cX12_solve 65 = .ok (.getfield 73, 3) := by decide +kernel
theorem dX12_solve_68 : decode cX12_solve 68 = .ok (.bipush 6, 2) := by decide +kernel
theorem dX12_solve_70 : decode cX12_solve 70 = .ok (.aload_n 0, 1) := by decide +kernel
theorem dX12_solve_71 : decode cX12_solve 71 = .ok (.getfield 361, 3) := by decide +kernel
theorem dX12_solve_74 : decode cX12_solve 74 = .ok (.iload_n 1, 1) := by decide +kernel
theorem dX12_solve_75 : decode cX12_solve 75 = .ok (.iadd, 1) := by decide +kernel
theorem dX12_solve_76 : decode cX12_solve 76 = .ok (.imul, 1) := by decide +kernel
theorem dX12_solve_77 : decode cX12_solve 77 = .ok (.iload_n 3, 1) := by decide +kernel
theorem dX12_solve_78 : decode cX12_solve 78 = .ok (.iadd, 1) := by decide +kernel
theorem dX12_solve_79 : decode cX12_solve 79 = .ok (.laload, 1) := by decide +kernel
theorem dX12_solve_80 : decode cX12_solve 80 = .ok (.lconst 0, 1) := by decide +kernel
theorem dX12_solve_81 : decode cX12_solve 81 = .ok (.lcmp, 1) := by decide +kernel
theorem dX12_solve_82 : decode cX12_solve 82 = .ok (.ifCond .le 7, 3) := by decide +kernel
theorem dX12_solve_85 : decode cX12_solve 85 = .ok (.iconst 1, 1) := by decide +kernel
theorem dX12_solve_86 : decode cX12_solve 86 = .ok (.goto 4, 3) := by decide +kernel
theorem dX12_solve_89 : decode cX12_solve 89 = .ok (.iconst 0, 1) := by decide +kernel
theorem dX12_solve_90 : decode cX12_solve 90 = .ok (.bastore, 1) := by decide +kernel
theorem dX12_solve_91 : decode cX12_solve 91 = .ok (.iinc 3 1, 3) := by decide +kernel
theorem dX12_solve_94 : decode cX12_solve 94 = .ok (.goto (-52), 3) := by decide +kernel
theorem dX12_solve_97 : decode cX12_solve 97 = .ok (.iinc 1 1, 3) := by decide +kernel
theorem dX12_solve_100 : decode cX12_solve 100 = .ok (.goto (-98), 3) := by decide +kernel
theorem dX12_solve_103 : decode cX12_solve 103 = .ok (.aload_n 0, 1) := by decide +kernel
theorem dX12_solve_104 : decode cX12_solve 104 = .ok (.getfield 73, 3) := by decide +kernel
theorem dX12_solve_107 : decode cX12_solve 107 = .ok (.bipush 6, 2) := by decide +kernel
theorem dX12_solve_109 : decode cX12_solve 109 = .ok (.aload_n 0, 1) := by decide +kernel
theorem dX12_solve_110 : decode cX12_solve 110 = .ok (.getfield 361, 3) := by decide +kernel
theorem dX12_solve_113 : decode cX12_solve 113 = .ok (.aload_n 0, 1) := by decide +kernel
theorem dX12_solve_114 : decode cX12_solve 114 = .ok (.getfield 367, 3) := by decide +kernel
theorem dX12_solve_117 : decode cX12_solve 117 = .ok (.iadd, 1) := by decide +kernel
theorem dX12_solve_118 : decode cX12_solve 118 = .ok (.iconst 1, 1) := by decide +kernel
theorem dX12_solve_119 : decode cX12_solve 119 = .ok (.isub, 1) := by decide +kernel
theorem dX12_solve_120 : decode cX12_solve 120 = .ok (.imul, 1) := by decide +kernel
theorem dX12_solve_121 : decode cX12_solve 121 = .ok (.iconst 5, 1) := by decide +kernel
theorem dX12_solve_122 : decode cX12_solve 122 = .ok (.iadd, 1) := by decide +kernel
theorem dX12_solve_123 : decode cX12_solve 123 = .ok (.laload, 1) := by decide +kernel
theorem dX12_solve_124 : decode cX12_solve 124 = .ok (.lreturn, 1) := by decide +kernel
theorem s_comesIn {l : Launch} {E : aE} {N : Nat} {S : aS} {M : aM} (hfl : l.stackTraces = false) (m : Int) {w h q9 : Nat} {F : Nat → Nat → Int} {st : sx} {nm : Nat → Int} {Zs : Nat → Nat → Int} {fx : Nat → Bool} (hS : lyM S m) (hR : RTm M m w h F st nm q9 Zs fx) (hP : PBx w h F 1048576) (hw : w ≤ 5) (hh : h ≤ 31) (hq : q9 ≤ 6) (hZ : ∀ q, q < q9 → bdV w (Zs q)) (hO : OKx w h F st) (hnm : ∀ a b : Nat, a < w + h → b < w + h → (nm a < nm b ↔ a < b)) (a9 : Nat) (ha9 : a9 < q9) : aMt l E pX12_comesIn [(2, m), (0, (a9 : Int))] N S M (aR (0, sxE w F (Zs a9) fx st) N S M) := by
  refine a_met hfl rfl (by decide +kernel) (Nat.le_of_ble_eq_true rfl) ?_
  have loop := a_loop1 (fun j => j ≤ w) (fun j => w - j) (fun j => aX l E pX12_comesIn (aR (0, sxE w F (Zs a9) fx st) N S M) 0 0 N S M 4 [(0, (2, m)), (1, (0, (a9 : Int))), (2, (0, entL (fun k => ta w F st (Zs a9) k) fx st.1 j)), (3, (0, (j : Int)))] []) (by
    intro j hI ih
    have hg1 := hR.1.1
    have hg2 := hR.1.2.1
    have hg3 := hR.1.2.2.1
    have hg4 := hR.1.2.2.2
    refine x_iload_n (pc := 4) dX12_comesIn_4 rfl rfl ?_
    refine x_aload_n (pc := 5) dX12_comesIn_5 rfl rfl ?_
    refine x_getIV (jj := 42) (pc := 6) dX12_comesIn_6 fX12_358 hS.1 rfl (by decide) rfl (by (repeat (first | rewrite [up_s] | rewrite [up_i (by omega)] | rewrite [up_a (by omega)] | rewrite [stM_a (by omega) (by omega)])); first | exact hg1 | exact hg2 | exact hR.2.2.2.2 j (by omega) | exact hT9 | exact hR.2.2.2.1 j (by omega) | exact hnb | rfl) ?_
    refine x_icmp_ge (tgt := 70) (pc := 9) dX12_comesIn_9 (by decide) (fun c_9 => ?_) (fun c_9 => ?_)
    · refine x_iload_n (pc := 70) dX12_comesIn_70 rfl rfl ?_
      refine x_ireturn (pc := 71) dX12_comesIn_71 rfl (by decide) ?_
      have e : j = w := by omega
      subst e
      exact ⟨rfl, rfl, rfl, rfl⟩
    · refine x_aload_n (pc := 12) dX12_comesIn_12 rfl rfl ?_
      refine x_getR (jj := 41) (pc := 13) dX12_comesIn_13 fX12_85 hS.1 rfl (by decide) rfl rM_41 ?_
      refine x_iload_n (pc := 16) dX12_comesIn_16 rfl rfl ?_
      refine x_zaloadV (pc := 17) dX12_comesIn_17 (sM_41 hS) (by omega) (by (repeat (first | rewrite [up_s] | rewrite [up_i (by omega)] | rewrite [up_a (by omega)] | rewrite [stM_a (by omega) (by omega)])); first | exact hg1 | exact hg2 | exact hR.2.2.2.2 j (by omega) | exact hT9 | exact hR.2.2.2.1 j (by omega) | exact hnb | rfl) ?_
      refine x_if_ne (tgt := 64) (pc := 18) dX12_comesIn_18 (by decide) (fun c_18 => ?_) (fun c_18 => ?_)
      · refine x_iinc (pc := 64) dX12_comesIn_64 rfl (by omega) (by decide) rfl ?_
        refine x_goto (tgt := 4) (pc := 67) dX12_comesIn_67 (by decide) ?_
        have e : entL (fun k => ta w F st (Zs a9) k) fx st.1 (j + 1) = entL (fun k => ta w F st (Zs a9) k) fx st.1 j := if_neg (fun q => by
          have q := q.1
          rw [q] at c_18
          exact c_18 rfl)
        refine x_lo (lo' := [(0, (2, m)), (1, (0, (a9 : Int))), (2, (0, entL (fun k => ta w F st (Zs a9) k) fx st.1 j)), (3, (0, ((j + 1 : Nat) : Int)))]) ⟨rfl, rfl, rfl, rfl, trivial⟩ ?_
        have z := ih (j + 1) (by omega) (by omega)
        rw [e] at z
        exact z
      · have hT9 : M (m + 20) (6 * ((h : Int) + (a9 : Int)) + (j : Int)) = ta w F st (Zs a9) j := by
          have q := hR.c hw (r := h + a9) (c := j) (by omega) (by omega)
          rw [UM_Z] at q
          rw [← q]
          exact congrArg _ (by omega)
        refine x_aload_n (pc := 21) dX12_comesIn_21 rfl rfl ?_
        refine x_getR (jj := 37) (pc := 22) dX12_comesIn_22 fX12_73 hS.1 rfl (by decide) rfl rM_37 ?_
        refine x_bipush (pc := 25) dX12_comesIn_25 (by decide) ?_
        refine x_aload_n (pc := 27) dX12_comesIn_27 rfl rfl ?_
        refine x_getIV (jj := 43) (pc := 28) dX12_comesIn_28 fX12_361 hS.1 rfl (by decide) rfl (by (repeat (first | rewrite [up_s] | rewrite [up_i (by omega)] | rewrite [up_a (by omega)] | rewrite [stM_a (by omega) (by omega)])); first | exact hg1 | exact hg2 | exact hR.2.2.2.2 j (by omega) | exact hT9 | exact hR.2.2.2.1 j (by omega) | exact hnb | rfl) ?_
        refine x_iload_n (pc := 31) dX12_comesIn_31 rfl rfl ?_
        refine x_iadd (pc := 32) dX12_comesIn_32 (by omega) ?_
        refine x_imul (pc := 33) dX12_comesIn_33 (by omega) ?_
        refine x_iload_n (pc := 34) dX12_comesIn_34 rfl rfl ?_
        refine x_iadd (pc := 35) dX12_comesIn_35 (by omega) ?_
        refine x_laloadV (pc := 36) dX12_comesIn_36 (sM_37 hS) (by omega) (by (repeat (first | rewrite [up_s] | rewrite [up_i (by omega)] | rewrite [up_a (by omega)] | rewrite [stM_a (by omega) (by omega)])); first | exact hg1 | exact hg2 | exact hR.2.2.2.2 j (by omega) | exact hT9 | exact hR.2.2.2.1 j (by omega) | exact hnb | rfl) (fun g_36 => ?_)
        refine x_lconst0 (pc := 37) dX12_comesIn_37 ?_
        refine x_lge (tgt := 64) (pc := 38) dX12_comesIn_38 dX12_comesIn_39 (by decide) (fun c_38 => ?_) (fun c_38 => ?_)
        · refine x_iinc (pc := 64) dX12_comesIn_64 rfl (by omega) (by decide) rfl ?_
          refine x_goto (tgt := 4) (pc := 67) dX12_comesIn_67 (by decide) ?_
          have e : entL (fun k => ta w F st (Zs a9) k) fx st.1 (j + 1) = entL (fun k => ta w F st (Zs a9) k) fx st.1 j := if_neg (fun q => by
            have q : ta w F st (Zs a9) j < 0 := q.2.1
            omega)
          refine x_lo (lo' := [(0, (2, m)), (1, (0, (a9 : Int))), (2, (0, entL (fun k => ta w F st (Zs a9) k) fx st.1 j)), (3, (0, ((j + 1 : Nat) : Int)))]) ⟨rfl, rfl, rfl, rfl, trivial⟩ ?_
          have z := ih (j + 1) (by omega) (by omega)
          rw [e] at z
          exact z
        · refine x_iload_n (pc := 42) dX12_comesIn_42 rfl rfl ?_
          refine x_iconst (pc := 43) dX12_comesIn_43 (by decide) ?_
          refine x_icmp_eq (tgt := 62) (pc := 44) dX12_comesIn_44 (by decide) (fun c_44 => ?_) (fun c_44 => ?_)
          · refine x_iload_n (pc := 62) dX12_comesIn_62 rfl rfl ?_
            refine x_istore_n (pc := 63) dX12_comesIn_63 rfl (by decide) rfl ?_
            refine x_iinc (pc := 64) dX12_comesIn_64 rfl (by omega) (by decide) rfl ?_
            refine x_goto (tgt := 4) (pc := 67) dX12_comesIn_67 (by decide) ?_
            have hf0 : fx j = false := by
              cases hq : fx j
              · rfl
              · rw [hq] at c_18; exact absurd c_18 (by decide)
            have hzn : (fun k => ta w F st (Zs a9) k) j < 0 := by
              show ta w F st (Zs a9) j < 0
              omega
            have e : entL (fun k => ta w F st (Zs a9) k) fx st.1 (j + 1) = (j : Int) := if_pos ⟨hf0, hzn, Or.inl (by assumption)⟩
            refine x_lo (lo' := [(0, (2, m)), (1, (0, (a9 : Int))), (2, (0, (j : Int))), (3, (0, ((j + 1 : Nat) : Int)))]) ⟨rfl, rfl, rfl, rfl, trivial⟩ ?_
            have z := ih (j + 1) (by omega) (by omega)
            rw [e] at z
            exact z
          · have hf0 : fx j = false := by
              cases hq : fx j
              · rfl
              · rw [hq] at c_18; exact absurd c_18 (by decide)
            have hzn : (fun k => ta w F st (Zs a9) k) j < 0 := by
              show ta w F st (Zs a9) j < 0
              omega
            have hsp := entL_sp (z := (fun k => ta w F st (Zs a9) k)) (fx := fx) (ν := st.1) j
            obtain ⟨b9, hb9, eb9⟩ : ∃ b : Nat, b < j ∧ entL (fun k => ta w F st (Zs a9) k) fx st.1 j = (b : Int) := by
              rcases hsp with ⟨q, -⟩ | ⟨b, q1, q2, -⟩
              · exact absurd q c_44
              · exact ⟨b, q1, q2⟩
            clear hsp
            have hnb : M (m + 23) (entL (fun k => ta w F st (Zs a9) k) fx st.1 j) = nm (st.1 b9) := by rw [eb9]; exact hR.2.2.2.1 b9 (by omega)
            have hcm := hnm (st.1 j) (st.1 b9) (hO.2.2.2.1.1 j (by omega)) (hO.2.2.2.1.1 b9 (by omega))
            refine x_aload_n (pc := 47) dX12_comesIn_47 rfl rfl ?_
            refine x_getR (jj := 40) (pc := 48) dX12_comesIn_48 fX12_82 hS.1 rfl (by decide) rfl rM_40 ?_
            refine x_iload_n (pc := 51) dX12_comesIn_51 rfl rfl ?_
            refine x_ialoadV (pc := 52) dX12_comesIn_52 (sM_40 hS) (by omega) (by (repeat (first | rewrite [up_s] | rewrite [up_i (by omega)] | rewrite [up_a (by omega)] | rewrite [stM_a (by omega) (by omega)])); first | exact hg1 | exact hg2 | exact hR.2.2.2.2 j (by omega) | exact hT9 | exact hR.2.2.2.1 j (by omega) | exact hnb | rfl) (fun g_52 => ?_)
            refine x_aload_n (pc := 53) dX12_comesIn_53 rfl rfl ?_
            refine x_getR (jj := 40) (pc := 54) dX12_comesIn_54 fX12_82 hS.1 rfl (by decide) rfl rM_40 ?_
            refine x_iload_n (pc := 57) dX12_comesIn_57 rfl rfl ?_
            refine x_ialoadV (pc := 58) dX12_comesIn_58 (sM_40 hS) (by omega) (by (repeat (first | rewrite [up_s] | rewrite [up_i (by omega)] | rewrite [up_a (by omega)] | rewrite [stM_a (by omega) (by omega)])); first | exact hg1 | exact hg2 | exact hR.2.2.2.2 j (by omega) | exact hT9 | exact hR.2.2.2.1 j (by omega) | exact hnb | rfl) (fun g_58 => ?_)
            refine x_icmp_ge (tgt := 64) (pc := 59) dX12_comesIn_59 (by decide) (fun c_59 => ?_) (fun c_59 => ?_)
            · refine x_iinc (pc := 64) dX12_comesIn_64 rfl (by omega) (by decide) rfl ?_
              refine x_goto (tgt := 4) (pc := 67) dX12_comesIn_67 (by decide) ?_
              have e : entL (fun k => ta w F st (Zs a9) k) fx st.1 (j + 1) = entL (fun k => ta w F st (Zs a9) k) fx st.1 j := if_neg (fun q => by
                rcases q.2.2 with q | q
                · omega
                · rw [eb9] at q
                  have q : st.1 j < st.1 b9 := q
                  omega)
              refine x_lo (lo' := [(0, (2, m)), (1, (0, (a9 : Int))), (2, (0, entL (fun k => ta w F st (Zs a9) k) fx st.1 j)), (3, (0, ((j + 1 : Nat) : Int)))]) ⟨rfl, rfl, rfl, rfl, trivial⟩ ?_
              have z := ih (j + 1) (by omega) (by omega)
              rw [e] at z
              exact z
            · refine x_iload_n (pc := 62) dX12_comesIn_62 rfl rfl ?_
              refine x_istore_n (pc := 63) dX12_comesIn_63 rfl (by decide) rfl ?_
              refine x_iinc (pc := 64) dX12_comesIn_64 rfl (by omega) (by decide) rfl ?_
              refine x_goto (tgt := 4) (pc := 67) dX12_comesIn_67 (by decide) ?_
              have e : entL (fun k => ta w F st (Zs a9) k) fx st.1 (j + 1) = (j : Int) := if_pos ⟨hf0, hzn, Or.inr (by rw [eb9]; show st.1 j < st.1 b9; omega)⟩
              refine x_lo (lo' := [(0, (2, m)), (1, (0, (a9 : Int))), (2, (0, (j : Int))), (3, (0, ((j + 1 : Nat) : Int)))]) ⟨rfl, rfl, rfl, rfl, trivial⟩ ?_
              have z := ih (j + 1) (by omega) (by omega)
              rw [e] at z
              exact z)
  refine x_iconst (pc := 0) dX12_comesIn_0 (by decide) ?_
  refine x_istore_n (pc := 1) dX12_comesIn_1 rfl (by decide) rfl ?_
  refine x_iconst (pc := 2) dX12_comesIn_2 (by decide) ?_
  refine x_istore_n (pc := 3) dX12_comesIn_3 rfl (by decide) rfl ?_
  exact x_lo (lo' := [(0, (2, m)), (1, (0, (a9 : Int))), (2, (0, entL (fun k => ta w F st (Zs a9) k) fx st.1 0)), (3, (0, ((0 : Nat) : Int)))]) ⟨rfl, rfl, rfl, rfl, trivial⟩ (loop 0 (by omega))
theorem s_goesOut {l : Launch} {E : aE} {N : Nat} {S : aS} {M : aM} (hfl : l.stackTraces = false) (m : Int) {w h q9 : Nat} {F : Nat → Nat → Int} {st : sx} {nm : Nat → Int} {Zs : Nat → Nat → Int} {fx : Nat → Bool} (hS : lyM S m) (hR : RTm M m w h F st nm q9 Zs fx) (hP : PBx w h F 1048576) (hw : w ≤ 5) (hh : h ≤ 31) (hq : q9 ≤ 6) (hZ : ∀ q, q < q9 → bdV w (Zs q)) (hO : OKx w h F st) (hnm : ∀ a b : Nat, a < w + h → b < w + h → (nm a < nm b ↔ a < b)) (c : Nat) (hc : c < w) : aMt l E pX12_goesOut [(2, m), (0, (c : Int))] N S M (aR (0, sxL w h F st c) N S M) := by
  refine a_met hfl rfl (by decide +kernel) (Nat.le_of_ble_eq_true rfl) ?_
  have loop := a_loop1 (fun i => i ≤ h) (fun i => h - i) (fun i => aX l E pX12_goesOut (aR (0, sxL w h F st c) N S M) 0 0 N S M 4 [(0, (2, m)), (1, (0, (c : Int))), (2, (0, leaL (fun i k => ta w F st (F (st.2.1 i)) k) st.2.1 w c i)), (3, (0, (i : Int)))] []) (by
    intro i hI ih
    have hg1 := hR.1.1
    have hg2 := hR.1.2.1
    have hg3 := hR.1.2.2.1
    have hg4 := hR.1.2.2.2
    refine x_iload_n (pc := 4) dX12_goesOut_4 rfl rfl ?_
    refine x_aload_n (pc := 5) dX12_goesOut_5 rfl rfl ?_
    refine x_getIV (jj := 43) (pc := 6) dX12_goesOut_6 fX12_361 hS.1 rfl (by decide) rfl (by (repeat (first | rewrite [up_s] | rewrite [up_i (by omega)] | rewrite [up_a (by omega)] | rewrite [stM_a (by omega) (by omega)])); first | exact hg1 | exact hg2 | exact hic | exact hi5 | exact hbc | exact hbw | exact hR.2.2.1 i (by omega) | exact hbn | rfl) ?_
    refine x_icmp_ge (tgt := 125) (pc := 9) dX12_goesOut_9 (by decide) (fun c_9 => ?_) (fun c_9 => ?_)
    · refine x_iload_n (pc := 125) dX12_goesOut_125 rfl rfl ?_
      refine x_ireturn (pc := 126) dX12_goesOut_126 rfl (by decide) ?_
      have e : i = h := by omega
      subst e
      exact ⟨rfl, rfl, rfl, rfl⟩
    · have hic : M (m + 20) (6 * (i : Int) + (c : Int)) = ta w F st (F (st.2.1 i)) c := by
        have q := hR.c hw (r := i) (c := c) (by omega) hc
        rwa [UM_F (by omega)] at q
      have hi5 : M (m + 20) (6 * (i : Int) + 5) = ta w F st (F (st.2.1 i)) w := by
        have q := hR.k (r := i) (by omega)
        rwa [UM_F (by omega)] at q
      refine x_aload_n (pc := 12) dX12_goesOut_12 rfl rfl ?_
      refine x_getR (jj := 37) (pc := 13) dX12_goesOut_13 fX12_73 hS.1 rfl (by decide) rfl rM_37 ?_
      refine x_bipush (pc := 16) dX12_goesOut_16 (by decide) ?_
      refine x_iload_n (pc := 18) dX12_goesOut_18 rfl rfl ?_
      refine x_imul (pc := 19) dX12_goesOut_19 (by omega) ?_
      refine x_iload_n (pc := 20) dX12_goesOut_20 rfl rfl ?_
      refine x_iadd (pc := 21) dX12_goesOut_21 (by omega) ?_
      refine x_laloadV (pc := 22) dX12_goesOut_22 (sM_37 hS) (by omega) (by (repeat (first | rewrite [up_s] | rewrite [up_i (by omega)] | rewrite [up_a (by omega)] | rewrite [stM_a (by omega) (by omega)])); first | exact hg1 | exact hg2 | exact hic | exact hi5 | exact hbc | exact hbw | exact hR.2.2.1 i (by omega) | exact hbn | rfl) (fun g_22 => ?_)
      refine x_lstore (pc := 23) dX12_goesOut_23 (by decide) rfl ?_
      refine x_lload (pc := 25) dX12_goesOut_25 rfl ?_
      refine x_lconst0 (pc := 27) dX12_goesOut_27 ?_
      refine x_lgt (tgt := 35) (pc := 28) dX12_goesOut_28 dX12_goesOut_29 (by decide) (fun c_28 => ?_) (fun c_28 => ?_)
      · refine x_iload_n (pc := 35) dX12_goesOut_35 rfl rfl ?_
        refine x_iconst (pc := 36) dX12_goesOut_36 (by decide) ?_
        refine x_icmp_ne (tgt := 45) (pc := 37) dX12_goesOut_37 (by decide) (fun c_37 => ?_) (fun c_37 => ?_)
        · have hvp : 0 < (fun i k => ta w F st (F (st.2.1 i)) k) i c := by
            show 0 < ta w F st (F (st.2.1 i)) c
            omega
          have hsp := leaL_sp (T := (fun i k => ta w F st (F (st.2.1 i)) k)) (ρ := st.2.1) (w := w) (c := c) i
          obtain ⟨b9, hb9, eb9⟩ : ∃ b : Nat, b < i ∧ leaL (fun i k => ta w F st (F (st.2.1 i)) k) st.2.1 w c i = (b : Int) := by
            rcases hsp with ⟨q, -⟩ | ⟨b, q1, q2, -⟩
            · exact absurd q c_37
            · exact ⟨b, q1, q2⟩
          clear hsp
          have hbc : M (m + 20) (6 * (leaL (fun i k => ta w F st (F (st.2.1 i)) k) st.2.1 w c i) + (c : Int)) = ta w F st (F (st.2.1 b9)) c := by
            have q := hR.c hw (r := b9) (c := c) (by omega) hc
            rw [UM_F (by omega)] at q
            rw [eb9]; exact q
          have hbw : M (m + 20) (6 * (leaL (fun i k => ta w F st (F (st.2.1 i)) k) st.2.1 w c i) + 5) = ta w F st (F (st.2.1 b9)) w := by
            have q := hR.k (r := b9) (by omega)
            rw [UM_F (by omega)] at q
            rw [eb9]; exact q
          have hbn : M (m + 22) (leaL (fun i k => ta w F st (F (st.2.1 i)) k) st.2.1 w c i) = nm (st.2.1 b9) := by rw [eb9]; exact hR.2.2.1 b9 (by omega)
          have hcm := hnm (st.2.1 i) (st.2.1 b9) (hO.2.2.2.1.2.1 i (by omega)) (hO.2.2.2.1.2.1 b9 (by omega))
          have m1 := mul_bd (RTc.bd hP hw hO (i := i) (k := w) (by omega) (by omega)) (RTc.bd hP hw hO (i := b9) (k := c) (by omega) (by omega))
          have m2 := mul_bd (RTc.bd hP hw hO (i := b9) (k := w) (by omega) (by omega)) (RTc.bd hP hw hO (i := i) (k := c) (by omega) (by omega))
          refine x_aload_n (pc := 45) dX12_goesOut_45 rfl rfl ?_
          refine x_getR (jj := 37) (pc := 46) dX12_goesOut_46 fX12_73 hS.1 rfl (by decide) rfl rM_37 ?_
          refine x_bipush (pc := 49) dX12_goesOut_49 (by decide) ?_
          refine x_iload_n (pc := 51) dX12_goesOut_51 rfl rfl ?_
          refine x_imul (pc := 52) dX12_goesOut_52 (by omega) ?_
          refine x_iconst (pc := 53) dX12_goesOut_53 (by decide) ?_
          refine x_iadd (pc := 54) dX12_goesOut_54 (by omega) ?_
          refine x_laloadV (pc := 55) dX12_goesOut_55 (sM_37 hS) (by omega) (by (repeat (first | rewrite [up_s] | rewrite [up_i (by omega)] | rewrite [up_a (by omega)] | rewrite [stM_a (by omega) (by omega)])); first | exact hg1 | exact hg2 | exact hic | exact hi5 | exact hbc | exact hbw | exact hR.2.2.1 i (by omega) | exact hbn | rfl) (fun g_55 => ?_)
          refine x_aload_n (pc := 56) dX12_goesOut_56 rfl rfl ?_
          refine x_getR (jj := 37) (pc := 57) dX12_goesOut_57 fX12_73 hS.1 rfl (by decide) rfl rM_37 ?_
          refine x_bipush (pc := 60) dX12_goesOut_60 (by decide) ?_
          refine x_iload_n (pc := 62) dX12_goesOut_62 rfl rfl ?_
          refine x_imul (pc := 63) dX12_goesOut_63 (by omega) ?_
          refine x_iload_n (pc := 64) dX12_goesOut_64 rfl rfl ?_
          refine x_iadd (pc := 65) dX12_goesOut_65 (by omega) ?_
          refine x_laloadV (pc := 66) dX12_goesOut_66 (sM_37 hS) (by omega) (by (repeat (first | rewrite [up_s] | rewrite [up_i (by omega)] | rewrite [up_a (by omega)] | rewrite [stM_a (by omega) (by omega)])); first | exact hg1 | exact hg2 | exact hic | exact hi5 | exact hbc | exact hbw | exact hR.2.2.1 i (by omega) | exact hbn | rfl) (fun g_66 => ?_)
          refine x_lmul (pc := 67) dX12_goesOut_67 (by omega) ?_
          refine x_lstore (pc := 68) dX12_goesOut_68 (by decide) rfl ?_
          refine x_aload_n (pc := 70) dX12_goesOut_70 rfl rfl ?_
          refine x_getR (jj := 37) (pc := 71) dX12_goesOut_71 fX12_73 hS.1 rfl (by decide) rfl rM_37 ?_
          refine x_bipush (pc := 74) dX12_goesOut_74 (by decide) ?_
          refine x_iload_n (pc := 76) dX12_goesOut_76 rfl rfl ?_
          refine x_imul (pc := 77) dX12_goesOut_77 (by omega) ?_
          refine x_iconst (pc := 78) dX12_goesOut_78 (by decide) ?_
          refine x_iadd (pc := 79) dX12_goesOut_79 (by omega) ?_
          refine x_laloadV (pc := 80) dX12_goesOut_80 (sM_37 hS) (by omega) (by (repeat (first | rewrite [up_s] | rewrite [up_i (by omega)] | rewrite [up_a (by omega)] | rewrite [stM_a (by omega) (by omega)])); first | exact hg1 | exact hg2 | exact hic | exact hi5 | exact hbc | exact hbw | exact hR.2.2.1 i (by omega) | exact hbn | rfl) (fun g_80 => ?_)
          refine x_lload (pc := 81) dX12_goesOut_81 rfl ?_
          refine x_lmul (pc := 83) dX12_goesOut_83 (by omega) ?_
          refine x_lstore (pc := 84) dX12_goesOut_84 (by decide) rfl ?_
          refine x_lload (pc := 86) dX12_goesOut_86 rfl ?_
          refine x_lload (pc := 88) dX12_goesOut_88 rfl ?_
          refine x_llt (tgt := 117) (pc := 90) dX12_goesOut_90 dX12_goesOut_91 (by decide) (fun c_90 => ?_) (fun c_90 => ?_)
          · refine x_iload_n (pc := 117) dX12_goesOut_117 rfl rfl ?_
            refine x_istore_n (pc := 118) dX12_goesOut_118 rfl (by decide) rfl ?_
            refine x_iinc (pc := 119) dX12_goesOut_119 rfl (by omega) (by decide) rfl ?_
            refine x_goto (tgt := 4) (pc := 122) dX12_goesOut_122 (by decide) ?_
            have e : leaL (fun i k => ta w F st (F (st.2.1 i)) k) st.2.1 w c (i + 1) = (i : Int) := if_pos ⟨hvp, Or.inr (by rw [eb9]; exact Or.inl (by show ta w F st (F (st.2.1 i)) w * ta w F st (F (st.2.1 b9)) c < ta w F st (F (st.2.1 b9)) w * ta w F st (F (st.2.1 i)) c; omega))⟩
            refine x_lo (lo' := [(0, (2, m)), (1, (0, (c : Int))), (2, (0, (i : Int))), (3, (0, ((i + 1 : Nat) : Int)))]) ⟨rfl, rfl, rfl, rfl, trivial⟩ ?_
            have z := ih (i + 1) (by omega) (by omega)
            rw [e] at z
            exact z
          · refine x_lload (pc := 94) dX12_goesOut_94 rfl ?_
            refine x_lload (pc := 96) dX12_goesOut_96 rfl ?_
            refine x_lne (tgt := 119) (pc := 98) dX12_goesOut_98 dX12_goesOut_99 (by decide) (fun c_98 => ?_) (fun c_98 => ?_)
            · refine x_iinc (pc := 119) dX12_goesOut_119 rfl (by omega) (by decide) rfl ?_
              refine x_goto (tgt := 4) (pc := 122) dX12_goesOut_122 (by decide) ?_
              have e : leaL (fun i k => ta w F st (F (st.2.1 i)) k) st.2.1 w c (i + 1) = leaL (fun i k => ta w F st (F (st.2.1 i)) k) st.2.1 w c i := if_neg (fun q => by
                have q : ta w F st (F (st.2.1 i)) w * ta w F st (F (st.2.1 b9)) c < ta w F st (F (st.2.1 b9)) w * ta w F st (F (st.2.1 i)) c ∨ (ta w F st (F (st.2.1 i)) w * ta w F st (F (st.2.1 b9)) c = ta w F st (F (st.2.1 b9)) w * ta w F st (F (st.2.1 i)) c ∧ st.2.1 i < st.2.1 b9) := by
                  rcases q.2 with q | q
                  · omega
                  · rw [eb9] at q; exact q
                omega)
              refine x_lo (lo' := [(0, (2, m)), (1, (0, (c : Int))), (2, (0, leaL (fun i k => ta w F st (F (st.2.1 i)) k) st.2.1 w c i)), (3, (0, ((i + 1 : Nat) : Int)))]) ⟨rfl, rfl, rfl, rfl, trivial⟩ ?_
              have z := ih (i + 1) (by omega) (by omega)
              rw [e] at z
              exact z
            · refine x_aload_n (pc := 102) dX12_goesOut_102 rfl rfl ?_
              refine x_getR (jj := 39) (pc := 103) dX12_goesOut_103 fX12_79 hS.1 rfl (by decide) rfl rM_39 ?_
              refine x_iload_n (pc := 106) dX12_goesOut_106 rfl rfl ?_
              refine x_ialoadV (pc := 107) dX12_goesOut_107 (sM_39 hS) (by omega) (by (repeat (first | rewrite [up_s] | rewrite [up_i (by omega)] | rewrite [up_a (by omega)] | rewrite [stM_a (by omega) (by omega)])); first | exact hg1 | exact hg2 | exact hic | exact hi5 | exact hbc | exact hbw | exact hR.2.2.1 i (by omega) | exact hbn | rfl) (fun g_107 => ?_)
              refine x_aload_n (pc := 108) dX12_goesOut_108 rfl rfl ?_
              refine x_getR (jj := 39) (pc := 109) dX12_goesOut_109 fX12_79 hS.1 rfl (by decide) rfl rM_39 ?_
              refine x_iload_n (pc := 112) dX12_goesOut_112 rfl rfl ?_
              refine x_ialoadV (pc := 113) dX12_goesOut_113 (sM_39 hS) (by omega) (by (repeat (first | rewrite [up_s] | rewrite [up_i (by omega)] | rewrite [up_a (by omega)] | rewrite [stM_a (by omega) (by omega)])); first | exact hg1 | exact hg2 | exact hic | exact hi5 | exact hbc | exact hbw | exact hR.2.2.1 i (by omega) | exact hbn | rfl) (fun g_113 => ?_)
              refine x_icmp_ge (tgt := 119) (pc := 114) dX12_goesOut_114 (by decide) (fun c_114 => ?_) (fun c_114 => ?_)
              · refine x_iinc (pc := 119) dX12_goesOut_119 rfl (by omega) (by decide) rfl ?_
                refine x_goto (tgt := 4) (pc := 122) dX12_goesOut_122 (by decide) ?_
                have e : leaL (fun i k => ta w F st (F (st.2.1 i)) k) st.2.1 w c (i + 1) = leaL (fun i k => ta w F st (F (st.2.1 i)) k) st.2.1 w c i := if_neg (fun q => by
                  have q : ta w F st (F (st.2.1 i)) w * ta w F st (F (st.2.1 b9)) c < ta w F st (F (st.2.1 b9)) w * ta w F st (F (st.2.1 i)) c ∨ (ta w F st (F (st.2.1 i)) w * ta w F st (F (st.2.1 b9)) c = ta w F st (F (st.2.1 b9)) w * ta w F st (F (st.2.1 i)) c ∧ st.2.1 i < st.2.1 b9) := by
                    rcases q.2 with q | q
                    · omega
                    · rw [eb9] at q; exact q
                  omega)
                refine x_lo (lo' := [(0, (2, m)), (1, (0, (c : Int))), (2, (0, leaL (fun i k => ta w F st (F (st.2.1 i)) k) st.2.1 w c i)), (3, (0, ((i + 1 : Nat) : Int)))]) ⟨rfl, rfl, rfl, rfl, trivial⟩ ?_
                have z := ih (i + 1) (by omega) (by omega)
                rw [e] at z
                exact z
              · refine x_iload_n (pc := 117) dX12_goesOut_117 rfl rfl ?_
                refine x_istore_n (pc := 118) dX12_goesOut_118 rfl (by decide) rfl ?_
                refine x_iinc (pc := 119) dX12_goesOut_119 rfl (by omega) (by decide) rfl ?_
                refine x_goto (tgt := 4) (pc := 122) dX12_goesOut_122 (by decide) ?_
                have e : leaL (fun i k => ta w F st (F (st.2.1 i)) k) st.2.1 w c (i + 1) = (i : Int) := if_pos ⟨hvp, Or.inr (by rw [eb9]; exact Or.inr ⟨by show ta w F st (F (st.2.1 i)) w * ta w F st (F (st.2.1 b9)) c = ta w F st (F (st.2.1 b9)) w * ta w F st (F (st.2.1 i)) c; omega, by show st.2.1 i < st.2.1 b9; omega⟩)⟩
                refine x_lo (lo' := [(0, (2, m)), (1, (0, (c : Int))), (2, (0, (i : Int))), (3, (0, ((i + 1 : Nat) : Int)))]) ⟨rfl, rfl, rfl, rfl, trivial⟩ ?_
                have z := ih (i + 1) (by omega) (by omega)
                rw [e] at z
                exact z
        · refine x_iload_n (pc := 40) dX12_goesOut_40 rfl rfl ?_
          refine x_istore_n (pc := 41) dX12_goesOut_41 rfl (by decide) rfl ?_
          refine x_goto (tgt := 119) (pc := 42) dX12_goesOut_42 (by decide) ?_
          refine x_iinc (pc := 119) dX12_goesOut_119 rfl (by omega) (by decide) rfl ?_
          refine x_goto (tgt := 4) (pc := 122) dX12_goesOut_122 (by decide) ?_
          have hvp : 0 < (fun i k => ta w F st (F (st.2.1 i)) k) i c := by
            show 0 < ta w F st (F (st.2.1 i)) c
            omega
          have e : leaL (fun i k => ta w F st (F (st.2.1 i)) k) st.2.1 w c (i + 1) = (i : Int) := if_pos ⟨hvp, Or.inl (by assumption)⟩
          refine x_lo (lo' := [(0, (2, m)), (1, (0, (c : Int))), (2, (0, (i : Int))), (3, (0, ((i + 1 : Nat) : Int)))]) ⟨rfl, rfl, rfl, rfl, trivial⟩ ?_
          have z := ih (i + 1) (by omega) (by omega)
          rw [e] at z
          exact z
      · refine x_goto (tgt := 119) (pc := 32) dX12_goesOut_32 (by decide) ?_
        refine x_iinc (pc := 119) dX12_goesOut_119 rfl (by omega) (by decide) rfl ?_
        refine x_goto (tgt := 4) (pc := 122) dX12_goesOut_122 (by decide) ?_
        have e : leaL (fun i k => ta w F st (F (st.2.1 i)) k) st.2.1 w c (i + 1) = leaL (fun i k => ta w F st (F (st.2.1 i)) k) st.2.1 w c i := if_neg (fun q => by
          have q : 0 < ta w F st (F (st.2.1 i)) c := q.1
          omega)
        refine x_lo (lo' := [(0, (2, m)), (1, (0, (c : Int))), (2, (0, leaL (fun i k => ta w F st (F (st.2.1 i)) k) st.2.1 w c i)), (3, (0, ((i + 1 : Nat) : Int)))]) ⟨rfl, rfl, rfl, rfl, trivial⟩ ?_
        have z := ih (i + 1) (by omega) (by omega)
        rw [e] at z
        exact z)
  refine x_iconst (pc := 0) dX12_goesOut_0 (by decide) ?_
  refine x_istore_n (pc := 1) dX12_goesOut_1 rfl (by decide) rfl ?_
  refine x_iconst (pc := 2) dX12_goesOut_2 (by decide) ?_
  refine x_istore_n (pc := 3) dX12_goesOut_3 rfl (by decide) rfl ?_
  exact x_lo (lo' := [(0, (2, m)), (1, (0, (c : Int))), (2, (0, leaL (fun i k => ta w F st (F (st.2.1 i)) k) st.2.1 w c 0)), (3, (0, ((0 : Nat) : Int)))]) ⟨rfl, rfl, rfl, rfl, trivial⟩ (loop 0 (by omega))
theorem s_turns {l : Launch} {E : aE} {N : Nat} {S : aS} {M : aM} (hfl : l.stackTraces = false) (m : Int) {w h q9 : Nat} {F : Nat → Nat → Int} {st : sx} {nm : Nat → Int} {Zs : Nat → Nat → Int} {fx : Nat → Bool} (hS : lyM S m) (hR : RTm M m w h F st nm q9 Zs fx) (hP : PBx w h F 1048576) (hw : w ≤ 5) (hh : h ≤ 31) (hq : q9 ≤ 6) (hZ : ∀ q, q < q9 → bdV w (Zs q)) (hO : OKx w h F st) (hnm : ∀ a b : Nat, a < w + h → b < w + h → (nm a < nm b ↔ a < b)) (r j : Nat) (hr : r < h) (hj : j < w) (hp : 0 < ta w F st (F (st.2.1 r)) j) (hO2 : OKx w h F (piv st r j)) : aMt l E pX12_turns [(2, m), (0, (r : Int)), (0, (j : Int))] N S M (aU N S (fun M' => RTm M' m w h F (piv st r j) nm q9 Zs fx ∧ frT M M' m)) := by
  refine a_met hfl rfl (by decide +kernel) (Nat.le_of_ble_eq_true rfl) ?_
  have hg1 := hR.1.1
  have hg2 := hR.1.2.1
  have hg3 := hR.1.2.2.1
  have hg4 := hR.1.2.2.2
  have hbo := RTc.bdo hP hw hO
  have hrj : M (m + 20) (6 * (r : Int) + (j : Int)) = ta w F st (F (st.2.1 r)) j := by
    have q := hR.c hw (r := r) (c := j) (by omega) hj
    rwa [UM_F hr] at q
  have lpA := a_loop2 (α := Nat) (β := aM) (fun i M1 => i ≤ h + q9 ∧ (∀ a x : Int, ¬ (a = m + 20 ∧ 0 ≤ x ∧ ¬ (6 * r ≤ x ∧ x < 6 * r + 6)) → M1 a x = M a x) ∧ ∀ i1 c : Nat, i1 < h + q9 → i1 ≠ r → (c < w ∨ c = 5) → M1 (m + 20) (6 * i1 + c) = if i1 < i then ta w F (piv st r j) (UM h F st Zs i1) (cw w c) else ta w F st (UM h F st Zs i1) (cw w c)) (fun i M1 => h + q9 - i) (fun i M1 => aX l E pX12_turns (aU N S (fun M' => RTm M' m w h F (piv st r j) nm q9 Zs fx ∧ frT M M' m)) 0 0 N S M1 15 [(0, (2, m)), (1, (0, (r : Int))), (2, (0, (j : Int))), (3, (1, ta w F st (F (st.2.1 r)) j)), (5, (0, (i : Int)))] []) (by
    intro i M1 hI ih
    obtain ⟨k1, k2, k3⟩ := hI
    refine x_iload (pc := 15) dX12_turns_15 rfl ?_
    refine x_aload_n (pc := 17) dX12_turns_17 rfl rfl ?_
    refine x_getIV (jj := 43) (pc := 18) dX12_turns_18 fX12_361 hS.1 rfl (by decide) rfl (by (repeat (first | rewrite [up_s] | rewrite [up_i (by omega)] | rewrite [up_a (by omega)] | rewrite [stM_a (by omega) (by omega)])); first | exact (k2 _ _ (by omega)).trans hg1 | exact (k2 _ _ (by omega)).trans hg2 | exact (k2 _ _ (by omega)).trans hg3 | exact (k2 _ _ (by omega)).trans hg4 | exact hij | exact hnr | exact hnj | rfl) ?_
    refine x_aload_n (pc := 21) dX12_turns_21 rfl rfl ?_
    refine x_getIV (jj := 44) (pc := 22) dX12_turns_22 fX12_367 hS.1 rfl (by decide) rfl (by (repeat (first | rewrite [up_s] | rewrite [up_i (by omega)] | rewrite [up_a (by omega)] | rewrite [stM_a (by omega) (by omega)])); first | exact (k2 _ _ (by omega)).trans hg1 | exact (k2 _ _ (by omega)).trans hg2 | exact (k2 _ _ (by omega)).trans hg3 | exact (k2 _ _ (by omega)).trans hg4 | exact hij | exact hnr | exact hnj | rfl) ?_
    refine x_iadd (pc := 25) dX12_turns_25 (by omega) ?_
    refine x_icmp_ge (tgt := 159) (pc := 26) dX12_turns_26 (by decide) (fun c_26 => ?_) (fun c_26 => ?_)
    · have hnr : M1 (m + 22) r = nm (st.2.1 r) := (k2 _ _ (by omega)).trans (hR.2.2.1 r hr)
      have hnj : M1 (m + 23) j = nm (st.1 j) := (k2 _ _ (by omega)).trans (hR.2.2.2.1 j hj)
      refine x_aload_n (pc := 159) dX12_turns_159 rfl rfl ?_
      refine x_getR (jj := 37) (pc := 160) dX12_turns_160 fX12_73 hS.1 rfl (by decide) rfl rM_37 ?_
      refine x_bipush (pc := 163) dX12_turns_163 (by decide) ?_
      refine x_iload_n (pc := 165) dX12_turns_165 rfl rfl ?_
      refine x_imul (pc := 166) dX12_turns_166 (by omega) ?_
      refine x_iload_n (pc := 167) dX12_turns_167 rfl rfl ?_
      refine x_iadd (pc := 168) dX12_turns_168 (by omega) ?_
      refine x_aload_n (pc := 169) dX12_turns_169 rfl rfl ?_
      refine x_getJV (jj := 45) (pc := 170) dX12_turns_170 fX12_364 hS.1 rfl (by decide) rfl (by (repeat (first | rewrite [up_s] | rewrite [up_i (by omega)] | rewrite [up_a (by omega)] | rewrite [stM_a (by omega) (by omega)])); first | exact (k2 _ _ (by omega)).trans hg1 | exact (k2 _ _ (by omega)).trans hg2 | exact (k2 _ _ (by omega)).trans hg3 | exact (k2 _ _ (by omega)).trans hg4 | exact hij | exact hnr | exact hnj | rfl) ?_
      refine x_lastore (pc := 173) dX12_turns_173 (sM_37 hS) (by omega) ?_
      refine x_aload_n (pc := 174) dX12_turns_174 rfl rfl ?_
      refine x_lload_n (pc := 175) dX12_turns_175 rfl rfl ?_
      refine x_putJ (jj := 45) (pc := 176) dX12_turns_176 fX12_364 hS.1 rfl (by decide) rfl ?_
      refine x_aload_n (pc := 179) dX12_turns_179 rfl rfl ?_
      refine x_getR (jj := 39) (pc := 180) dX12_turns_180 fX12_79 hS.1 rfl (by decide) rfl rM_39 ?_
      refine x_iload_n (pc := 183) dX12_turns_183 rfl rfl ?_
      refine x_ialoadV (pc := 184) dX12_turns_184 (sM_39 hS) (by omega) (by (repeat (first | rewrite [up_s] | rewrite [up_i (by omega)] | rewrite [up_a (by omega)] | rewrite [stM_a (by omega) (by omega)])); first | exact (k2 _ _ (by omega)).trans hg1 | exact (k2 _ _ (by omega)).trans hg2 | exact (k2 _ _ (by omega)).trans hg3 | exact (k2 _ _ (by omega)).trans hg4 | exact hij | exact hnr | exact hnj | rfl) (fun g_184 => ?_)
      refine x_istore (pc := 185) dX12_turns_185 (by decide) rfl ?_
      refine x_aload_n (pc := 187) dX12_turns_187 rfl rfl ?_
      refine x_getR (jj := 39) (pc := 188) dX12_turns_188 fX12_79 hS.1 rfl (by decide) rfl rM_39 ?_
      refine x_iload_n (pc := 191) dX12_turns_191 rfl rfl ?_
      refine x_aload_n (pc := 192) dX12_turns_192 rfl rfl ?_
      refine x_getR (jj := 40) (pc := 193) dX12_turns_193 fX12_82 hS.1 rfl (by decide) rfl rM_40 ?_
      refine x_iload_n (pc := 196) dX12_turns_196 rfl rfl ?_
      refine x_ialoadV (pc := 197) dX12_turns_197 (sM_40 hS) (by omega) (by (repeat (first | rewrite [up_s] | rewrite [up_i (by omega)] | rewrite [up_a (by omega)] | rewrite [stM_a (by omega) (by omega)])); first | exact (k2 _ _ (by omega)).trans hg1 | exact (k2 _ _ (by omega)).trans hg2 | exact (k2 _ _ (by omega)).trans hg3 | exact (k2 _ _ (by omega)).trans hg4 | exact hij | exact hnr | exact hnj | rfl) (fun g_197 => ?_)
      refine x_iastore (pc := 198) dX12_turns_198 (sM_39 hS) (by omega) ?_
      refine x_aload_n (pc := 199) dX12_turns_199 rfl rfl ?_
      refine x_getR (jj := 40) (pc := 200) dX12_turns_200 fX12_82 hS.1 rfl (by decide) rfl rM_40 ?_
      refine x_iload_n (pc := 203) dX12_turns_203 rfl rfl ?_
      refine x_iload (pc := 204) dX12_turns_204 rfl ?_
      refine x_iastore (pc := 206) dX12_turns_206 (sM_40 hS) (by omega) ?_
      refine x_return (pc := 207) dX12_turns_207 rfl (by decide) ?_
      have q1 : ∀ i1 c : Nat, i1 < h + q9 → i1 ≠ r → (c < w ∨ c = 5) → M1 (m + 20) (6 * i1 + c) = ta w F (piv st r j) (UM h F st Zs i1) (cw w c) := fun i1 c a b d => (k3 i1 c a b d).trans (if_pos (by omega))
      have q2 : ∀ c : Nat, (c < w ∨ c = 5) → M1 (m + 20) (6 * r + c) = ta w F st (F (st.2.1 r)) (cw w c) := fun c d => by
        rw [k2 _ _ (by omega), hR.2.1 r c (by omega) d, UM_F hr]
      refine ⟨rfl, rfl, rfl, ⟨⟨?_, ?_, ?_, ?_⟩, fun i1 c a b => ?_, fun i1 a => ?_, fun l a => ?_, fun l a => ?_⟩, fun x y a b => ?_⟩
      · rw [up_a (by omega), up_a (by omega), up_i (by omega), up_a (by omega)]; exact (k2 _ _ (by omega)).trans hg1
      · rw [up_a (by omega), up_a (by omega), up_i (by omega), up_a (by omega)]; exact (k2 _ _ (by omega)).trans hg2
      · rw [up_a (by omega), up_a (by omega), up_i (by omega), up_a (by omega)]; exact (k2 _ _ (by omega)).trans hg3
      · rw [up_a (by omega), up_a (by omega), up_s, ov_piv hj]
      · rw [up_a (by omega), up_a (by omega), up_a (by omega)]
        by_cases e : i1 = r
        · subst e
          rw [UM_F hr]
          show _ = ta w F (piv st i1 j) (F (if i1 = i1 then st.1 j else st.2.1 i1)) (cw w c)
          rw [if_pos rfl, ta_new hO.1 hO.2.2.1 (by omega) hj (cw_lt hw b)]
          by_cases e2 : c = j
          · subst e2; rw [up_s, cw_n hw hj, if_pos rfl]
          · rw [up_i (by omega), if_neg (cw_ne hw hj b e2)]; exact q2 c b
        · rw [up_i (by omega), q1 i1 c a e b]
          congr 1
          unfold UM
          by_cases e2 : i1 < h
          · rw [if_pos e2, if_pos e2]
            show _ = F (if i1 = r then st.1 j else st.2.1 i1)
            rw [if_neg e]
          · rw [if_neg e2, if_neg e2]
      · rw [up_a (by omega)]
        show _ = nm (if i1 = r then st.1 j else st.2.1 i1)
        by_cases e : i1 = r
        · subst e; rw [up_s, if_pos rfl]
        · rw [up_i (by omega), up_a (by omega), up_a (by omega), if_neg e]
          exact (k2 _ _ (by omega)).trans (hR.2.2.1 i1 a)
      · show _ = nm (if l = j then st.2.1 r else st.1 l)
        by_cases e : l = j
        · subst e; rw [up_s, if_pos rfl]
        · rw [up_i (by omega), up_a (by omega), up_a (by omega), up_a (by omega), if_neg e]
          exact (k2 _ _ (by omega)).trans (hR.2.2.2.1 l a)
      · rw [up_a (by omega), up_a (by omega), up_a (by omega), up_a (by omega)]
        exact (k2 _ _ (by omega)).trans (hR.2.2.2.2 l a)
      · rw [up_a (by omega), up_a (by omega)]
        by_cases e : x = m
        · subst e
          rw [up_i (by omega), up_a (by omega)]
          exact k2 _ _ (by omega)
        · rw [up_a e, up_a (by omega)]
          exact k2 _ _ (by omega)
    · refine x_iload (pc := 29) dX12_turns_29 rfl ?_
      refine x_iload_n (pc := 31) dX12_turns_31 rfl rfl ?_
      refine x_icmp_ne (tgt := 38) (pc := 32) dX12_turns_32 (by decide) (fun c_32 => ?_) (fun c_32 => ?_)
      · have hij : M1 (m + 20) (6 * (i : Int) + (j : Int)) = ta w F st (UM h F st Zs i) j := by
          rw [k3 i j (by omega) (by omega) (Or.inl hj), if_neg (by omega), cw_n hw hj]
        refine x_aload_n (pc := 38) dX12_turns_38 rfl rfl ?_
        refine x_getR (jj := 37) (pc := 39) dX12_turns_39 fX12_73 hS.1 rfl (by decide) rfl rM_37 ?_
        refine x_bipush (pc := 42) dX12_turns_42 (by decide) ?_
        refine x_iload (pc := 44) dX12_turns_44 rfl ?_
        refine x_imul (pc := 46) dX12_turns_46 (by omega) ?_
        refine x_iload_n (pc := 47) dX12_turns_47 rfl rfl ?_
        refine x_iadd (pc := 48) dX12_turns_48 (by omega) ?_
        refine x_laloadV (pc := 49) dX12_turns_49 (sM_37 hS) (by omega) (by (repeat (first | rewrite [up_s] | rewrite [up_i (by omega)] | rewrite [up_a (by omega)] | rewrite [stM_a (by omega) (by omega)])); first | exact (k2 _ _ (by omega)).trans hg1 | exact (k2 _ _ (by omega)).trans hg2 | exact (k2 _ _ (by omega)).trans hg3 | exact (k2 _ _ (by omega)).trans hg4 | exact hij | exact hnr | exact hnj | rfl) (fun g_49 => ?_)
        refine x_lstore (pc := 50) dX12_turns_50 (by decide) rfl ?_
        have lpB := a_loop2 (α := Nat) (β := aM) (fun c M2 => c ≤ 6 ∧ (∀ a x : Int, ¬ (a = m + 20 ∧ 6 * i ≤ x ∧ x < 6 * i + 6) → M2 a x = M1 a x) ∧ ∀ c1 : Nat, c1 < w ∨ c1 = 5 → M2 (m + 20) (6 * i + c1) = if c1 < c ∧ c1 ≠ j then ta w F (piv st r j) (UM h F st Zs i) (cw w c1) else ta w F st (UM h F st Zs i) (cw w c1)) (fun c M2 => 6 - c) (fun c M2 => aX l E pX12_turns (aU N S (fun M' => RTm M' m w h F (piv st r j) nm q9 Zs fx ∧ frT M M' m)) 0 0 N S M2 55 [(0, (2, m)), (1, (0, (r : Int))), (2, (0, (j : Int))), (3, (1, ta w F st (F (st.2.1 r)) j)), (5, (0, (i : Int))), (6, (1, ta w F st (UM h F st Zs i) j)), (8, (0, (c : Int)))] []) (by
          intro c M2 hJ ih2
          obtain ⟨j1, j2, j3⟩ := hJ
          refine x_iload (pc := 55) dX12_turns_55 rfl ?_
          refine x_bipush (pc := 57) dX12_turns_57 (by decide) ?_
          refine x_icmp_ge (tgt := 138) (pc := 59) dX12_turns_59 (by decide) (fun c_59 => ?_) (fun c_59 => ?_)
          · have hub := UM_bd hP hO hZ (r := i) (by omega)
            have b3 := ta_bd (C := 1048576) hw (by omega) hP hO (k := j) (by omega) hub
            refine x_aload_n (pc := 138) dX12_turns_138 rfl rfl ?_
            refine x_getR (jj := 37) (pc := 139) dX12_turns_139 fX12_73 hS.1 rfl (by decide) rfl rM_37 ?_
            refine x_bipush (pc := 142) dX12_turns_142 (by decide) ?_
            refine x_iload (pc := 144) dX12_turns_144 rfl ?_
            refine x_imul (pc := 146) dX12_turns_146 (by omega) ?_
            refine x_iload_n (pc := 147) dX12_turns_147 rfl rfl ?_
            refine x_iadd (pc := 148) dX12_turns_148 (by omega) ?_
            refine x_lload (pc := 149) dX12_turns_149 rfl ?_
            refine x_lneg (pc := 151) dX12_turns_151 (by omega) ?_
            refine x_lastore (pc := 152) dX12_turns_152 (sM_37 hS) (by omega) ?_
            refine x_iinc (pc := 153) dX12_turns_153 rfl (by omega) (by decide) rfl ?_
            refine x_goto (tgt := 15) (pc := 156) dX12_turns_156 (by decide) ?_
            refine x_lo (lo' := [(0, (2, m)), (1, (0, (r : Int))), (2, (0, (j : Int))), (3, (1, ta w F st (F (st.2.1 r)) j)), (5, (0, ((i + 1 : Nat) : Int)))]) ⟨rfl, rfl, rfl, rfl, rfl, trivial⟩ (ih (i + 1) _ ⟨by omega, fun a x q => ?_, fun i1 c1 a b d => ?_⟩ (by omega))
            · by_cases e : a = m + 20
              · subst e
                rw [up_i (by omega), j2 _ _ (by omega)]; exact k2 _ _ q
              · rw [up_a e, j2 _ _ (by omega)]; exact k2 _ _ q
            · by_cases e : i1 = i
              · subst e
                rw [if_pos (show i1 < i1 + 1 by omega)]
                by_cases e2 : c1 = j
                · subst e2
                  rw [up_s, cw_n hw hj, ta_pj hj]
                · rw [up_i (by omega), j3 c1 d, if_pos (by omega)]
              · rw [up_i (by omega), j2 _ _ (by omega), k3 i1 c1 a b d]
                by_cases e2 : i1 < i
                · rw [if_pos e2, if_pos (show i1 < i + 1 by omega)]
                · rw [if_neg e2, if_neg (show ¬ i1 < i + 1 by omega)]
          · refine x_iload (pc := 62) dX12_turns_62 rfl ?_
            refine x_iload_n (pc := 64) dX12_turns_64 rfl rfl ?_
            refine x_icmp_eq (tgt := 132) (pc := 65) dX12_turns_65 (by decide) (fun c_65 => ?_) (fun c_65 => ?_)
            · refine x_iinc (pc := 132) dX12_turns_132 rfl (by omega) (by decide) rfl ?_
              refine x_goto (tgt := 55) (pc := 135) dX12_turns_135 (by decide) ?_
              exact x_lo (lo' := [(0, (2, m)), (1, (0, (r : Int))), (2, (0, (j : Int))), (3, (1, ta w F st (F (st.2.1 r)) j)), (5, (0, (i : Int))), (6, (1, ta w F st (UM h F st Zs i) j)), (8, (0, ((c + 1 : Nat) : Int)))]) ⟨rfl, rfl, rfl, rfl, rfl, rfl, rfl, trivial⟩ (ih2 (c + 1) M2 ⟨by omega, j2, fun c1 a => by
                rw [j3 c1 a]
                by_cases e : c1 < c ∧ c1 ≠ j
                · rw [if_pos e, if_pos (show c1 < c + 1 ∧ c1 ≠ j by omega)]
                · rw [if_neg e, if_neg (show ¬ (c1 < c + 1 ∧ c1 ≠ j) by omega)]⟩ (by omega))
            · refine x_iload (pc := 68) dX12_turns_68 rfl ?_
              refine x_aload_n (pc := 70) dX12_turns_70 rfl rfl ?_
              refine x_getIV (jj := 42) (pc := 71) dX12_turns_71 fX12_358 hS.1 rfl (by decide) rfl (by (repeat (first | rewrite [up_s] | rewrite [up_i (by omega)] | rewrite [up_a (by omega)] | rewrite [stM_a (by omega) (by omega)])); first | exact hv1 | exact hv2 | exact hv3 | exact (j2 _ _ (by omega)).trans ((k2 _ _ (by omega)).trans hg1) | exact (j2 _ _ (by omega)).trans ((k2 _ _ (by omega)).trans hg2) | exact (j2 _ _ (by omega)).trans ((k2 _ _ (by omega)).trans hg3) | rfl) ?_
              refine x_icmp_lt (tgt := 83) (pc := 74) dX12_turns_74 (by decide) (fun c_74 => ?_) (fun c_74 => ?_)
              · have hcc : c < w ∨ c = 5 := by omega
                have hcj : cw w c ≠ j := cw_ne hw hj hcc (by omega)
                have hcl := cw_lt hw hcc
                have hv1 : M2 (m + 20) (6 * (i : Int) + (c : Int)) = ta w F st (UM h F st Zs i) (cw w c) := (j3 c hcc).trans (if_neg (by omega))
                have hv2 : M2 (m + 20) (6 * (r : Int) + (c : Int)) = ta w F st (F (st.2.1 r)) (cw w c) := by
                  rw [j2 _ _ (by omega), k2 _ _ (by omega), hR.2.1 r c (by omega) hcc, UM_F hr]
                have hv3 : M2 m 45 = ov w F st := (j2 _ _ (by omega)).trans ((k2 _ _ (by omega)).trans hg4)
                have hub := UM_bd hP hO hZ (r := i) (by omega)
                have b1 := ta_bd (C := 1048576) hw (by omega) hP hO hcl hub
                have b2 := RTc.bd hP hw hO (i := r) (k := j) hr (by omega)
                have b3 := ta_bd (C := 1048576) hw (by omega) hP hO (k := j) (by omega) hub
                have b4 := RTc.bd hP hw hO (i := r) hr hcl
                have b5 := ta_bd (C := 1048576) hw (by omega) hP hO2 hcl hub
                have m1 := mul_bd (a := ta w F st (F (st.2.1 r)) j) (b := ta w F st (UM h F st Zs i) (cw w c)) (by omega) (by omega)
                have m2 := mul_bd (a := ta w F st (UM h F st Zs i) j) (b := ta w F st (F (st.2.1 r)) (cw w c)) (by omega) (by omega)
                have hdv : (ta w F st (F (st.2.1 r)) j * ta w F st (UM h F st Zs i) (cw w c) - ta w F st (UM h F st Zs i) j * ta w F st (F (st.2.1 r)) (cw w c)).tdiv (ov w F st) = ta w F (piv st r j) (UM h F st Zs i) (cw w c) := by
                  rw [Int.mul_comm (ta w F st (F (st.2.1 r)) j), ← ta_pl hO.1 hO.2.2.1 hj hcl hcj]
                  exact Int.mul_tdiv_cancel_left _ (by omega)
                refine x_aload_n (pc := 83) dX12_turns_83 rfl rfl ?_
                refine x_getR (jj := 37) (pc := 84) dX12_turns_84 fX12_73 hS.1 rfl (by decide) rfl rM_37 ?_
                refine x_bipush (pc := 87) dX12_turns_87 (by decide) ?_
                refine x_iload (pc := 89) dX12_turns_89 rfl ?_
                refine x_imul (pc := 91) dX12_turns_91 (by omega) ?_
                refine x_iload (pc := 92) dX12_turns_92 rfl ?_
                refine x_iadd (pc := 94) dX12_turns_94 (by omega) ?_
                refine x_lload_n (pc := 95) dX12_turns_95 rfl rfl ?_
                refine x_aload_n (pc := 96) dX12_turns_96 rfl rfl ?_
                refine x_getR (jj := 37) (pc := 97) dX12_turns_97 fX12_73 hS.1 rfl (by decide) rfl rM_37 ?_
                refine x_bipush (pc := 100) dX12_turns_100 (by decide) ?_
                refine x_iload (pc := 102) dX12_turns_102 rfl ?_
                refine x_imul (pc := 104) dX12_turns_104 (by omega) ?_
                refine x_iload (pc := 105) dX12_turns_105 rfl ?_
                refine x_iadd (pc := 107) dX12_turns_107 (by omega) ?_
                refine x_laloadV (pc := 108) dX12_turns_108 (sM_37 hS) (by omega) (by (repeat (first | rewrite [up_s] | rewrite [up_i (by omega)] | rewrite [up_a (by omega)] | rewrite [stM_a (by omega) (by omega)])); first | exact hv1 | exact hv2 | exact hv3 | exact (j2 _ _ (by omega)).trans ((k2 _ _ (by omega)).trans hg1) | exact (j2 _ _ (by omega)).trans ((k2 _ _ (by omega)).trans hg2) | exact (j2 _ _ (by omega)).trans ((k2 _ _ (by omega)).trans hg3) | rfl) (fun g_108 => ?_)
                refine x_lmul (pc := 109) dX12_turns_109 (by omega) ?_
                refine x_lload (pc := 110) dX12_turns_110 rfl ?_
                refine x_aload_n (pc := 112) dX12_turns_112 rfl rfl ?_
                refine x_getR (jj := 37) (pc := 113) dX12_turns_113 fX12_73 hS.1 rfl (by decide) rfl rM_37 ?_
                refine x_bipush (pc := 116) dX12_turns_116 (by decide) ?_
                refine x_iload_n (pc := 118) dX12_turns_118 rfl rfl ?_
                refine x_imul (pc := 119) dX12_turns_119 (by omega) ?_
                refine x_iload (pc := 120) dX12_turns_120 rfl ?_
                refine x_iadd (pc := 122) dX12_turns_122 (by omega) ?_
                refine x_laloadV (pc := 123) dX12_turns_123 (sM_37 hS) (by omega) (by (repeat (first | rewrite [up_s] | rewrite [up_i (by omega)] | rewrite [up_a (by omega)] | rewrite [stM_a (by omega) (by omega)])); first | exact hv1 | exact hv2 | exact hv3 | exact (j2 _ _ (by omega)).trans ((k2 _ _ (by omega)).trans hg1) | exact (j2 _ _ (by omega)).trans ((k2 _ _ (by omega)).trans hg2) | exact (j2 _ _ (by omega)).trans ((k2 _ _ (by omega)).trans hg3) | rfl) (fun g_123 => ?_)
                refine x_lmul (pc := 124) dX12_turns_124 (by omega) ?_
                refine x_lsub (pc := 125) dX12_turns_125 (by omega) ?_
                refine x_aload_n (pc := 126) dX12_turns_126 rfl rfl ?_
                refine x_getJV (jj := 45) (pc := 127) dX12_turns_127 fX12_364 hS.1 rfl (by decide) rfl (by (repeat (first | rewrite [up_s] | rewrite [up_i (by omega)] | rewrite [up_a (by omega)] | rewrite [stM_a (by omega) (by omega)])); first | exact hv1 | exact hv2 | exact hv3 | exact (j2 _ _ (by omega)).trans ((k2 _ _ (by omega)).trans hg1) | exact (j2 _ _ (by omega)).trans ((k2 _ _ (by omega)).trans hg2) | exact (j2 _ _ (by omega)).trans ((k2 _ _ (by omega)).trans hg3) | rfl) ?_
                refine x_ldiv (pc := 130) dX12_turns_130 (by omega) (by rw [hdv]; omega) ?_
                rewrite [hdv]
                refine x_lastore (pc := 131) dX12_turns_131 (sM_37 hS) (by omega) ?_
                refine x_iinc (pc := 132) dX12_turns_132 rfl (by omega) (by decide) rfl ?_
                refine x_goto (tgt := 55) (pc := 135) dX12_turns_135 (by decide) ?_
                refine x_lo (lo' := [(0, (2, m)), (1, (0, (r : Int))), (2, (0, (j : Int))), (3, (1, ta w F st (F (st.2.1 r)) j)), (5, (0, (i : Int))), (6, (1, ta w F st (UM h F st Zs i) j)), (8, (0, ((c + 1 : Nat) : Int)))]) ⟨rfl, rfl, rfl, rfl, rfl, rfl, rfl, trivial⟩ (ih2 (c + 1) _ ⟨by omega, fun a x q => ?_, fun c1 a => ?_⟩ (by omega))
                · by_cases e : a = m + 20
                  · subst e
                    rw [up_i (by omega)]; exact j2 _ _ q
                  · rw [up_a e]; exact j2 _ _ q
                · by_cases e : c1 = c
                  · subst e
                    rw [up_s, if_pos (show c1 < c1 + 1 ∧ c1 ≠ j by omega)]
                  · rw [up_i (by omega), j3 c1 a]
                    by_cases e2 : c1 < c ∧ c1 ≠ j
                    · rw [if_pos e2, if_pos (show c1 < c + 1 ∧ c1 ≠ j by omega)]
                    · rw [if_neg e2, if_neg (show ¬ (c1 < c + 1 ∧ c1 ≠ j) by omega)]
              · refine x_iload (pc := 77) dX12_turns_77 rfl ?_
                refine x_iconst (pc := 79) dX12_turns_79 (by decide) ?_
                refine x_icmp_ne (tgt := 132) (pc := 80) dX12_turns_80 (by decide) (fun c_80 => ?_) (fun c_80 => ?_)
                · refine x_iinc (pc := 132) dX12_turns_132 rfl (by omega) (by decide) rfl ?_
                  refine x_goto (tgt := 55) (pc := 135) dX12_turns_135 (by decide) ?_
                  exact x_lo (lo' := [(0, (2, m)), (1, (0, (r : Int))), (2, (0, (j : Int))), (3, (1, ta w F st (F (st.2.1 r)) j)), (5, (0, (i : Int))), (6, (1, ta w F st (UM h F st Zs i) j)), (8, (0, ((c + 1 : Nat) : Int)))]) ⟨rfl, rfl, rfl, rfl, rfl, rfl, rfl, trivial⟩ (ih2 (c + 1) M2 ⟨by omega, j2, fun c1 a => by
                    rw [j3 c1 a]
                    by_cases e : c1 < c ∧ c1 ≠ j
                    · rw [if_pos e, if_pos (show c1 < c + 1 ∧ c1 ≠ j by omega)]
                    · rw [if_neg e, if_neg (show ¬ (c1 < c + 1 ∧ c1 ≠ j) by omega)]⟩ (by omega))
                · have hcc : c < w ∨ c = 5 := by omega
                  have hcj : cw w c ≠ j := cw_ne hw hj hcc (by omega)
                  have hcl := cw_lt hw hcc
                  have hv1 : M2 (m + 20) (6 * (i : Int) + (c : Int)) = ta w F st (UM h F st Zs i) (cw w c) := (j3 c hcc).trans (if_neg (by omega))
                  have hv2 : M2 (m + 20) (6 * (r : Int) + (c : Int)) = ta w F st (F (st.2.1 r)) (cw w c) := by
                    rw [j2 _ _ (by omega), k2 _ _ (by omega), hR.2.1 r c (by omega) hcc, UM_F hr]
                  have hv3 : M2 m 45 = ov w F st := (j2 _ _ (by omega)).trans ((k2 _ _ (by omega)).trans hg4)
                  have hub := UM_bd hP hO hZ (r := i) (by omega)
                  have b1 := ta_bd (C := 1048576) hw (by omega) hP hO hcl hub
                  have b2 := RTc.bd hP hw hO (i := r) (k := j) hr (by omega)
                  have b3 := ta_bd (C := 1048576) hw (by omega) hP hO (k := j) (by omega) hub
                  have b4 := RTc.bd hP hw hO (i := r) hr hcl
                  have b5 := ta_bd (C := 1048576) hw (by omega) hP hO2 hcl hub
                  have m1 := mul_bd (a := ta w F st (F (st.2.1 r)) j) (b := ta w F st (UM h F st Zs i) (cw w c)) (by omega) (by omega)
                  have m2 := mul_bd (a := ta w F st (UM h F st Zs i) j) (b := ta w F st (F (st.2.1 r)) (cw w c)) (by omega) (by omega)
                  have hdv : (ta w F st (F (st.2.1 r)) j * ta w F st (UM h F st Zs i) (cw w c) - ta w F st (UM h F st Zs i) j * ta w F st (F (st.2.1 r)) (cw w c)).tdiv (ov w F st) = ta w F (piv st r j) (UM h F st Zs i) (cw w c) := by
                    rw [Int.mul_comm (ta w F st (F (st.2.1 r)) j), ← ta_pl hO.1 hO.2.2.1 hj hcl hcj]
                    exact Int.mul_tdiv_cancel_left _ (by omega)
                  refine x_aload_n (pc := 83) dX12_turns_83 rfl rfl ?_
                  refine x_getR (jj := 37) (pc := 84) dX12_turns_84 fX12_73 hS.1 rfl (by decide) rfl rM_37 ?_
                  refine x_bipush (pc := 87) dX12_turns_87 (by decide) ?_
                  refine x_iload (pc := 89) dX12_turns_89 rfl ?_
                  refine x_imul (pc := 91) dX12_turns_91 (by omega) ?_
                  refine x_iload (pc := 92) dX12_turns_92 rfl ?_
                  refine x_iadd (pc := 94) dX12_turns_94 (by omega) ?_
                  refine x_lload_n (pc := 95) dX12_turns_95 rfl rfl ?_
                  refine x_aload_n (pc := 96) dX12_turns_96 rfl rfl ?_
                  refine x_getR (jj := 37) (pc := 97) dX12_turns_97 fX12_73 hS.1 rfl (by decide) rfl rM_37 ?_
                  refine x_bipush (pc := 100) dX12_turns_100 (by decide) ?_
                  refine x_iload (pc := 102) dX12_turns_102 rfl ?_
                  refine x_imul (pc := 104) dX12_turns_104 (by omega) ?_
                  refine x_iload (pc := 105) dX12_turns_105 rfl ?_
                  refine x_iadd (pc := 107) dX12_turns_107 (by omega) ?_
                  refine x_laloadV (pc := 108) dX12_turns_108 (sM_37 hS) (by omega) (by (repeat (first | rewrite [up_s] | rewrite [up_i (by omega)] | rewrite [up_a (by omega)] | rewrite [stM_a (by omega) (by omega)])); first | exact hv1 | exact hv2 | exact hv3 | exact (j2 _ _ (by omega)).trans ((k2 _ _ (by omega)).trans hg1) | exact (j2 _ _ (by omega)).trans ((k2 _ _ (by omega)).trans hg2) | exact (j2 _ _ (by omega)).trans ((k2 _ _ (by omega)).trans hg3) | rfl) (fun g_108 => ?_)
                  refine x_lmul (pc := 109) dX12_turns_109 (by omega) ?_
                  refine x_lload (pc := 110) dX12_turns_110 rfl ?_
                  refine x_aload_n (pc := 112) dX12_turns_112 rfl rfl ?_
                  refine x_getR (jj := 37) (pc := 113) dX12_turns_113 fX12_73 hS.1 rfl (by decide) rfl rM_37 ?_
                  refine x_bipush (pc := 116) dX12_turns_116 (by decide) ?_
                  refine x_iload_n (pc := 118) dX12_turns_118 rfl rfl ?_
                  refine x_imul (pc := 119) dX12_turns_119 (by omega) ?_
                  refine x_iload (pc := 120) dX12_turns_120 rfl ?_
                  refine x_iadd (pc := 122) dX12_turns_122 (by omega) ?_
                  refine x_laloadV (pc := 123) dX12_turns_123 (sM_37 hS) (by omega) (by (repeat (first | rewrite [up_s] | rewrite [up_i (by omega)] | rewrite [up_a (by omega)] | rewrite [stM_a (by omega) (by omega)])); first | exact hv1 | exact hv2 | exact hv3 | exact (j2 _ _ (by omega)).trans ((k2 _ _ (by omega)).trans hg1) | exact (j2 _ _ (by omega)).trans ((k2 _ _ (by omega)).trans hg2) | exact (j2 _ _ (by omega)).trans ((k2 _ _ (by omega)).trans hg3) | rfl) (fun g_123 => ?_)
                  refine x_lmul (pc := 124) dX12_turns_124 (by omega) ?_
                  refine x_lsub (pc := 125) dX12_turns_125 (by omega) ?_
                  refine x_aload_n (pc := 126) dX12_turns_126 rfl rfl ?_
                  refine x_getJV (jj := 45) (pc := 127) dX12_turns_127 fX12_364 hS.1 rfl (by decide) rfl (by (repeat (first | rewrite [up_s] | rewrite [up_i (by omega)] | rewrite [up_a (by omega)] | rewrite [stM_a (by omega) (by omega)])); first | exact hv1 | exact hv2 | exact hv3 | exact (j2 _ _ (by omega)).trans ((k2 _ _ (by omega)).trans hg1) | exact (j2 _ _ (by omega)).trans ((k2 _ _ (by omega)).trans hg2) | exact (j2 _ _ (by omega)).trans ((k2 _ _ (by omega)).trans hg3) | rfl) ?_
                  refine x_ldiv (pc := 130) dX12_turns_130 (by omega) (by rw [hdv]; omega) ?_
                  rewrite [hdv]
                  refine x_lastore (pc := 131) dX12_turns_131 (sM_37 hS) (by omega) ?_
                  refine x_iinc (pc := 132) dX12_turns_132 rfl (by omega) (by decide) rfl ?_
                  refine x_goto (tgt := 55) (pc := 135) dX12_turns_135 (by decide) ?_
                  refine x_lo (lo' := [(0, (2, m)), (1, (0, (r : Int))), (2, (0, (j : Int))), (3, (1, ta w F st (F (st.2.1 r)) j)), (5, (0, (i : Int))), (6, (1, ta w F st (UM h F st Zs i) j)), (8, (0, ((c + 1 : Nat) : Int)))]) ⟨rfl, rfl, rfl, rfl, rfl, rfl, rfl, trivial⟩ (ih2 (c + 1) _ ⟨by omega, fun a x q => ?_, fun c1 a => ?_⟩ (by omega))
                  · by_cases e : a = m + 20
                    · subst e
                      rw [up_i (by omega)]; exact j2 _ _ q
                    · rw [up_a e]; exact j2 _ _ q
                  · by_cases e : c1 = c
                    · subst e
                      rw [up_s, if_pos (show c1 < c1 + 1 ∧ c1 ≠ j by omega)]
                    · rw [up_i (by omega), j3 c1 a]
                      by_cases e2 : c1 < c ∧ c1 ≠ j
                      · rw [if_pos e2, if_pos (show c1 < c + 1 ∧ c1 ≠ j by omega)]
                      · rw [if_neg e2, if_neg (show ¬ (c1 < c + 1 ∧ c1 ≠ j) by omega)])
        refine x_iconst (pc := 52) dX12_turns_52 (by decide) ?_
        refine x_istore (pc := 53) dX12_turns_53 (by decide) rfl ?_
        exact x_lo (lo' := [(0, (2, m)), (1, (0, (r : Int))), (2, (0, (j : Int))), (3, (1, ta w F st (F (st.2.1 r)) j)), (5, (0, (i : Int))), (6, (1, ta w F st (UM h F st Zs i) j)), (8, (0, ((0 : Nat) : Int)))]) ⟨rfl, rfl, rfl, rfl, rfl, rfl, rfl, trivial⟩ (lpB 0 M1 ⟨by omega, fun _ _ _ => rfl, fun c1 a => by rw [if_neg (by omega), k3 i c1 (by omega) (by omega) a, if_neg (by omega)]⟩)
      · refine x_goto (tgt := 153) (pc := 35) dX12_turns_35 (by decide) ?_
        refine x_iinc (pc := 153) dX12_turns_153 rfl (by omega) (by decide) rfl ?_
        refine x_goto (tgt := 15) (pc := 156) dX12_turns_156 (by decide) ?_
        exact x_lo (lo' := [(0, (2, m)), (1, (0, (r : Int))), (2, (0, (j : Int))), (3, (1, ta w F st (F (st.2.1 r)) j)), (5, (0, ((i + 1 : Nat) : Int)))]) ⟨rfl, rfl, rfl, rfl, rfl, trivial⟩ (ih (i + 1) M1 ⟨by omega, k2, fun i1 c a b d => by
          rw [k3 i1 c a b d]
          by_cases e : i1 < i
          · rw [if_pos e, if_pos (show i1 < i + 1 by omega)]
          · rw [if_neg e, if_neg (show ¬ i1 < i + 1 by omega)]⟩ (by omega)))
  refine x_aload_n (pc := 0) dX12_turns_0 rfl rfl ?_
  refine x_getR (jj := 37) (pc := 1) dX12_turns_1 fX12_73 hS.1 rfl (by decide) rfl rM_37 ?_
  refine x_bipush (pc := 4) dX12_turns_4 (by decide) ?_
  refine x_iload_n (pc := 6) dX12_turns_6 rfl rfl ?_
  refine x_imul (pc := 7) dX12_turns_7 (by omega) ?_
  refine x_iload_n (pc := 8) dX12_turns_8 rfl rfl ?_
  refine x_iadd (pc := 9) dX12_turns_9 (by omega) ?_
  refine x_laloadV (pc := 10) dX12_turns_10 (sM_37 hS) (by omega) (by (repeat (first | rewrite [up_s] | rewrite [up_i (by omega)] | rewrite [up_a (by omega)] | rewrite [stM_a (by omega) (by omega)])); first | exact hrj | rfl) (fun g_10 => ?_)
  refine x_lstore_n (pc := 11) dX12_turns_11 rfl (by decide) rfl ?_
  refine x_iconst (pc := 12) dX12_turns_12 (by decide) ?_
  refine x_istore (pc := 13) dX12_turns_13 (by decide) rfl ?_
  exact x_lo (lo' := [(0, (2, m)), (1, (0, (r : Int))), (2, (0, (j : Int))), (3, (1, ta w F st (F (st.2.1 r)) j)), (5, (0, ((0 : Nat) : Int)))]) ⟨rfl, rfl, rfl, rfl, rfl, trivial⟩ (lpA 0 M ⟨by omega, fun _ _ _ => rfl, fun i1 c a b d => by rw [if_neg (by omega)]; exact hR.2.1 i1 c a d⟩)
