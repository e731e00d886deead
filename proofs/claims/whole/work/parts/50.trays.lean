/-! trays -/
theorem dX9_lay_0 : decode cX9_lay 0 = .ok (.aload_n 0, 1) := by decide +kernel
theorem dX9_lay_1 : decode cX9_lay 1 = .ok (.getfield 9, 3) := by decide +kernel
theorem dX9_lay_4 : decode cX9_lay 4 = .ok (.iload_n 1, 1) := by decide +kernel
theorem dX9_lay_5 : decode cX9_lay 5 = .ok (.iload_n 3, 1) := by decide +kernel
theorem dX9_lay_6 : decode cX9_lay 6 = .ok (.iastore, 1) := by decide +kernel
theorem dX9_lay_7 : decode cX9_lay 7 = .ok (.aload_n 0, 1) := by decide +kernel
theorem dX9_lay_8 : decode cX9_lay 8 = .ok (.getfield 15, 3) := by decide +kernel
theorem dX9_lay_11 : decode cX9_lay 11 = .ok (.iload_n 1, 1) := by decide +kernel
theorem dX9_lay_12 : decode cX9_lay 12 = .ok (.iload_n 2, 1) := by decide +kernel
theorem dX9_lay_13 : decode cX9_lay 13 = .ok (.iastore, 1) := by decide +kernel
theorem dX9_lay_14 : decode cX9_lay 14 = .ok (.iconst 0, 1) := by decide +kernel
theorem dX9_lay_15 : decode cX9_lay 15 = .ok (.istore 4, 2) := by decide +kernel
theorem dX9_lay_17 : decode cX9_lay 17 = .ok (.iload 4, 2) := by decide +kernel
theorem dX9_lay_19 : decode cX9_lay 19 = .ok (.bipush 40, 2) := by decide +kernel
theorem dX9_lay_21 : decode cX9_lay 21 = .ok (.if_icmp .ge 22, 3) := by decide +kernel
theorem dX9_lay_24 : decode cX9_lay 24 = .ok (.aload_n 0, 1) := by decide +kernel
theorem dX9_lay_25 : decode cX9_lay 25 = .ok (.getfield 18, 3) := by decide +kernel
theorem dX9_lay_28 : decode cX9_lay 28 = .ok (.iload_n 1, 1) := by decide +kernel
theorem dX9_lay_29 : decode cX9_lay 29 = .ok (.bipush 40, 2) := by decide +kernel
theorem dX9_lay_31 : decode cX9_lay 31 = .ok (.imul, 1) := by decide +kernel
theorem dX9_lay_32 : decode cX9_lay 32 = .ok (.iload 4, 2) := by decide +kernel
theorem dX9_lay_34 : decode cX9_lay 34 = .ok (.iadd, 1) := by decide +kernel
theorem dX9_lay_35 : decode cX9_lay 35 = .ok (.lconst 0, 1) := by decide +kernel
theorem dX9_lay_36 : decode cX9_lay 36 = .ok (.lastore, 1) := by decide +kernel
theorem dX9_lay_37 : decode cX9_lay 37 = .ok (.iinc 4 1, 3) := by decide +kernel
theorem dX9_lay_40 : decode cX9_lay 40 = .ok (.goto (-23), 3) := by decide +kernel
theorem dX9_lay_43 : decode cX9_lay 43 = .ok (.return_, 1) := by decide +kernel
theorem dX9_at_0 : decode cX9_at 0 = .ok (.aload_n 0, 1) := by decide +kernel
theorem dX9_at_1 : decode cX9_at 1 = .ok (.getfield 18, 3) := by decide +kernel
theorem dX9_at_4 : decode cX9_at 4 = .ok (.iload_n 1, 1) := by decide +kernel
theorem dX9_at_5 : decode cX9_at 5 = .ok (.bipush 40, 2) := by decide +kernel
theorem dX9_at_7 : decode cX9_at 7 = .ok (.imul, 1) := by decide +kernel
theorem dX9_at_8 : decode cX9_at 8 = .ok (.iload_n 2, 1) := by decide +kernel
theorem dX9_at_9 : decode cX9_at 9 = .ok (.iadd, 1) := by decide +kernel
theorem dX9_at_10 : decode cX9_at 10 = .ok (.laload, 1) := by decide +kernel
theorem dX9_at_11 : decode cX9_at 11 = .ok (.lreturn, 1) := by decide +kernel
theorem dX9_put_0 : decode cX9_put 0 = .ok (.lload_n 3, 1) := by decide +kernel
theorem dX9_put_1 : decode cX9_put 1 = .ok (.lstore 5, 2) := by decide +kernel
theorem dX9_put_3 : decode cX9_put 3 = .ok (.aload_n 0, 1) := by decide +kernel
theorem dX9_put_4 : decode cX9_put 4 = .ok (.getfield 15, 3) := by decide +kernel
theorem dX9_put_7 : decode cX9_put 7 = .ok (.iload_n 1, 1) := by decide +kernel
theorem dX9_put_8 : decode cX9_put 8 = .ok (.iaload, 1) := by decide +kernel
theorem dX9_put_9 : decode cX9_put 9 = .ok (.ifCond .ne 12, 3) := by decide +kernel
theorem dX9_put_12 : decode cX9_put 12 = .ok (.lload_n 3, 1) := by decide +kernel
theorem dX9_put_13 : decode cX9_put 13 = .ok (.l2i, 1) := by decide +kernel
theorem dX9_put_14 : decode cX9_put 14 = .ok (.i2b, 1) := by decide +kernel
theorem dX9_put_15 : decode cX9_put 15 = .ok (.i2l, 1) := by decide +kernel
theorem dX9_put_16 : decode cX9_put 16 = .ok (.lstore 5, 2) := by decide +kernel
theorem dX9_put_18 : decode cX9_put 18 = .ok (.goto 37, 3) := by decide +kernel
theorem dX9_put_21 : decode cX9_put 21 = .ok (.aload_n 0, 1) := by decide +kernel
theorem dX9_put_22 : decode cX9_put 22 = .ok (.getfield 15, 3) := by decide +kernel
theorem dX9_put_25 : decode cX9_put 25 = .ok (.iload_n 1, 1) := by decide +kernel
theorem dX9_put_26 : decode cX9_put 26 = .ok (.iaload, 1) := by decide +kernel
theorem dX9_put_27 : decode cX9_put 27 = .ok (.iconst 1, 1) := by decide +kernel
theorem dX9_put_28 : decode cX9_put 28 = .ok (.if_icmp .ne 12, 3) := by decide +kernel
theorem dX9_put_31 : decode cX9_put 31 = .ok (.lload_n 3, 1) := by decide +kernel
theorem dX9_put_32 : decode cX9_put 32 = .ok (.l2i, 1) := by decide +kernel
theorem dX9_put_33 : decode cX9_put 33 = .ok (.i2s, 1) := by decide +kernel
theorem dX9_put_34 : decode cX9_put 34 = .ok (.i2l, 1) := by decide +kernel
theorem dX9_put_35 : decode cX9_put 35 = .ok (.lstore 5, 2) := by decide +kernel
theorem dX9_put_37 : decode cX9_put 37 = .ok (.goto 18, 3) := by decide +kernel
theorem dX9_put_40 : decode cX9_put 40 = .ok (.aload_n 0, 1) := by decide +kernel
theorem dX9_put_41 : decode cX9_put 41 = .ok (.getfield 15, 3) := by decide +kernel
theorem dX9_put_44 : decode cX9_put 44 = .ok (.iload_n 1, 1) := by decide +kernel
theorem dX9_put_45 : decode cX9_put 45 = .ok (.iaload, 1) := by decide +kernel
theorem dX9_put_46 : decode cX9_put 46 = .ok (.iconst 2, 1) := by decide +kernel
theorem dX9_put_47 : decode cX9_put 47 = .ok (.if_icmp .ne 8, 3) := by decide +kernel
theorem dX9_put_50 : decode cX9_put 50 = .ok (.lload_n 3, 1) := by decide +kernel
theorem dX9_put_51 : decode cX9_put 51 = .ok (.l2i, 1) := by decide +kernel
theorem dX9_put_52 : decode cX9_put 52 = .ok (.i2l, 1) := by decide +kernel
theorem dX9_put_53 : decode cX9_put 53 = .ok (.lstore 5, 2) := by decide +kernel
theorem dX9_put_55 : decode cX9_put 55 = .ok (.aload_n 0, 1) := by decide +kernel
theorem dX9_put_56 : decode cX9_put 56 = .ok (.getfield 18, 3) := by decide +kernel
theorem dX9_put_59 : decode cX9_put 59 = .ok (.iload_n 1, 1) := by decide +kernel
theorem dX9_put_60 : decode cX9_put 60 = .ok (.bipush 40, 2) := by decide +kernel
theorem dX9_put_62 : decode cX9_put 62 = .ok (.imul, 1) := by decide +kernel
theorem dX9_put_63 : decode cX9_put 63 = .ok (.iload_n 2, 1) := by decide +kernel
theorem dX9_put_64 : decode cX9_put 64 = .ok (.iadd, 1) := by decide +kernel
theorem dX9_put_65 : decode cX9_put 65 = .ok (.lload 5, 2) := by decide +kernel
theorem dX9_put_67 : decode cX9_put 67 = .ok (.lastore, 1) := by decide +kernel
theorem dX9_put_68 : decode cX9_put 68 = .ok (.lload 5, 2) := by decide +kernel
theorem dX9_put_70 : decode cX9_put 70 = .ok (.lreturn, 1) := by decide +kernel
theorem dX11_tray_0 : decode cX11_tray 0 = .ok (.aload_n 0, 1) := by decide +kernel
theorem dX11_tray_1 : decode cX11_tray 1 = .ok (.iload_n 1, 1) := by decide +kernel
theorem dX11_tray_2 : decode cX11_tray 2 = .ok (.invokevirtual 273, 3) := by decide +kernel
theorem dX11_tray_5 : decode cX11_tray 5 = .ok (.aload_n 0, 1) := by decide +kernel
theorem dX11_tray_6 : decode cX11_tray 6 = .ok (.iload_n 2, 1) := by decide +kernel
theorem dX11_tray_7 : decode cX11_tray 7 = .ok (.iconst 0, 1) := by decide +kernel
theorem dX11_tray_8 : decode cX11_tray 8 = .ok (.iconst 3, 1) := by decide +kernel
theorem dX11_tray_9 : decode cX11_tray 9 = .ok (.invokevirtual 175, 3) := by decide +kernel
theorem dX11_tray_12 : decode cX11_tray 12 = .ok (.aload_n 0, 1) := by decide +kernel
theorem dX11_tray_13 : decode cX11_tray 13 = .ok (.iload_n 3, 1) := by decide +kernel
theorem dX11_tray_14 : decode cX11_tray 14 = .ok (.iconst 0, 1) := by decide +kernel
theorem dX11_tray_15 : decode cX11_tray 15 = .ok (.bipush 40, 2) := by decide +kernel
theorem dX11_tray_17 : decode cX11_tray 17 = .ok (.invokevirtual 175, 3) := by decide +kernel
theorem dX11_tray_20 : decode cX11_tray 20 = .ok (.aload_n 0, 1) := by decide +kernel
theorem dX11_tray_21 : decode cX11_tray 21 = .ok (.getfield 86, 3) := by decide +kernel
theorem dX11_tray_24 : decode cX11_tray 24 = .ok (.iload_n 1, 1) := by decide +kernel
theorem dX11_tray_25 : decode cX11_tray 25 = .ok (.iload_n 2, 1) := by decide +kernel
theorem dX11_tray_26 : decode cX11_tray 26 = .ok (.iload_n 3, 1) := by decide +kernel
theorem dX11_tray_27 : decode cX11_tray 27 = .ok (.invokevirtual 326, 3) := by decide +kernel
theorem dX11_tray_30 : decode cX11_tray 30 = .ok (.return_, 1) := by decide +kernel
theorem dX11_write_0 : decode cX11_write 0 = .ok (.aload_n 0, 1) := by decide +kernel
theorem dX11_write_1 : decode cX11_write 1 = .ok (.iload_n 1, 1) := by decide +kernel
theorem dX11_write_2 : decode cX11_write 2 = .ok (.invokevirtual 273, 3) := by decide +kernel
theorem dX11_write_5 : decode cX11_write 5 = .ok (.aload_n 0, 1) := by decide +kernel
theorem dX11_write_6 : decode cX11_write 6 = .ok (.iload_n 1, 1) := by decide +kernel
theorem dX11_write_7 : decode cX11_write 7 = .ok (.invokevirtual 329, 3) := by decide +kernel
theorem dX11_write_10 : decode cX11_write 10 = .ok (.iload_n 2, 1) := by decide +kernel
theorem dX11_write_11 : decode cX11_write 11 = .ok (.ifCond .lt 16, 3) := by decide +kernel
theorem dX11_write_14 : decode cX11_write 14 = .ok (.iload_n 2, 1) := by decide +kernel
theorem dX11_write_15 : decode cX11_write 15 = .ok (.aload_n 0, 1) := by decide +kernel
theorem dX11_write_16 : decode cX11_write 16 = .ok (.getfield 86, 3) := by decide +kernel
theorem dX11_write_19 : decode cX11_write 19 = .ok (.getfield 332, 3) := by decide +kernel
theorem dX11_write_22 : decode cX11_write 22 = .ok (.iload_n 1, 1) := by decide +kernel
theorem dX11_write_23 : decode cX11_write 23 = .ok (.iaload, 1) := by decide +kernel
theorem dX11_write_24 : decode cX11_write 24 = .ok (.if_icmp .lt 11, 3) := by decide +kernel
theorem dX11_write_27 : decode cX11_write 27 = .ok (.new 335, 3) := by decide +kernel
theorem dX11_write_30 : decode cX11_write 30 = .ok (.dup, 1) := by decide +kernel
theorem dX11_write_31 : decode cX11_write 31 = .ok (.invokespecial 337, 3) := by decide +kernel
theorem dX11_write_34 : decode cX11_write 34 = .ok (.athrow, 1) := by decide +kernel
theorem dX11_write_35 : decode cX11_write 35 = .ok (.aload_n 0, 1) := by decide +kernel
theorem dX11_write_36 : decode cX11_write 36 = .ok (.getfield 86, 3) := by decide +kernel
theorem dX11_write_39 : decode cX11_write 39 = .ok (.iload_n 1, 1) := by decide +kernel
theorem dX11_write_40 : decode cX11_write 40 = .ok (.iload_n 2, 1) := by decide +kernel
theorem dX11_write_41 : decode cX11_write 41 = .ok (.lload_n 3, 1) := by decide +kernel
theorem dX11_write_42 : decode cX11_write 42 = .ok (.invokevirtual 338, 3) := by decide +kernel
theorem dX11_write_45 : decode cX11_write 45 = .ok (.lreturn, 1) := by decide +kernel
theorem dX11_take_0 : decode cX11_take 0 = .ok (.aload_n 0, 1) := by decide +kernel
theorem dX11_take_1 : decode cX11_take 1 = .ok (.iload_n 1, 1) := by decide +kernel
theorem dX11_take_2 : decode cX11_take 2 = .ok (.invokevirtual 273, 3) := by decide +kernel
theorem dX11_take_5 : decode cX11_take 5 = .ok (.aload_n 0, 1) := by decide +kernel
theorem dX11_take_6 : decode cX11_take 6 = .ok (.iload_n 2, 1) := by decide +kernel
theorem dX11_take_7 : decode cX11_take 7 = .ok (.invokevirtual 101, 3) := by decide +kernel
theorem dX11_take_10 : decode cX11_take 10 = .ok (.aload_n 0, 1) := by decide +kernel
theorem dX11_take_11 : decode cX11_take 11 = .ok (.iload_n 1, 1) := by decide +kernel
theorem dX11_take_12 : decode cX11_take 12 = .ok (.invokevirtual 329, 3) := by decide +kernel
theorem dX11_take_15 : decode cX11_take 15 = .ok (.aload_n 0, 1) := by decide +kernel
theorem dX11_take_16 : decode cX11_take 16 = .ok (.getfield 86, 3) := by decide +kernel
theorem dX11_take_19 : decode cX11_take 19 = .ok (.getfield 332, 3) := by decide +kernel
theorem dX11_take_22 : decode cX11_take 22 = .ok (.iload_n 1, 1) := by decide +kernel
theorem dX11_take_23 : decode cX11_take 23 = .ok (.iaload, 1) := by decide +kernel
theorem dX11_take_24 : decode cX11_take 24 = .ok (.istore_n 3, 1) := by decide +kernel
theorem dX11_take_25 : decode cX11_take 25 = .ok (.aload_n 0, 1) := by decide +kernel
theorem dX11_take_26 : decode cX11_take 26 = .ok (.iload_n 3, 1) := by decide +kernel
theorem dX11_take_27 : decode cX11_take 27 = .ok (.iconst 0, 1) := by decide +kernel
theorem dX11_take_28 : decode cX11_take 28 = .ok (.bipush 6, 2) := by decide +kernel
theorem dX11_take_30 : decode cX11_take 30 = .ok (.invokevirtual 175, 3) := by decide +kernel
theorem dX11_take_33 : decode cX11_take 33 = .ok (.iconst 0, 1) := by decide +kernel
theorem dX11_take_34 : decode cX11_take 34 = .ok (.istore 4, 2) := by decide +kernel
theorem dX11_take_36 : decode cX11_take 36 = .ok (.iload 4, 2) := by decide +kernel
theorem dX11_take_38 : decode cX11_take 38 = .ok (.iload_n 3, 1) := by decide +kernel
theorem dX11_take_39 : decode cX11_take 39 = .ok (.if_icmp .ge 45, 3) := by decide +kernel
theorem dX11_take_42 : decode cX11_take 42 = .ok (.aload_n 0, 1) := by decide +kernel
theorem dX11_take_43 : decode cX11_take 43 = .ok (.getfield 86, 3) := by decide +kernel
theorem dX11_take_46 : decode cX11_take 46 = .ok (.iload_n 1, 1) := by decide +kernel
theorem dX11_take_47 : decode cX11_take 47 = .ok (.iload 4, 2) := by decide +kernel
theorem dX11_take_49 : decode cX11_take 49 = .ok (.invokevirtual 342, 3) := by decide +kernel
theorem dX11_take_52 : decode cX11_take 52 = .ok (.lstore 5, 2) := by decide +kernel
theorem dX11_take_54 : decode cX11_take 54 = .ok (.lload 5, 2) := by decide +kernel
theorem dX11_take_56 : decode cX11_take 56 = .ok (.lconst 0, 1) := by decide +kernel
theorem dX11_take_57 : decode cX11_take 57 = .ok (.lcmp, 1) := by decide +kernel
theorem dX11_take_58 : decode cX11_take 58 = .ok (.ifCond .lt 12, 3) := by decide +kernel
theorem dX11_take_61 : decode cX11_take 61 = .ok (.lload 5, 2) := by decide +kernel
theorem dX11_take_63 : decode cX11_take 63 = .ok (.ldc2_w 345, 3) := by decide +kernel
theorem dX11_take_66 : decode cX11_take 66 = .ok (.lcmp, 1) := by decide +kernel
theorem dX11_take_67 : decode cX11_take 67 = .ok (.ifCond .le 11, 3) := by decide +kernel
theorem dX11_take_70 : decode cX11_take 70 = .ok (.new 148, 3) := by decide +kernel
theorem dX11_take_73 : decode cX11_take 73 = .ok (.dup, 1) := by decide +kernel
theorem dX11_take_74 : decode cX11_take 74 = .ok (.invokespecial 150, 3) := by decide +kernel
theorem dX11_take_77 : decode cX11_take 77 = .ok (.athrow, 1) := by decide +kernel
theorem dX11_take_78 : decode cX11_take 78 = .ok (.iinc 4 1, 3) := by decide +kernel
theorem dX11_take_81 : decode cX11_take 81 = .ok (.goto (-45), 3) := by decide +kernel
theorem dX11_take_84 : decode cX11_take 84 = .ok (.iconst 0, 1) := by decide +kernel
theorem dX11_take_85 : decode cX11_take 85 = .ok (.istore 4, 2) := by decide +kernel
theorem dX11_take_87 : decode cX11_take 87 = .ok (.iload 4, 2) := by decide +kernel
theorem dX11_take_89 : decode cX11_take 89 = .ok (.iload_n 3, 1) := by decide +kernel
theorem dX11_take_90 : decode cX11_take 90 = .ok (.if_icmp .ge 35, 3) := by decide +kernel
theorem dX11_take_93 : decode cX11_take 93 = .ok (.aload_n 0, 1) := by decide +kernel
theorem dX11_take_94 : decode cX11_take 94 = .ok (.getfield 10, 3) := by decide +kernel
theorem dX11_take_97 : decode cX11_take 97 = .ok (.getfield 108, 3) := by decide +kernel
theorem dX11_take_100 : decode cX11_take 100 = .ok (.iload_n 2, 1) := by decide +kernel
theorem dX11_take_101 : decode cX11_take 101 = .ok (.bipush 6, 2) := by decide +kernel
theorem dX11_take_103 : decode cX11_take 103 = .ok (.imul, 1) := by decide +kernel
theorem dX11_take_104 : decode cX11_take 104 = .ok (.iload 4, 2) := by decide +kernel
theorem dX11_take_106 : decode cX11_take 106 = .ok (.iadd, 1) := by decide +kernel
theorem dX11_take_107 : decode cX11_take 107 = .ok (.aload_n 0, 1) := by decide +kernel
theorem dX11_take_108 : decode cX11_take 108 = .ok (.getfield 86, 3) := by decide +kernel
theorem dX11_take_111 : decode cX11_take 111 = .ok (.iload_n 1, 1) := by decide +kernel
theorem dX11_take_112 : decode cX11_take 112 = .ok (.iload 4, 2) := by decide +kernel
theorem dX11_take_114 : decode cX11_take 114 = .ok (.invokevirtual 342, 3) := by decide +kernel
theorem dX11_take_117 : decode cX11_take 117 = .ok (.l2i, 1) := by decide +kernel
theorem dX11_take_118 : decode cX11_take 118 = .ok (.iastore, 1) := by decide +kernel
theorem dX11_take_119 : decode cX11_take 119 = .ok (.iinc 4 1, 3) := by decide +kernel
theorem dX11_take_122 : decode cX11_take 122 = .ok (.goto (-35), 3) := by decide +kernel
theorem dX11_take_125 : decode cX11_take 125 = .ok (.aload_n 0, 1) := by decide +kernel
theorem dX11_take_126 : decode cX11_take 126 = .ok (.iload_n 2, 1) := by decide +kernel
theorem dX11_take_127 : decode cX11_take 127 = .ok (.invokevirtual 98, 3) := by decide +kernel
theorem dX11_take_130 : decode cX11_take 130 = .ok (.iload_n 3, 1) := by decide +kernel
theorem dX11_take_131 : decode cX11_take 131 = .ok (.ireturn, 1) := by decide +kernel
def opCv (M : aM) (N : Nat) (S : aS) (sp : Int × Int × aM) (xs : Int → Nat) : aQ := fun o N' S' M' => N' = N ∧ S' = S ∧ frC M M' ∧ RC M' N S sp.2.2 ∧ ((sp.1 = 0 ∧ o = .inl none) ∨ (sp.1 ≠ 0 ∧ o = .inr (xs sp.1)))
theorem up_at {A : aM} {r i t v : Int} : up A r t v r i = if i = t then v else A r i := by
  by_cases e : i = t
  · rw [if_pos e, e, up_s]
  · rw [if_neg e, up_i e]
def trA (A : aM) (t s n : Int) : aM := fun k i => if k = 5 ∧ 40 * t ≤ i ∧ i < 40 * t + 40 then 0 else up (up A 3 t s) 4 t n k i
theorem trA_3 {A : aM} {t s n : Int} : trA A t s n 3 = fun i => if i = t then s else A 3 i := funext fun i => by
  unfold trA
  rw [if_neg (by omega), up_a (by omega), up_at]
theorem trA_4 {A : aM} {t s n : Int} : trA A t s n 4 = fun i => if i = t then n else A 4 i := funext fun i => by
  unfold trA
  rw [if_neg (by omega), up_at, up_a (by omega)]
theorem RTy.num {M A : aM} {i v : Int} (h : RTy M A) : RTy (up M 107 i v) (up A 5 i v) := by
  unfold RTy
  rw [show up A 5 i v 3 = A 3 from funext fun j => up_a (by omega), show up A 5 i v 4 = A 4 from funext fun j => up_a (by omega)]
  refine ⟨fun j a b => ?_, fun j a b => ?_⟩
  · rw [up_a (by omega), up_a (by omega)]; exact h.1 j a b
  · rw [up_at, up_at, h.2 j a b]
def layM (M : aM) (t s n k : Int) : aM := fun a j => if a = 107 ∧ t * 40 ≤ j ∧ j < t * 40 + k then 0 else up (up M 105 t n) 106 t s a j
theorem RTy.lay {M A : aM} {t s n : Int} (h : RTy M A) (hs : 0 ≤ s) : RTy (layM M t s n 40) (trA A t s n) := by
  unfold RTy
  rw [trA_3, trA_4]
  refine ⟨fun i a b => ?_, fun i a b => ?_⟩
  · have g := h.1 i a b
    have e5 : layM M t s n 40 105 i = if i = t then n else M 105 i := by
      unfold layM
      rw [if_neg (by omega), up_a (by omega), up_at]
    have e6 : layM M t s n 40 106 i = if i = t then s else M 106 i := by
      unfold layM
      rw [if_neg (by omega), up_at, up_a (by omega)]
    rw [e5, e6]
    dsimp only
    by_cases e : i = t
    · simp only [if_pos e]
      rw [if_neg (by omega)]
      exact ⟨rfl, fun _ => by first | rfl | trivial⟩
    · simp only [if_neg e]
      exact g
  · have g := h.2 i a b
    unfold layM trA
    by_cases e : 40 * t ≤ i ∧ i < 40 * t + 40
    · rw [if_pos (by omega), if_pos (by omega)]
    · rw [if_neg (by omega), if_neg (by omega), up_a (by omega), up_a (by omega), up_a (by omega), up_a (by omega)]
      exact g
theorem RC.ty {M M' A A' : aM} {N : Nat} {S : aS} (h : RC M N S A) (hM : ∀ a, a ≠ 105 → a ≠ 106 → a ≠ 107 → eqR M M' a) (hA : ∀ r, r ≠ 3 → r ≠ 4 → r ≠ 5 → A' r = A r) (hT : RTy M' A') : RC M' N S A' := by
  obtain ⟨h1, h2, h3, h4, h5, h6, h7, h8, h9⟩ := h
  have g : ∀ a, ¬ (105 ≤ a ∧ a < 108) → eqR M M' a := fun a x => hM a (by omega) (by omega) (by omega)
  refine ⟨?_, ?_, ?_, hT, ?_, ?_, ?_, h8.cg (fun a x y => g a (by omega)) (fun a x y => g a (by omega)), by rw [hA 0 (by omega) (by omega) (by omega)]; exact h9.cg (g 82 (by omega))⟩
  · rw [hA 0 (by omega) (by omega) (by omega)]; exact h1.cg fun a x y => g a (by omega)
  · have z := h2.cg (g 0 (by omega))
    unfold RFr at z ⊢
    rw [hA 2 (by omega) (by omega) (by omega)]; exact z
  · have z := h3.cg (g 17 (by omega)) (g 18 (by omega))
    unfold RRd at z ⊢
    rw [hA 2 (by omega) (by omega) (by omega), hA 1 (by omega) (by omega) (by omega)]; exact z
  · have z : RIm M' N S A := ⟨fun i a b => by
      rw [g 16 (by omega) i]
      rcases h5.1 i a b with h1 | ⟨h1, h2, h3, h4, h5⟩
      · exact Or.inl h1
      · exact Or.inr ⟨h1, h2, h3, h4, h5.cg fun a x y => g a (by omega)⟩, fun i j a b c d q => by
      rw [g 16 (by omega) i, g 16 (by omega) j]
      exact h5.2 i j a b c d q⟩
    unfold RIm at z ⊢
    rw [hA 6 (by omega) (by omega) (by omega), hA 7 (by omega) (by omega) (by omega)]; exact z
  · rw [hA 0 (by omega) (by omega) (by omega)]; exact h6.cg fun a x y => g a (by omega)
  · rw [hA 0 (by omega) (by omega) (by omega)]; exact h7.cg (g _ (by omega))
theorem s_lay {l : Launch} {E : aE} {N : Nat} {S : aS} {M : aM} (hfl : l.stackTraces = false) (t s n : Int) (hC : lyC S) (ht : 0 ≤ t ∧ t < 4) : aMt l E pX9_lay [(2, 104), (0, t), (0, s), (0, n)] N S M (aU N S (fun M' => M' = layM M t s n 40)) := by
  refine a_met hfl rfl (by decide +kernel) (Nat.le_of_ble_eq_true rfl) ?_
  refine x_aload_n (pc := 0) dX9_lay_0 rfl rfl ?_
  refine x_getR (jj := 0) (pc := 1) dX9_lay_1 fX9_9 (sC_104 hC) rfl (by decide) rfl rC_104_0 ?_
  refine x_iload_n (pc := 4) dX9_lay_4 rfl rfl ?_
  refine x_iload_n (pc := 5) dX9_lay_5 rfl rfl ?_
  refine x_iastore (pc := 6) dX9_lay_6 (sC_105 hC) (by omega) ?_
  refine x_aload_n (pc := 7) dX9_lay_7 rfl rfl ?_
  refine x_getR (jj := 1) (pc := 8) dX9_lay_8 fX9_15 (sC_104 hC) rfl (by decide) rfl rC_104_1 ?_
  refine x_iload_n (pc := 11) dX9_lay_11 rfl rfl ?_
  refine x_iload_n (pc := 12) dX9_lay_12 rfl rfl ?_
  refine x_iastore (pc := 13) dX9_lay_13 (sC_106 hC) (by omega) ?_
  refine x_iconst (pc := 14) dX9_lay_14 (by decide) ?_
  refine x_istore (pc := 15) dX9_lay_15 (by decide) rfl ?_
  have loop := a_loop2 (fun k M1 => 0 ≤ k ∧ k ≤ 40 ∧ M1 = layM M t s n k) (fun k _ => (40 - k).toNat) (fun k M1 => aX l E pX9_lay (aU N S (fun M' => M' = layM M t s n 40)) 0 0 N S M1 17 [(0, (2, 104)), (1, (0, t)), (2, (0, s)), (3, (0, n)), (4, (0, k))] []) (by
    intro k M1 hI ih
    have k0 := hI.1
    have k1 := hI.2.1
    refine x_iload (pc := 17) dX9_lay_17 rfl ?_
    refine x_bipush (pc := 19) dX9_lay_19 (by decide) ?_
    refine x_icmp_ge (tgt := 43) (pc := 21) dX9_lay_21 (by decide) (fun c_21 => ?_) (fun c_21 => ?_)
    · refine x_return (pc := 43) dX9_lay_43 rfl (by decide) ?_
      exact ⟨rfl, rfl, rfl, by rw [hI.2.2, show k = 40 by omega]⟩
    · refine x_aload_n (pc := 24) dX9_lay_24 rfl rfl ?_
      refine x_getR (jj := 2) (pc := 25) dX9_lay_25 fX9_18 (sC_104 hC) rfl (by decide) rfl rC_104_2 ?_
      refine x_iload_n (pc := 28) dX9_lay_28 rfl rfl ?_
      refine x_bipush (pc := 29) dX9_lay_29 (by decide) ?_
      refine x_imul (pc := 31) dX9_lay_31 (by omega) ?_
      refine x_iload (pc := 32) dX9_lay_32 rfl ?_
      refine x_iadd (pc := 34) dX9_lay_34 (by omega) ?_
      refine x_lconst0 (pc := 35) dX9_lay_35 ?_
      refine x_lastore (pc := 36) dX9_lay_36 (sC_107 hC) (by omega) ?_
      refine x_iinc (pc := 37) dX9_lay_37 rfl (by omega) (by decide) rfl ?_
      refine x_goto (tgt := 17) (pc := 40) dX9_lay_40 (by decide) ?_
      refine x_lo (lo' := [(0, (2, 104)), (1, (0, t)), (2, (0, s)), (3, (0, n)), (4, (0, k + 1))]) ⟨rfl, rfl, rfl, rfl, rfl, trivial⟩ (ih (k + 1) _ ⟨by omega, by omega, ?_⟩ (by omega))
      rw [hI.2.2]
      funext a j
      unfold layM up
      dsimp only
      by_cases e : a = 107 ∧ j = t * 40 + k
      · rw [if_pos e, if_pos (by omega)]
      · rw [if_neg e]
        by_cases e2 : a = 107 ∧ t * 40 ≤ j ∧ j < t * 40 + k
        · rw [if_pos e2, if_pos (by omega)]
        · rw [if_neg e2, if_neg (show ¬ (a = 107 ∧ t * 40 ≤ j ∧ j < t * 40 + (k + 1)) by omega)])
  refine x_lo (lo' := [(0, (2, 104)), (1, (0, t)), (2, (0, s)), (3, (0, n)), (4, (0, 0))]) ⟨rfl, rfl, rfl, rfl, rfl, trivial⟩ (loop 0 _ ⟨by omega, by omega, ?_⟩)
  funext a j
  unfold layM
  rw [if_neg (by omega)]
theorem s_at {l : Launch} {E : aE} {N : Nat} {S : aS} {M : aM} (hfl : l.stackTraces = false) (t i : Int) (hC : lyC S) (ht : 0 ≤ t ∧ t < 4) (hi : 0 ≤ i ∧ i < 40) : aMt l E pX9_at [(2, 104), (0, t), (0, i)] N S M (aR (1, M 107 (t * 40 + i)) N S M) := by
  refine a_met hfl rfl (by decide +kernel) (Nat.le_of_ble_eq_true rfl) ?_
  refine x_aload_n (pc := 0) dX9_at_0 rfl rfl ?_
  refine x_getR (jj := 2) (pc := 1) dX9_at_1 fX9_18 (sC_104 hC) rfl (by decide) rfl rC_104_2 ?_
  refine x_iload_n (pc := 4) dX9_at_4 rfl rfl ?_
  refine x_bipush (pc := 5) dX9_at_5 (by decide) ?_
  refine x_imul (pc := 7) dX9_at_7 (by omega) ?_
  refine x_iload_n (pc := 8) dX9_at_8 rfl rfl ?_
  refine x_iadd (pc := 9) dX9_at_9 (by omega) ?_
  refine x_laloadV (pc := 10) dX9_at_10 (sC_107 hC) (by omega) (by (repeat (first | rewrite [up_s] | rewrite [up_i (by omega)] | rewrite [up_a (by omega)])); rfl) (fun g_10 => ?_)
  refine x_lreturn (pc := 11) dX9_at_11 rfl (by decide) ?_
  exact ⟨rfl, rfl, rfl, rfl⟩
theorem s_put {l : Launch} {E : aE} {N : Nat} {S : aS} {M : aM} (hfl : l.stackTraces = false) (t n v : Int) (hC : lyC S) (ht : 0 ≤ t ∧ t < 4) (hi : 0 ≤ n ∧ n < 40) (hq : 0 ≤ M 106 t ∧ M 106 t ≤ 3) (hv : -9223372036854775808 ≤ v ∧ v ≤ 9223372036854775807) : aMt l E pX9_put [(2, 104), (0, t), (0, n), (1, v)] N S M (aG N S (fun r M' => r = (1, cut (M 106 t) v) ∧ M' = up M 107 (t * 40 + n) (cut (M 106 t) v))) := by
  refine a_met hfl rfl (by decide +kernel) (Nat.le_of_ble_eq_true rfl) ?_
  refine x_lload_n (pc := 0) dX9_put_0 rfl rfl ?_
  refine x_lstore (pc := 1) dX9_put_1 (by decide) rfl ?_
  refine x_aload_n (pc := 3) dX9_put_3 rfl rfl ?_
  refine x_getR (jj := 1) (pc := 4) dX9_put_4 fX9_15 (sC_104 hC) rfl (by decide) rfl rC_104_1 ?_
  refine x_iload_n (pc := 7) dX9_put_7 rfl rfl ?_
  refine x_ialoadV (pc := 8) dX9_put_8 (sC_106 hC) (by omega) (by (repeat (first | rewrite [up_s] | rewrite [up_i (by omega)] | rewrite [up_a (by omega)])); rfl) (fun g_8 => ?_)
  refine x_if_ne (tgt := 21) (pc := 9) dX9_put_9 (by decide) (fun c_9 => ?_) (fun c_9 => ?_)
  · refine x_aload_n (pc := 21) dX9_put_21 rfl rfl ?_
    refine x_getR (jj := 1) (pc := 22) dX9_put_22 fX9_15 (sC_104 hC) rfl (by decide) rfl rC_104_1 ?_
    refine x_iload_n (pc := 25) dX9_put_25 rfl rfl ?_
    refine x_ialoadV (pc := 26) dX9_put_26 (sC_106 hC) (by omega) (by (repeat (first | rewrite [up_s] | rewrite [up_i (by omega)] | rewrite [up_a (by omega)])); rfl) (fun g_26 => ?_)
    refine x_iconst (pc := 27) dX9_put_27 (by decide) ?_
    refine x_icmp_ne (tgt := 40) (pc := 28) dX9_put_28 (by decide) (fun c_28 => ?_) (fun c_28 => ?_)
    · refine x_aload_n (pc := 40) dX9_put_40 rfl rfl ?_
      refine x_getR (jj := 1) (pc := 41) dX9_put_41 fX9_15 (sC_104 hC) rfl (by decide) rfl rC_104_1 ?_
      refine x_iload_n (pc := 44) dX9_put_44 rfl rfl ?_
      refine x_ialoadV (pc := 45) dX9_put_45 (sC_106 hC) (by omega) (by (repeat (first | rewrite [up_s] | rewrite [up_i (by omega)] | rewrite [up_a (by omega)])); rfl) (fun g_45 => ?_)
      refine x_iconst (pc := 46) dX9_put_46 (by decide) ?_
      refine x_icmp_ne (tgt := 55) (pc := 47) dX9_put_47 (by decide) (fun c_47 => ?_) (fun c_47 => ?_)
      · refine x_aload_n (pc := 55) dX9_put_55 rfl rfl ?_
        refine x_getR (jj := 2) (pc := 56) dX9_put_56 fX9_18 (sC_104 hC) rfl (by decide) rfl rC_104_2 ?_
        refine x_iload_n (pc := 59) dX9_put_59 rfl rfl ?_
        refine x_bipush (pc := 60) dX9_put_60 (by decide) ?_
        refine x_imul (pc := 62) dX9_put_62 (by omega) ?_
        refine x_iload_n (pc := 63) dX9_put_63 rfl rfl ?_
        refine x_iadd (pc := 64) dX9_put_64 (by omega) ?_
        refine x_lload (pc := 65) dX9_put_65 rfl ?_
        refine x_lastore (pc := 67) dX9_put_67 (sC_107 hC) (by omega) ?_
        refine x_lload (pc := 68) dX9_put_68 rfl ?_
        refine x_lreturn (pc := 70) dX9_put_70 rfl (by decide) ?_
        have e9 : cut (M 106 t) v = v := by
          rw [show M 106 t = 3 by omega, cut_3 hv]
        exact ⟨_, rfl, rfl, rfl, by rw [e9], by rw [e9]⟩
      · refine x_lload_n (pc := 50) dX9_put_50 rfl rfl ?_
        refine x_l2i (pc := 51) dX9_put_51 ?_
        refine x_i2l (pc := 52) dX9_put_52 ?_
        refine x_lstore (pc := 53) dX9_put_53 (by decide) rfl ?_
        refine x_aload_n (pc := 55) dX9_put_55 rfl rfl ?_
        refine x_getR (jj := 2) (pc := 56) dX9_put_56 fX9_18 (sC_104 hC) rfl (by decide) rfl rC_104_2 ?_
        refine x_iload_n (pc := 59) dX9_put_59 rfl rfl ?_
        refine x_bipush (pc := 60) dX9_put_60 (by decide) ?_
        refine x_imul (pc := 62) dX9_put_62 (by omega) ?_
        refine x_iload_n (pc := 63) dX9_put_63 rfl rfl ?_
        refine x_iadd (pc := 64) dX9_put_64 (by omega) ?_
        refine x_lload (pc := 65) dX9_put_65 rfl ?_
        refine x_lastore (pc := 67) dX9_put_67 (sC_107 hC) (by omega) ?_
        refine x_lload (pc := 68) dX9_put_68 rfl ?_
        refine x_lreturn (pc := 70) dX9_put_70 rfl (by decide) ?_
        have e9 : cut (M 106 t) v = b_l2i v := by
          rw [show M 106 t = 2 by omega, cut_2]
        exact ⟨_, rfl, rfl, rfl, by rw [e9], by rw [e9]⟩
    · refine x_lload_n (pc := 31) dX9_put_31 rfl rfl ?_
      refine x_l2i (pc := 32) dX9_put_32 ?_
      refine x_i2s (pc := 33) dX9_put_33 ?_
      refine x_i2l (pc := 34) dX9_put_34 ?_
      refine x_lstore (pc := 35) dX9_put_35 (by decide) rfl ?_
      refine x_goto (tgt := 55) (pc := 37) dX9_put_37 (by decide) ?_
      refine x_aload_n (pc := 55) dX9_put_55 rfl rfl ?_
      refine x_getR (jj := 2) (pc := 56) dX9_put_56 fX9_18 (sC_104 hC) rfl (by decide) rfl rC_104_2 ?_
      refine x_iload_n (pc := 59) dX9_put_59 rfl rfl ?_
      refine x_bipush (pc := 60) dX9_put_60 (by decide) ?_
      refine x_imul (pc := 62) dX9_put_62 (by omega) ?_
      refine x_iload_n (pc := 63) dX9_put_63 rfl rfl ?_
      refine x_iadd (pc := 64) dX9_put_64 (by omega) ?_
      refine x_lload (pc := 65) dX9_put_65 rfl ?_
      refine x_lastore (pc := 67) dX9_put_67 (sC_107 hC) (by omega) ?_
      refine x_lload (pc := 68) dX9_put_68 rfl ?_
      refine x_lreturn (pc := 70) dX9_put_70 rfl (by decide) ?_
      have e9 : cut (M 106 t) v = b_i2s (b_l2i v) := by
        rw [show M 106 t = 1 by omega, cut_1]
      exact ⟨_, rfl, rfl, rfl, by rw [e9], by rw [e9]⟩
  · refine x_lload_n (pc := 12) dX9_put_12 rfl rfl ?_
    refine x_l2i (pc := 13) dX9_put_13 ?_
    refine x_i2b (pc := 14) dX9_put_14 ?_
    refine x_i2l (pc := 15) dX9_put_15 ?_
    refine x_lstore (pc := 16) dX9_put_16 (by decide) rfl ?_
    refine x_goto (tgt := 55) (pc := 18) dX9_put_18 (by decide) ?_
    refine x_aload_n (pc := 55) dX9_put_55 rfl rfl ?_
    refine x_getR (jj := 2) (pc := 56) dX9_put_56 fX9_18 (sC_104 hC) rfl (by decide) rfl rC_104_2 ?_
    refine x_iload_n (pc := 59) dX9_put_59 rfl rfl ?_
    refine x_bipush (pc := 60) dX9_put_60 (by decide) ?_
    refine x_imul (pc := 62) dX9_put_62 (by omega) ?_
    refine x_iload_n (pc := 63) dX9_put_63 rfl rfl ?_
    refine x_iadd (pc := 64) dX9_put_64 (by omega) ?_
    refine x_lload (pc := 65) dX9_put_65 rfl ?_
    refine x_lastore (pc := 67) dX9_put_67 (sC_107 hC) (by omega) ?_
    refine x_lload (pc := 68) dX9_put_68 rfl ?_
    refine x_lreturn (pc := 70) dX9_put_70 rfl (by decide) ?_
    have e9 : cut (M 106 t) v = b_i2b (b_l2i v) := by
      rw [show M 106 t = 0 by omega, cut_0]
    exact ⟨_, rfl, rfl, rfl, by rw [e9], by rw [e9]⟩
theorem s_Ctray {l : Launch} {E : aE} {N : Nat} {S : aS} {M : aM} (hfl : l.stackTraces = false) (t s n : Int) (hC : lyC S) (A : aM) (hR : RC M N S A) (hA : TOK (A 0)) : aMt l E pX11_tray [(2, 0), (0, t), (0, s), (0, n)] N S M (opCv M N S (spTray A t s n) (fun k => if k = 1 then 2 else 0)) := by
  refine a_met hfl rfl (by decide +kernel) (Nat.le_of_ble_eq_true rfl) ?_
  have c0 : M 1 1 = A 0 0 := hR.1.1.1
  have t0 := hA.1
  have t9 := hA.2.2.2.2.2.2.2.2.2.2.2.2.2.2.2.2.2.1
  refine x_aload_n (pc := 0) dX11_tray_0 rfl rfl ?_
  refine x_iload_n (pc := 1) dX11_tray_1 rfl rfl ?_
  refine x_callV1 (pc := 2) dX11_tray_2 rfl kX11_273 (s_needTray hfl _) (sC_0 hC) rfl rfl (Nat.le_of_ble_eq_true rfl) (k_N (fun h_2 => ?_)) (n_N (fun h_2 => (by have e9 : spTray A t s n = (1, 0, A) := (by unfold spTray; (repeat' split) <;> first | rfl | (exfalso; omega)); rw [e9]; exact ⟨rfl, rfl, fun _ _ _ _ => rfl, hR, Or.inr ⟨show ¬ (1 : Int) = 0 by decide, rfl⟩⟩)))
  refine x_aload_n (pc := 5) dX11_tray_5 rfl rfl ?_
  refine x_iload_n (pc := 6) dX11_tray_6 rfl rfl ?_
  refine x_iconst (pc := 7) dX11_tray_7 (by decide) ?_
  refine x_iconst (pc := 8) dX11_tray_8 (by decide) ?_
  refine x_callV3 (pc := 9) dX11_tray_9 rfl kX11_175 (s_needWithin hfl _ _ _) (sC_0 hC) rfl rfl (Nat.le_of_ble_eq_true rfl) (k_N (fun h_9 => ?_)) (n_N (fun h_9 => (by have e9 : spTray A t s n = (2, 0, A) := (by unfold spTray; (repeat' split) <;> first | rfl | (exfalso; omega)); rw [e9]; exact ⟨rfl, rfl, fun _ _ _ _ => rfl, hR, Or.inr ⟨show ¬ (2 : Int) = 0 by decide, rfl⟩⟩)))
  refine x_aload_n (pc := 12) dX11_tray_12 rfl rfl ?_
  refine x_iload_n (pc := 13) dX11_tray_13 rfl rfl ?_
  refine x_iconst (pc := 14) dX11_tray_14 (by decide) ?_
  refine x_bipush (pc := 15) dX11_tray_15 (by decide) ?_
  refine x_callV3 (pc := 17) dX11_tray_17 rfl kX11_175 (s_needWithin hfl _ _ _) (sC_0 hC) rfl rfl (Nat.le_of_ble_eq_true rfl) (k_N (fun h_17 => ?_)) (n_N (fun h_17 => (by have e9 : spTray A t s n = (2, 0, A) := (by unfold spTray; (repeat' split) <;> first | rfl | (exfalso; omega)); rw [e9]; exact ⟨rfl, rfl, fun _ _ _ _ => rfl, hR, Or.inr ⟨show ¬ (2 : Int) = 0 by decide, rfl⟩⟩)))
  refine x_aload_n (pc := 20) dX11_tray_20 rfl rfl ?_
  refine x_getR (jj := 9) (pc := 21) dX11_tray_21 fX11_86 (sC_0 hC) rfl (by decide) rfl rC_0_9 ?_
  refine x_iload_n (pc := 24) dX11_tray_24 rfl rfl ?_
  refine x_iload_n (pc := 25) dX11_tray_25 rfl rfl ?_
  refine x_iload_n (pc := 26) dX11_tray_26 rfl rfl ?_
  refine x_callV3 (pc := 27) dX11_tray_27 rfl kX11_326 (s_lay hfl t s n hC (by omega)) (sC_104 hC) rfl rfl (Nat.le_of_ble_eq_true rfl) (k_U (fun M9 hM9 => ?_)) n_U
  subst hM9
  refine x_return (pc := 30) dX11_tray_30 rfl (by decide) ?_
  have e9 : spTray A t s n = (0, 0, trA A t s n) := by
    unfold spTray
    (repeat' split) <;> first | rfl | (exfalso; omega)
  rw [e9]
  refine ⟨rfl, rfl, fun a j x y => ?_, ?_, Or.inl ⟨rfl, rfl⟩⟩
  · unfold layM
    rw [if_neg (by omega), up_a (by omega), up_a (by omega)]
  · refine RC.ty hR (fun a x y z j => ?_) (fun r x y z => funext fun j => ?_) (hR.2.2.2.1.lay (by omega))
    · unfold layM
      rw [if_neg (by omega), up_a (by omega), up_a (by omega)]
    · show trA A t s n r j = A r j
      unfold trA
      rw [if_neg (by omega), up_a (by omega), up_a (by omega)]
def spWrite (A : aM) (t n v : Int) : Int × Int × aM := if ¬ (0 ≤ t ∧ t ≤ 3) then (1, 0, A) else if A 3 t = -1 then (2, 0, A) else if ¬ (0 ≤ n ∧ n ≤ A 4 t - 1) then (3, 0, A) else (0, cut (A 3 t) v, up A 5 (40 * t + n) (cut (A 3 t) v))
theorem s_Mwrite {l : Launch} {E : aE} {N : Nat} {S : aS} {M : aM} (hfl : l.stackTraces = false) (t n v : Int) (m : Int) (A : aM) (hS : lyM S m) (hR : RM M m A) (hA : TOK (A 0)) (hB : ∀ i, 0 ≤ i → i < 4 → (-1 ≤ A 3 i ∧ A 3 i ≤ 3) ∧ (0 ≤ A 4 i ∧ A 4 i ≤ 40)) : aMt l E pX12_write [(2, m), (0, t), (0, n), (1, v)] N S M (aG N S (opM M m 1 (spWrite A t n v))) := by
  refine a_met hfl rfl (by decide +kernel) (Nat.le_of_ble_eq_true rfl) ?_
  refine x_aload_n (pc := 0) dX12_write_0 rfl rfl ?_
  refine x_iconst (pc := 1) dX12_write_1 (by decide) ?_
  refine x_putI (jj := 3) (pc := 2) dX12_write_2 fX12_103 hS.1 rfl (by decide) rfl ?_
  refine x_memI (fun M1 hM1 => ?_)
  have R1 : RM M1 m A := by rw [hM1]; exact hR.up3
  have F1 : frM M M1 m := by rw [hM1]; exact frM.rf.up (by omega)
  have T1 : M1 m 3 = 0 := by rw [hM1]; exact up_s
  clear hM1
  have e0 : M1 (m + 1) 0 = A 0 0 := R1.1.1 0 (by omega) (by omega)
  have t0 := hA.1
  refine x_iload_n (pc := 5) dX12_write_5 rfl rfl ?_
  refine x_callS1 (pc := 6) dX12_write_6 rfl kX12_405 (s_isTray hfl t) rfl (Nat.le_of_ble_eq_true rfl) (k_B (fun q_6 => ?_) (fun q_6 => ?_)) n_B
  · refine x_if_ne (tgt := 19) (pc := 9) dX12_write_9 (by decide) (fun _ => ?_) (fun c => absurd c (by decide))
    have hBt := hB t (by omega) (by omega)
    refine x_aload_n (pc := 19) dX12_write_19 rfl rfl ?_
    refine x_getR (jj := 49) (pc := 20) dX12_write_20 fX12_94 hS.1 rfl (by decide) rfl rM_49 ?_
    refine x_iload_n (pc := 23) dX12_write_23 rfl rfl ?_
    refine x_ialoadV (pc := 24) dX12_write_24 (sM_49 hS) (by omega) (by (repeat (first | rewrite [up_s] | rewrite [up_i (by omega)] | rewrite [up_a (by omega)] | rewrite [stM_a (by omega) (by omega)])); first | exact (R1.1.2.2.2.2.1 _ (by omega) (by omega)).1 | exact (R1.1.2.2.2.2.1 _ (by omega) (by omega)).2 | exact R1.1.1 _ (by omega) (by omega) | rfl) (fun g_24 => ?_)
    refine x_iconst (pc := 25) dX12_write_25 (by decide) ?_
    refine x_icmp_ne (tgt := 36) (pc := 26) dX12_write_26 (by decide) (fun c_26 => ?_) (fun c_26 => ?_)
    · refine x_iload_n (pc := 36) dX12_write_36 rfl rfl ?_
      refine x_i2l (pc := 37) dX12_write_37 ?_
      refine x_lconst0 (pc := 38) dX12_write_38 ?_
      refine x_aload_n (pc := 39) dX12_write_39 rfl rfl ?_
      refine x_getR (jj := 50) (pc := 40) dX12_write_40 fX12_97 hS.1 rfl (by decide) rfl rM_50 ?_
      refine x_iload_n (pc := 43) dX12_write_43 rfl rfl ?_
      refine x_ialoadV (pc := 44) dX12_write_44 (sM_50 hS) (by omega) (by (repeat (first | rewrite [up_s] | rewrite [up_i (by omega)] | rewrite [up_a (by omega)] | rewrite [stM_a (by omega) (by omega)])); first | exact (R1.1.2.2.2.2.1 _ (by omega) (by omega)).1 | exact (R1.1.2.2.2.2.1 _ (by omega) (by omega)).2 | exact R1.1.1 _ (by omega) (by omega) | rfl) (fun g_44 => ?_)
      refine x_iconst (pc := 45) dX12_write_45 (by decide) ?_
      refine x_isub (pc := 46) dX12_write_46 (by omega) ?_
      refine x_i2l (pc := 47) dX12_write_47 ?_
      refine x_callS3 (pc := 48) dX12_write_48 rfl kX12_106 (s_within hfl _ _ _) rfl (Nat.le_of_ble_eq_true rfl) (k_B (fun q_48 => ?_) (fun q_48 => ?_)) n_B
      · refine x_if_ne (tgt := 61) (pc := 51) dX12_write_51 (by decide) (fun _ => ?_) (fun c => absurd c (by decide))
        have q8 := bt_fin (n := 4) (m := 1) (P := fun i _ => 8 ≤ b_shl 8 i ∧ b_shl 8 i ≤ 64) (by decide +kernel) (a := A 3 t) (by omega) (b := 0) (by omega)
        have e0t := e0
        refine x_bipush (pc := 61) dX12_write_61 (by decide) ?_
        refine x_bipush (pc := 63) dX12_write_63 (by decide) ?_
        refine x_aload_n (pc := 65) dX12_write_65 rfl rfl ?_
        refine x_getR (jj := 49) (pc := 66) dX12_write_66 fX12_94 hS.1 rfl (by decide) rfl rM_49 ?_
        refine x_iload_n (pc := 69) dX12_write_69 rfl rfl ?_
        refine x_ialoadV (pc := 70) dX12_write_70 (sM_49 hS) (by omega) (by (repeat (first | rewrite [up_s] | rewrite [up_i (by omega)] | rewrite [up_a (by omega)] | rewrite [stM_a (by omega) (by omega)])); first | exact (R1.1.2.2.2.2.1 _ (by omega) (by omega)).1 | exact (R1.1.2.2.2.2.1 _ (by omega) (by omega)).2 | exact R1.1.1 _ (by omega) (by omega) | rfl) (fun g_70 => ?_)
        refine x_ishl (pc := 71) dX12_write_71 ?_
        refine x_isub (pc := 72) dX12_write_72 (by omega) ?_
        refine x_istore (pc := 73) dX12_write_73 (by decide) rfl ?_
        refine x_aload_n (pc := 75) dX12_write_75 rfl rfl ?_
        refine x_getR (jj := 51) (pc := 76) dX12_write_76 fX12_100 hS.1 rfl (by decide) rfl rM_51 ?_
        refine x_bipush (pc := 79) dX12_write_79 (by decide) ?_
        refine x_iload_n (pc := 81) dX12_write_81 rfl rfl ?_
        refine x_imul (pc := 82) dX12_write_82 (by omega) ?_
        refine x_iload_n (pc := 83) dX12_write_83 rfl rfl ?_
        refine x_iadd (pc := 84) dX12_write_84 (by omega) ?_
        refine x_lload_n (pc := 85) dX12_write_85 rfl rfl ?_
        refine x_iload (pc := 86) dX12_write_86 rfl ?_
        refine x_lshl (pc := 88) dX12_write_88 ?_
        refine x_iload (pc := 89) dX12_write_89 rfl ?_
        refine x_lshr (pc := 91) dX12_write_91 ?_
        refine x_lastore (pc := 92) dX12_write_92 (sM_51 hS) (by omega) ?_
        refine x_aload_n (pc := 93) dX12_write_93 rfl rfl ?_
        refine x_getR (jj := 51) (pc := 94) dX12_write_94 fX12_100 hS.1 rfl (by decide) rfl rM_51 ?_
        refine x_bipush (pc := 97) dX12_write_97 (by decide) ?_
        refine x_iload_n (pc := 99) dX12_write_99 rfl rfl ?_
        refine x_imul (pc := 100) dX12_write_100 (by omega) ?_
        refine x_iload_n (pc := 101) dX12_write_101 rfl rfl ?_
        refine x_iadd (pc := 102) dX12_write_102 (by omega) ?_
        refine x_laloadV (pc := 103) dX12_write_103 (sM_51 hS) (by omega) (by (repeat (first | rewrite [up_s] | rewrite [up_i (by omega)] | rewrite [up_a (by omega)] | rewrite [stM_a (by omega) (by omega)])); first | exact (R1.1.2.2.2.2.1 _ (by omega) (by omega)).1 | exact (R1.1.2.2.2.2.1 _ (by omega) (by omega)).2 | exact R1.1.1 _ (by omega) (by omega) | rfl) (fun g_103 => ?_)
        refine x_lreturn (pc := 104) dX12_write_104 rfl (by decide) ?_
        have e9 : spWrite A t n v = (0, cut (A 3 t) v, up A 5 (40 * t + n) (cut (A 3 t) v)) := by
          unfold spWrite
          (repeat' split) <;> first | rfl | (exfalso; omega)
        rw [e9]
        exact ⟨_, rfl, rfl, rfl, rfl, by rw [up_a (by omega)]; exact T1, fun _ => rfl, R1.row (by omega), F1.up (by omega)⟩
      · refine x_if_ne (tgt := 61) (pc := 51) dX12_write_51 (by decide) (fun c => absurd c (by decide)) (fun _ => ?_)
        refine x_aload_n (pc := 54) dX12_write_54 rfl rfl ?_
        refine x_iconst (pc := 55) dX12_write_55 (by decide) ?_
        refine x_callV1 (pc := 56) dX12_write_56 rfl kX12_116 (s_fails hfl m _ hS) hS.1 rfl rfl (Nat.le_of_ble_eq_true rfl) (k_G (fun v9 M9 hM9 => ?_)) n_G
        obtain ⟨rfl, rfl⟩ := hM9
        refine x_i2l (pc := 59) dX12_write_59 ?_
        refine x_lreturn (pc := 60) dX12_write_60 rfl (by decide) ?_
        have e9 : spWrite A t n v = (3, 0, A) := by
          unfold spWrite
          (repeat' split) <;> first | rfl | (exfalso; omega)
        rw [e9]
        exact ⟨_, rfl, rfl, rfl, rfl, up_s, fun q => absurd q (show ¬ (3 : Int) = 0 by decide), R1.up3, F1.up (by omega)⟩
    · refine x_aload_n (pc := 29) dX12_write_29 rfl rfl ?_
      refine x_iconst (pc := 30) dX12_write_30 (by decide) ?_
      refine x_callV1 (pc := 31) dX12_write_31 rfl kX12_116 (s_fails hfl m _ hS) hS.1 rfl rfl (Nat.le_of_ble_eq_true rfl) (k_G (fun v9 M9 hM9 => ?_)) n_G
      obtain ⟨rfl, rfl⟩ := hM9
      refine x_i2l (pc := 34) dX12_write_34 ?_
      refine x_lreturn (pc := 35) dX12_write_35 rfl (by decide) ?_
      have e9 : spWrite A t n v = (2, 0, A) := by
        unfold spWrite
        (repeat' split) <;> first | rfl | (exfalso; omega)
      rw [e9]
      exact ⟨_, rfl, rfl, rfl, rfl, up_s, fun q => absurd q (show ¬ (2 : Int) = 0 by decide), R1.up3, F1.up (by omega)⟩
  · refine x_if_ne (tgt := 19) (pc := 9) dX12_write_9 (by decide) (fun c => absurd c (by decide)) (fun _ => ?_)
    refine x_aload_n (pc := 12) dX12_write_12 rfl rfl ?_
    refine x_iconst (pc := 13) dX12_write_13 (by decide) ?_
    refine x_callV1 (pc := 14) dX12_write_14 rfl kX12_116 (s_fails hfl m _ hS) hS.1 rfl rfl (Nat.le_of_ble_eq_true rfl) (k_G (fun v9 M9 hM9 => ?_)) n_G
    obtain ⟨rfl, rfl⟩ := hM9
    refine x_i2l (pc := 17) dX12_write_17 ?_
    refine x_lreturn (pc := 18) dX12_write_18 rfl (by decide) ?_
    have e9 : spWrite A t n v = (1, 0, A) := by
      unfold spWrite
      (repeat' split) <;> first | rfl | (exfalso; omega)
    rw [e9]
    exact ⟨_, rfl, rfl, rfl, rfl, up_s, fun q => absurd q (show ¬ (1 : Int) = 0 by decide), R1.up3, F1.up (by omega)⟩
theorem s_Cwrite {l : Launch} {E : aE} {N : Nat} {S : aS} {M : aM} (hfl : l.stackTraces = false) (t n v : Int) (hv : -9223372036854775808 ≤ v ∧ v ≤ 9223372036854775807) (hC : lyC S) (A : aM) (hR : RC M N S A) (hA : TOK (A 0)) (hB : ∀ i, 0 ≤ i → i < 4 → (-1 ≤ A 3 i ∧ A 3 i ≤ 3) ∧ (0 ≤ A 4 i ∧ A 4 i ≤ 40)) : aMt l E pX11_write [(2, 0), (0, t), (0, n), (1, v)] N S M (opC M N S 1 (spWrite A t n v) (fun k => if k = 1 then 2 else if k = 2 then 1 else 3)) := by
  refine a_met hfl rfl (by decide +kernel) (Nat.le_of_ble_eq_true rfl) ?_
  have c0 : M 1 1 = A 0 0 := hR.1.1.1
  have t0 := hA.1
  have t9 := hA.2.2.2.2.2.2.2.2.2.2.2.2.2.2.2.2.2.1
  refine x_aload_n (pc := 0) dX11_write_0 rfl rfl ?_
  refine x_iload_n (pc := 1) dX11_write_1 rfl rfl ?_
  refine x_callV1 (pc := 2) dX11_write_2 rfl kX11_273 (s_needTray hfl _) (sC_0 hC) rfl rfl (Nat.le_of_ble_eq_true rfl) (k_N (fun h_2 => ?_)) (n_N (fun h_2 => (by have e9 : spWrite A t n v = (1, 0, A) := (by unfold spWrite; (repeat' split) <;> first | rfl | (exfalso; omega)); rw [e9]; exact ⟨rfl, rfl, fun _ _ _ _ => rfl, hR, Or.inr ⟨show ¬ (1 : Int) = 0 by decide, rfl⟩⟩)))
  refine x_aload_n (pc := 5) dX11_write_5 rfl rfl ?_
  refine x_iload_n (pc := 6) dX11_write_6 rfl rfl ?_
  have hBt := hB t (by omega) (by omega)
  have g7 := hR.2.2.2.1.1 t (by omega) (by omega)
  have g105 := g7.1
  refine x_callV1 (pc := 7) dX11_write_7 rfl kX11_329 (s_needLaid hfl t hC (by omega)) (sC_0 hC) rfl rfl (Nat.le_of_ble_eq_true rfl) (k_N (fun h_7 => ?_)) (n_N (fun h_7 => (by split at g105 <;> first | exact absurd (show M 105 t ≠ -1 by omega) h_7 | (have e9 : spWrite A t n v = (2, 0, A) := (by unfold spWrite; (repeat' split) <;> first | rfl | (exfalso; omega)); rw [e9]; exact ⟨rfl, rfl, fun _ _ _ _ => rfl, hR, Or.inr ⟨show ¬ (2 : Int) = 0 by decide, rfl⟩⟩))))
  have hl3 : A 3 t ≠ -1 := fun q => by rw [if_pos q] at g105; exact h_7 g105
  rw [if_neg hl3] at g105
  have g106 := g7.2 hl3
  refine x_iload_n (pc := 10) dX11_write_10 rfl rfl ?_
  refine x_if_lt (tgt := 27) (pc := 11) dX11_write_11 (by decide) (fun c_11 => ?_) (fun c_11 => ?_)
  · refine x_throw (pc := 27) thX11_335_337 rfl trivial dX11_write_27 dX11_write_30 dX11_write_31 dX11_write_34 (by decide) ?_
    have e9 : spWrite A t n v = (3, 0, A) := by
      unfold spWrite
      (repeat' split) <;> first | rfl | (exfalso; omega)
    rw [e9]
    exact ⟨rfl, rfl, fun _ _ _ _ => rfl, hR, Or.inr ⟨show ¬ (3 : Int) = 0 by decide, rfl⟩⟩
  · refine x_iload_n (pc := 14) dX11_write_14 rfl rfl ?_
    refine x_aload_n (pc := 15) dX11_write_15 rfl rfl ?_
    refine x_getR (jj := 9) (pc := 16) dX11_write_16 fX11_86 (sC_0 hC) rfl (by decide) rfl rC_0_9 ?_
    refine x_getR (jj := 0) (pc := 19) dX11_write_19 fX11_332 (sC_104 hC) rfl (by decide) rfl rC_104_0 ?_
    refine x_iload_n (pc := 22) dX11_write_22 rfl rfl ?_
    refine x_ialoadV (pc := 23) dX11_write_23 (sC_105 hC) (by omega) (by (repeat (first | rewrite [up_s] | rewrite [up_i (by omega)] | rewrite [up_a (by omega)])); first | exact g105 | rfl) (fun g_23 => ?_)
    refine x_icmp_lt (tgt := 35) (pc := 24) dX11_write_24 (by decide) (fun c_24 => ?_) (fun c_24 => ?_)
    · refine x_aload_n (pc := 35) dX11_write_35 rfl rfl ?_
      refine x_getR (jj := 9) (pc := 36) dX11_write_36 fX11_86 (sC_0 hC) rfl (by decide) rfl rC_0_9 ?_
      refine x_iload_n (pc := 39) dX11_write_39 rfl rfl ?_
      refine x_iload_n (pc := 40) dX11_write_40 rfl rfl ?_
      refine x_lload_n (pc := 41) dX11_write_41 rfl rfl ?_
      refine x_callV3 (pc := 42) dX11_write_42 rfl kX11_338 (s_put hfl t n v hC (by omega) (by omega) (by rw [g106]; omega) hv) (sC_104 hC) rfl rfl (Nat.le_of_ble_eq_true rfl) (k_G (fun v9 M9 hM9 => ?_)) n_G
      obtain ⟨rfl, rfl⟩ := hM9
      rw [g106]
      refine x_lreturn (pc := 45) dX11_write_45 rfl (by decide) ?_
      have e9 : spWrite A t n v = (0, cut (A 3 t) v, up A 5 (40 * t + n) (cut (A 3 t) v)) := by
        unfold spWrite
        (repeat' split) <;> first | rfl | (exfalso; omega)
      rw [e9]
      refine ⟨rfl, rfl, fun a j x y => up_a (by omega), ?_, Or.inl ⟨rfl, rfl⟩⟩
      rw [show t * 40 + n = 40 * t + n by omega]
      exact RC.ty hR (fun a x y z j => up_a z) (fun r x y z => funext fun j => up_a z) hR.2.2.2.1.num
    · refine x_throw (pc := 27) thX11_335_337 rfl trivial dX11_write_27 dX11_write_30 dX11_write_31 dX11_write_34 (by decide) ?_
      have e9 : spWrite A t n v = (3, 0, A) := by
        unfold spWrite
        (repeat' split) <;> first | rfl | (exfalso; omega)
      rw [e9]
      exact ⟨rfl, rfl, fun _ _ _ _ => rfl, hR, Or.inr ⟨show ¬ (3 : Int) = 0 by decide, rfl⟩⟩
