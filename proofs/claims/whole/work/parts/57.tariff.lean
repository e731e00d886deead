/-! prices: the class's tariff -/
theorem dX8_eachOf_0 : decode cX8_eachOf 0 = .ok (.iconst 0, 1) := by decide +kernel
theorem dX8_eachOf_1 : decode cX8_eachOf 1 = .ok (.istore_n 2, 1) := by decide +kernel
theorem dX8_eachOf_2 : decode cX8_eachOf 2 = .ok (.ldc 65, 2) := by decide +kernel
theorem dX8_eachOf_4 : decode cX8_eachOf 4 = .ok (.istore_n 3, 1) := by decide +kernel
theorem dX8_eachOf_5 : decode cX8_eachOf 5 = .ok (.iconst 0, 1) := by decide +kernel
theorem dX8_eachOf_6 : decode cX8_eachOf 6 = .ok (.istore 4, 2) := by decide +kernel
theorem dX8_eachOf_8 : decode cX8_eachOf 8 = .ok (.iload 4, 2) := by decide +kernel
theorem dX8_eachOf_10 : decode cX8_eachOf 10 = .ok (.aload_n 0, 1) := by decide +kernel
theorem dX8_eachOf_11 : decode cX8_eachOf 11 = .ok (.getfield 35, 3) := by decide +kernel
theorem dX8_eachOf_14 : decode cX8_eachOf 14 = .ok (.if_icmp .ge 47, 3) := by decide +kernel
theorem dX8_eachOf_17 : decode cX8_eachOf 17 = .ok (.aload_n 0, 1) := by decide +kernel
theorem dX8_eachOf_18 : decode cX8_eachOf 18 = .ok (.getfield 11, 3) := by decide +kernel
theorem dX8_eachOf_21 : decode cX8_eachOf 21 = .ok (.iload 4, 2) := by decide +kernel
theorem dX8_eachOf_23 : decode cX8_eachOf 23 = .ok (.iaload, 1) := by decide +kernel
theorem dX8_eachOf_24 : decode cX8_eachOf 24 = .ok (.iload_n 1, 1) := by decide +kernel
theorem dX8_eachOf_25 : decode cX8_eachOf 25 = .ok (.if_icmp .gt 30, 3) := by decide +kernel
theorem dX8_eachOf_28 : decode cX8_eachOf 28 = .ok (.aload_n 0, 1) := by decide +kernel
theorem dX8_eachOf_29 : decode cX8_eachOf 29 = .ok (.getfield 11, 3) := by decide +kernel
theorem dX8_eachOf_32 : decode cX8_eachOf 32 = .ok (.iload 4, 2) := by decide +kernel
theorem dX8_eachOf_34 : decode cX8_eachOf 34 = .ok (.iaload, 1) := by decide +kernel
theorem dX8_eachOf_35 : decode cX8_eachOf 35 = .ok (.iload_n 2, 1) := by decide +kernel
theorem dX8_eachOf_36 : decode cX8_eachOf 36 = .ok (.if_icmp .le 19, 3) := by decide +kernel
theorem dX8_eachOf_39 : decode cX8_eachOf 39 = .ok (.aload_n 0, 1) := by decide +kernel
theorem dX8_eachOf_40 : decode cX8_eachOf 40 = .ok (.getfield 11, 3) := by decide +kernel
theorem dX8_eachOf_43 : decode cX8_eachOf 43 = .ok (.iload 4, 2) := by decide +kernel
theorem dX8_eachOf_45 : decode cX8_eachOf 45 = .ok (.iaload, 1) := by decide +kernel
theorem dX8_eachOf_46 : decode cX8_eachOf 46 = .ok (.istore_n 2, 1) := by decide +kernel
theorem dX8_eachOf_47 : decode cX8_eachOf 47 = .ok (.aload_n 0, 1) := by decide +kernel
theorem dX8_eachOf_48 : decode cX8_eachOf 48 = .ok (.getfield 15, 3) := by decide +kernel
theorem dX8_eachOf_51 : decode cX8_eachOf 51 = .ok (.iload 4, 2) := by decide +kernel
theorem dX8_eachOf_53 : decode cX8_eachOf 53 = .ok (.iaload, 1) := by decide +kernel
theorem dX8_eachOf_54 : decode cX8_eachOf 54 = .ok (.istore_n 3, 1) := by decide +kernel
theorem dX8_eachOf_55 : decode cX8_eachOf 55 = .ok (.iinc 4 1, 3) := by decide +kernel
theorem dX8_eachOf_58 : decode cX8_eachOf 58 = .ok (.goto (-50), 3) := by decide +kernel
theorem dX8_eachOf_61 : decode cX8_eachOf 61 = .ok (.iload_n 3, 1) := by decide +kernel
theorem dX8_eachOf_62 : decode cX8_eachOf 62 = .ok (.ireturn, 1) := by decide +kernel
theorem dX8_cartsOf_0 : decode cX8_cartsOf 0 = .ok (.aload_n 0, 1) := by decide +kernel
theorem dX8_cartsOf_1 : decode cX8_cartsOf 1 = .ok (.getfield 38, 3) := by decide +kernel
theorem dX8_cartsOf_4 : decode cX8_cartsOf 4 = .ok (.ifCond .ne 7, 3) := by decide +kernel
theorem dX8_cartsOf_7 : decode cX8_cartsOf 7 = .ok (.iconst 0, 1) := by decide +kernel
theorem dX8_cartsOf_8 : decode cX8_cartsOf 8 = .ok (.goto 5, 3) := by decide +kernel
theorem dX8_cartsOf_11 : decode cX8_cartsOf 11 = .ok (.ldc 65, 2) := by decide +kernel
theorem dX8_cartsOf_13 : decode cX8_cartsOf 13 = .ok (.istore_n 3, 1) := by decide +kernel
theorem dX8_cartsOf_14 : decode cX8_cartsOf 14 = .ok (.iconst 0, 1) := by decide +kernel
theorem dX8_cartsOf_15 : decode cX8_cartsOf 15 = .ok (.istore 4, 2) := by decide +kernel
theorem dX8_cartsOf_17 : decode cX8_cartsOf 17 = .ok (.iload 4, 2) := by decide +kernel
theorem dX8_cartsOf_19 : decode cX8_cartsOf 19 = .ok (.aload_n 0, 1) := by decide +kernel
theorem dX8_cartsOf_20 : decode cX8_cartsOf 20 = .ok (.getfield 38, 3) := by decide +kernel
theorem dX8_cartsOf_23 : decode cX8_cartsOf 23 = .ok (.if_icmp .ge 54, 3) := by decide +kernel
theorem dX8_cartsOf_26 : decode cX8_cartsOf 26 = .ok (.iconst 0, 1) := by decide +kernel
theorem dX8_cartsOf_27 : decode cX8_cartsOf 27 = .ok (.iload_n 1, 1) := by decide +kernel
theorem dX8_cartsOf_28 : decode cX8_cartsOf 28 = .ok (.aload_n 0, 1) := by decide +kernel
theorem dX8_cartsOf_29 : decode cX8_cartsOf 29 = .ok (.getfield 18, 3) := by decide +kernel
theorem dX8_cartsOf_32 : decode cX8_cartsOf 32 = .ok (.iload 4, 2) := by decide +kernel
theorem dX8_cartsOf_34 : decode cX8_cartsOf 34 = .ok (.iaload, 1) := by decide +kernel
theorem dX8_cartsOf_35 : decode cX8_cartsOf 35 = .ok (.isub, 1) := by decide +kernel
theorem dX8_cartsOf_36 : decode cX8_cartsOf 36 = .ok (.invokestatic 66, 3) := by decide +kernel
theorem dX8_cartsOf_39 : decode cX8_cartsOf 39 = .ok (.istore 5, 2) := by decide +kernel
theorem dX8_cartsOf_41 : decode cX8_cartsOf 41 = .ok (.iload 5, 2) := by decide +kernel
theorem dX8_cartsOf_43 : decode cX8_cartsOf 43 = .ok (.iload_n 1, 1) := by decide +kernel
theorem dX8_cartsOf_44 : decode cX8_cartsOf 44 = .ok (.if_icmp .ge 27, 3) := by decide +kernel
theorem dX8_cartsOf_47 : decode cX8_cartsOf 47 = .ok (.iload 5, 2) := by decide +kernel
theorem dX8_cartsOf_49 : decode cX8_cartsOf 49 = .ok (.aload_n 2, 1) := by decide +kernel
theorem dX8_cartsOf_50 : decode cX8_cartsOf 50 = .ok (.arraylength, 1) := by decide +kernel
theorem dX8_cartsOf_51 : decode cX8_cartsOf 51 = .ok (.if_icmp .ge 20, 3) := by decide +kernel
theorem dX8_cartsOf_54 : decode cX8_cartsOf 54 = .ok (.iload_n 3, 1) := by decide +kernel
theorem dX8_cartsOf_55 : decode cX8_cartsOf 55 = .ok (.aload_n 0, 1) := by decide +kernel
theorem dX8_cartsOf_56 : decode cX8_cartsOf 56 = .ok (.getfield 21, 3) := by decide +kernel
theorem dX8_cartsOf_59 : decode cX8_cartsOf 59 = .ok (.iload 4, 2) := by decide +kernel
theorem dX8_cartsOf_61 : decode cX8_cartsOf 61 = .ok (.iaload, 1) := by decide +kernel
theorem dX8_cartsOf_62 : decode cX8_cartsOf 62 = .ok (.aload_n 2, 1) := by decide +kernel
theorem dX8_cartsOf_63 : decode cX8_cartsOf 63 = .ok (.iload 5, 2) := by decide +kernel
theorem dX8_cartsOf_65 : decode cX8_cartsOf 65 = .ok (.iaload, 1) := by decide +kernel
theorem dX8_cartsOf_66 : decode cX8_cartsOf 66 = .ok (.iadd, 1) := by decide +kernel
theorem dX8_cartsOf_67 : decode cX8_cartsOf 67 = .ok (.invokestatic 72, 3) := by decide +kernel
theorem dX8_cartsOf_70 : decode cX8_cartsOf 70 = .ok (.istore_n 3, 1) := by decide +kernel
theorem dX8_cartsOf_71 : decode cX8_cartsOf 71 = .ok (.iinc 4 1, 3) := by decide +kernel
theorem dX8_cartsOf_74 : decode cX8_cartsOf 74 = .ok (.goto (-57), 3) := by decide +kernel
theorem dX8_cartsOf_77 : decode cX8_cartsOf 77 = .ok (.iload_n 3, 1) := by decide +kernel
theorem dX8_cartsOf_78 : decode cX8_cartsOf 78 = .ok (.ireturn, 1) := by decide +kernel
theorem dX4_reach_0 : decode cX4_reach 0 = .ok (.aload_n 0, 1) := by decide +kernel
theorem dX4_reach_1 : decode cX4_reach 1 = .ok (.getfield 28, 3) := by decide +kernel
theorem dX4_reach_4 : decode cX4_reach 4 = .ok (.iconst 1, 1) := by decide +kernel
theorem dX4_reach_5 : decode cX4_reach 5 = .ok (.iadd, 1) := by decide +kernel
theorem dX4_reach_6 : decode cX4_reach 6 = .ok (.istore_n 2, 1) := by decide +kernel
theorem dX4_reach_7 : decode cX4_reach 7 = .ok (.iload_n 2, 1) := by decide +kernel
theorem dX4_reach_8 : decode cX4_reach 8 = .ok (.iload_n 1, 1) := by decide +kernel
theorem dX4_reach_9 : decode cX4_reach 9 = .ok (.if_icmp .gt 104, 3) := by decide +kernel
theorem dX4_reach_12 : decode cX4_reach 12 = .ok (.iload_n 2, 1) := by decide +kernel
theorem dX4_reach_13 : decode cX4_reach 13 = .ok (.sipush 200, 3) := by decide +kernel
theorem dX4_reach_16 : decode cX4_reach 16 = .ok (.if_icmp .gt 97, 3) := by decide +kernel
theorem dX4_reach_19 : decode cX4_reach 19 = .ok (.aload_n 0, 1) := by decide +kernel
theorem dX4_reach_20 : decode cX4_reach 20 = .ok (.getfield 9, 3) := by decide +kernel
theorem dX4_reach_23 : decode cX4_reach 23 = .ok (.iload_n 2, 1) := by decide +kernel
theorem dX4_reach_24 : decode cX4_reach 24 = .ok (.aload_n 0, 1) := by decide +kernel
theorem dX4_reach_25 : decode cX4_reach 25 = .ok (.iload_n 2, 1) := by decide +kernel
theorem dX4_reach_26 : decode cX4_reach 26 = .ok (.aload_n 0, 1) := by decide +kernel
theorem dX4_reach_27 : decode cX4_reach 27 = .ok (.getfield 24, 3) := by decide +kernel
theorem dX4_reach_30 : decode cX4_reach 30 = .ok (.iload_n 2, 1) := by decide +kernel
theorem dX4_reach_31 : decode cX4_reach 31 = .ok (.invokevirtual 32, 3) := by decide +kernel
theorem dX4_reach_34 : decode cX4_reach 34 = .ok (.invokevirtual 38, 3) := by decide +kernel
theorem dX4_reach_37 : decode cX4_reach 37 = .ok (.iastore, 1) := by decide +kernel
theorem dX4_reach_38 : decode cX4_reach 38 = .ok (.aload_n 0, 1) := by decide +kernel
theorem dX4_reach_39 : decode cX4_reach 39 = .ok (.getfield 15, 3) := by decide +kernel
theorem dX4_reach_42 : decode cX4_reach 42 = .ok (.iload_n 2, 1) := by decide +kernel
theorem dX4_reach_43 : decode cX4_reach 43 = .ok (.aload_n 0, 1) := by decide +kernel
theorem dX4_reach_44 : decode cX4_reach 44 = .ok (.getfield 24, 3) := by decide +kernel
theorem dX4_reach_47 : decode cX4_reach 47 = .ok (.iload_n 2, 1) := by decide +kernel
theorem dX4_reach_48 : decode cX4_reach 48 = .ok (.aload_n 0, 1) := by decide +kernel
theorem dX4_reach_49 : decode cX4_reach 49 = .ok (.getfield 15, 3) := by decide +kernel
theorem dX4_reach_52 : decode cX4_reach 52 = .ok (.invokevirtual 42, 3) := by decide +kernel
theorem dX4_reach_55 : decode cX4_reach 55 = .ok (.iastore, 1) := by decide +kernel
theorem dX4_reach_56 : decode cX4_reach 56 = .ok (.aload_n 0, 1) := by decide +kernel
theorem dX4_reach_57 : decode cX4_reach 57 = .ok (.getfield 18, 3) := by decide +kernel
theorem dX4_reach_60 : decode cX4_reach 60 = .ok (.iload_n 2, 1) := by decide +kernel
theorem dX4_reach_61 : decode cX4_reach 61 = .ok (.aload_n 0, 1) := by decide +kernel
theorem dX4_reach_62 : decode cX4_reach 62 = .ok (.getfield 9, 3) := by decide +kernel
theorem dX4_reach_65 : decode cX4_reach 65 = .ok (.iload_n 2, 1) := by decide +kernel
theorem dX4_reach_66 : decode cX4_reach 66 = .ok (.iaload, 1) := by decide +kernel
theorem dX4_reach_67 : decode cX4_reach 67 = .ok (.ldc 46, 2) := by decide +kernel
theorem dX4_reach_69 : decode cX4_reach 69 = .ok (.if_icmp .lt 8, 3) := by decide +kernel
theorem dX4_reach_72 : decode cX4_reach 72 = .ok (.ldc 46, 2) := by decide +kernel
theorem dX4_reach_74 : decode cX4_reach 74 = .ok (.goto 16, 3) := by decide +kernel
theorem dX4_reach_77 : decode cX4_reach 77 = .ok (.aload_n 0, 1) := by decide +kernel
theorem dX4_reach_78 : decode cX4_reach 78 = .ok (.getfield 9, 3) := by decide +kernel
theorem dX4_reach_81 : decode cX4_reach 81 = .ok (.iload_n 2, 1) := by decide +kernel
theorem dX4_reach_82 : decode cX4_reach 82 = .ok (.iaload, 1) := by decide +kernel
theorem dX4_reach_83 : decode cX4_reach 83 = .ok (.aload_n 0, 1) := by decide +kernel
theorem dX4_reach_84 : decode cX4_reach 84 = .ok (.getfield 15, 3) := by decide +kernel
theorem dX4_reach_87 : decode cX4_reach 87 = .ok (.iload_n 2, 1) := by decide +kernel
theorem dX4_reach_88 : decode cX4_reach 88 = .ok (.iaload, 1) := by decide +kernel
theorem dX4_reach_89 : decode cX4_reach 89 = .ok (.iadd, 1) := by decide +kernel
theorem dX4_reach_90 : decode cX4_reach 90 = .ok (.iastore, 1) := by decide +kernel
theorem dX4_reach_91 : decode cX4_reach 91 = .ok (.aload_n 0, 1) := by decide +kernel
theorem dX4_reach_92 : decode cX4_reach 92 = .ok (.getfield 21, 3) := by decide +kernel
theorem dX4_reach_95 : decode cX4_reach 95 = .ok (.iload_n 2, 1) := by decide +kernel
theorem dX4_reach_96 : decode cX4_reach 96 = .ok (.aload_n 0, 1) := by decide +kernel
theorem dX4_reach_97 : decode cX4_reach 97 = .ok (.iload_n 2, 1) := by decide +kernel
theorem dX4_reach_98 : decode cX4_reach 98 = .ok (.invokevirtual 47, 3) := by decide +kernel
theorem dX4_reach_101 : decode cX4_reach 101 = .ok (.iastore, 1) := by decide +kernel
theorem dX4_reach_102 : decode cX4_reach 102 = .ok (.aload_n 0, 1) := by decide +kernel
theorem dX4_reach_103 : decode cX4_reach 103 = .ok (.iload_n 2, 1) := by decide +kernel
theorem dX4_reach_104 : decode cX4_reach 104 = .ok (.putfield 28, 3) := by decide +kernel
theorem dX4_reach_107 : decode cX4_reach 107 = .ok (.iinc 2 1, 3) := by decide +kernel
theorem dX4_reach_110 : decode cX4_reach 110 = .ok (.goto (-103), 3) := by decide +kernel
theorem dX4_reach_113 : decode cX4_reach 113 = .ok (.return_, 1) := by decide +kernel
theorem dX4_goodsOf_0 : decode cX4_goodsOf 0 = .ok (.iload_n 2, 1) := by decide +kernel
theorem dX4_goodsOf_1 : decode cX4_goodsOf 1 = .ok (.ldc 46, 2) := by decide +kernel
theorem dX4_goodsOf_3 : decode cX4_goodsOf 3 = .ok (.if_icmp .lt 6, 3) := by decide +kernel
theorem dX4_goodsOf_6 : decode cX4_goodsOf 6 = .ok (.ldc 46, 2) := by decide +kernel
theorem dX4_goodsOf_8 : decode cX4_goodsOf 8 = .ok (.ireturn, 1) := by decide +kernel
theorem dX4_goodsOf_9 : decode cX4_goodsOf 9 = .ok (.aload_n 0, 1) := by decide +kernel
theorem dX4_goodsOf_10 : decode cX4_goodsOf 10 = .ok (.getfield 24, 3) := by decide +kernel
theorem dX4_goodsOf_13 : decode cX4_goodsOf 13 = .ok (.getfield 50, 3) := by decide +kernel
theorem dX4_goodsOf_16 : decode cX4_goodsOf 16 = .ok (.ifCond .eq 32, 3) := by decide +kernel
theorem dX4_goodsOf_19 : decode cX4_goodsOf 19 = .ok (.aload_n 0, 1) := by decide +kernel
theorem dX4_goodsOf_20 : decode cX4_goodsOf 20 = .ok (.getfield 9, 3) := by decide +kernel
theorem dX4_goodsOf_23 : decode cX4_goodsOf 23 = .ok (.iload_n 1, 1) := by decide +kernel
theorem dX4_goodsOf_24 : decode cX4_goodsOf 24 = .ok (.iconst 1, 1) := by decide +kernel
theorem dX4_goodsOf_25 : decode cX4_goodsOf 25 = .ok (.isub, 1) := by decide +kernel
theorem dX4_goodsOf_26 : decode cX4_goodsOf 26 = .ok (.iaload, 1) := by decide +kernel
theorem dX4_goodsOf_27 : decode cX4_goodsOf 27 = .ok (.ldc 46, 2) := by decide +kernel
theorem dX4_goodsOf_29 : decode cX4_goodsOf 29 = .ok (.if_icmp .lt 8, 3) := by decide +kernel
theorem dX4_goodsOf_32 : decode cX4_goodsOf 32 = .ok (.ldc 46, 2) := by decide +kernel
theorem dX4_goodsOf_34 : decode cX4_goodsOf 34 = .ok (.goto 13, 3) := by decide +kernel
theorem dX4_goodsOf_37 : decode cX4_goodsOf 37 = .ok (.aload_n 0, 1) := by decide +kernel
theorem dX4_goodsOf_38 : decode cX4_goodsOf 38 = .ok (.getfield 9, 3) := by decide +kernel
theorem dX4_goodsOf_41 : decode cX4_goodsOf 41 = .ok (.iload_n 1, 1) := by decide +kernel
theorem dX4_goodsOf_42 : decode cX4_goodsOf 42 = .ok (.iconst 1, 1) := by decide +kernel
theorem dX4_goodsOf_43 : decode cX4_goodsOf 43 = .ok (.isub, 1) := by decide +kernel
theorem dX4_goodsOf_44 : decode cX4_goodsOf 44 = .ok (.iaload, 1) := by decide +kernel
theorem dX4_goodsOf_45 : decode cX4_goodsOf 45 = .ok (.iload_n 2, 1) := by decide +kernel
theorem dX4_goodsOf_46 : decode cX4_goodsOf 46 = .ok (.iadd, 1) := by decide +kernel
theorem dX4_goodsOf_47 : decode cX4_goodsOf 47 = .ok (.ireturn, 1) := by decide +kernel
theorem dX4_goodsOf_48 : decode cX4_goodsOf 48 = .ok (.iload_n 1, 1) := by decide +kernel
theorem dX4_goodsOf_49 : decode cX4_goodsOf 49 = .ok (.iload_n 2, 1) := by decide +kernel
theorem dX4_goodsOf_50 : decode cX4_goodsOf 50 = .ok (.imul, 1) := by decide +kernel
theorem dX4_goodsOf_51 : decode cX4_goodsOf 51 = .ok (.ireturn, 1) := by decide +kernel
theorem dX4_leastOf_0 : decode cX4_leastOf 0 = .ok (.ldc 46, 2) := by decide +kernel
theorem dX4_leastOf_2 : decode cX4_leastOf 2 = .ok (.istore_n 2, 1) := by decide +kernel
theorem dX4_leastOf_3 : decode cX4_leastOf 3 = .ok (.iconst 1, 1) := by decide +kernel
theorem dX4_leastOf_4 : decode cX4_leastOf 4 = .ok (.istore_n 3, 1) := by decide +kernel
theorem dX4_leastOf_5 : decode cX4_leastOf 5 = .ok (.iload_n 3, 1) := by decide +kernel
theorem dX4_leastOf_6 : decode cX4_leastOf 6 = .ok (.iload_n 1, 1) := by decide +kernel
theorem dX4_leastOf_7 : decode cX4_leastOf 7 = .ok (.if_icmp .gt 35, 3) := by decide +kernel
theorem dX4_leastOf_10 : decode cX4_leastOf 10 = .ok (.aload_n 0, 1) := by decide +kernel
theorem dX4_leastOf_11 : decode cX4_leastOf 11 = .ok (.getfield 18, 3) := by decide +kernel
theorem dX4_leastOf_14 : decode cX4_leastOf 14 = .ok (.iload_n 3, 1) := by decide +kernel
theorem dX4_leastOf_15 : decode cX4_leastOf 15 = .ok (.iaload, 1) := by decide +kernel
theorem dX4_leastOf_16 : decode cX4_leastOf 16 = .ok (.aload_n 0, 1) := by decide +kernel
theorem dX4_leastOf_17 : decode cX4_leastOf 17 = .ok (.getfield 21, 3) := by decide +kernel
theorem dX4_leastOf_20 : decode cX4_leastOf 20 = .ok (.iload_n 1, 1) := by decide +kernel
theorem dX4_leastOf_21 : decode cX4_leastOf 21 = .ok (.iload_n 3, 1) := by decide +kernel
theorem dX4_leastOf_22 : decode cX4_leastOf 22 = .ok (.isub, 1) := by decide +kernel
theorem dX4_leastOf_23 : decode cX4_leastOf 23 = .ok (.iaload, 1) := by decide +kernel
theorem dX4_leastOf_24 : decode cX4_leastOf 24 = .ok (.iadd, 1) := by decide +kernel
theorem dX4_leastOf_25 : decode cX4_leastOf 25 = .ok (.istore 4, 2) := by decide +kernel
theorem dX4_leastOf_27 : decode cX4_leastOf 27 = .ok (.iload 4, 2) := by decide +kernel
theorem dX4_leastOf_29 : decode cX4_leastOf 29 = .ok (.iload_n 2, 1) := by decide +kernel
theorem dX4_leastOf_30 : decode cX4_leastOf 30 = .ok (.if_icmp .ge 6, 3) := by decide +kernel
theorem dX4_leastOf_33 : decode cX4_leastOf 33 = .ok (.iload 4, 2) := by decide +kernel
theorem dX4_leastOf_35 : decode cX4_leastOf 35 = .ok (.istore_n 2, 1) := by decide +kernel
theorem dX4_leastOf_36 : decode cX4_leastOf 36 = .ok (.iinc 3 1, 3) := by decide +kernel
theorem dX4_leastOf_39 : decode cX4_leastOf 39 = .ok (.goto (-34), 3) := by decide +kernel
theorem dX4_leastOf_42 : decode cX4_leastOf 42 = .ok (.iload_n 2, 1) := by decide +kernel
theorem dX4_leastOf_43 : decode cX4_leastOf 43 = .ok (.ireturn, 1) := by decide +kernel
theorem stepV_1 {t : Int → Int} {q i : Int} (h : 0 ≤ i) : stepV t q (i + 1).toNat = if t (221 + i) ≤ q ∧ (stepV t q i.toNat).1 < t (221 + i) then (t (221 + i), t (227 + i)) else stepV t q i.toNat := by
  rw [show (i + 1).toNat = i.toNat + 1 by omega]
  show (if t (221 + ((i.toNat : Nat) : Int)) ≤ q ∧ (stepV t q i.toNat).1 < t (221 + ((i.toNat : Nat) : Int)) then (t (221 + ((i.toNat : Nat) : Int)), t (227 + ((i.toNat : Nat) : Int))) else stepV t q i.toNat) = _
  rw [show ((i.toNat : Nat) : Int) = i by omega]
theorem cartL_1 {t c : Int → Int} {q i : Int} (h : 0 ≤ i) : cartL t c q (i + 1).toNat = if i = 0 then t 238 + c (max 0 (q - t 234)) else min (cartL t c q i.toNat) (t (238 + i) + c (max 0 (q - t (234 + i)))) := by
  rw [show (i + 1).toNat = i.toNat + 1 by omega]
  show (if i.toNat = 0 then t 238 + c (max 0 (q - t 234)) else min (cartL t c q i.toNat) (t (238 + ((i.toNat : Nat) : Int)) + c (max 0 (q - t (234 + ((i.toNat : Nat) : Int)))))) = _
  rw [show ((i.toNat : Nat) : Int) = i by omega]
  by_cases e : i = 0
  · rw [if_pos e, if_pos (by omega)]
  · rw [if_neg e, if_neg (by omega)]
/-- a tariff's numbers -/
def TT (t : Int → Int) : Prop := (t 219 = 0 ∨ t 219 = 1) ∧ (0 ≤ t 220 ∧ t 220 ≤ 6) ∧ (∀ k, 0 ≤ k → k < t 220 → 1 ≤ t (221 + k) ∧ t (221 + k) ≤ 60 ∧ 1 ≤ t (227 + k) ∧ t (227 + k) ≤ 99) ∧ (0 ≤ t 233 ∧ t 233 ≤ 4) ∧ (∀ k, 0 ≤ k → k < t 233 → 1 ≤ t (234 + k) ∧ t (234 + k) ≤ 60 ∧ 0 ≤ t (238 + k) ∧ t (238 + k) ≤ 99)
theorem TOK.tt {t : Int → Int} (h : TOK t) : TT t := ⟨h.2.2.2.2.2.2.2.2.2.2.1, h.2.2.2.2.2.2.2.2.2.2.2.1, h.2.2.2.2.2.2.2.2.2.2.2.2.1, h.2.2.2.2.2.2.2.2.2.2.2.2.2.1, h.2.2.2.2.2.2.2.2.2.2.2.2.2.2.1⟩
theorem stepV_r {t : Int → Int} {q : Int} (h : TT t) : ∀ n : Nat, (n : Int) ≤ t 220 → 0 ≤ (stepV t q n).1 ∧ ((stepV t q n).2 = -1 ∨ 1 ≤ (stepV t q n).2 ∧ (stepV t q n).2 ≤ 99)
  | 0, _ => ⟨Int.le_refl 0, Or.inl rfl⟩
  | n + 1, hn => by
    have ih := stepV_r (q := q) h n (by omega)
    have hk := h.2.2.1 n (by omega) (by omega)
    unfold stepV
    by_cases e : t (221 + (n : Int)) ≤ q ∧ (stepV t q n).1 < t (221 + (n : Int))
    · rw [if_pos e]
      exact ⟨by show 0 ≤ t (221 + (n : Int)); omega, Or.inr ⟨hk.2.2.1, hk.2.2.2⟩⟩
    · rw [if_neg e]
      exact ih
theorem priceV_r {t : Int → Int} {q : Int} (h : TT t) : priceV t q = -1 ∨ 1 ≤ priceV t q ∧ priceV t q ≤ 99 := (stepV_r h _ (by have := h.2.1; omega)).2
theorem s_eachOf {l : Launch} {E : aE} {N : Nat} {S : aS} {M : aM} (hfl : l.stackTraces = false) (u q : Int) (t : Int → Int) (hS : lyT S u) (hT : RTar M u t) (hK : TT t) : aMt l E pX8_eachOf [(2, u), (0, q)] N S M (aR (0, encF FAR1 (priceV t q)) N S M) := by
  refine a_met hfl rfl (by decide +kernel) (Nat.le_of_ble_eq_true rfl) ?_
  refine x_iconst (pc := 0) dX8_eachOf_0 (by decide) ?_
  refine x_istore_n (pc := 1) dX8_eachOf_1 rfl (by decide) rfl ?_
  refine x_ldc (n := 536870912) (pc := 2) cX8_65 (by decide) dX8_eachOf_2 ?_
  refine x_istore_n (pc := 4) dX8_eachOf_4 rfl (by decide) rfl ?_
  refine x_iconst (pc := 5) dX8_eachOf_5 (by decide) ?_
  refine x_istore (pc := 6) dX8_eachOf_6 (by decide) rfl ?_
  have loop := a_loop3 (fun i f x => 0 ≤ i ∧ i ≤ t 220 ∧ f = (stepV t q i.toNat).1 ∧ x = encF FAR1 (stepV t q i.toNat).2) (fun i _ _ => (t 220 - i).toNat) (fun i f x => aX l E pX8_eachOf (aR (0, encF FAR1 (priceV t q)) N S M) 0 0 N S M 8 [(0, (2, u)), (1, (0, q)), (2, (0, f)), (3, (0, x)), (4, (0, i))] []) (by
    intro i f x hI ih
    have i0 := hI.1
    have i1 := hI.2.1
    have hf := hI.2.2.1
    have hk := fun z : i < t 220 => hK.2.2.1 i i0 z
    have k6 := hK.2.1
    refine x_iload (pc := 8) dX8_eachOf_8 rfl ?_
    refine x_aload_n (pc := 10) dX8_eachOf_10 rfl rfl ?_
    refine x_getIV (jj := 1) (pc := 11) dX8_eachOf_11 fX8_35 (hS).1 rfl (by decide) rfl (by (repeat (first | rewrite [up_s] | rewrite [up_i (by omega)] | rewrite [up_a (by omega)])); first | exact (hT.2.2.1 _ (by omega) (by omega)).1 | exact (hT.2.2.1 _ (by omega) (by omega)).2 | exact hT.2.1 | exact hT.2.2.2.1 | exact (hT.2.2.2.2.1 _ (by omega) (by omega)).1 | exact (hT.2.2.2.2.1 _ (by omega) (by omega)).2 | rfl) ?_
    refine x_icmp_ge (tgt := 61) (pc := 14) dX8_eachOf_14 (by decide) (fun c_14 => ?_) (fun c_14 => ?_)
    · refine x_iload_n (pc := 61) dX8_eachOf_61 rfl rfl ?_
      refine x_ireturn (pc := 62) dX8_eachOf_62 rfl (by decide) ?_
      refine ⟨?_, rfl, rfl, rfl⟩
      rw [hI.2.2.2, show i = t 220 by omega]
      rfl
    · refine x_aload_n (pc := 17) dX8_eachOf_17 rfl rfl ?_
      refine x_getR (jj := 2) (pc := 18) dX8_eachOf_18 fX8_11 (hS).1 rfl (by decide) rfl rT_2 ?_
      refine x_iload (pc := 21) dX8_eachOf_21 rfl ?_
      refine x_ialoadV (pc := 23) dX8_eachOf_23 (hS).2.1 (by omega) (by (repeat (first | rewrite [up_s] | rewrite [up_i (by omega)] | rewrite [up_a (by omega)])); first | exact (hT.2.2.1 _ (by omega) (by omega)).1 | exact (hT.2.2.1 _ (by omega) (by omega)).2 | exact hT.2.1 | exact hT.2.2.2.1 | exact (hT.2.2.2.2.1 _ (by omega) (by omega)).1 | exact (hT.2.2.2.2.1 _ (by omega) (by omega)).2 | rfl) (fun g_23 => ?_)
      refine x_iload_n (pc := 24) dX8_eachOf_24 rfl rfl ?_
      refine x_icmp_gt (tgt := 55) (pc := 25) dX8_eachOf_25 (by decide) (fun c_25 => ?_) (fun c_25 => ?_)
      · refine x_iinc (pc := 55) dX8_eachOf_55 rfl (by omega) (by decide) rfl ?_
        refine x_goto (tgt := 8) (pc := 58) dX8_eachOf_58 (by decide) ?_
        refine x_lo (lo' := [(0, (2, u)), (1, (0, q)), (2, (0, f)), (3, (0, x)), (4, (0, i + 1))]) ⟨rfl, rfl, rfl, rfl, rfl, trivial⟩ (ih (i + 1) f x ⟨by omega, by omega, ?_, ?_⟩ (by omega))
        · rw [stepV_1 i0, if_neg (by omega)]; exact hI.2.2.1
        · rw [stepV_1 i0, if_neg (by omega)]; exact hI.2.2.2
      · refine x_aload_n (pc := 28) dX8_eachOf_28 rfl rfl ?_
        refine x_getR (jj := 2) (pc := 29) dX8_eachOf_29 fX8_11 (hS).1 rfl (by decide) rfl rT_2 ?_
        refine x_iload (pc := 32) dX8_eachOf_32 rfl ?_
        refine x_ialoadV (pc := 34) dX8_eachOf_34 (hS).2.1 (by omega) (by (repeat (first | rewrite [up_s] | rewrite [up_i (by omega)] | rewrite [up_a (by omega)])); first | exact (hT.2.2.1 _ (by omega) (by omega)).1 | exact (hT.2.2.1 _ (by omega) (by omega)).2 | exact hT.2.1 | exact hT.2.2.2.1 | exact (hT.2.2.2.2.1 _ (by omega) (by omega)).1 | exact (hT.2.2.2.2.1 _ (by omega) (by omega)).2 | rfl) (fun g_34 => ?_)
        refine x_iload_n (pc := 35) dX8_eachOf_35 rfl rfl ?_
        refine x_icmp_le (tgt := 55) (pc := 36) dX8_eachOf_36 (by decide) (fun c_36 => ?_) (fun c_36 => ?_)
        · refine x_iinc (pc := 55) dX8_eachOf_55 rfl (by omega) (by decide) rfl ?_
          refine x_goto (tgt := 8) (pc := 58) dX8_eachOf_58 (by decide) ?_
          refine x_lo (lo' := [(0, (2, u)), (1, (0, q)), (2, (0, f)), (3, (0, x)), (4, (0, i + 1))]) ⟨rfl, rfl, rfl, rfl, rfl, trivial⟩ (ih (i + 1) f x ⟨by omega, by omega, ?_, ?_⟩ (by omega))
          · rw [stepV_1 i0, if_neg (by omega)]; exact hI.2.2.1
          · rw [stepV_1 i0, if_neg (by omega)]; exact hI.2.2.2
        · refine x_aload_n (pc := 39) dX8_eachOf_39 rfl rfl ?_
          refine x_getR (jj := 2) (pc := 40) dX8_eachOf_40 fX8_11 (hS).1 rfl (by decide) rfl rT_2 ?_
          refine x_iload (pc := 43) dX8_eachOf_43 rfl ?_
          refine x_ialoadV (pc := 45) dX8_eachOf_45 (hS).2.1 (by omega) (by (repeat (first | rewrite [up_s] | rewrite [up_i (by omega)] | rewrite [up_a (by omega)])); first | exact (hT.2.2.1 _ (by omega) (by omega)).1 | exact (hT.2.2.1 _ (by omega) (by omega)).2 | exact hT.2.1 | exact hT.2.2.2.1 | exact (hT.2.2.2.2.1 _ (by omega) (by omega)).1 | exact (hT.2.2.2.2.1 _ (by omega) (by omega)).2 | rfl) (fun g_45 => ?_)
          refine x_istore_n (pc := 46) dX8_eachOf_46 rfl (by decide) rfl ?_
          refine x_aload_n (pc := 47) dX8_eachOf_47 rfl rfl ?_
          refine x_getR (jj := 3) (pc := 48) dX8_eachOf_48 fX8_15 (hS).1 rfl (by decide) rfl rT_3 ?_
          refine x_iload (pc := 51) dX8_eachOf_51 rfl ?_
          refine x_ialoadV (pc := 53) dX8_eachOf_53 (hS).2.2.1 (by omega) (by (repeat (first | rewrite [up_s] | rewrite [up_i (by omega)] | rewrite [up_a (by omega)])); first | exact (hT.2.2.1 _ (by omega) (by omega)).1 | exact (hT.2.2.1 _ (by omega) (by omega)).2 | exact hT.2.1 | exact hT.2.2.2.1 | exact (hT.2.2.2.2.1 _ (by omega) (by omega)).1 | exact (hT.2.2.2.2.1 _ (by omega) (by omega)).2 | rfl) (fun g_53 => ?_)
          refine x_istore_n (pc := 54) dX8_eachOf_54 rfl (by decide) rfl ?_
          refine x_iinc (pc := 55) dX8_eachOf_55 rfl (by omega) (by decide) rfl ?_
          refine x_goto (tgt := 8) (pc := 58) dX8_eachOf_58 (by decide) ?_
          refine x_lo (lo' := [(0, (2, u)), (1, (0, q)), (2, (0, t (221 + i))), (3, (0, t (227 + i))), (4, (0, i + 1))]) ⟨rfl, rfl, rfl, rfl, rfl, trivial⟩ (ih (i + 1) (t (221 + i)) (t (227 + i)) ⟨by omega, by omega, ?_, ?_⟩ (by omega))
          · rw [stepV_1 i0, if_pos (by omega)]
          · rw [stepV_1 i0, if_pos (by omega)]
            unfold encF
            rw [if_neg (by have := hk (by omega); show ¬ t (227 + i) = -1; omega)])
  exact x_lo (lo' := [(0, (2, u)), (1, (0, q)), (2, (0, 0)), (3, (0, 536870912)), (4, (0, 0))]) ⟨rfl, rfl, rfl, rfl, rfl, trivial⟩ (loop 0 0 536870912 ⟨by omega, by have := hK.2.1; omega, rfl, rfl⟩)
theorem s_cartsOf {l : Launch} {E : aE} {N : Nat} {S : aS} {M : aM} (hfl : l.stackTraces = false) (u q w : Int) (t C : Int → Int) (hS : lyT S u) (hT : RTar M u t) (hK : TT t) (hw : S w = (13, 201, rN)) (hq : 1 ≤ q ∧ q ≤ 200) (hW : ∀ j, 0 ≤ j → j < q → M w j = C j) (hC : ∀ j, 0 ≤ j → j < q → 0 ≤ C j ∧ C j ≤ 100000) : aMt l E pX8_cartsOf [(2, u), (0, q), (2, w)] N S M (aR (0, cartL t C q (t 233).toNat) N S M) := by
  refine a_met hfl rfl (by decide +kernel) (Nat.le_of_ble_eq_true rfl) ?_
  refine x_aload_n (pc := 0) dX8_cartsOf_0 rfl rfl ?_
  refine x_getIV (jj := 4) (pc := 1) dX8_cartsOf_1 fX8_38 (hS).1 rfl (by decide) rfl (by (repeat (first | rewrite [up_s] | rewrite [up_i (by omega)] | rewrite [up_a (by omega)])); first | exact (hT.2.2.1 _ (by omega) (by omega)).1 | exact (hT.2.2.1 _ (by omega) (by omega)).2 | exact hT.2.1 | exact hT.2.2.2.1 | exact (hT.2.2.2.2.1 _ (by omega) (by omega)).1 | exact (hT.2.2.2.2.1 _ (by omega) (by omega)).2 | rfl) ?_
  refine x_if_ne (tgt := 11) (pc := 4) dX8_cartsOf_4 (by decide) (fun c_4 => ?_) (fun c_4 => ?_)
  · refine x_ldc (n := 536870912) (pc := 11) cX8_65 (by decide) dX8_cartsOf_11 ?_
    refine x_istore_n (pc := 13) dX8_cartsOf_13 rfl (by decide) rfl ?_
    refine x_iconst (pc := 14) dX8_cartsOf_14 (by decide) ?_
    refine x_istore (pc := 15) dX8_cartsOf_15 (by decide) rfl ?_
    have loop := a_loop2 (fun i x => 0 ≤ i ∧ i ≤ t 233 ∧ x = (if i = 0 then (if t 233 = 0 then 0 else 536870912) else cartL t C q i.toNat) ∧ 0 ≤ x ∧ x ≤ 536870912) (fun i _ => (t 233 - i).toNat) (fun i x => aX l E pX8_cartsOf (aR (0, cartL t C q (t 233).toNat) N S M) 0 0 N S M 17 [(0, (2, u)), (1, (0, q)), (2, (2, w)), (3, (0, x)), (4, (0, i))] []) (by
      intro i x hI ih
      have i0 := hI.1
      have i1 := hI.2.1
      have i3 := hI.2.2.2
      have hk := fun z : i < t 233 => hK.2.2.2.2 i i0 z
      have k4 := hK.2.2.2.1
      refine x_iload (pc := 17) dX8_cartsOf_17 rfl ?_
      refine x_aload_n (pc := 19) dX8_cartsOf_19 rfl rfl ?_
      refine x_getIV (jj := 4) (pc := 20) dX8_cartsOf_20 fX8_38 (hS).1 rfl (by decide) rfl (by (repeat (first | rewrite [up_s] | rewrite [up_i (by omega)] | rewrite [up_a (by omega)])); first | exact (hT.2.2.1 _ (by omega) (by omega)).1 | exact (hT.2.2.1 _ (by omega) (by omega)).2 | exact hT.2.1 | exact hT.2.2.2.1 | exact (hT.2.2.2.2.1 _ (by omega) (by omega)).1 | exact (hT.2.2.2.2.1 _ (by omega) (by omega)).2 | exact (hW _ (by omega) (by omega)) | rfl) ?_
      refine x_icmp_ge (tgt := 77) (pc := 23) dX8_cartsOf_23 (by decide) (fun c_23 => ?_) (fun c_23 => ?_)
      · refine x_iload_n (pc := 77) dX8_cartsOf_77 rfl rfl ?_
        refine x_ireturn (pc := 78) dX8_cartsOf_78 rfl (by decide) ?_
        refine ⟨?_, rfl, rfl, rfl⟩
        have hx := hI.2.2.1
        by_cases e : t 233 = 0
        · rw [if_pos (by omega), if_pos e] at hx
          rw [hx, e]
          rfl
        · rw [if_neg (by omega)] at hx
          rw [hx, show i = t 233 by omega]
      · refine x_iconst (pc := 26) dX8_cartsOf_26 (by decide) ?_
        refine x_iload_n (pc := 27) dX8_cartsOf_27 rfl rfl ?_
        refine x_aload_n (pc := 28) dX8_cartsOf_28 rfl rfl ?_
        refine x_getR (jj := 5) (pc := 29) dX8_cartsOf_29 fX8_18 (hS).1 rfl (by decide) rfl rT_5 ?_
        refine x_iload (pc := 32) dX8_cartsOf_32 rfl ?_
        refine x_ialoadV (pc := 34) dX8_cartsOf_34 (hS).2.2.2.1 (by omega) (by (repeat (first | rewrite [up_s] | rewrite [up_i (by omega)] | rewrite [up_a (by omega)])); first | exact (hT.2.2.1 _ (by omega) (by omega)).1 | exact (hT.2.2.1 _ (by omega) (by omega)).2 | exact hT.2.1 | exact hT.2.2.2.1 | exact (hT.2.2.2.2.1 _ (by omega) (by omega)).1 | exact (hT.2.2.2.2.1 _ (by omega) (by omega)).2 | exact (hW _ (by omega) (by omega)) | rfl) (fun g_34 => ?_)
        refine x_isub (pc := 35) dX8_cartsOf_35 (by omega) ?_
        refine x_max (pc := 36) mtX8_66 dX8_cartsOf_36 (by decide) (Nat.le_of_ble_eq_true rfl) ?_
        refine x_istore (pc := 39) dX8_cartsOf_39 (by decide) rfl ?_
        refine x_iload (pc := 41) dX8_cartsOf_41 rfl ?_
        refine x_iload_n (pc := 43) dX8_cartsOf_43 rfl rfl ?_
        refine x_icmp_ge (tgt := 71) (pc := 44) dX8_cartsOf_44 (by decide) (fun c_44 => ?_) (fun c_44 => ?_)
        · refine x_iinc (pc := 71) dX8_cartsOf_71 rfl (by omega) (by decide) rfl ?_
          refine x_goto (tgt := 17) (pc := 74) dX8_cartsOf_74 (by decide) ?_
          exfalso; omega
        · refine x_iload (pc := 47) dX8_cartsOf_47 rfl ?_
          refine x_aload_n (pc := 49) dX8_cartsOf_49 rfl rfl ?_
          refine x_alen (pc := 50) dX8_cartsOf_50 hw (by decide) (by first | decide | omega) ?_
          refine x_icmp_ge (tgt := 71) (pc := 51) dX8_cartsOf_51 (by decide) (fun c_51 => ?_) (fun c_51 => ?_)
          · refine x_iinc (pc := 71) dX8_cartsOf_71 rfl (by omega) (by decide) rfl ?_
            refine x_goto (tgt := 17) (pc := 74) dX8_cartsOf_74 (by decide) ?_
            exfalso; omega
          · refine x_iload_n (pc := 54) dX8_cartsOf_54 rfl rfl ?_
            refine x_aload_n (pc := 55) dX8_cartsOf_55 rfl rfl ?_
            refine x_getR (jj := 6) (pc := 56) dX8_cartsOf_56 fX8_21 (hS).1 rfl (by decide) rfl rT_6 ?_
            refine x_iload (pc := 59) dX8_cartsOf_59 rfl ?_
            refine x_ialoadV (pc := 61) dX8_cartsOf_61 (hS).2.2.2.2.1 (by omega) (by (repeat (first | rewrite [up_s] | rewrite [up_i (by omega)] | rewrite [up_a (by omega)])); first | exact (hT.2.2.1 _ (by omega) (by omega)).1 | exact (hT.2.2.1 _ (by omega) (by omega)).2 | exact hT.2.1 | exact hT.2.2.2.1 | exact (hT.2.2.2.2.1 _ (by omega) (by omega)).1 | exact (hT.2.2.2.2.1 _ (by omega) (by omega)).2 | exact (hW _ (by omega) (by omega)) | rfl) (fun g_61 => ?_)
            refine x_aload_n (pc := 62) dX8_cartsOf_62 rfl rfl ?_
            refine x_iload (pc := 63) dX8_cartsOf_63 rfl ?_
            refine x_ialoadV (pc := 65) dX8_cartsOf_65 hw (by omega) (by (repeat (first | rewrite [up_s] | rewrite [up_i (by omega)] | rewrite [up_a (by omega)])); first | exact (hT.2.2.1 _ (by omega) (by omega)).1 | exact (hT.2.2.1 _ (by omega) (by omega)).2 | exact hT.2.1 | exact hT.2.2.2.1 | exact (hT.2.2.2.2.1 _ (by omega) (by omega)).1 | exact (hT.2.2.2.2.1 _ (by omega) (by omega)).2 | exact (hW _ (by omega) (by omega)) | rfl) (fun g_65 => ?_)
            refine x_iadd (pc := 66) dX8_cartsOf_66 (by have hc := hC (max 0 (q - t (234 + i))) (by omega) (by omega); omega) ?_
            refine x_min (pc := 67) mtX8_72 dX8_cartsOf_67 (by decide) (Nat.le_of_ble_eq_true rfl) ?_
            refine x_istore_n (pc := 70) dX8_cartsOf_70 rfl (by decide) rfl ?_
            refine x_iinc (pc := 71) dX8_cartsOf_71 rfl (by omega) (by decide) rfl ?_
            refine x_goto (tgt := 17) (pc := 74) dX8_cartsOf_74 (by decide) ?_
            refine x_lo (lo' := [(0, (2, u)), (1, (0, q)), (2, (2, w)), (3, (0, min x (t (238 + i) + C (max 0 (q - t (234 + i)))))), (4, (0, i + 1))]) ⟨rfl, rfl, rfl, rfl, rfl, trivial⟩ (ih (i + 1) _ ⟨by omega, by omega, ?_, ?_⟩ (by omega))
            · rw [cartL_1 i0, if_neg (show ¬ i + 1 = 0 by omega)]
              by_cases e : i = 0
              · have hx := hI.2.2.1
                rw [if_pos e, if_neg (by omega)] at hx
                subst e
                rw [if_pos rfl, hx, Int.min_eq_right]
                · rfl
                · have hc := hC (max 0 (q - t (234 + 0))) (by omega) (by omega)
                  omega
              · have hx := hI.2.2.1
                rw [if_neg e] at hx
                rw [if_neg e, hx]
            · have hc := hC (max 0 (q - t (234 + i))) (by omega) (by omega)
              omega)
    refine x_lo (lo' := [(0, (2, u)), (1, (0, q)), (2, (2, w)), (3, (0, 536870912)), (4, (0, 0))]) ⟨rfl, rfl, rfl, rfl, rfl, trivial⟩ (loop 0 536870912 ⟨by omega, by have := hK.2.2.2.1; omega, ?_, by omega, by omega⟩)
    rw [if_pos rfl, if_neg (by omega)]
  · refine x_iconst (pc := 7) dX8_cartsOf_7 (by decide) ?_
    refine x_goto (tgt := 13) (pc := 8) dX8_cartsOf_8 (by decide) ?_
    refine x_istore_n (pc := 13) dX8_cartsOf_13 rfl (by decide) rfl ?_
    refine x_iconst (pc := 14) dX8_cartsOf_14 (by decide) ?_
    refine x_istore (pc := 15) dX8_cartsOf_15 (by decide) rfl ?_
    have loop := a_loop2 (fun i x => 0 ≤ i ∧ i ≤ t 233 ∧ x = (if i = 0 then (if t 233 = 0 then 0 else 536870912) else cartL t C q i.toNat) ∧ 0 ≤ x ∧ x ≤ 536870912) (fun i _ => (t 233 - i).toNat) (fun i x => aX l E pX8_cartsOf (aR (0, cartL t C q (t 233).toNat) N S M) 0 0 N S M 17 [(0, (2, u)), (1, (0, q)), (2, (2, w)), (3, (0, x)), (4, (0, i))] []) (by
      intro i x hI ih
      have i0 := hI.1
      have i1 := hI.2.1
      have i3 := hI.2.2.2
      have hk := fun z : i < t 233 => hK.2.2.2.2 i i0 z
      have k4 := hK.2.2.2.1
      refine x_iload (pc := 17) dX8_cartsOf_17 rfl ?_
      refine x_aload_n (pc := 19) dX8_cartsOf_19 rfl rfl ?_
      refine x_getIV (jj := 4) (pc := 20) dX8_cartsOf_20 fX8_38 (hS).1 rfl (by decide) rfl (by (repeat (first | rewrite [up_s] | rewrite [up_i (by omega)] | rewrite [up_a (by omega)])); first | exact (hT.2.2.1 _ (by omega) (by omega)).1 | exact (hT.2.2.1 _ (by omega) (by omega)).2 | exact hT.2.1 | exact hT.2.2.2.1 | exact (hT.2.2.2.2.1 _ (by omega) (by omega)).1 | exact (hT.2.2.2.2.1 _ (by omega) (by omega)).2 | exact (hW _ (by omega) (by omega)) | rfl) ?_
      refine x_icmp_ge (tgt := 77) (pc := 23) dX8_cartsOf_23 (by decide) (fun c_23 => ?_) (fun c_23 => ?_)
      · refine x_iload_n (pc := 77) dX8_cartsOf_77 rfl rfl ?_
        refine x_ireturn (pc := 78) dX8_cartsOf_78 rfl (by decide) ?_
        refine ⟨?_, rfl, rfl, rfl⟩
        have hx := hI.2.2.1
        by_cases e : t 233 = 0
        · rw [if_pos (by omega), if_pos e] at hx
          rw [hx, e]
          rfl
        · rw [if_neg (by omega)] at hx
          rw [hx, show i = t 233 by omega]
      · refine x_iconst (pc := 26) dX8_cartsOf_26 (by decide) ?_
        refine x_iload_n (pc := 27) dX8_cartsOf_27 rfl rfl ?_
        refine x_aload_n (pc := 28) dX8_cartsOf_28 rfl rfl ?_
        refine x_getR (jj := 5) (pc := 29) dX8_cartsOf_29 fX8_18 (hS).1 rfl (by decide) rfl rT_5 ?_
        refine x_iload (pc := 32) dX8_cartsOf_32 rfl ?_
        refine x_ialoadV (pc := 34) dX8_cartsOf_34 (hS).2.2.2.1 (by omega) (by (repeat (first | rewrite [up_s] | rewrite [up_i (by omega)] | rewrite [up_a (by omega)])); first | exact (hT.2.2.1 _ (by omega) (by omega)).1 | exact (hT.2.2.1 _ (by omega) (by omega)).2 | exact hT.2.1 | exact hT.2.2.2.1 | exact (hT.2.2.2.2.1 _ (by omega) (by omega)).1 | exact (hT.2.2.2.2.1 _ (by omega) (by omega)).2 | exact (hW _ (by omega) (by omega)) | rfl) (fun g_34 => ?_)
        refine x_isub (pc := 35) dX8_cartsOf_35 (by omega) ?_
        refine x_max (pc := 36) mtX8_66 dX8_cartsOf_36 (by decide) (Nat.le_of_ble_eq_true rfl) ?_
        refine x_istore (pc := 39) dX8_cartsOf_39 (by decide) rfl ?_
        refine x_iload (pc := 41) dX8_cartsOf_41 rfl ?_
        refine x_iload_n (pc := 43) dX8_cartsOf_43 rfl rfl ?_
        refine x_icmp_ge (tgt := 71) (pc := 44) dX8_cartsOf_44 (by decide) (fun c_44 => ?_) (fun c_44 => ?_)
        · refine x_iinc (pc := 71) dX8_cartsOf_71 rfl (by omega) (by decide) rfl ?_
          refine x_goto (tgt := 17) (pc := 74) dX8_cartsOf_74 (by decide) ?_
          exfalso; omega
        · refine x_iload (pc := 47) dX8_cartsOf_47 rfl ?_
          refine x_aload_n (pc := 49) dX8_cartsOf_49 rfl rfl ?_
          refine x_alen (pc := 50) dX8_cartsOf_50 hw (by decide) (by first | decide | omega) ?_
          refine x_icmp_ge (tgt := 71) (pc := 51) dX8_cartsOf_51 (by decide) (fun c_51 => ?_) (fun c_51 => ?_)
          · refine x_iinc (pc := 71) dX8_cartsOf_71 rfl (by omega) (by decide) rfl ?_
            refine x_goto (tgt := 17) (pc := 74) dX8_cartsOf_74 (by decide) ?_
            exfalso; omega
          · refine x_iload_n (pc := 54) dX8_cartsOf_54 rfl rfl ?_
            refine x_aload_n (pc := 55) dX8_cartsOf_55 rfl rfl ?_
            refine x_getR (jj := 6) (pc := 56) dX8_cartsOf_56 fX8_21 (hS).1 rfl (by decide) rfl rT_6 ?_
            refine x_iload (pc := 59) dX8_cartsOf_59 rfl ?_
            refine x_ialoadV (pc := 61) dX8_cartsOf_61 (hS).2.2.2.2.1 (by omega) (by (repeat (first | rewrite [up_s] | rewrite [up_i (by omega)] | rewrite [up_a (by omega)])); first | exact (hT.2.2.1 _ (by omega) (by omega)).1 | exact (hT.2.2.1 _ (by omega) (by omega)).2 | exact hT.2.1 | exact hT.2.2.2.1 | exact (hT.2.2.2.2.1 _ (by omega) (by omega)).1 | exact (hT.2.2.2.2.1 _ (by omega) (by omega)).2 | exact (hW _ (by omega) (by omega)) | rfl) (fun g_61 => ?_)
            refine x_aload_n (pc := 62) dX8_cartsOf_62 rfl rfl ?_
            refine x_iload (pc := 63) dX8_cartsOf_63 rfl ?_
            refine x_ialoadV (pc := 65) dX8_cartsOf_65 hw (by omega) (by (repeat (first | rewrite [up_s] | rewrite [up_i (by omega)] | rewrite [up_a (by omega)])); first | exact (hT.2.2.1 _ (by omega) (by omega)).1 | exact (hT.2.2.1 _ (by omega) (by omega)).2 | exact hT.2.1 | exact hT.2.2.2.1 | exact (hT.2.2.2.2.1 _ (by omega) (by omega)).1 | exact (hT.2.2.2.2.1 _ (by omega) (by omega)).2 | exact (hW _ (by omega) (by omega)) | rfl) (fun g_65 => ?_)
            refine x_iadd (pc := 66) dX8_cartsOf_66 (by have hc := hC (max 0 (q - t (234 + i))) (by omega) (by omega); omega) ?_
            refine x_min (pc := 67) mtX8_72 dX8_cartsOf_67 (by decide) (Nat.le_of_ble_eq_true rfl) ?_
            refine x_istore_n (pc := 70) dX8_cartsOf_70 rfl (by decide) rfl ?_
            refine x_iinc (pc := 71) dX8_cartsOf_71 rfl (by omega) (by decide) rfl ?_
            refine x_goto (tgt := 17) (pc := 74) dX8_cartsOf_74 (by decide) ?_
            refine x_lo (lo' := [(0, (2, u)), (1, (0, q)), (2, (2, w)), (3, (0, min x (t (238 + i) + C (max 0 (q - t (234 + i)))))), (4, (0, i + 1))]) ⟨rfl, rfl, rfl, rfl, rfl, trivial⟩ (ih (i + 1) _ ⟨by omega, by omega, ?_, ?_⟩ (by omega))
            · rw [cartL_1 i0, if_neg (show ¬ i + 1 = 0 by omega)]
              by_cases e : i = 0
              · have hx := hI.2.2.1
                rw [if_pos e, if_neg (by omega)] at hx
                subst e
                rw [if_pos rfl, hx, Int.min_eq_right]
                · rfl
                · have hc := hC (max 0 (q - t (234 + 0))) (by omega) (by omega)
                  omega
              · have hx := hI.2.2.1
                rw [if_neg e] at hx
                rw [if_neg e, hx]
            · have hc := hC (max 0 (q - t (234 + i))) (by omega) (by omega)
              omega)
    refine x_lo (lo' := [(0, (2, u)), (1, (0, q)), (2, (2, w)), (3, (0, 0)), (4, (0, 0))]) ⟨rfl, rfl, rfl, rfl, rfl, trivial⟩ (loop 0 0 ⟨by omega, by have := hK.2.2.2.1; omega, ?_, by omega, by omega⟩)
    rw [if_pos rfl, if_pos (by omega)]
