/-! the reference: calls without prices (2) -/
theorem dX12_holderOf_0 : decode cX12_holderOf 0 = .ok (.iconst 0, 1) := by decide +kernel
theorem dX12_holderOf_1 : decode cX12_holderOf 1 = .ok (.istore_n 2, 1) := by decide +kernel
theorem dX12_holderOf_2 : decode cX12_holderOf 2 = .ok (.iload_n 2, 1) := by decide +kernel
theorem dX12_holderOf_3 : decode cX12_holderOf 3 = .ok (.bipush 7, 2) := by decide +kernel
theorem dX12_holderOf_5 : decode cX12_holderOf 5 = .ok (.if_icmp .ge 72, 3) := by decide +kernel
theorem dX12_holderOf_8 : decode cX12_holderOf 8 = .ok (.iload_n 1, 1) := by decide +kernel
theorem dX12_holderOf_9 : decode cX12_holderOf 9 = .ok (.iload_n 2, 1) := by decide +kernel
theorem dX12_holderOf_10 : decode cX12_holderOf 10 = .ok (.invokestatic 136, 3) := by decide +kernel
theorem dX12_holderOf_13 : decode cX12_holderOf 13 = .ok (.istore_n 3, 1) := by decide +kernel
theorem dX12_holderOf_14 : decode cX12_holderOf 14 = .ok (.iconst 0, 1) := by decide +kernel
theorem dX12_holderOf_15 : decode cX12_holderOf 15 = .ok (.istore 4, 2) := by decide +kernel
theorem dX12_holderOf_17 : decode cX12_holderOf 17 = .ok (.iload 4, 2) := by decide +kernel
theorem dX12_holderOf_19 : decode cX12_holderOf 19 = .ok (.bipush 7, 2) := by decide +kernel
theorem dX12_holderOf_21 : decode cX12_holderOf 21 = .ok (.if_icmp .ge 44, 3) := by decide +kernel
theorem dX12_holderOf_24 : decode cX12_holderOf 24 = .ok (.iload_n 3, 1) := by decide +kernel
theorem dX12_holderOf_25 : decode cX12_holderOf 25 = .ok (.ifCond .eq 40, 3) := by decide +kernel
theorem dX12_holderOf_28 : decode cX12_holderOf 28 = .ok (.iload_n 1, 1) := by decide +kernel
theorem dX12_holderOf_29 : decode cX12_holderOf 29 = .ok (.iload 4, 2) := by decide +kernel
theorem dX12_holderOf_31 : decode cX12_holderOf 31 = .ok (.invokestatic 136, 3) := by decide +kernel
theorem dX12_holderOf_34 : decode cX12_holderOf 34 = .ok (.ifCond .eq 19, 3) := by decide +kernel
theorem dX12_holderOf_37 : decode cX12_holderOf 37 = .ok (.iload 4, 2) := by decide +kernel
theorem dX12_holderOf_39 : decode cX12_holderOf 39 = .ok (.iload_n 2, 1) := by decide +kernel
theorem dX12_holderOf_40 : decode cX12_holderOf 40 = .ok (.if_icmp .eq 13, 3) := by decide +kernel
theorem dX12_holderOf_43 : decode cX12_holderOf 43 = .ok (.aload_n 0, 1) := by decide +kernel
theorem dX12_holderOf_44 : decode cX12_holderOf 44 = .ok (.iload 4, 2) := by decide +kernel
theorem dX12_holderOf_46 : decode cX12_holderOf 46 = .ok (.iload_n 2, 1) := by decide +kernel
theorem dX12_holderOf_47 : decode cX12_holderOf 47 = .ok (.invokevirtual 140, 3) := by decide +kernel
theorem dX12_holderOf_50 : decode cX12_holderOf 50 = .ok (.ifCond .eq 7, 3) := by decide +kernel
theorem dX12_holderOf_53 : decode cX12_holderOf 53 = .ok (.iconst 1, 1) := by decide +kernel
theorem dX12_holderOf_54 : decode cX12_holderOf 54 = .ok (.goto 4, 3) := by decide +kernel
theorem dX12_holderOf_57 : decode cX12_holderOf 57 = .ok (.iconst 0, 1) := by decide +kernel
theorem dX12_holderOf_58 : decode cX12_holderOf 58 = .ok (.istore_n 3, 1) := by decide +kernel
theorem dX12_holderOf_59 : decode cX12_holderOf 59 = .ok (.iinc 4 1, 3) := by decide +kernel
theorem dX12_holderOf_62 : decode cX12_holderOf 62 = .ok (.goto (-45), 3) := by decide +kernel
theorem dX12_holderOf_65 : decode cX12_holderOf 65 = .ok (.iload_n 3, 1) := by decide +kernel
theorem dX12_holderOf_66 : decode cX12_holderOf 66 = .ok (.ifCond .eq 5, 3) := by decide +kernel
theorem dX12_holderOf_69 : decode cX12_holderOf 69 = .ok (.iload_n 2, 1) := by decide +kernel
theorem dX12_holderOf_70 : decode cX12_holderOf 70 = .ok (.ireturn, 1) := by decide +kernel
theorem dX12_holderOf_71 : decode cX12_holderOf 71 = .ok (.iinc 2 1, 3) := by decide +kernel
theorem dX12_holderOf_74 : decode cX12_holderOf 74 = .ok (.goto (-72), 3) := by decide +kernel
theorem dX12_holderOf_77 : decode cX12_holderOf 77 = .ok (.iconst (-1), 1) := by decide +kernel
theorem dX12_holderOf_78 : decode cX12_holderOf 78 = .ok (.ireturn, 1) := by decide +kernel
theorem dX12_holder_0 : decode cX12_holder 0 = .ok (.aload_n 0, 1) := by decide +kernel
theorem dX12_holder_1 : decode cX12_holder 1 = .ok (.iconst 0, 1) := by decide +kernel
theorem dX12_holder_2 : decode cX12_holder 2 = .ok (.putfield 103, 3) := by decide +kernel
theorem dX12_holder_5 : decode cX12_holder 5 = .ok (.aload_n 0, 1) := by decide +kernel
theorem dX12_holder_6 : decode cX12_holder 6 = .ok (.iload_n 1, 1) := by decide +kernel
theorem dX12_holder_7 : decode cX12_holder 7 = .ok (.invokevirtual 143, 3) := by decide +kernel
theorem dX12_holder_10 : decode cX12_holder 10 = .ok (.ifCond .eq 11, 3) := by decide +kernel
theorem dX12_holder_13 : decode cX12_holder 13 = .ok (.aload_n 0, 1) := by decide +kernel
theorem dX12_holder_14 : decode cX12_holder 14 = .ok (.iload_n 1, 1) := by decide +kernel
theorem dX12_holder_15 : decode cX12_holder 15 = .ok (.invokevirtual 146, 3) := by decide +kernel
theorem dX12_holder_18 : decode cX12_holder 18 = .ok (.goto 8, 3) := by decide +kernel
theorem dX12_holder_21 : decode cX12_holder 21 = .ok (.aload_n 0, 1) := by decide +kernel
theorem dX12_holder_22 : decode cX12_holder 22 = .ok (.iconst 1, 1) := by decide +kernel
theorem dX12_holder_23 : decode cX12_holder 23 = .ok (.invokevirtual 116, 3) := by decide +kernel
theorem dX12_holder_26 : decode cX12_holder 26 = .ok (.ireturn, 1) := by decide +kernel
theorem dX12_isTray_0 : decode cX12_isTray 0 = .ok (.iload_n 0, 1) := by decide +kernel
theorem dX12_isTray_1 : decode cX12_isTray 1 = .ok (.i2l, 1) := by decide +kernel
theorem dX12_isTray_2 : decode cX12_isTray 2 = .ok (.lconst 0, 1) := by decide +kernel
theorem dX12_isTray_3 : decode cX12_isTray 3 = .ok (.ldc2_w 428, 3) := by decide +kernel
theorem dX12_isTray_6 : decode cX12_isTray 6 = .ok (.invokestatic 106, 3) := by decide +kernel
theorem dX12_isTray_9 : decode cX12_isTray 9 = .ok (.ireturn, 1) := by decide +kernel
theorem dX12_tray_0 : decode cX12_tray 0 = .ok (.aload_n 0, 1) := by decide +kernel
theorem dX12_tray_1 : decode cX12_tray 1 = .ok (.iload_n 1, 1) := by decide +kernel
theorem dX12_tray_2 : decode cX12_tray 2 = .ok (.invokestatic 405, 3) := by decide +kernel
theorem dX12_tray_5 : decode cX12_tray 5 = .ok (.ifCond .ne 7, 3) := by decide +kernel
theorem dX12_tray_8 : decode cX12_tray 8 = .ok (.iconst 1, 1) := by decide +kernel
theorem dX12_tray_9 : decode cX12_tray 9 = .ok (.goto 32, 3) := by decide +kernel
theorem dX12_tray_12 : decode cX12_tray 12 = .ok (.iload_n 2, 1) := by decide +kernel
theorem dX12_tray_13 : decode cX12_tray 13 = .ok (.i2l, 1) := by decide +kernel
theorem dX12_tray_14 : decode cX12_tray 14 = .ok (.lconst 0, 1) := by decide +kernel
theorem dX12_tray_15 : decode cX12_tray 15 = .ok (.ldc2_w 428, 3) := by decide +kernel
theorem dX12_tray_18 : decode cX12_tray 18 = .ok (.invokestatic 106, 3) := by decide +kernel
theorem dX12_tray_21 : decode cX12_tray 21 = .ok (.ifCond .eq 15, 3) := by decide +kernel
theorem dX12_tray_24 : decode cX12_tray 24 = .ok (.iload_n 3, 1) := by decide +kernel
theorem dX12_tray_25 : decode cX12_tray 25 = .ok (.i2l, 1) := by decide +kernel
theorem dX12_tray_26 : decode cX12_tray 26 = .ok (.lconst 0, 1) := by decide +kernel
theorem dX12_tray_27 : decode cX12_tray 27 = .ok (.ldc2_w 434, 3) := by decide +kernel
theorem dX12_tray_30 : decode cX12_tray 30 = .ok (.invokestatic 106, 3) := by decide +kernel
theorem dX12_tray_33 : decode cX12_tray 33 = .ok (.ifCond .ne 7, 3) := by decide +kernel
theorem dX12_tray_36 : decode cX12_tray 36 = .ok (.iconst 2, 1) := by decide +kernel
theorem dX12_tray_37 : decode cX12_tray 37 = .ok (.goto 4, 3) := by decide +kernel
theorem dX12_tray_40 : decode cX12_tray 40 = .ok (.iconst 0, 1) := by decide +kernel
theorem dX12_tray_41 : decode cX12_tray 41 = .ok (.putfield 103, 3) := by decide +kernel
theorem dX12_tray_44 : decode cX12_tray 44 = .ok (.aload_n 0, 1) := by decide +kernel
theorem dX12_tray_45 : decode cX12_tray 45 = .ok (.getfield 103, 3) := by decide +kernel
theorem dX12_tray_48 : decode cX12_tray 48 = .ok (.ifCond .le 4, 3) := by decide +kernel
theorem dX12_tray_51 : decode cX12_tray 51 = .ok (.return_, 1) := by decide +kernel
theorem dX12_tray_52 : decode cX12_tray 52 = .ok (.aload_n 0, 1) := by decide +kernel
theorem dX12_tray_53 : decode cX12_tray 53 = .ok (.getfield 94, 3) := by decide +kernel
theorem dX12_tray_56 : decode cX12_tray 56 = .ok (.iload_n 1, 1) := by decide +kernel
theorem dX12_tray_57 : decode cX12_tray 57 = .ok (.iload_n 2, 1) := by decide +kernel
theorem dX12_tray_58 : decode cX12_tray 58 = .ok (.iastore, 1) := by decide +kernel
theorem dX12_tray_59 : decode cX12_tray 59 = .ok (.aload_n 0, 1) := by decide +kernel
theorem dX12_tray_60 : decode cX12_tray 60 = .ok (.getfield 97, 3) := by decide +kernel
theorem dX12_tray_63 : decode cX12_tray 63 = .ok (.iload_n 1, 1) := by decide +kernel
theorem dX12_tray_64 : decode cX12_tray 64 = .ok (.iload_n 3, 1) := by decide +kernel
theorem dX12_tray_65 : decode cX12_tray 65 = .ok (.iastore, 1) := by decide +kernel
theorem dX12_tray_66 : decode cX12_tray 66 = .ok (.iconst 0, 1) := by decide +kernel
theorem dX12_tray_67 : decode cX12_tray 67 = .ok (.istore 4, 2) := by decide +kernel
theorem dX12_tray_69 : decode cX12_tray 69 = .ok (.iload 4, 2) := by decide +kernel
theorem dX12_tray_71 : decode cX12_tray 71 = .ok (.bipush 40, 2) := by decide +kernel
theorem dX12_tray_73 : decode cX12_tray 73 = .ok (.if_icmp .ge 22, 3) := by decide +kernel
theorem dX12_tray_76 : decode cX12_tray 76 = .ok (.aload_n 0, 1) := by decide +kernel
theorem dX12_tray_77 : decode cX12_tray 77 = .ok (.getfield 100, 3) := by decide +kernel
theorem dX12_tray_80 : decode cX12_tray 80 = .ok (.bipush 40, 2) := by decide +kernel
theorem dX12_tray_82 : decode cX12_tray 82 = .ok (.iload_n 1, 1) := by decide +kernel
theorem dX12_tray_83 : decode cX12_tray 83 = .ok (.imul, 1) := by decide +kernel
theorem dX12_tray_84 : decode cX12_tray 84 = .ok (.iload 4, 2) := by decide +kernel
theorem dX12_tray_86 : decode cX12_tray 86 = .ok (.iadd, 1) := by decide +kernel
theorem dX12_tray_87 : decode cX12_tray 87 = .ok (.lconst 0, 1) := by decide +kernel
theorem dX12_tray_88 : decode cX12_tray 88 = .ok (.lastore, 1) := by decide +kernel
theorem dX12_tray_89 : decode cX12_tray 89 = .ok (.iinc 4 1, 3) := by decide +kernel
theorem dX12_tray_92 : decode cX12_tray 92 = .ok (.goto (-23), 3) := by decide +kernel
theorem dX12_tray_95 : decode cX12_tray 95 = .ok (.return_, 1) := by decide +kernel
theorem dX12_image_0 : decode cX12_image 0 = .ok (.aload_n 0, 1) := by decide +kernel
theorem dX12_image_1 : decode cX12_image 1 = .ok (.iload_n 1, 1) := by decide +kernel
theorem dX12_image_2 : decode cX12_image 2 = .ok (.i2l, 1) := by decide +kernel
theorem dX12_image_3 : decode cX12_image 3 = .ok (.lconst 0, 1) := by decide +kernel
theorem dX12_image_4 : decode cX12_image 4 = .ok (.ldc2_w 356, 3) := by decide +kernel
theorem dX12_image_7 : decode cX12_image 7 = .ok (.invokestatic 106, 3) := by decide +kernel
theorem dX12_image_10 : decode cX12_image 10 = .ok (.ifCond .eq 7, 3) := by decide +kernel
theorem dX12_image_13 : decode cX12_image 13 = .ok (.iconst 0, 1) := by decide +kernel
theorem dX12_image_14 : decode cX12_image 14 = .ok (.goto 4, 3) := by decide +kernel
theorem dX12_image_17 : decode cX12_image 17 = .ok (.iconst 1, 1) := by decide +kernel
theorem dX12_image_18 : decode cX12_image 18 = .ok (.putfield 103, 3) := by decide +kernel
theorem dX12_image_21 : decode cX12_image 21 = .ok (.aload_n 0, 1) := by decide +kernel
theorem dX12_image_22 : decode cX12_image 22 = .ok (.getfield 103, 3) := by decide +kernel
theorem dX12_image_25 : decode cX12_image 25 = .ok (.ifCond .le 4, 3) := by decide +kernel
theorem dX12_image_28 : decode cX12_image 28 = .ok (.return_, 1) := by decide +kernel
theorem dX12_image_29 : decode cX12_image 29 = .ok (.aload_n 0, 1) := by decide +kernel
theorem dX12_image_30 : decode cX12_image 30 = .ok (.getfield 16, 3) := by decide +kernel
theorem dX12_image_33 : decode cX12_image 33 = .ok (.iload_n 1, 1) := by decide +kernel
theorem dX12_image_34 : decode cX12_image 34 = .ok (.iconst 1, 1) := by decide +kernel
theorem dX12_image_35 : decode cX12_image 35 = .ok (.bastore, 1) := by decide +kernel
theorem dX12_image_36 : decode cX12_image 36 = .ok (.iconst 0, 1) := by decide +kernel
theorem dX12_image_37 : decode cX12_image 37 = .ok (.istore_n 2, 1) := by decide +kernel
theorem dX12_image_38 : decode cX12_image 38 = .ok (.iload_n 2, 1) := by decide +kernel
theorem dX12_image_39 : decode cX12_image 39 = .ok (.sipush 253, 3) := by decide +kernel
theorem dX12_image_42 : decode cX12_image 42 = .ok (.if_icmp .ge 27, 3) := by decide +kernel
theorem dX12_image_45 : decode cX12_image 45 = .ok (.aload_n 0, 1) := by decide +kernel
theorem dX12_image_46 : decode cX12_image 46 = .ok (.getfield 13, 3) := by decide +kernel
theorem dX12_image_49 : decode cX12_image 49 = .ok (.sipush 253, 3) := by decide +kernel
theorem dX12_image_52 : decode cX12_image 52 = .ok (.iload_n 1, 1) := by decide +kernel
theorem dX12_image_53 : decode cX12_image 53 = .ok (.imul, 1) := by decide +kernel
theorem dX12_image_54 : decode cX12_image 54 = .ok (.iload_n 2, 1) := by decide +kernel
theorem dX12_image_55 : decode cX12_image 55 = .ok (.iadd, 1) := by decide +kernel
theorem dX12_image_56 : decode cX12_image 56 = .ok (.aload_n 0, 1) := by decide +kernel
theorem dX12_image_57 : decode cX12_image 57 = .ok (.getfield 9, 3) := by decide +kernel
theorem dX12_image_60 : decode cX12_image 60 = .ok (.iload_n 2, 1) := by decide +kernel
theorem dX12_image_61 : decode cX12_image 61 = .ok (.iaload, 1) := by decide +kernel
theorem dX12_image_62 : decode cX12_image 62 = .ok (.iastore, 1) := by decide +kernel
theorem dX12_image_63 : decode cX12_image 63 = .ok (.iinc 2 1, 3) := by decide +kernel
theorem dX12_image_66 : decode cX12_image 66 = .ok (.goto (-28), 3) := by decide +kernel
theorem dX12_image_69 : decode cX12_image 69 = .ok (.return_, 1) := by decide +kernel
theorem dX12_restore_0 : decode cX12_restore 0 = .ok (.aload_n 0, 1) := by decide +kernel
theorem dX12_restore_1 : decode cX12_restore 1 = .ok (.iload_n 1, 1) := by decide +kernel
theorem dX12_restore_2 : decode cX12_restore 2 = .ok (.i2l, 1) := by decide +kernel
theorem dX12_restore_3 : decode cX12_restore 3 = .ok (.lconst 0, 1) := by decide +kernel
theorem dX12_restore_4 : decode cX12_restore 4 = .ok (.ldc2_w 356, 3) := by decide +kernel
theorem dX12_restore_7 : decode cX12_restore 7 = .ok (.invokestatic 106, 3) := by decide +kernel
theorem dX12_restore_10 : decode cX12_restore 10 = .ok (.ifCond .ne 7, 3) := by decide +kernel
theorem dX12_restore_13 : decode cX12_restore 13 = .ok (.iconst 1, 1) := by decide +kernel
theorem dX12_restore_14 : decode cX12_restore 14 = .ok (.goto 17, 3) := by decide +kernel
theorem dX12_restore_17 : decode cX12_restore 17 = .ok (.aload_n 0, 1) := by decide +kernel
theorem dX12_restore_18 : decode cX12_restore 18 = .ok (.getfield 16, 3) := by decide +kernel
theorem dX12_restore_21 : decode cX12_restore 21 = .ok (.iload_n 1, 1) := by decide +kernel
theorem dX12_restore_22 : decode cX12_restore 22 = .ok (.baload, 1) := by decide +kernel
theorem dX12_restore_23 : decode cX12_restore 23 = .ok (.ifCond .ne 7, 3) := by decide +kernel
theorem dX12_restore_26 : decode cX12_restore 26 = .ok (.iconst 2, 1) := by decide +kernel
theorem dX12_restore_27 : decode cX12_restore 27 = .ok (.goto 4, 3) := by decide +kernel
theorem dX12_restore_30 : decode cX12_restore 30 = .ok (.iconst 0, 1) := by decide +kernel
theorem dX12_restore_31 : decode cX12_restore 31 = .ok (.putfield 103, 3) := by decide +kernel
theorem dX12_restore_34 : decode cX12_restore 34 = .ok (.aload_n 0, 1) := by decide +kernel
theorem dX12_restore_35 : decode cX12_restore 35 = .ok (.getfield 103, 3) := by decide +kernel
theorem dX12_restore_38 : decode cX12_restore 38 = .ok (.ifCond .le 4, 3) := by decide +kernel
theorem dX12_restore_41 : decode cX12_restore 41 = .ok (.return_, 1) := by decide +kernel
theorem dX12_restore_42 : decode cX12_restore 42 = .ok (.iconst 0, 1) := by decide +kernel
theorem dX12_restore_43 : decode cX12_restore 43 = .ok (.istore_n 2, 1) := by decide +kernel
theorem dX12_restore_44 : decode cX12_restore 44 = .ok (.iload_n 2, 1) := by decide +kernel
theorem dX12_restore_45 : decode cX12_restore 45 = .ok (.sipush 253, 3) := by decide +kernel
theorem dX12_restore_48 : decode cX12_restore 48 = .ok (.if_icmp .ge 27, 3) := by decide +kernel
theorem dX12_restore_51 : decode cX12_restore 51 = .ok (.aload_n 0, 1) := by decide +kernel
theorem dX12_restore_52 : decode cX12_restore 52 = .ok (.getfield 9, 3) := by decide +kernel
theorem dX12_restore_55 : decode cX12_restore 55 = .ok (.iload_n 2, 1) := by decide +kernel
theorem dX12_restore_56 : decode cX12_restore 56 = .ok (.aload_n 0, 1) := by decide +kernel
theorem dX12_restore_57 : decode cX12_restore 57 = .ok (.getfield 13, 3) := by decide +kernel
theorem dX12_restore_60 : decode cX12_restore 60 = .ok (.sipush 253, 3) := by decide +kernel
theorem dX12_restore_63 : decode cX12_restore 63 = .ok (.iload_n 1, 1) := by decide +kernel
theorem dX12_restore_64 : decode cX12_restore 64 = .ok (.imul, 1) := by decide +kernel
theorem dX12_restore_65 : decode cX12_restore 65 = .ok (.iload_n 2, 1) := by decide +kernel
theorem dX12_restore_66 : decode cX12_restore 66 = .ok (.iadd, 1) := by decide +kernel
theorem dX12_restore_67 : decode cX12_restore 67 = .ok (.iaload, 1) := by decide +kernel
theorem dX12_restore_68 : decode cX12_restore 68 = .ok (.iastore, 1) := by decide +kernel
theorem dX12_restore_69 : decode cX12_restore 69 = .ok (.iinc 2 1, 3) := by decide +kernel
theorem dX12_restore_72 : decode cX12_restore 72 = .ok (.goto (-28), 3) := by decide +kernel
theorem dX12_restore_75 : decode cX12_restore 75 = .ok (.aload_n 0, 1) := by decide +kernel
theorem dX12_restore_76 : decode cX12_restore 76 = .ok (.invokevirtual 120, 3) := by decide +kernel
theorem dX12_restore_79 : decode cX12_restore 79 = .ok (.return_, 1) := by decide +kernel
theorem dX12_count_0 : decode cX12_count 0 = .ok (.aload_n 0, 1) := by decide +kernel
theorem dX12_count_1 : decode cX12_count 1 = .ok (.iconst 0, 1) := by decide +kernel
theorem dX12_count_2 : decode cX12_count 2 = .ok (.putfield 103, 3) := by decide +kernel
theorem dX12_count_5 : decode cX12_count 5 = .ok (.iconst 0, 1) := by decide +kernel
theorem dX12_count_6 : decode cX12_count 6 = .ok (.istore_n 2, 1) := by decide +kernel
theorem dX12_count_7 : decode cX12_count 7 = .ok (.iload_n 1, 1) := by decide +kernel
theorem dX12_count_8 : decode cX12_count 8 = .ok (.tableswitch 160 0 9 #[56, 63, 72, 81, 90, 95, 124, 133, 142, 151], 56) := by decide +kernel
theorem dX12_count_64 : decode cX12_count 64 = .ok (.aload_n 0, 1) := by decide +kernel
theorem dX12_count_65 : decode cX12_count 65 = .ok (.getfield 9, 3) := by decide +kernel
theorem dX12_count_68 : decode cX12_count 68 = .ok (.iconst 0, 1) := by decide +kernel
theorem dX12_count_69 : decode cX12_count 69 = .ok (.iaload, 1) := by decide +kernel
theorem dX12_count_70 : decode cX12_count 70 = .ok (.ireturn, 1) := by decide +kernel
theorem dX12_count_71 : decode cX12_count 71 = .ok (.aload_n 0, 1) := by decide +kernel
theorem dX12_count_72 : decode cX12_count 72 = .ok (.getfield 9, 3) := by decide +kernel
theorem dX12_count_75 : decode cX12_count 75 = .ok (.sipush 220, 3) := by decide +kernel
theorem dX12_count_78 : decode cX12_count 78 = .ok (.iaload, 1) := by decide +kernel
theorem dX12_count_79 : decode cX12_count 79 = .ok (.ireturn, 1) := by decide +kernel
theorem dX12_count_80 : decode cX12_count 80 = .ok (.aload_n 0, 1) := by decide +kernel
theorem dX12_count_81 : decode cX12_count 81 = .ok (.getfield 9, 3) := by decide +kernel
theorem dX12_count_84 : decode cX12_count 84 = .ok (.sipush 233, 3) := by decide +kernel
theorem dX12_count_87 : decode cX12_count 87 = .ok (.iaload, 1) := by decide +kernel
theorem dX12_count_88 : decode cX12_count 88 = .ok (.ireturn, 1) := by decide +kernel
theorem dX12_count_89 : decode cX12_count 89 = .ok (.aload_n 0, 1) := by decide +kernel
theorem dX12_count_90 : decode cX12_count 90 = .ok (.getfield 9, 3) := by decide +kernel
theorem dX12_count_93 : decode cX12_count 93 = .ok (.sipush 244, 3) := by decide +kernel
theorem dX12_count_96 : decode cX12_count 96 = .ok (.iaload, 1) := by decide +kernel
theorem dX12_count_97 : decode cX12_count 97 = .ok (.ireturn, 1) := by decide +kernel
theorem dX12_count_98 : decode cX12_count 98 = .ok (.aload_n 0, 1) := by decide +kernel
theorem dX12_count_99 : decode cX12_count 99 = .ok (.getfield 149, 3) := by decide +kernel
theorem dX12_count_102 : decode cX12_count 102 = .ok (.ireturn, 1) := by decide +kernel
theorem dX12_count_103 : decode cX12_count 103 = .ok (.iconst 0, 1) := by decide +kernel
theorem dX12_count_104 : decode cX12_count 104 = .ok (.istore_n 3, 1) := by decide +kernel
theorem dX12_count_105 : decode cX12_count 105 = .ok (.iload_n 3, 1) := by decide +kernel
theorem dX12_count_106 : decode cX12_count 106 = .ok (.bipush 7, 2) := by decide +kernel
theorem dX12_count_108 : decode cX12_count 108 = .ok (.if_icmp .ge 22, 3) := by decide +kernel
theorem dX12_count_111 : decode cX12_count 111 = .ok (.iload_n 2, 1) := by decide +kernel
theorem dX12_count_112 : decode cX12_count 112 = .ok (.aload_n 0, 1) := by decide +kernel
theorem dX12_count_113 : decode cX12_count 113 = .ok (.getfield 9, 3) := by decide +kernel
theorem dX12_count_116 : decode cX12_count 116 = .ok (.sipush 156, 3) := by decide +kernel
theorem dX12_count_119 : decode cX12_count 119 = .ok (.iload_n 3, 1) := by decide +kernel
theorem dX12_count_120 : decode cX12_count 120 = .ok (.iadd, 1) := by decide +kernel
theorem dX12_count_121 : decode cX12_count 121 = .ok (.iaload, 1) := by decide +kernel
theorem dX12_count_122 : decode cX12_count 122 = .ok (.iadd, 1) := by decide +kernel
theorem dX12_count_123 : decode cX12_count 123 = .ok (.istore_n 2, 1) := by decide +kernel
theorem dX12_count_124 : decode cX12_count 124 = .ok (.iinc 3 1, 3) := by decide +kernel
theorem dX12_count_127 : decode cX12_count 127 = .ok (.goto (-22), 3) := by decide +kernel
theorem dX12_count_130 : decode cX12_count 130 = .ok (.iload_n 2, 1) := by decide +kernel
theorem dX12_count_131 : decode cX12_count 131 = .ok (.ireturn, 1) := by decide +kernel
theorem dX12_count_132 : decode cX12_count 132 = .ok (.aload_n 0, 1) := by decide +kernel
theorem dX12_count_133 : decode cX12_count 133 = .ok (.getfield 9, 3) := by decide +kernel
theorem dX12_count_136 : decode cX12_count 136 = .ok (.sipush 252, 3) := by decide +kernel
theorem dX12_count_139 : decode cX12_count 139 = .ok (.iaload, 1) := by decide +kernel
theorem dX12_count_140 : decode cX12_count 140 = .ok (.ireturn, 1) := by decide +kernel
theorem dX12_count_141 : decode cX12_count 141 = .ok (.aload_n 0, 1) := by decide +kernel
theorem dX12_count_142 : decode cX12_count 142 = .ok (.getfield 9, 3) := by decide +kernel
theorem dX12_count_145 : decode cX12_count 145 = .ok (.sipush 251, 3) := by decide +kernel
theorem dX12_count_148 : decode cX12_count 148 = .ok (.iaload, 1) := by decide +kernel
theorem dX12_count_149 : decode cX12_count 149 = .ok (.ireturn, 1) := by decide +kernel
theorem dX12_count_150 : decode cX12_count 150 = .ok (.aload_n 0, 1) := by decide +kernel
theorem dX12_count_151 : decode cX12_count 151 = .ok (.getfield 9, 3) := by decide +kernel
theorem dX12_count_154 : decode cX12_count 154 = .ok (.sipush 242, 3) := by decide +kernel
theorem dX12_count_157 : decode cX12_count 157 = .ok (.iaload, 1) := by decide +kernel
theorem dX12_count_158 : decode cX12_count 158 = .ok (.ireturn, 1) := by decide +kernel
theorem dX12_count_159 : decode cX12_count 159 = .ok (.aload_n 0, 1) := by decide +kernel
theorem dX12_count_160 : decode cX12_count 160 = .ok (.getfield 9, 3) := by decide +kernel
theorem dX12_count_163 : decode cX12_count 163 = .ok (.sipush 243, 3) := by decide +kernel
theorem dX12_count_166 : decode cX12_count 166 = .ok (.iaload, 1) := by decide +kernel
theorem dX12_count_167 : decode cX12_count 167 = .ok (.ireturn, 1) := by decide +kernel
theorem dX12_count_168 : decode cX12_count 168 = .ok (.iconst (-1), 1) := by decide +kernel
theorem dX12_count_169 : decode cX12_count 169 = .ok (.ireturn, 1) := by decide +kernel
theorem dX12_feed_0 : decode cX12_feed 0 = .ok (.aload_n 0, 1) := by decide +kernel
theorem dX12_feed_1 : decode cX12_feed 1 = .ok (.iconst 0, 1) := by decide +kernel
theorem dX12_feed_2 : decode cX12_feed 2 = .ok (.putfield 103, 3) := by decide +kernel
theorem dX12_feed_5 : decode cX12_feed 5 = .ok (.aload_n 0, 1) := by decide +kernel
theorem dX12_feed_6 : decode cX12_feed 6 = .ok (.getfield 149, 3) := by decide +kernel
theorem dX12_feed_9 : decode cX12_feed 9 = .ok (.bipush 20, 2) := by decide +kernel
theorem dX12_feed_11 : decode cX12_feed 11 = .ok (.iadd, 1) := by decide +kernel
theorem dX12_feed_12 : decode cX12_feed 12 = .ok (.sipush 300, 3) := by decide +kernel
theorem dX12_feed_15 : decode cX12_feed 15 = .ok (.if_icmp .le 5, 3) := by decide +kernel
theorem dX12_feed_18 : decode cX12_feed 18 = .ok (.iconst (-1), 1) := by decide +kernel
theorem dX12_feed_19 : decode cX12_feed 19 = .ok (.ireturn, 1) := by decide +kernel
theorem dX12_feed_20 : decode cX12_feed 20 = .ok (.iconst 0, 1) := by decide +kernel
theorem dX12_feed_21 : decode cX12_feed 21 = .ok (.istore 6, 2) := by decide +kernel
theorem dX12_feed_23 : decode cX12_feed 23 = .ok (.iload 6, 2) := by decide +kernel
theorem dX12_feed_25 : decode cX12_feed 25 = .ok (.bipush 20, 2) := by decide +kernel
theorem dX12_feed_27 : decode cX12_feed 27 = .ok (.if_icmp .ge 93, 3) := by decide +kernel
theorem dX12_feed_30 : decode cX12_feed 30 = .ok (.iload 6, 2) := by decide +kernel
theorem dX12_feed_32 : decode cX12_feed 32 = .ok (.iconst 4, 1) := by decide +kernel
theorem dX12_feed_33 : decode cX12_feed 33 = .ok (.if_icmp .ge 7, 3) := by decide +kernel
theorem dX12_feed_36 : decode cX12_feed 36 = .ok (.iload_n 1, 1) := by decide +kernel
theorem dX12_feed_37 : decode cX12_feed 37 = .ok (.goto 39, 3) := by decide +kernel
theorem dX12_feed_40 : decode cX12_feed 40 = .ok (.iload 6, 2) := by decide +kernel
theorem dX12_feed_42 : decode cX12_feed 42 = .ok (.bipush 8, 2) := by decide +kernel
theorem dX12_feed_44 : decode cX12_feed 44 = .ok (.if_icmp .ge 7, 3) := by decide +kernel
theorem dX12_feed_47 : decode cX12_feed 47 = .ok (.iload_n 2, 1) := by decide +kernel
theorem dX12_feed_48 : decode cX12_feed 48 = .ok (.goto 28, 3) := by decide +kernel
theorem dX12_feed_51 : decode cX12_feed 51 = .ok (.iload 6, 2) := by decide +kernel
theorem dX12_feed_53 : decode cX12_feed 53 = .ok (.bipush 12, 2) := by decide +kernel
theorem dX12_feed_55 : decode cX12_feed 55 = .ok (.if_icmp .ge 7, 3) := by decide +kernel
theorem dX12_feed_58 : decode cX12_feed 58 = .ok (.iload_n 3, 1) := by decide +kernel
theorem dX12_feed_59 : decode cX12_feed 59 = .ok (.goto 17, 3) := by decide +kernel
theorem dX12_feed_62 : decode cX12_feed 62 = .ok (.iload 6, 2) := by decide +kernel
theorem dX12_feed_64 : decode cX12_feed 64 = .ok (.bipush 16, 2) := by decide +kernel
theorem dX12_feed_66 : decode cX12_feed 66 = .ok (.if_icmp .ge 8, 3) := by decide +kernel
theorem dX12_feed_69 : decode cX12_feed 69 = .ok (.iload 4, 2) := by decide +kernel
theorem dX12_feed_71 : decode cX12_feed 71 = .ok (.goto 5, 3) := by decide +kernel
theorem dX12_feed_74 : decode cX12_feed 74 = .ok (.iload 5, 2) := by decide +kernel
theorem dX12_feed_76 : decode cX12_feed 76 = .ok (.istore 7, 2) := by decide +kernel
theorem dX12_feed_78 : decode cX12_feed 78 = .ok (.aload_n 0, 1) := by decide +kernel
theorem dX12_feed_79 : decode cX12_feed 79 = .ok (.getfield 20, 3) := by decide +kernel
theorem dX12_feed_82 : decode cX12_feed 82 = .ok (.aload_n 0, 1) := by decide +kernel
theorem dX12_feed_83 : decode cX12_feed 83 = .ok (.getfield 149, 3) := by decide +kernel
theorem dX12_feed_86 : decode cX12_feed 86 = .ok (.iload 7, 2) := by decide +kernel
theorem dX12_feed_88 : decode cX12_feed 88 = .ok (.bipush 24, 2) := by decide +kernel
theorem dX12_feed_90 : decode cX12_feed 90 = .ok (.bipush 8, 2) := by decide +kernel
theorem dX12_feed_92 : decode cX12_feed 92 = .ok (.iload 6, 2) := by decide +kernel
theorem dX12_feed_94 : decode cX12_feed 94 = .ok (.iconst 3, 1) := by decide +kernel
theorem dX12_feed_95 : decode cX12_feed 95 = .ok (.iand, 1) := by decide +kernel
theorem dX12_feed_96 : decode cX12_feed 96 = .ok (.imul, 1) := by decide +kernel
theorem dX12_feed_97 : decode cX12_feed 97 = .ok (.isub, 1) := by decide +kernel
theorem dX12_feed_98 : decode cX12_feed 98 = .ok (.iushr, 1) := by decide +kernel
theorem dX12_feed_99 : decode cX12_feed 99 = .ok (.sipush 255, 3) := by decide +kernel
theorem dX12_feed_102 : decode cX12_feed 102 = .ok (.iand, 1) := by decide +kernel
theorem dX12_feed_103 : decode cX12_feed 103 = .ok (.iastore, 1) := by decide +kernel
theorem dX12_feed_104 : decode cX12_feed 104 = .ok (.aload_n 0, 1) := by decide +kernel
theorem dX12_feed_105 : decode cX12_feed 105 = .ok (.dup, 1) := by decide +kernel
theorem dX12_feed_106 : decode cX12_feed 106 = .ok (.getfield 149, 3) := by decide +kernel
theorem dX12_feed_109 : decode cX12_feed 109 = .ok (.iconst 1, 1) := by decide +kernel
theorem dX12_feed_110 : decode cX12_feed 110 = .ok (.iadd, 1) := by decide +kernel
theorem dX12_feed_111 : decode cX12_feed 111 = .ok (.putfield 149, 3) := by decide +kernel
theorem dX12_feed_114 : decode cX12_feed 114 = .ok (.iinc 6 1, 3) := by decide +kernel
theorem dX12_feed_117 : decode cX12_feed 117 = .ok (.goto (-94), 3) := by decide +kernel
theorem dX12_feed_120 : decode cX12_feed 120 = .ok (.aload_n 0, 1) := by decide +kernel
theorem dX12_feed_121 : decode cX12_feed 121 = .ok (.getfield 149, 3) := by decide +kernel
theorem dX12_feed_124 : decode cX12_feed 124 = .ok (.ireturn, 1) := by decide +kernel
theorem dX12_write_0 : decode cX12_write 0 = .ok (.aload_n 0, 1) := by decide +kernel
theorem dX12_write_1 : decode cX12_write 1 = .ok (.iconst 0, 1) := by decide +kernel
theorem dX12_write_2 : decode cX12_write 2 = .ok (.putfield 103, 3) := by decide +kernel
theorem dX12_write_5 : decode cX12_write 5 = .ok (.iload_n 1, 1) := by decide +kernel
theorem dX12_write_6 : decode cX12_write 6 = .ok (.invokestatic 405, 3) := by decide +kernel
theorem dX12_write_9 : decode cX12_write 9 = .ok (.ifCond .ne 10, 3) := by decide +kernel
theorem dX12_write_12 : decode cX12_write 12 = .ok (.aload_n 0, 1) := by decide +kernel
theorem dX12_write_13 : decode cX12_write 13 = .ok (.iconst 1, 1) := by decide +kernel
theorem dX12_write_14 : decode cX12_write 14 = .ok (.invokevirtual 116, 3) := by decide +kernel
theorem dX12_write_17 : decode cX12_write 17 = .ok (.i2l, 1) := by decide +kernel
theorem dX12_write_18 : decode cX12_write 18 = .ok (.lreturn, 1) := by decide +kernel
theorem dX12_write_19 : decode cX12_write 19 = .ok (.aload_n 0, 1) := by decide +kernel
theorem dX12_write_20 : decode cX12_write 20 = .ok (.getfield 94, 3) := by decide +kernel
theorem dX12_write_23 : decode cX12_write 23 = .ok (.iload_n 1, 1) := by decide +kernel
theorem dX12_write_24 : decode cX12_write 24 = .ok (.iaload, 1) := by decide +kernel
theorem dX12_write_25 : decode cX12_write 25 = .ok (.iconst (-1), 1) := by decide +kernel
theorem dX12_write_26 : decode cX12_write 26 = .ok (.if_icmp .ne 10, 3) := by decide +kernel
theorem dX12_write_29 : decode cX12_write 29 = .ok (.aload_n 0, 1) := by decide +kernel
theorem dX12_write_30 : decode cX12_write 30 = .ok (.iconst 2, 1) := by decide +kernel
theorem dX12_write_31 : decode cX12_write 31 = .ok (.invokevirtual 116, 3) := by decide +kernel
theorem dX12_write_34 : decode cX12_write 34 = .ok (.i2l, 1) := by decide +kernel
theorem dX12_write_35 : decode cX12_write 35 = .ok (.lreturn, 1) := by decide +kernel
theorem dX12_write_36 : decode cX12_write 36 = .ok (.iload_n 2, 1) := by decide +kernel
theorem dX12_write_37 : decode cX12_write 37 = .ok (.i2l, 1) := by decide +kernel
theorem dX12_write_38 : decode cX12_write 38 = .ok (.lconst 0, 1) := by decide +kernel
theorem dX12_write_39 : decode cX12_write 39 = .ok (.aload_n 0, 1) := by decide +kernel
theorem dX12_write_40 : decode cX12_write 40 = .ok (.getfield 97, 3) := by decide +kernel
theorem dX12_write_43 : decode cX12_write 43 = .ok (.iload_n 1, 1) := by decide +kernel
theorem dX12_write_44 : decode cX12_write 44 = .ok (.iaload, 1) := by decide +kernel
theorem dX12_write_45 : decode cX12_write 45 = .ok (.iconst 1, 1) := by decide +kernel
theorem dX12_write_46 : decode cX12_write 46 = .ok (.isub, 1) := by decide +kernel
theorem dX12_write_47 : decode cX12_write 47 = .ok (.i2l, 1) := by decide +kernel
theorem dX12_write_48 : decode cX12_write 48 = .ok (.invokestatic 106, 3) := by decide +kernel
theorem dX12_write_51 : decode cX12_write 51 = .ok (.ifCond .ne 10, 3) := by decide +kernel
theorem dX12_write_54 : decode cX12_write 54 = .ok (.aload_n 0, 1) := by decide +kernel
theorem dX12_write_55 : decode cX12_write 55 = .ok (.iconst 3, 1) := by decide +kernel
theorem dX12_write_56 : decode cX12_write 56 = .ok (.invokevirtual 116, 3) := by decide +kernel
theorem dX12_write_59 : decode cX12_write 59 = .ok (.i2l, 1) := by decide +kernel
theorem dX12_write_60 : decode cX12_write 60 = .ok (.lreturn, 1) := by decide +kernel
theorem dX12_write_61 : decode cX12_write 61 = .ok (.bipush 64, 2) := by decide +kernel
theorem dX12_write_63 : decode cX12_write 63 = .ok (.bipush 8, 2) := by decide +kernel
theorem dX12_write_65 : decode cX12_write 65 = .ok (.aload_n 0, 1) := by decide +kernel
theorem dX12_write_66 : decode cX12_write 66 = .ok (.getfield 94, 3) := by decide +kernel
theorem dX12_write_69 : decode cX12_write 69 = .ok (.iload_n 1, 1) := by decide +kernel
theorem dX12_write_70 : decode cX12_write 70 = .ok (.iaload, 1) := by decide +kernel
theorem dX12_write_71 : decode cX12_write 71 = .ok (.ishl, 1) := by decide +kernel
theorem dX12_write_72 : decode cX12_write 72 = .ok (.isub, 1) := by decide +kernel
theorem dX12_write_73 : decode cX12_write 73 = .ok (.istore 5, 2) := by decide +kernel
theorem dX12_write_75 : decode cX12_write 75 = .ok (.aload_n 0, 1) := by decide +kernel
theorem dX12_write_76 : decode cX12_write 76 = .ok (.getfield 100, 3) := by decide +kernel
theorem dX12_write_79 : decode cX12_write 79 = .ok (.bipush 40, 2) := by decide +kernel
theorem dX12_write_81 : decode cX12_write 81 = .ok (.iload_n 1, 1) := by decide +kernel
theorem dX12_write_82 : decode cX12_write 82 = .ok (.imul, 1) := by decide +kernel
theorem dX12_write_83 : decode cX12_write 83 = .ok (.iload_n 2, 1) := by decide +kernel
theorem dX12_write_84 : decode cX12_write 84 = .ok (.iadd, 1) := by decide +kernel
theorem dX12_write_85 : decode cX12_write 85 = .ok (.lload_n 3, 1) := by decide +kernel
theorem dX12_write_86 : decode cX12_write 86 = .ok (.iload 5, 2) := by decide +kernel
theorem dX12_write_88 : decode cX12_write 88 = .ok (.lshl, 1) := by decide +kernel
theorem dX12_write_89 : decode cX12_write 89 = .ok (.iload 5, 2) := by decide +kernel
theorem dX12_write_91 : decode cX12_write 91 = .ok (.lshr, 1) := by decide +kernel
theorem dX12_write_92 : decode cX12_write 92 = .ok (.lastore, 1) := by decide +kernel
theorem dX12_write_93 : decode cX12_write 93 = .ok (.aload_n 0, 1) := by decide +kernel
theorem dX12_write_94 : decode cX12_write 94 = .ok (.getfield 100, 3) := by decide +kernel
theorem dX12_write_97 : decode cX12_write 97 = .ok (.bipush 40, 2) := by decide +kernel
theorem dX12_write_99 : decode cX12_write 99 = .ok (.iload_n 1, 1) := by decide +kernel
theorem dX12_write_100 : decode cX12_write 100 = .ok (.imul, 1) := by decide +kernel
theorem dX12_write_101 : decode cX12_write 101 = .ok (.iload_n 2, 1) := by decide +kernel
theorem dX12_write_102 : decode cX12_write 102 = .ok (.iadd, 1) := by decide +kernel
theorem dX12_write_103 : decode cX12_write 103 = .ok (.laload, 1) := by decide +kernel
theorem dX12_write_104 : decode cX12_write 104 = .ok (.lreturn, 1) := by decide +kernel
theorem dX12_take_0 : decode cX12_take 0 = .ok (.aload_n 0, 1) := by decide +kernel
theorem dX12_take_1 : decode cX12_take 1 = .ok (.iconst 0, 1) := by decide +kernel
theorem dX12_take_2 : decode cX12_take 2 = .ok (.putfield 103, 3) := by decide +kernel
theorem dX12_take_5 : decode cX12_take 5 = .ok (.iload_n 1, 1) := by decide +kernel
theorem dX12_take_6 : decode cX12_take 6 = .ok (.invokestatic 405, 3) := by decide +kernel
theorem dX12_take_9 : decode cX12_take 9 = .ok (.ifCond .eq 11, 3) := by decide +kernel
theorem dX12_take_12 : decode cX12_take 12 = .ok (.aload_n 0, 1) := by decide +kernel
theorem dX12_take_13 : decode cX12_take 13 = .ok (.iload_n 2, 1) := by decide +kernel
theorem dX12_take_14 : decode cX12_take 14 = .ok (.invokevirtual 123, 3) := by decide +kernel
theorem dX12_take_17 : decode cX12_take 17 = .ok (.ifCond .ne 9, 3) := by decide +kernel
theorem dX12_take_20 : decode cX12_take 20 = .ok (.aload_n 0, 1) := by decide +kernel
theorem dX12_take_21 : decode cX12_take 21 = .ok (.iconst 1, 1) := by decide +kernel
theorem dX12_take_22 : decode cX12_take 22 = .ok (.invokevirtual 116, 3) := by decide +kernel
theorem dX12_take_25 : decode cX12_take 25 = .ok (.ireturn, 1) := by decide +kernel
theorem dX12_take_26 : decode cX12_take 26 = .ok (.aload_n 0, 1) := by decide +kernel
theorem dX12_take_27 : decode cX12_take 27 = .ok (.getfield 94, 3) := by decide +kernel
theorem dX12_take_30 : decode cX12_take 30 = .ok (.iload_n 1, 1) := by decide +kernel
theorem dX12_take_31 : decode cX12_take 31 = .ok (.iaload, 1) := by decide +kernel
theorem dX12_take_32 : decode cX12_take 32 = .ok (.iconst (-1), 1) := by decide +kernel
theorem dX12_take_33 : decode cX12_take 33 = .ok (.if_icmp .ne 9, 3) := by decide +kernel
theorem dX12_take_36 : decode cX12_take 36 = .ok (.aload_n 0, 1) := by decide +kernel
theorem dX12_take_37 : decode cX12_take 37 = .ok (.iconst 2, 1) := by decide +kernel
theorem dX12_take_38 : decode cX12_take 38 = .ok (.invokevirtual 116, 3) := by decide +kernel
theorem dX12_take_41 : decode cX12_take 41 = .ok (.ireturn, 1) := by decide +kernel
theorem dX12_take_42 : decode cX12_take 42 = .ok (.aload_n 0, 1) := by decide +kernel
theorem dX12_take_43 : decode cX12_take 43 = .ok (.getfield 97, 3) := by decide +kernel
theorem dX12_take_46 : decode cX12_take 46 = .ok (.iload_n 1, 1) := by decide +kernel
theorem dX12_take_47 : decode cX12_take 47 = .ok (.iaload, 1) := by decide +kernel
theorem dX12_take_48 : decode cX12_take 48 = .ok (.bipush 6, 2) := by decide +kernel
theorem dX12_take_50 : decode cX12_take 50 = .ok (.if_icmp .le 9, 3) := by decide +kernel
theorem dX12_take_53 : decode cX12_take 53 = .ok (.aload_n 0, 1) := by decide +kernel
theorem dX12_take_54 : decode cX12_take 54 = .ok (.iconst 3, 1) := by decide +kernel
theorem dX12_take_55 : decode cX12_take 55 = .ok (.invokevirtual 116, 3) := by decide +kernel
theorem dX12_take_58 : decode cX12_take 58 = .ok (.ireturn, 1) := by decide +kernel
theorem dX12_take_59 : decode cX12_take 59 = .ok (.iconst 0, 1) := by decide +kernel
theorem dX12_take_60 : decode cX12_take 60 = .ok (.istore_n 3, 1) := by decide +kernel
theorem dX12_take_61 : decode cX12_take 61 = .ok (.iload_n 3, 1) := by decide +kernel
theorem dX12_take_62 : decode cX12_take 62 = .ok (.aload_n 0, 1) := by decide +kernel
theorem dX12_take_63 : decode cX12_take 63 = .ok (.getfield 97, 3) := by decide +kernel
theorem dX12_take_66 : decode cX12_take 66 = .ok (.iload_n 1, 1) := by decide +kernel
theorem dX12_take_67 : decode cX12_take 67 = .ok (.iaload, 1) := by decide +kernel
theorem dX12_take_68 : decode cX12_take 68 = .ok (.if_icmp .ge 36, 3) := by decide +kernel
theorem dX12_take_71 : decode cX12_take 71 = .ok (.aload_n 0, 1) := by decide +kernel
theorem dX12_take_72 : decode cX12_take 72 = .ok (.getfield 100, 3) := by decide +kernel
theorem dX12_take_75 : decode cX12_take 75 = .ok (.bipush 40, 2) := by decide +kernel
theorem dX12_take_77 : decode cX12_take 77 = .ok (.iload_n 1, 1) := by decide +kernel
theorem dX12_take_78 : decode cX12_take 78 = .ok (.imul, 1) := by decide +kernel
theorem dX12_take_79 : decode cX12_take 79 = .ok (.iload_n 3, 1) := by decide +kernel
theorem dX12_take_80 : decode cX12_take 80 = .ok (.iadd, 1) := by decide +kernel
theorem dX12_take_81 : decode cX12_take 81 = .ok (.laload, 1) := by decide +kernel
theorem dX12_take_82 : decode cX12_take 82 = .ok (.lconst 0, 1) := by decide +kernel
theorem dX12_take_83 : decode cX12_take 83 = .ok (.ldc2_w 114, 3) := by decide +kernel
theorem dX12_take_86 : decode cX12_take 86 = .ok (.invokestatic 106, 3) := by decide +kernel
theorem dX12_take_89 : decode cX12_take 89 = .ok (.ifCond .ne 9, 3) := by decide +kernel
theorem dX12_take_92 : decode cX12_take 92 = .ok (.aload_n 0, 1) := by decide +kernel
theorem dX12_take_93 : decode cX12_take 93 = .ok (.iconst 3, 1) := by decide +kernel
theorem dX12_take_94 : decode cX12_take 94 = .ok (.invokevirtual 116, 3) := by decide +kernel
theorem dX12_take_97 : decode cX12_take 97 = .ok (.ireturn, 1) := by decide +kernel
theorem dX12_take_98 : decode cX12_take 98 = .ok (.iinc 3 1, 3) := by decide +kernel
theorem dX12_take_101 : decode cX12_take 101 = .ok (.goto (-40), 3) := by decide +kernel
theorem dX12_take_104 : decode cX12_take 104 = .ok (.iconst 0, 1) := by decide +kernel
theorem dX12_take_105 : decode cX12_take 105 = .ok (.istore_n 3, 1) := by decide +kernel
theorem dX12_take_106 : decode cX12_take 106 = .ok (.iload_n 3, 1) := by decide +kernel
theorem dX12_take_107 : decode cX12_take 107 = .ok (.aload_n 0, 1) := by decide +kernel
theorem dX12_take_108 : decode cX12_take 108 = .ok (.getfield 97, 3) := by decide +kernel
theorem dX12_take_111 : decode cX12_take 111 = .ok (.iload_n 1, 1) := by decide +kernel
theorem dX12_take_112 : decode cX12_take 112 = .ok (.iaload, 1) := by decide +kernel
theorem dX12_take_113 : decode cX12_take 113 = .ok (.if_icmp .ge 35, 3) := by decide +kernel
theorem dX12_take_116 : decode cX12_take 116 = .ok (.aload_n 0, 1) := by decide +kernel
theorem dX12_take_117 : decode cX12_take 117 = .ok (.getfield 9, 3) := by decide +kernel
theorem dX12_take_120 : decode cX12_take 120 = .ok (.bipush 8, 2) := by decide +kernel
theorem dX12_take_122 : decode cX12_take 122 = .ok (.bipush 6, 2) := by decide +kernel
theorem dX12_take_124 : decode cX12_take 124 = .ok (.iload_n 2, 1) := by decide +kernel
theorem dX12_take_125 : decode cX12_take 125 = .ok (.imul, 1) := by decide +kernel
theorem dX12_take_126 : decode cX12_take 126 = .ok (.iadd, 1) := by decide +kernel
theorem dX12_take_127 : decode cX12_take 127 = .ok (.iload_n 3, 1) := by decide +kernel
theorem dX12_take_128 : decode cX12_take 128 = .ok (.iadd, 1) := by decide +kernel
theorem dX12_take_129 : decode cX12_take 129 = .ok (.aload_n 0, 1) := by decide +kernel
theorem dX12_take_130 : decode cX12_take 130 = .ok (.getfield 100, 3) := by decide +kernel
theorem dX12_take_133 : decode cX12_take 133 = .ok (.bipush 40, 2) := by decide +kernel
theorem dX12_take_135 : decode cX12_take 135 = .ok (.iload_n 1, 1) := by decide +kernel
theorem dX12_take_136 : decode cX12_take 136 = .ok (.imul, 1) := by decide +kernel
theorem dX12_take_137 : decode cX12_take 137 = .ok (.iload_n 3, 1) := by decide +kernel
theorem dX12_take_138 : decode cX12_take 138 = .ok (.iadd, 1) := by decide +kernel
theorem dX12_take_139 : decode cX12_take 139 = .ok (.laload, 1) := by decide +kernel
theorem dX12_take_140 : decode cX12_take 140 = .ok (.l2i, 1) := by decide +kernel
theorem dX12_take_141 : decode cX12_take 141 = .ok (.iastore, 1) := by decide +kernel
theorem dX12_take_142 : decode cX12_take 142 = .ok (.iinc 3 1, 3) := by decide +kernel
theorem dX12_take_145 : decode cX12_take 145 = .ok (.goto (-39), 3) := by decide +kernel
theorem dX12_take_148 : decode cX12_take 148 = .ok (.aload_n 0, 1) := by decide +kernel
theorem dX12_take_149 : decode cX12_take 149 = .ok (.invokevirtual 120, 3) := by decide +kernel
theorem dX12_take_152 : decode cX12_take 152 = .ok (.aload_n 0, 1) := by decide +kernel
theorem dX12_take_153 : decode cX12_take 153 = .ok (.getfield 97, 3) := by decide +kernel
theorem dX12_take_156 : decode cX12_take 156 = .ok (.iload_n 1, 1) := by decide +kernel
theorem dX12_take_157 : decode cX12_take 157 = .ok (.iaload, 1) := by decide +kernel
theorem dX12_take_158 : decode cX12_take 158 = .ok (.ireturn, 1) := by decide +kernel
theorem RMs.row {M A : aM} {m a i v : Int} {k : Int} (h : RMs M m A) (hk : (a = m + 2 ∧ k = 7) ∨ (a = m + 29 ∧ k = 5) ∨ (a = m + 27 ∧ k = 3) ∨ (a = m + 28 ∧ k = 4) ∨ (a = m + 3 ∧ k = 6) ∨ (a = m + 4 ∧ k = 1)) : RMs (up M a i v) m (up A k i v) := by
  obtain ⟨h1, h2, h3, ⟨h4, h5, h6, h7⟩, h8, h9, h10, h11, h12⟩ := h
  have g : ∀ (b c : Int) (j : Int), (b = a ↔ c = k) → M b j = A c j → up M a i v b j = up A k i v c j := by
    intro b c j e h
    unfold up
    by_cases q : b = a ∧ j = i
    · rw [if_pos q, if_pos ⟨e.mp q.1, q.2⟩]
    · rw [if_neg q, if_neg (fun z => q ⟨e.mpr z.1, z.2⟩), h]
  refine ⟨fun j x y => ?_, ?_, fun j x y => ?_, ⟨?_, ?_, ?_, ?_⟩, fun j x y => ⟨?_, ?_⟩, fun j x y => ?_, fun j x y => ?_, fun j x y => ?_, ?_⟩
  · exact g _ _ _ (by omega) (h1 j x y)
  · rw [up_a (by omega), up_a (by omega)]; exact h2
  · rw [up_a (by omega)] at y
    exact g _ _ _ (by omega) (h3 j x y)
  · rw [up_a (by omega), up_a (by omega)]; exact h4
  · rw [up_a (by omega), up_a (by omega)]; exact h5
  · rw [up_a (by omega), up_a (by omega)]; exact h6
  · rw [up_a (by omega), up_a (by omega)]; exact h7
  · exact g _ _ _ (by omega) (h8 j x y).1
  · exact g _ _ _ (by omega) (h8 j x y).2
  · exact g _ _ _ (by omega) (h9 j x y)
  · exact g _ _ _ (by omega) (h10 j x y)
  · exact g _ _ _ (by omega) (h11 j x y)
  · rw [up_a (by omega)]; exact h12
theorem RM.row {M A : aM} {m a i v : Int} {k : Int} (h : RM M m A) (hk : (a = m + 2 ∧ k = 7) ∨ (a = m + 29 ∧ k = 5) ∨ (a = m + 27 ∧ k = 3) ∨ (a = m + 28 ∧ k = 4) ∨ (a = m + 3 ∧ k = 6) ∨ (a = m + 4 ∧ k = 1)) : RM (up M a i v) m (up A k i v) := by
  refine ⟨h.1.row hk, ?_⟩
  have e : up A k i v 0 = A 0 := by
    funext j
    exact up_a (by omega)
  rw [e]
  exact h.2.other (by omega)
theorem holdB_iff {t : Int → Int} {set i : Int} : holdB t set i = true ↔ hb set i = 1 ∧ ∀ k, 0 ≤ k → k < 7 → ¬ hb set k = 1 ∨ k = i ∨ t (99 + 7 * k + i) = 1 := by
  unfold holdB
  rw [Bool.and_eq_true, decide_eq_true_eq, allB_iff]
  constructor
  · rintro ⟨h1, h2⟩
    refine ⟨h1, fun k k0 k1 => ?_⟩
    have := h2 k k0 k1
    simp only [Bool.or_eq_true, decide_eq_true_eq] at this
    omega
  · rintro ⟨h1, h2⟩
    refine ⟨h1, fun k k0 k1 => ?_⟩
    have := h2 k k0 k1
    simp only [Bool.or_eq_true, decide_eq_true_eq]
    omega
theorem s_MholderOf {l : Launch} {E : aE} {N : Nat} {S : aS} {M : aM} (hfl : l.stackTraces = false) (m set : Int) (hS : lyM S m) : aMt l E pX12_holderOf [(2, m), (0, set)] N S M (aR (0, holdV (M (m + 1)) set) N S M) := by
  refine a_met hfl rfl (by decide +kernel) (Nat.le_of_ble_eq_true rfl) ?_
  have loop := a_loop1 (fun i => 0 ≤ i ∧ i ≤ 7 ∧ ∀ j, 0 ≤ j → j < i → holdB (M (m + 1)) set j = false) (fun i => (7 - i).toNat) (fun i => aX l E pX12_holderOf (aR (0, holdV (M (m + 1)) set) N S M) 0 0 N S M 2 [(0, (2, m)), (1, (0, set)), (2, (0, i))] []) (by
    intro i hI ih
    obtain ⟨h0, h1, hI⟩ := hI
    refine x_iload_n (pc := 2) dX12_holderOf_2 rfl rfl ?_
    refine x_bipush (pc := 3) dX12_holderOf_3 (by decide) ?_
    refine x_icmp_ge (tgt := 77) (pc := 5) dX12_holderOf_5 (by decide) (fun c_5 => ?_) (fun c_5 => ?_)
    · refine x_iconst (pc := 77) dX12_holderOf_77 (by decide) ?_
      refine x_ireturn (pc := 78) dX12_holderOf_78 rfl (by decide) ?_
      refine ⟨?_, rfl, rfl, rfl⟩
      unfold holdV
      rw [firstB_none.mpr fun j j0 j1 => hI j j0 (by omega)]
    · refine x_iload_n (pc := 8) dX12_holderOf_8 rfl rfl ?_
      refine x_iload_n (pc := 9) dX12_holderOf_9 rfl rfl ?_
      refine x_callS2 (pc := 10) dX12_holderOf_10 rfl kX12_136 (s_hasM hfl set i) rfl (Nat.le_of_ble_eq_true rfl) (k_B (fun q_10 => ?_) (fun q_10 => ?_)) n_B
      · refine x_istore_n (pc := 13) dX12_holderOf_13 rfl (by decide) rfl ?_
        refine x_iconst (pc := 14) dX12_holderOf_14 (by decide) ?_
        refine x_istore (pc := 15) dX12_holderOf_15 (by decide) rfl ?_
        have inner := a_loop2 (fun k f => 0 ≤ k ∧ k ≤ 7 ∧ (f = 0 ∨ f = 1) ∧ (f = 1 ↔ hb set i = 1 ∧ ∀ j, 0 ≤ j → j < k → ¬ hb set j = 1 ∨ j = i ∨ M (m + 1) (99 + 7 * j + i) = 1)) (fun k _ => (7 - k).toNat) (fun k f => aX l E pX12_holderOf (aR (0, holdV (M (m + 1)) set) N S M) 0 0 N S M 17 [(0, (2, m)), (1, (0, set)), (2, (0, i)), (3, (0, f)), (4, (0, k))] []) (by
          intro k f kI ih2
          have k0 := kI.1
          have k1 := kI.2.1
          have k2 := kI.2.2.1
          refine x_iload (pc := 17) dX12_holderOf_17 rfl ?_
          refine x_bipush (pc := 19) dX12_holderOf_19 (by decide) ?_
          refine x_icmp_ge (tgt := 65) (pc := 21) dX12_holderOf_21 (by decide) (fun c_21 => ?_) (fun c_21 => ?_)
          · refine x_iload_n (pc := 65) dX12_holderOf_65 rfl rfl ?_
            refine x_if_eq (tgt := 71) (pc := 66) dX12_holderOf_66 (by decide) (fun c_66 => ?_) (fun c_66 => ?_)
            · refine x_iinc (pc := 71) dX12_holderOf_71 rfl (by omega) (by decide) rfl ?_
              refine x_goto (tgt := 2) (pc := 74) dX12_holderOf_74 (by decide) ?_
              refine x_lo (lo' := [(0, (2, m)), (1, (0, set)), (2, (0, i + 1))]) ⟨rfl, rfl, rfl, trivial⟩ (ih (i + 1) ⟨by omega, by omega, fun j j0 j1 => ?_⟩ (by omega))
              by_cases e : j = i
              · subst e
                have : ¬ holdB (M (m + 1)) set j = true := fun q => by
                  have q2 := holdB_iff.mp q
                  have := kI.2.2.2.mpr ⟨q2.1, fun k' a b => q2.2 k' a (by omega)⟩
                  omega
                simpa using this
              · exact hI j j0 (by omega)
            · refine x_iload_n (pc := 69) dX12_holderOf_69 rfl rfl ?_
              refine x_ireturn (pc := 70) dX12_holderOf_70 rfl (by decide) ?_
              refine ⟨?_, rfl, rfl, rfl⟩
              unfold holdV
              rw [firstB_some h0 (show i < (7 : Nat) by omega) (holdB_iff.mpr ⟨(kI.2.2.2.mp (by omega)).1, fun j j0 j1 => (kI.2.2.2.mp (by omega)).2 j j0 (by omega)⟩) hI]
          · refine x_iload_n (pc := 24) dX12_holderOf_24 rfl rfl ?_
            refine x_if_eq (tgt := 65) (pc := 25) dX12_holderOf_25 (by decide) (fun c_25 => ?_) (fun c_25 => ?_)
            · refine x_iload_n (pc := 65) dX12_holderOf_65 rfl rfl ?_
              refine x_if_eq (tgt := 71) (pc := 66) dX12_holderOf_66 (by decide) (fun c_66 => ?_) (fun c_66 => ?_)
              · refine x_iinc (pc := 71) dX12_holderOf_71 rfl (by omega) (by decide) rfl ?_
                refine x_goto (tgt := 2) (pc := 74) dX12_holderOf_74 (by decide) ?_
                refine x_lo (lo' := [(0, (2, m)), (1, (0, set)), (2, (0, i + 1))]) ⟨rfl, rfl, rfl, trivial⟩ (ih (i + 1) ⟨by omega, by omega, fun j j0 j1 => ?_⟩ (by omega))
                by_cases e : j = i
                · subst e
                  have : ¬ holdB (M (m + 1)) set j = true := fun q => by
                    have q2 := holdB_iff.mp q
                    have := kI.2.2.2.mpr ⟨q2.1, fun k' a b => q2.2 k' a (by omega)⟩
                    omega
                  simpa using this
                · exact hI j j0 (by omega)
              · refine x_iload_n (pc := 69) dX12_holderOf_69 rfl rfl ?_
                refine x_ireturn (pc := 70) dX12_holderOf_70 rfl (by decide) ?_
                refine ⟨?_, rfl, rfl, rfl⟩
                unfold holdV
                rw [firstB_some h0 (show i < (7 : Nat) by omega) (holdB_iff.mpr ⟨(kI.2.2.2.mp (by omega)).1, fun j j0 j1 => (kI.2.2.2.mp (by omega)).2 j j0 (by omega)⟩) hI]
            · refine x_iload_n (pc := 28) dX12_holderOf_28 rfl rfl ?_
              refine x_iload (pc := 29) dX12_holderOf_29 rfl ?_
              refine x_callS2 (pc := 31) dX12_holderOf_31 rfl kX12_136 (s_hasM hfl set k) rfl (Nat.le_of_ble_eq_true rfl) (k_B (fun q_31 => ?_) (fun q_31 => ?_)) n_B
              · refine x_if_eq (tgt := 53) (pc := 34) dX12_holderOf_34 (by decide) (fun c => absurd c (by decide)) (fun _ => ?_)
                refine x_iload (pc := 37) dX12_holderOf_37 rfl ?_
                refine x_iload_n (pc := 39) dX12_holderOf_39 rfl rfl ?_
                refine x_icmp_eq (tgt := 53) (pc := 40) dX12_holderOf_40 (by decide) (fun c_40 => ?_) (fun c_40 => ?_)
                · refine x_iconst (pc := 53) dX12_holderOf_53 (by decide) ?_
                  refine x_goto (tgt := 58) (pc := 54) dX12_holderOf_54 (by decide) ?_
                  refine x_istore_n (pc := 58) dX12_holderOf_58 rfl (by decide) rfl ?_
                  refine x_iinc (pc := 59) dX12_holderOf_59 rfl (by omega) (by decide) rfl ?_
                  refine x_goto (tgt := 17) (pc := 62) dX12_holderOf_62 (by decide) ?_
                  first
                    | (exact x_lo (lo' := [(0, (2, m)), (1, (0, set)), (2, (0, i)), (3, (0, 1)), (4, (0, k + 1))]) ⟨rfl, rfl, rfl, rfl, rfl, trivial⟩ (ih2 (k + 1) 1 ⟨by omega, by omega, Or.inr rfl, ⟨fun _ => ⟨(kI.2.2.2.mp (by omega)).1, fun j j0 j1 => by
                        by_cases e : j = k
                        · subst e; first | exact Or.inl (by assumption) | exact Or.inr (Or.inl (by assumption)) | exact Or.inr (Or.inr (by assumption))
                        · exact (kI.2.2.2.mp (by omega)).2 j j0 (by omega)⟩, fun _ => rfl⟩⟩ (by omega)))
                    | (exact x_lo (lo' := [(0, (2, m)), (1, (0, set)), (2, (0, i)), (3, (0, 0)), (4, (0, k + 1))]) ⟨rfl, rfl, rfl, rfl, rfl, trivial⟩ (ih2 (k + 1) 0 ⟨by omega, by omega, Or.inl rfl, ⟨fun h => by omega, fun h => by
                        rcases h.2 k (by omega) (by omega) with q | q | q
                        · exact absurd (by assumption) q
                        · exact absurd q (by assumption)
                        · exact absurd q (by assumption)⟩⟩ (by omega)))
                · refine x_aload_n (pc := 43) dX12_holderOf_43 rfl rfl ?_
                  refine x_iload (pc := 44) dX12_holderOf_44 rfl ?_
                  refine x_iload_n (pc := 46) dX12_holderOf_46 rfl rfl ?_
                  refine x_callV2 (pc := 47) dX12_holderOf_47 rfl kX12_140 (s_trusts hfl m k i hS ⟨by omega, by omega⟩ ⟨by omega, by omega⟩) hS.1 rfl rfl (Nat.le_of_ble_eq_true rfl) (k_B (fun q_47 => ?_) (fun q_47 => ?_)) n_B
                  · refine x_if_eq (tgt := 57) (pc := 50) dX12_holderOf_50 (by decide) (fun c => absurd c (by decide)) (fun _ => ?_)
                    refine x_iconst (pc := 53) dX12_holderOf_53 (by decide) ?_
                    refine x_goto (tgt := 58) (pc := 54) dX12_holderOf_54 (by decide) ?_
                    refine x_istore_n (pc := 58) dX12_holderOf_58 rfl (by decide) rfl ?_
                    refine x_iinc (pc := 59) dX12_holderOf_59 rfl (by omega) (by decide) rfl ?_
                    refine x_goto (tgt := 17) (pc := 62) dX12_holderOf_62 (by decide) ?_
                    first
                      | (exact x_lo (lo' := [(0, (2, m)), (1, (0, set)), (2, (0, i)), (3, (0, 1)), (4, (0, k + 1))]) ⟨rfl, rfl, rfl, rfl, rfl, trivial⟩ (ih2 (k + 1) 1 ⟨by omega, by omega, Or.inr rfl, ⟨fun _ => ⟨(kI.2.2.2.mp (by omega)).1, fun j j0 j1 => by
                          by_cases e : j = k
                          · subst e; first | exact Or.inl (by assumption) | exact Or.inr (Or.inl (by assumption)) | exact Or.inr (Or.inr (by assumption))
                          · exact (kI.2.2.2.mp (by omega)).2 j j0 (by omega)⟩, fun _ => rfl⟩⟩ (by omega)))
                      | (exact x_lo (lo' := [(0, (2, m)), (1, (0, set)), (2, (0, i)), (3, (0, 0)), (4, (0, k + 1))]) ⟨rfl, rfl, rfl, rfl, rfl, trivial⟩ (ih2 (k + 1) 0 ⟨by omega, by omega, Or.inl rfl, ⟨fun h => by omega, fun h => by
                          rcases h.2 k (by omega) (by omega) with q | q | q
                          · exact absurd (by assumption) q
                          · exact absurd q (by assumption)
                          · exact absurd q (by assumption)⟩⟩ (by omega)))
                  · refine x_if_eq (tgt := 57) (pc := 50) dX12_holderOf_50 (by decide) (fun _ => ?_) (fun c => absurd c (by decide))
                    refine x_iconst (pc := 57) dX12_holderOf_57 (by decide) ?_
                    refine x_istore_n (pc := 58) dX12_holderOf_58 rfl (by decide) rfl ?_
                    refine x_iinc (pc := 59) dX12_holderOf_59 rfl (by omega) (by decide) rfl ?_
                    refine x_goto (tgt := 17) (pc := 62) dX12_holderOf_62 (by decide) ?_
                    first
                      | (exact x_lo (lo' := [(0, (2, m)), (1, (0, set)), (2, (0, i)), (3, (0, 1)), (4, (0, k + 1))]) ⟨rfl, rfl, rfl, rfl, rfl, trivial⟩ (ih2 (k + 1) 1 ⟨by omega, by omega, Or.inr rfl, ⟨fun _ => ⟨(kI.2.2.2.mp (by omega)).1, fun j j0 j1 => by
                          by_cases e : j = k
                          · subst e; first | exact Or.inl (by assumption) | exact Or.inr (Or.inl (by assumption)) | exact Or.inr (Or.inr (by assumption))
                          · exact (kI.2.2.2.mp (by omega)).2 j j0 (by omega)⟩, fun _ => rfl⟩⟩ (by omega)))
                      | (exact x_lo (lo' := [(0, (2, m)), (1, (0, set)), (2, (0, i)), (3, (0, 0)), (4, (0, k + 1))]) ⟨rfl, rfl, rfl, rfl, rfl, trivial⟩ (ih2 (k + 1) 0 ⟨by omega, by omega, Or.inl rfl, ⟨fun h => by omega, fun h => by
                          rcases h.2 k (by omega) (by omega) with q | q | q
                          · exact absurd (by assumption) q
                          · exact absurd q (by assumption)
                          · exact absurd q (by assumption)⟩⟩ (by omega)))
              · refine x_if_eq (tgt := 53) (pc := 34) dX12_holderOf_34 (by decide) (fun _ => ?_) (fun c => absurd c (by decide))
                refine x_iconst (pc := 53) dX12_holderOf_53 (by decide) ?_
                refine x_goto (tgt := 58) (pc := 54) dX12_holderOf_54 (by decide) ?_
                refine x_istore_n (pc := 58) dX12_holderOf_58 rfl (by decide) rfl ?_
                refine x_iinc (pc := 59) dX12_holderOf_59 rfl (by omega) (by decide) rfl ?_
                refine x_goto (tgt := 17) (pc := 62) dX12_holderOf_62 (by decide) ?_
                first
                  | (exact x_lo (lo' := [(0, (2, m)), (1, (0, set)), (2, (0, i)), (3, (0, 1)), (4, (0, k + 1))]) ⟨rfl, rfl, rfl, rfl, rfl, trivial⟩ (ih2 (k + 1) 1 ⟨by omega, by omega, Or.inr rfl, ⟨fun _ => ⟨(kI.2.2.2.mp (by omega)).1, fun j j0 j1 => by
                      by_cases e : j = k
                      · subst e; first | exact Or.inl (by assumption) | exact Or.inr (Or.inl (by assumption)) | exact Or.inr (Or.inr (by assumption))
                      · exact (kI.2.2.2.mp (by omega)).2 j j0 (by omega)⟩, fun _ => rfl⟩⟩ (by omega)))
                  | (exact x_lo (lo' := [(0, (2, m)), (1, (0, set)), (2, (0, i)), (3, (0, 0)), (4, (0, k + 1))]) ⟨rfl, rfl, rfl, rfl, rfl, trivial⟩ (ih2 (k + 1) 0 ⟨by omega, by omega, Or.inl rfl, ⟨fun h => by omega, fun h => by
                      rcases h.2 k (by omega) (by omega) with q | q | q
                      · exact absurd (by assumption) q
                      · exact absurd q (by assumption)
                      · exact absurd q (by assumption)⟩⟩ (by omega))))
        exact x_lo (lo' := [(0, (2, m)), (1, (0, set)), (2, (0, i)), (3, (0, 1)), (4, (0, 0))]) ⟨rfl, rfl, rfl, rfl, rfl, trivial⟩ (inner 0 1 ⟨by omega, by omega, by omega, ⟨fun h => ⟨by first | assumption | omega, fun j a b => by omega⟩, fun h => by first | rfl | exact absurd h.1 (by assumption)⟩⟩)
      · refine x_istore_n (pc := 13) dX12_holderOf_13 rfl (by decide) rfl ?_
        refine x_iconst (pc := 14) dX12_holderOf_14 (by decide) ?_
        refine x_istore (pc := 15) dX12_holderOf_15 (by decide) rfl ?_
        have inner := a_loop2 (fun k f => 0 ≤ k ∧ k ≤ 7 ∧ (f = 0 ∨ f = 1) ∧ (f = 1 ↔ hb set i = 1 ∧ ∀ j, 0 ≤ j → j < k → ¬ hb set j = 1 ∨ j = i ∨ M (m + 1) (99 + 7 * j + i) = 1)) (fun k _ => (7 - k).toNat) (fun k f => aX l E pX12_holderOf (aR (0, holdV (M (m + 1)) set) N S M) 0 0 N S M 17 [(0, (2, m)), (1, (0, set)), (2, (0, i)), (3, (0, f)), (4, (0, k))] []) (by
          intro k f kI ih2
          have k0 := kI.1
          have k1 := kI.2.1
          have k2 := kI.2.2.1
          refine x_iload (pc := 17) dX12_holderOf_17 rfl ?_
          refine x_bipush (pc := 19) dX12_holderOf_19 (by decide) ?_
          refine x_icmp_ge (tgt := 65) (pc := 21) dX12_holderOf_21 (by decide) (fun c_21 => ?_) (fun c_21 => ?_)
          · refine x_iload_n (pc := 65) dX12_holderOf_65 rfl rfl ?_
            refine x_if_eq (tgt := 71) (pc := 66) dX12_holderOf_66 (by decide) (fun c_66 => ?_) (fun c_66 => ?_)
            · refine x_iinc (pc := 71) dX12_holderOf_71 rfl (by omega) (by decide) rfl ?_
              refine x_goto (tgt := 2) (pc := 74) dX12_holderOf_74 (by decide) ?_
              refine x_lo (lo' := [(0, (2, m)), (1, (0, set)), (2, (0, i + 1))]) ⟨rfl, rfl, rfl, trivial⟩ (ih (i + 1) ⟨by omega, by omega, fun j j0 j1 => ?_⟩ (by omega))
              by_cases e : j = i
              · subst e
                have : ¬ holdB (M (m + 1)) set j = true := fun q => by
                  have q2 := holdB_iff.mp q
                  have := kI.2.2.2.mpr ⟨q2.1, fun k' a b => q2.2 k' a (by omega)⟩
                  omega
                simpa using this
              · exact hI j j0 (by omega)
            · refine x_iload_n (pc := 69) dX12_holderOf_69 rfl rfl ?_
              refine x_ireturn (pc := 70) dX12_holderOf_70 rfl (by decide) ?_
              refine ⟨?_, rfl, rfl, rfl⟩
              unfold holdV
              rw [firstB_some h0 (show i < (7 : Nat) by omega) (holdB_iff.mpr ⟨(kI.2.2.2.mp (by omega)).1, fun j j0 j1 => (kI.2.2.2.mp (by omega)).2 j j0 (by omega)⟩) hI]
          · refine x_iload_n (pc := 24) dX12_holderOf_24 rfl rfl ?_
            refine x_if_eq (tgt := 65) (pc := 25) dX12_holderOf_25 (by decide) (fun c_25 => ?_) (fun c_25 => ?_)
            · refine x_iload_n (pc := 65) dX12_holderOf_65 rfl rfl ?_
              refine x_if_eq (tgt := 71) (pc := 66) dX12_holderOf_66 (by decide) (fun c_66 => ?_) (fun c_66 => ?_)
              · refine x_iinc (pc := 71) dX12_holderOf_71 rfl (by omega) (by decide) rfl ?_
                refine x_goto (tgt := 2) (pc := 74) dX12_holderOf_74 (by decide) ?_
                refine x_lo (lo' := [(0, (2, m)), (1, (0, set)), (2, (0, i + 1))]) ⟨rfl, rfl, rfl, trivial⟩ (ih (i + 1) ⟨by omega, by omega, fun j j0 j1 => ?_⟩ (by omega))
                by_cases e : j = i
                · subst e
                  have : ¬ holdB (M (m + 1)) set j = true := fun q => by
                    have q2 := holdB_iff.mp q
                    have := kI.2.2.2.mpr ⟨q2.1, fun k' a b => q2.2 k' a (by omega)⟩
                    omega
                  simpa using this
                · exact hI j j0 (by omega)
              · refine x_iload_n (pc := 69) dX12_holderOf_69 rfl rfl ?_
                refine x_ireturn (pc := 70) dX12_holderOf_70 rfl (by decide) ?_
                refine ⟨?_, rfl, rfl, rfl⟩
                unfold holdV
                rw [firstB_some h0 (show i < (7 : Nat) by omega) (holdB_iff.mpr ⟨(kI.2.2.2.mp (by omega)).1, fun j j0 j1 => (kI.2.2.2.mp (by omega)).2 j j0 (by omega)⟩) hI]
            · refine x_iload_n (pc := 28) dX12_holderOf_28 rfl rfl ?_
              refine x_iload (pc := 29) dX12_holderOf_29 rfl ?_
              refine x_callS2 (pc := 31) dX12_holderOf_31 rfl kX12_136 (s_hasM hfl set k) rfl (Nat.le_of_ble_eq_true rfl) (k_B (fun q_31 => ?_) (fun q_31 => ?_)) n_B
              · refine x_if_eq (tgt := 53) (pc := 34) dX12_holderOf_34 (by decide) (fun c => absurd c (by decide)) (fun _ => ?_)
                refine x_iload (pc := 37) dX12_holderOf_37 rfl ?_
                refine x_iload_n (pc := 39) dX12_holderOf_39 rfl rfl ?_
                refine x_icmp_eq (tgt := 53) (pc := 40) dX12_holderOf_40 (by decide) (fun c_40 => ?_) (fun c_40 => ?_)
                · refine x_iconst (pc := 53) dX12_holderOf_53 (by decide) ?_
                  refine x_goto (tgt := 58) (pc := 54) dX12_holderOf_54 (by decide) ?_
                  refine x_istore_n (pc := 58) dX12_holderOf_58 rfl (by decide) rfl ?_
                  refine x_iinc (pc := 59) dX12_holderOf_59 rfl (by omega) (by decide) rfl ?_
                  refine x_goto (tgt := 17) (pc := 62) dX12_holderOf_62 (by decide) ?_
                  first
                    | (exact x_lo (lo' := [(0, (2, m)), (1, (0, set)), (2, (0, i)), (3, (0, 1)), (4, (0, k + 1))]) ⟨rfl, rfl, rfl, rfl, rfl, trivial⟩ (ih2 (k + 1) 1 ⟨by omega, by omega, Or.inr rfl, ⟨fun _ => ⟨(kI.2.2.2.mp (by omega)).1, fun j j0 j1 => by
                        by_cases e : j = k
                        · subst e; first | exact Or.inl (by assumption) | exact Or.inr (Or.inl (by assumption)) | exact Or.inr (Or.inr (by assumption))
                        · exact (kI.2.2.2.mp (by omega)).2 j j0 (by omega)⟩, fun _ => rfl⟩⟩ (by omega)))
                    | (exact x_lo (lo' := [(0, (2, m)), (1, (0, set)), (2, (0, i)), (3, (0, 0)), (4, (0, k + 1))]) ⟨rfl, rfl, rfl, rfl, rfl, trivial⟩ (ih2 (k + 1) 0 ⟨by omega, by omega, Or.inl rfl, ⟨fun h => by omega, fun h => by
                        rcases h.2 k (by omega) (by omega) with q | q | q
                        · exact absurd (by assumption) q
                        · exact absurd q (by assumption)
                        · exact absurd q (by assumption)⟩⟩ (by omega)))
                · refine x_aload_n (pc := 43) dX12_holderOf_43 rfl rfl ?_
                  refine x_iload (pc := 44) dX12_holderOf_44 rfl ?_
                  refine x_iload_n (pc := 46) dX12_holderOf_46 rfl rfl ?_
                  refine x_callV2 (pc := 47) dX12_holderOf_47 rfl kX12_140 (s_trusts hfl m k i hS ⟨by omega, by omega⟩ ⟨by omega, by omega⟩) hS.1 rfl rfl (Nat.le_of_ble_eq_true rfl) (k_B (fun q_47 => ?_) (fun q_47 => ?_)) n_B
                  · refine x_if_eq (tgt := 57) (pc := 50) dX12_holderOf_50 (by decide) (fun c => absurd c (by decide)) (fun _ => ?_)
                    refine x_iconst (pc := 53) dX12_holderOf_53 (by decide) ?_
                    refine x_goto (tgt := 58) (pc := 54) dX12_holderOf_54 (by decide) ?_
                    refine x_istore_n (pc := 58) dX12_holderOf_58 rfl (by decide) rfl ?_
                    refine x_iinc (pc := 59) dX12_holderOf_59 rfl (by omega) (by decide) rfl ?_
                    refine x_goto (tgt := 17) (pc := 62) dX12_holderOf_62 (by decide) ?_
                    first
                      | (exact x_lo (lo' := [(0, (2, m)), (1, (0, set)), (2, (0, i)), (3, (0, 1)), (4, (0, k + 1))]) ⟨rfl, rfl, rfl, rfl, rfl, trivial⟩ (ih2 (k + 1) 1 ⟨by omega, by omega, Or.inr rfl, ⟨fun _ => ⟨(kI.2.2.2.mp (by omega)).1, fun j j0 j1 => by
                          by_cases e : j = k
                          · subst e; first | exact Or.inl (by assumption) | exact Or.inr (Or.inl (by assumption)) | exact Or.inr (Or.inr (by assumption))
                          · exact (kI.2.2.2.mp (by omega)).2 j j0 (by omega)⟩, fun _ => rfl⟩⟩ (by omega)))
                      | (exact x_lo (lo' := [(0, (2, m)), (1, (0, set)), (2, (0, i)), (3, (0, 0)), (4, (0, k + 1))]) ⟨rfl, rfl, rfl, rfl, rfl, trivial⟩ (ih2 (k + 1) 0 ⟨by omega, by omega, Or.inl rfl, ⟨fun h => by omega, fun h => by
                          rcases h.2 k (by omega) (by omega) with q | q | q
                          · exact absurd (by assumption) q
                          · exact absurd q (by assumption)
                          · exact absurd q (by assumption)⟩⟩ (by omega)))
                  · refine x_if_eq (tgt := 57) (pc := 50) dX12_holderOf_50 (by decide) (fun _ => ?_) (fun c => absurd c (by decide))
                    refine x_iconst (pc := 57) dX12_holderOf_57 (by decide) ?_
                    refine x_istore_n (pc := 58) dX12_holderOf_58 rfl (by decide) rfl ?_
                    refine x_iinc (pc := 59) dX12_holderOf_59 rfl (by omega) (by decide) rfl ?_
                    refine x_goto (tgt := 17) (pc := 62) dX12_holderOf_62 (by decide) ?_
                    first
                      | (exact x_lo (lo' := [(0, (2, m)), (1, (0, set)), (2, (0, i)), (3, (0, 1)), (4, (0, k + 1))]) ⟨rfl, rfl, rfl, rfl, rfl, trivial⟩ (ih2 (k + 1) 1 ⟨by omega, by omega, Or.inr rfl, ⟨fun _ => ⟨(kI.2.2.2.mp (by omega)).1, fun j j0 j1 => by
                          by_cases e : j = k
                          · subst e; first | exact Or.inl (by assumption) | exact Or.inr (Or.inl (by assumption)) | exact Or.inr (Or.inr (by assumption))
                          · exact (kI.2.2.2.mp (by omega)).2 j j0 (by omega)⟩, fun _ => rfl⟩⟩ (by omega)))
                      | (exact x_lo (lo' := [(0, (2, m)), (1, (0, set)), (2, (0, i)), (3, (0, 0)), (4, (0, k + 1))]) ⟨rfl, rfl, rfl, rfl, rfl, trivial⟩ (ih2 (k + 1) 0 ⟨by omega, by omega, Or.inl rfl, ⟨fun h => by omega, fun h => by
                          rcases h.2 k (by omega) (by omega) with q | q | q
                          · exact absurd (by assumption) q
                          · exact absurd q (by assumption)
                          · exact absurd q (by assumption)⟩⟩ (by omega)))
              · refine x_if_eq (tgt := 53) (pc := 34) dX12_holderOf_34 (by decide) (fun _ => ?_) (fun c => absurd c (by decide))
                refine x_iconst (pc := 53) dX12_holderOf_53 (by decide) ?_
                refine x_goto (tgt := 58) (pc := 54) dX12_holderOf_54 (by decide) ?_
                refine x_istore_n (pc := 58) dX12_holderOf_58 rfl (by decide) rfl ?_
                refine x_iinc (pc := 59) dX12_holderOf_59 rfl (by omega) (by decide) rfl ?_
                refine x_goto (tgt := 17) (pc := 62) dX12_holderOf_62 (by decide) ?_
                first
                  | (exact x_lo (lo' := [(0, (2, m)), (1, (0, set)), (2, (0, i)), (3, (0, 1)), (4, (0, k + 1))]) ⟨rfl, rfl, rfl, rfl, rfl, trivial⟩ (ih2 (k + 1) 1 ⟨by omega, by omega, Or.inr rfl, ⟨fun _ => ⟨(kI.2.2.2.mp (by omega)).1, fun j j0 j1 => by
                      by_cases e : j = k
                      · subst e; first | exact Or.inl (by assumption) | exact Or.inr (Or.inl (by assumption)) | exact Or.inr (Or.inr (by assumption))
                      · exact (kI.2.2.2.mp (by omega)).2 j j0 (by omega)⟩, fun _ => rfl⟩⟩ (by omega)))
                  | (exact x_lo (lo' := [(0, (2, m)), (1, (0, set)), (2, (0, i)), (3, (0, 0)), (4, (0, k + 1))]) ⟨rfl, rfl, rfl, rfl, rfl, trivial⟩ (ih2 (k + 1) 0 ⟨by omega, by omega, Or.inl rfl, ⟨fun h => by omega, fun h => by
                      rcases h.2 k (by omega) (by omega) with q | q | q
                      · exact absurd (by assumption) q
                      · exact absurd q (by assumption)
                      · exact absurd q (by assumption)⟩⟩ (by omega))))
        exact x_lo (lo' := [(0, (2, m)), (1, (0, set)), (2, (0, i)), (3, (0, 0)), (4, (0, 0))]) ⟨rfl, rfl, rfl, rfl, rfl, trivial⟩ (inner 0 0 ⟨by omega, by omega, by omega, ⟨fun h => ⟨by first | assumption | omega, fun j a b => by omega⟩, fun h => by first | rfl | exact absurd h.1 (by assumption)⟩⟩))
  refine x_iconst (pc := 0) dX12_holderOf_0 (by decide) ?_
  refine x_istore_n (pc := 1) dX12_holderOf_1 rfl (by decide) rfl ?_
  exact x_lo (lo' := [(0, (2, m)), (1, (0, set)), (2, (0, 0))]) ⟨rfl, rfl, rfl, trivial⟩ (loop 0 ⟨by omega, by omega, fun j j0 j1 => by omega⟩)
theorem holdB_congr {t u : Int → Int} {set i : Int} (hi : 0 ≤ i ∧ i < 7) (h : ∀ j, 99 ≤ j → j < 148 → t j = u j) : holdB t set i = holdB u set i := by
  have e : (holdB t set i = true) = (holdB u set i = true) := by
    rw [holdB_iff, holdB_iff]
    refine propext ⟨fun q => ⟨q.1, fun k k0 k1 => ?_⟩, fun q => ⟨q.1, fun k k0 k1 => ?_⟩⟩
    · rw [← h _ (by omega) (by omega)]; exact q.2 k k0 k1
    · rw [h _ (by omega) (by omega)]; exact q.2 k k0 k1
  cases e1 : holdB t set i <;> cases e2 : holdB u set i <;> simp [e1, e2] at e <;> rfl
theorem firstB_congr {p q : Int → Bool} : ∀ {n : Nat}, (∀ i : Int, 0 ≤ i → i < n → p i = q i) → firstB p n = firstB q n
  | 0, _ => rfl
  | n + 1, h => by
    unfold firstB
    rw [firstB_congr fun i a b => h i a (by omega), h n (by omega) (by omega)]
theorem holdV_congr {t u : Int → Int} {set : Int} (h : ∀ j, 99 ≤ j → j < 148 → t j = u j) : holdV t set = holdV u set := firstB_congr fun i a b => holdB_congr ⟨a, by omega⟩ h
def spHolder (A : aM) (s : Int) : Int × Int × aM := if ¬ (0 < s ∧ s < b_shl 1 (A 0 0)) then (1, 0, A) else (0, holdV (A 0) s, A)
theorem s_Mholder {l : Launch} {E : aE} {N : Nat} {S : aS} {M : aM} (hfl : l.stackTraces = false) (s : Int) (m : Int) (A : aM) (hS : lyM S m) (hR : RM M m A) (hA : TOK (A 0)) : aMt l E pX12_holder [(2, m), (0, s)] N S M (aG N S (opM M m 0 (spHolder A s))) := by
  refine a_met hfl rfl (by decide +kernel) (Nat.le_of_ble_eq_true rfl) ?_
  refine x_aload_n (pc := 0) dX12_holder_0 rfl rfl ?_
  refine x_iconst (pc := 1) dX12_holder_1 (by decide) ?_
  refine x_putI (jj := 3) (pc := 2) dX12_holder_2 fX12_103 hS.1 rfl (by decide) rfl ?_
  refine x_memI (fun M1 hM1 => ?_)
  have R1 : RM M1 m A := by rw [hM1]; exact hR.up3
  have F1 : frM M M1 m := by rw [hM1]; exact frM.rf.up (by omega)
  have T1 : M1 m 3 = 0 := by rw [hM1]; exact up_s
  clear hM1
  have e0 : M1 (m + 1) 0 = A 0 0 := R1.1.1 0 (by omega) (by omega)
  have t0 := hA.1
  refine x_aload_n (pc := 5) dX12_holder_5 rfl rfl ?_
  refine x_iload_n (pc := 6) dX12_holder_6 rfl rfl ?_
  refine x_callV1 (pc := 7) dX12_holder_7 rfl kX12_143 (s_isSet hfl m s hS) hS.1 rfl rfl (Nat.le_of_ble_eq_true rfl) (k_B (fun q_7 => ?_) (fun q_7 => ?_)) n_B
  · refine x_if_eq (tgt := 21) (pc := 10) dX12_holder_10 (by decide) (fun c => absurd c (by decide)) (fun _ => ?_)
    refine x_aload_n (pc := 13) dX12_holder_13 rfl rfl ?_
    refine x_iload_n (pc := 14) dX12_holder_14 rfl rfl ?_
    refine x_callV1 (pc := 15) dX12_holder_15 rfl kX12_146 (s_MholderOf hfl m _ hS) hS.1 rfl rfl (Nat.le_of_ble_eq_true rfl) (k_R ?_) n_R
    refine x_goto (tgt := 26) (pc := 18) dX12_holder_18 (by decide) ?_
    refine x_ireturn (pc := 26) dX12_holder_26 rfl (by decide) ?_
    have e9 : spHolder A s = (0, holdV (A 0) s, A) := by
      unfold spHolder
      rw [if_neg]
      rw [← e0]
      omega
    rw [e9]
    exact ⟨_, rfl, rfl, rfl, rfl, T1, fun _ => by rw [holdV_congr fun j a b => R1.1.1 j (by omega) (by omega)], R1, F1⟩
  · refine x_if_eq (tgt := 21) (pc := 10) dX12_holder_10 (by decide) (fun _ => ?_) (fun c => absurd c (by decide))
    refine x_aload_n (pc := 21) dX12_holder_21 rfl rfl ?_
    refine x_iconst (pc := 22) dX12_holder_22 (by decide) ?_
    refine x_callV1 (pc := 23) dX12_holder_23 rfl kX12_116 (s_fails hfl m _ hS) hS.1 rfl rfl (Nat.le_of_ble_eq_true rfl) (k_G (fun v9 M9 hM9 => ?_)) n_G
    obtain ⟨rfl, rfl⟩ := hM9
    refine x_ireturn (pc := 26) dX12_holder_26 rfl (by decide) ?_
    have e9 : spHolder A s = (1, 0, A) := by
      unfold spHolder
      rw [if_pos]
      rw [← e0]
      omega
    rw [e9]
    exact ⟨_, rfl, rfl, rfl, rfl, up_s, fun q => absurd q (show ¬ (1 : Int) = 0 by decide), R1.up3, F1.up (by omega)⟩
theorem s_isTray {l : Launch} {E : aE} {N : Nat} {S : aS} {M : aM} (hfl : l.stackTraces = false) (t : Int) : aMt l E pX12_isTray [(0, t)] N S M (aB (0 ≤ t ∧ t ≤ 3) N S M) := by
  refine a_met hfl rfl (by decide +kernel) (Nat.le_of_ble_eq_true rfl) ?_
  refine x_iload_n (pc := 0) dX12_isTray_0 rfl rfl ?_
  refine x_i2l (pc := 1) dX12_isTray_1 ?_
  refine x_lconst0 (pc := 2) dX12_isTray_2 ?_
  refine x_ldc2 (n := 3) (pc := 3) cX12_428 (by decide) dX12_isTray_3 ?_
  refine x_callS3 (pc := 6) dX12_isTray_6 rfl kX12_106 (s_within hfl _ _ _) rfl (Nat.le_of_ble_eq_true rfl) (k_B (fun q_6 => ?_) (fun q_6 => ?_)) n_B
  · refine x_zreturn (pc := 9) dX12_isTray_9 rfl (by omega) (by decide) ?_
    exact b_1 (by assumption)
  · refine x_zreturn (pc := 9) dX12_isTray_9 rfl (by omega) (by decide) ?_
    exact b_0 (by assumption)
def spTray (A : aM) (t s n : Int) : Int × Int × aM := if ¬ (0 ≤ t ∧ t ≤ 3) then (1, 0, A) else if ¬ (0 ≤ s ∧ s ≤ 3) ∨ ¬ (0 ≤ n ∧ n ≤ 40) then (2, 0, A) else (0, 0, fun k i => if k = 5 ∧ 40 * t ≤ i ∧ i < 40 * t + 40 then 0 else up (up A 3 t s) 4 t n k i)
theorem s_Mtray {l : Launch} {E : aE} {N : Nat} {S : aS} {M : aM} (hfl : l.stackTraces = false) (t s n : Int) (m : Int) (A : aM) (hS : lyM S m) (hR : RM M m A) (hA : TOK (A 0)) : aMt l E pX12_tray [(2, m), (0, t), (0, s), (0, n)] N S M (aU N S (fun M' => M' m 3 = (spTray A t s n).1 ∧ RM M' m (spTray A t s n).2.2 ∧ frM M M' m)) := by
  refine a_met hfl rfl (by decide +kernel) (Nat.le_of_ble_eq_true rfl) ?_
  refine x_aload_n (pc := 0) dX12_tray_0 rfl rfl ?_
  refine x_iload_n (pc := 1) dX12_tray_1 rfl rfl ?_
  refine x_callS1 (pc := 2) dX12_tray_2 rfl kX12_405 (s_isTray hfl t) rfl (Nat.le_of_ble_eq_true rfl) (k_B (fun q_2 => ?_) (fun q_2 => ?_)) n_B
  · refine x_if_ne (tgt := 12) (pc := 5) dX12_tray_5 (by decide) (fun _ => ?_) (fun c => absurd c (by decide))
    refine x_iload_n (pc := 12) dX12_tray_12 rfl rfl ?_
    refine x_i2l (pc := 13) dX12_tray_13 ?_
    refine x_lconst0 (pc := 14) dX12_tray_14 ?_
    refine x_ldc2 (n := 3) (pc := 15) cX12_428 (by decide) dX12_tray_15 ?_
    refine x_callS3 (pc := 18) dX12_tray_18 rfl kX12_106 (s_within hfl _ _ _) rfl (Nat.le_of_ble_eq_true rfl) (k_B (fun q_18 => ?_) (fun q_18 => ?_)) n_B
    · refine x_if_eq (tgt := 36) (pc := 21) dX12_tray_21 (by decide) (fun c => absurd c (by decide)) (fun _ => ?_)
      refine x_iload_n (pc := 24) dX12_tray_24 rfl rfl ?_
      refine x_i2l (pc := 25) dX12_tray_25 ?_
      refine x_lconst0 (pc := 26) dX12_tray_26 ?_
      refine x_ldc2 (n := 40) (pc := 27) cX12_434 (by decide) dX12_tray_27 ?_
      refine x_callS3 (pc := 30) dX12_tray_30 rfl kX12_106 (s_within hfl _ _ _) rfl (Nat.le_of_ble_eq_true rfl) (k_B (fun q_30 => ?_) (fun q_30 => ?_)) n_B
      · refine x_if_ne (tgt := 40) (pc := 33) dX12_tray_33 (by decide) (fun _ => ?_) (fun c => absurd c (by decide))
        refine x_iconst (pc := 40) dX12_tray_40 (by decide) ?_
        refine x_putI (jj := 3) (pc := 41) dX12_tray_41 fX12_103 hS.1 rfl (by decide) rfl ?_
        refine x_aload_n (pc := 44) dX12_tray_44 rfl rfl ?_
        refine x_getIV (jj := 3) (pc := 45) dX12_tray_45 fX12_103 hS.1 rfl (by decide) rfl (by (repeat (first | rewrite [up_s] | rewrite [up_i (by omega)] | rewrite [up_a (by omega)] | rewrite [stM_a (by omega) (by omega)])); rfl) ?_
        refine x_if_le (tgt := 52) (pc := 48) dX12_tray_48 (by decide) (fun _ => ?_) (fun c => absurd c (by decide))
        refine x_aload_n (pc := 52) dX12_tray_52 rfl rfl ?_
        refine x_getR (jj := 49) (pc := 53) dX12_tray_53 fX12_94 hS.1 rfl (by decide) rfl rM_49 ?_
        refine x_iload_n (pc := 56) dX12_tray_56 rfl rfl ?_
        refine x_iload_n (pc := 57) dX12_tray_57 rfl rfl ?_
        refine x_iastore (pc := 58) dX12_tray_58 (sM_49 hS) (by omega) ?_
        refine x_aload_n (pc := 59) dX12_tray_59 rfl rfl ?_
        refine x_getR (jj := 50) (pc := 60) dX12_tray_60 fX12_97 hS.1 rfl (by decide) rfl rM_50 ?_
        refine x_iload_n (pc := 63) dX12_tray_63 rfl rfl ?_
        refine x_iload_n (pc := 64) dX12_tray_64 rfl rfl ?_
        refine x_iastore (pc := 65) dX12_tray_65 (sM_50 hS) (by omega) ?_
        refine x_iconst (pc := 66) dX12_tray_66 (by decide) ?_
        refine x_istore (pc := 67) dX12_tray_67 (by decide) rfl ?_
        have loop := a_loop2 (fun k M1 => 0 ≤ k ∧ k ≤ 40 ∧ M1 m 3 = 0 ∧ frM M M1 m ∧ RM M1 m (fun r i => if r = 5 ∧ 40 * t ≤ i ∧ i < 40 * t + k then 0 else up (up A 3 t s) 4 t n r i)) (fun k _ => (40 - k).toNat) (fun k M1 => aX l E pX12_tray (aU N S (fun M' => M' m 3 = (spTray A t s n).1 ∧ RM M' m (spTray A t s n).2.2 ∧ frM M M' m)) 0 0 N S M1 69 [(0, (2, m)), (1, (0, t)), (2, (0, s)), (3, (0, n)), (4, (0, k))] []) (by
          intro k M1 hI ih
          refine x_iload (pc := 69) dX12_tray_69 rfl ?_
          refine x_bipush (pc := 71) dX12_tray_71 (by decide) ?_
          refine x_icmp_ge (tgt := 95) (pc := 73) dX12_tray_73 (by decide) (fun c_73 => ?_) (fun c_73 => ?_)
          · refine x_return (pc := 95) dX12_tray_95 rfl (by decide) ?_
            have e9 : spTray A t s n = (0, 0, fun k i => if k = 5 ∧ 40 * t ≤ i ∧ i < 40 * t + 40 then 0 else up (up A 3 t s) 4 t n k i) := by
              unfold spTray
              rw [if_neg (by omega), if_neg (by omega)]
            rw [e9]
            have e8 : k = 40 := by omega
            subst e8
            exact ⟨rfl, rfl, rfl, hI.2.2.1, hI.2.2.2.2, hI.2.2.2.1⟩
          · refine x_aload_n (pc := 76) dX12_tray_76 rfl rfl ?_
            refine x_getR (jj := 51) (pc := 77) dX12_tray_77 fX12_100 hS.1 rfl (by decide) rfl rM_51 ?_
            refine x_bipush (pc := 80) dX12_tray_80 (by decide) ?_
            refine x_iload_n (pc := 82) dX12_tray_82 rfl rfl ?_
            refine x_imul (pc := 83) dX12_tray_83 (by omega) ?_
            refine x_iload (pc := 84) dX12_tray_84 rfl ?_
            refine x_iadd (pc := 86) dX12_tray_86 (by omega) ?_
            refine x_lconst0 (pc := 87) dX12_tray_87 ?_
            refine x_lastore (pc := 88) dX12_tray_88 (sM_51 hS) (by omega) ?_
            refine x_iinc (pc := 89) dX12_tray_89 rfl (by omega) (by decide) rfl ?_
            refine x_goto (tgt := 69) (pc := 92) dX12_tray_92 (by decide) ?_
            refine x_lo (lo' := [(0, (2, m)), (1, (0, t)), (2, (0, s)), (3, (0, n)), (4, (0, k + 1))]) ⟨rfl, rfl, rfl, rfl, rfl, trivial⟩ (ih (k + 1) _ ⟨by omega, by omega, by rw [up_a (by omega)]; exact hI.2.2.1, hI.2.2.2.1.up (by omega), ?_⟩ (by omega))
            have z := hI.2.2.2.2.row (a := m + 29) (k := 5) (i := 40 * t + k) (v := 0) (by omega)
            refine cast (congrArg (RM _ m) ?_) z
            funext r i
            unfold up
            dsimp only
            by_cases e : r = 5 ∧ i = 40 * t + k
            · rw [if_pos e, if_pos (by omega)]
            · rw [if_neg e]
              by_cases e2 : r = 5 ∧ 40 * t ≤ i ∧ i < 40 * t + k
              · rw [if_pos e2, if_pos (by omega)]
              · rw [if_neg e2, if_neg (show ¬ (r = 5 ∧ 40 * t ≤ i ∧ i < 40 * t + (k + 1)) by omega)])
        refine x_lo (lo' := [(0, (2, m)), (1, (0, t)), (2, (0, s)), (3, (0, n)), (4, (0, 0))]) ⟨rfl, rfl, rfl, rfl, rfl, trivial⟩ (loop 0 _ ⟨by omega, by omega, by rw [up_a (by omega), up_a (by omega)]; exact up_s, ((frM.rf.up (by omega)).up (by omega)).up (by omega), ?_⟩)
        have z := ((hR.up3 (v := 0)).row (a := m + 27) (k := 3) (i := t) (v := s) (by omega)).row (a := m + 28) (k := 4) (i := t) (v := n) (by omega)
        refine cast (congrArg (RM _ m) ?_) z
        funext r i
        rw [if_neg (by omega)]
      · refine x_if_ne (tgt := 40) (pc := 33) dX12_tray_33 (by decide) (fun c => absurd c (by decide)) (fun _ => ?_)
        refine x_iconst (pc := 36) dX12_tray_36 (by decide) ?_
        refine x_goto (tgt := 41) (pc := 37) dX12_tray_37 (by decide) ?_
        refine x_putI (jj := 3) (pc := 41) dX12_tray_41 fX12_103 hS.1 rfl (by decide) rfl ?_
        refine x_aload_n (pc := 44) dX12_tray_44 rfl rfl ?_
        refine x_getIV (jj := 3) (pc := 45) dX12_tray_45 fX12_103 hS.1 rfl (by decide) rfl (by (repeat (first | rewrite [up_s] | rewrite [up_i (by omega)] | rewrite [up_a (by omega)] | rewrite [stM_a (by omega) (by omega)])); rfl) ?_
        refine x_if_le (tgt := 52) (pc := 48) dX12_tray_48 (by decide) (fun c => absurd c (by decide)) (fun _ => ?_)
        refine x_return (pc := 51) dX12_tray_51 rfl (by decide) ?_
        have e9 : spTray A t s n = (2, 0, A) := by
          unfold spTray
          (repeat' split) <;> first | rfl | (exfalso; omega)
        rw [e9]
        exact ⟨rfl, rfl, rfl, up_s, hR.up3, frM.rf.up (by omega)⟩
    · refine x_if_eq (tgt := 36) (pc := 21) dX12_tray_21 (by decide) (fun _ => ?_) (fun c => absurd c (by decide))
      refine x_iconst (pc := 36) dX12_tray_36 (by decide) ?_
      refine x_goto (tgt := 41) (pc := 37) dX12_tray_37 (by decide) ?_
      refine x_putI (jj := 3) (pc := 41) dX12_tray_41 fX12_103 hS.1 rfl (by decide) rfl ?_
      refine x_aload_n (pc := 44) dX12_tray_44 rfl rfl ?_
      refine x_getIV (jj := 3) (pc := 45) dX12_tray_45 fX12_103 hS.1 rfl (by decide) rfl (by (repeat (first | rewrite [up_s] | rewrite [up_i (by omega)] | rewrite [up_a (by omega)] | rewrite [stM_a (by omega) (by omega)])); rfl) ?_
      refine x_if_le (tgt := 52) (pc := 48) dX12_tray_48 (by decide) (fun c => absurd c (by decide)) (fun _ => ?_)
      refine x_return (pc := 51) dX12_tray_51 rfl (by decide) ?_
      have e9 : spTray A t s n = (2, 0, A) := by
        unfold spTray
        (repeat' split) <;> first | rfl | (exfalso; omega)
      rw [e9]
      exact ⟨rfl, rfl, rfl, up_s, hR.up3, frM.rf.up (by omega)⟩
  · refine x_if_ne (tgt := 12) (pc := 5) dX12_tray_5 (by decide) (fun c => absurd c (by decide)) (fun _ => ?_)
    refine x_iconst (pc := 8) dX12_tray_8 (by decide) ?_
    refine x_goto (tgt := 41) (pc := 9) dX12_tray_9 (by decide) ?_
    refine x_putI (jj := 3) (pc := 41) dX12_tray_41 fX12_103 hS.1 rfl (by decide) rfl ?_
    refine x_aload_n (pc := 44) dX12_tray_44 rfl rfl ?_
    refine x_getIV (jj := 3) (pc := 45) dX12_tray_45 fX12_103 hS.1 rfl (by decide) rfl (by (repeat (first | rewrite [up_s] | rewrite [up_i (by omega)] | rewrite [up_a (by omega)] | rewrite [stM_a (by omega) (by omega)])); rfl) ?_
    refine x_if_le (tgt := 52) (pc := 48) dX12_tray_48 (by decide) (fun c => absurd c (by decide)) (fun _ => ?_)
    refine x_return (pc := 51) dX12_tray_51 rfl (by decide) ?_
    have e9 : spTray A t s n = (1, 0, A) := by
      unfold spTray
      (repeat' split) <;> first | rfl | (exfalso; omega)
    rw [e9]
    exact ⟨rfl, rfl, rfl, up_s, hR.up3, frM.rf.up (by omega)⟩
def imgA (A : aM) (i k : Int) : aM := fun r j => if r = 7 ∧ 253 * i ≤ j ∧ j < 253 * i + k then A 0 (j - 253 * i) else up A 6 i 1 r j
def spImage (A : aM) (i : Int) : Int × Int × aM := if ¬ (0 ≤ i ∧ i ≤ 2) then (1, 0, A) else (0, 0, imgA A i 253)
theorem s_Mimage {l : Launch} {E : aE} {N : Nat} {S : aS} {M : aM} (hfl : l.stackTraces = false) (i : Int) (m : Int) (A : aM) (hS : lyM S m) (hR : RM M m A) (hA : TOK (A 0)) : aMt l E pX12_image [(2, m), (0, i)] N S M (aU N S (fun M' => M' m 3 = (spImage A i).1 ∧ RM M' m (spImage A i).2.2 ∧ frM M M' m)) := by
  refine a_met hfl rfl (by decide +kernel) (Nat.le_of_ble_eq_true rfl) ?_
  refine x_aload_n (pc := 0) dX12_image_0 rfl rfl ?_
  refine x_iload_n (pc := 1) dX12_image_1 rfl rfl ?_
  refine x_i2l (pc := 2) dX12_image_2 ?_
  refine x_lconst0 (pc := 3) dX12_image_3 ?_
  refine x_ldc2 (n := 2) (pc := 4) cX12_356 (by decide) dX12_image_4 ?_
  refine x_callS3 (pc := 7) dX12_image_7 rfl kX12_106 (s_within hfl _ _ _) rfl (Nat.le_of_ble_eq_true rfl) (k_B (fun q_7 => ?_) (fun q_7 => ?_)) n_B
  · refine x_if_eq (tgt := 17) (pc := 10) dX12_image_10 (by decide) (fun c => absurd c (by decide)) (fun _ => ?_)
    refine x_iconst (pc := 13) dX12_image_13 (by decide) ?_
    refine x_goto (tgt := 18) (pc := 14) dX12_image_14 (by decide) ?_
    refine x_putI (jj := 3) (pc := 18) dX12_image_18 fX12_103 hS.1 rfl (by decide) rfl ?_
    refine x_aload_n (pc := 21) dX12_image_21 rfl rfl ?_
    refine x_getIV (jj := 3) (pc := 22) dX12_image_22 fX12_103 hS.1 rfl (by decide) rfl (by (repeat (first | rewrite [up_s] | rewrite [up_i (by omega)] | rewrite [up_a (by omega)] | rewrite [stM_a (by omega) (by omega)])); rfl) ?_
    refine x_if_le (tgt := 29) (pc := 25) dX12_image_25 (by decide) (fun _ => ?_) (fun c => absurd c (by decide))
    refine x_aload_n (pc := 29) dX12_image_29 rfl rfl ?_
    refine x_getR (jj := 2) (pc := 30) dX12_image_30 fX12_16 hS.1 rfl (by decide) rfl rM_2 ?_
    refine x_iload_n (pc := 33) dX12_image_33 rfl rfl ?_
    refine x_iconst (pc := 34) dX12_image_34 (by decide) ?_
    refine x_zastore (pc := 35) dX12_image_35 (sM_2 hS) (by omega) (by omega) ?_
    refine x_iconst (pc := 36) dX12_image_36 (by decide) ?_
    refine x_istore_n (pc := 37) dX12_image_37 rfl (by decide) rfl ?_
    have loop := a_loop2 (fun k M1 => 0 ≤ k ∧ k ≤ 253 ∧ M1 m 3 = 0 ∧ frM M M1 m ∧ RM M1 m (imgA A i k)) (fun k _ => (253 - k).toNat) (fun k M1 => aX l E pX12_image (aU N S (fun M' => M' m 3 = (spImage A i).1 ∧ RM M' m (spImage A i).2.2 ∧ frM M M' m)) 0 0 N S M1 38 [(0, (2, m)), (1, (0, i)), (2, (0, k))] []) (by
      intro k M1 hI ih
      refine x_iload_n (pc := 38) dX12_image_38 rfl rfl ?_
      refine x_sipush (pc := 39) dX12_image_39 (by decide) ?_
      refine x_icmp_ge (tgt := 69) (pc := 42) dX12_image_42 (by decide) (fun c_42 => ?_) (fun c_42 => ?_)
      · refine x_return (pc := 69) dX12_image_69 rfl (by decide) ?_
        have e9 : spImage A i = (0, 0, imgA A i 253) := by
          unfold spImage
          rw [if_neg (by omega)]
        rw [e9]
        have e8 : k = 253 := by omega
        subst e8
        exact ⟨rfl, rfl, rfl, hI.2.2.1, hI.2.2.2.2, hI.2.2.2.1⟩
      · refine x_aload_n (pc := 45) dX12_image_45 rfl rfl ?_
        refine x_getR (jj := 1) (pc := 46) dX12_image_46 fX12_13 hS.1 rfl (by decide) rfl rM_1 ?_
        refine x_sipush (pc := 49) dX12_image_49 (by decide) ?_
        refine x_iload_n (pc := 52) dX12_image_52 rfl rfl ?_
        refine x_imul (pc := 53) dX12_image_53 (by omega) ?_
        refine x_iload_n (pc := 54) dX12_image_54 rfl rfl ?_
        refine x_iadd (pc := 55) dX12_image_55 (by omega) ?_
        refine x_aload_n (pc := 56) dX12_image_56 rfl rfl ?_
        refine x_getR (jj := 0) (pc := 57) dX12_image_57 fX12_9 hS.1 rfl (by decide) rfl rM_0 ?_
        refine x_iload_n (pc := 60) dX12_image_60 rfl rfl ?_
        refine x_ialoadV (pc := 61) dX12_image_61 (sM_0 hS) (by omega) (by (repeat (first | rewrite [up_s] | rewrite [up_i (by omega)] | rewrite [up_a (by omega)] | rewrite [stM_a (by omega) (by omega)])); first | exact (hI.2.2.2.2.1.1 _ (by omega) (by omega)).trans (by unfold imgA; rw [if_neg (by omega), up_a (by omega)]) | rfl) (fun g_61 => ?_)
        refine x_iastore (pc := 62) dX12_image_62 (sM_1 hS) (by omega) ?_
        refine x_iinc (pc := 63) dX12_image_63 rfl (by omega) (by decide) rfl ?_
        refine x_goto (tgt := 38) (pc := 66) dX12_image_66 (by decide) ?_
        refine x_lo (lo' := [(0, (2, m)), (1, (0, i)), (2, (0, k + 1))]) ⟨rfl, rfl, rfl, trivial⟩ (ih (k + 1) _ ⟨by omega, by omega, by rw [up_a (by omega)]; exact hI.2.2.1, hI.2.2.2.1.up (by omega), ?_⟩ (by omega))
        have z := hI.2.2.2.2.row (a := m + 2) (k := 7) (i := 253 * i + k) (v := A 0 k) (by omega)
        refine cast (congrArg (RM _ m) ?_) z
        funext r j
        unfold imgA
        by_cases e : r = 7 ∧ j = 253 * i + k
        · rw [e.1, e.2, up_s, if_pos (by omega)]; congr 1; omega
        · rw [show up _ 7 (253 * i + k) (A 0 k) r j = _ from if_neg e]
          by_cases e2 : r = 7 ∧ 253 * i ≤ j ∧ j < 253 * i + k
          · rw [if_pos e2, if_pos (by omega)]
          · rw [if_neg e2, if_neg (show ¬ (r = 7 ∧ 253 * i ≤ j ∧ j < 253 * i + (k + 1)) by omega)])
    refine x_lo (lo' := [(0, (2, m)), (1, (0, i)), (2, (0, 0))]) ⟨rfl, rfl, rfl, trivial⟩ (loop 0 _ ⟨by omega, by omega, by rw [up_a (by omega)]; exact up_s, (frM.rf.up (by omega)).up (by omega), ?_⟩)
    have z := (hR.up3 (v := 0)).row (a := m + 3) (k := 6) (i := i) (v := 1) (by omega)
    refine cast (congrArg (RM _ m) ?_) z
    funext r j
    unfold imgA
    rw [if_neg (by omega)]
  · refine x_if_eq (tgt := 17) (pc := 10) dX12_image_10 (by decide) (fun _ => ?_) (fun c => absurd c (by decide))
    refine x_iconst (pc := 17) dX12_image_17 (by decide) ?_
    refine x_putI (jj := 3) (pc := 18) dX12_image_18 fX12_103 hS.1 rfl (by decide) rfl ?_
    refine x_aload_n (pc := 21) dX12_image_21 rfl rfl ?_
    refine x_getIV (jj := 3) (pc := 22) dX12_image_22 fX12_103 hS.1 rfl (by decide) rfl (by (repeat (first | rewrite [up_s] | rewrite [up_i (by omega)] | rewrite [up_a (by omega)] | rewrite [stM_a (by omega) (by omega)])); rfl) ?_
    refine x_if_le (tgt := 29) (pc := 25) dX12_image_25 (by decide) (fun c => absurd c (by decide)) (fun _ => ?_)
    refine x_return (pc := 28) dX12_image_28 rfl (by decide) ?_
    have e9 : spImage A i = (1, 0, A) := by
      unfold spImage
      rw [if_pos (by omega)]
    rw [e9]
    exact ⟨rfl, rfl, rfl, up_s, hR.up3, frM.rf.up (by omega)⟩
def resA (A : aM) (i k : Int) : aM := fun r j => if r = 0 ∧ 0 ≤ j ∧ j < k then A 7 (253 * i + j) else A r j
def spRestore (A : aM) (i : Int) : Int × Int × aM := if ¬ (0 ≤ i ∧ i ≤ 2) then (1, 0, A) else if A 6 i = 0 then (2, 0, A) else (0, 0, resA A i 253)
theorem s_Mrestore {l : Launch} {E : aE} {N : Nat} {S : aS} {M : aM} (hfl : l.stackTraces = false) (i : Int) (m : Int) (A : aM) (hS : lyM S m) (hR : RM M m A) (hA : TOK (A 0)) : aMt l E pX12_restore [(2, m), (0, i)] N S M (aU N S (fun M' => M' m 3 = (spRestore A i).1 ∧ RM M' m (spRestore A i).2.2 ∧ frM M M' m)) := by
  refine a_met hfl rfl (by decide +kernel) (Nat.le_of_ble_eq_true rfl) ?_
  refine x_aload_n (pc := 0) dX12_restore_0 rfl rfl ?_
  refine x_iload_n (pc := 1) dX12_restore_1 rfl rfl ?_
  refine x_i2l (pc := 2) dX12_restore_2 ?_
  refine x_lconst0 (pc := 3) dX12_restore_3 ?_
  refine x_ldc2 (n := 2) (pc := 4) cX12_356 (by decide) dX12_restore_4 ?_
  refine x_callS3 (pc := 7) dX12_restore_7 rfl kX12_106 (s_within hfl _ _ _) rfl (Nat.le_of_ble_eq_true rfl) (k_B (fun q_7 => ?_) (fun q_7 => ?_)) n_B
  · refine x_if_ne (tgt := 17) (pc := 10) dX12_restore_10 (by decide) (fun _ => ?_) (fun c => absurd c (by decide))
    refine x_aload_n (pc := 17) dX12_restore_17 rfl rfl ?_
    refine x_getR (jj := 2) (pc := 18) dX12_restore_18 fX12_16 hS.1 rfl (by decide) rfl rM_2 ?_
    refine x_iload_n (pc := 21) dX12_restore_21 rfl rfl ?_
    refine x_zaloadV (pc := 22) dX12_restore_22 (sM_2 hS) (by omega) (by (repeat (first | rewrite [up_s] | rewrite [up_i (by omega)] | rewrite [up_a (by omega)] | rewrite [stM_a (by omega) (by omega)])); first | exact hR.1.2.2.2.2.2.2.1 _ (by omega) (by omega) | rfl) ?_
    refine x_if_ne (tgt := 30) (pc := 23) dX12_restore_23 (by decide) (fun c_23 => ?_) (fun c_23 => ?_)
    · refine x_iconst (pc := 30) dX12_restore_30 (by decide) ?_
      refine x_putI (jj := 3) (pc := 31) dX12_restore_31 fX12_103 hS.1 rfl (by decide) rfl ?_
      refine x_aload_n (pc := 34) dX12_restore_34 rfl rfl ?_
      refine x_getIV (jj := 3) (pc := 35) dX12_restore_35 fX12_103 hS.1 rfl (by decide) rfl (by (repeat (first | rewrite [up_s] | rewrite [up_i (by omega)] | rewrite [up_a (by omega)] | rewrite [stM_a (by omega) (by omega)])); first | exact hR.1.2.2.2.2.2.2.1 _ (by omega) (by omega) | rfl) ?_
      refine x_if_le (tgt := 42) (pc := 38) dX12_restore_38 (by decide) (fun _ => ?_) (fun c => absurd c (by decide))
      refine x_iconst (pc := 42) dX12_restore_42 (by decide) ?_
      refine x_istore_n (pc := 43) dX12_restore_43 rfl (by decide) rfl ?_
      have loop := a_loop2 (fun k M1 => 0 ≤ k ∧ k ≤ 253 ∧ M1 m 3 = 0 ∧ frM M M1 m ∧ z78 M1 m ∧ RMs M1 m (resA A i k)) (fun k _ => (253 - k).toNat) (fun k M1 => aX l E pX12_restore (aU N S (fun M' => M' m 3 = (spRestore A i).1 ∧ RM M' m (spRestore A i).2.2 ∧ frM M M' m)) 0 0 N S M1 44 [(0, (2, m)), (1, (0, i)), (2, (0, k))] []) (by
        intro k M1 hI ih
        refine x_iload_n (pc := 44) dX12_restore_44 rfl rfl ?_
        refine x_sipush (pc := 45) dX12_restore_45 (by decide) ?_
        refine x_icmp_ge (tgt := 75) (pc := 48) dX12_restore_48 (by decide) (fun c_48 => ?_) (fun c_48 => ?_)
        · refine x_aload_n (pc := 75) dX12_restore_75 rfl rfl ?_
          refine x_callV0 (pc := 76) dX12_restore_76 rfl kX12_120 (s_stale hfl m hS) hS.1 rfl rfl (Nat.le_of_ble_eq_true rfl) (k_U (fun M9 hM9 => ?_)) n_U
          subst hM9
          refine x_return (pc := 79) dX12_restore_79 rfl (by decide) ?_
          have e9 : spRestore A i = (0, 0, resA A i 253) := by
            unfold spRestore
            rw [if_neg (by omega), if_neg (by assumption)]
          rw [e9]
          have e8 : k = 253 := by omega
          subst e8
          exact ⟨rfl, rfl, rfl, by rw [stM_a (by omega) (by omega)]; exact hI.2.2.1, RM.stale hI.2.2.2.2.2 hI.2.2.2.2.1, hI.2.2.2.1.st⟩
        · refine x_aload_n (pc := 51) dX12_restore_51 rfl rfl ?_
          refine x_getR (jj := 0) (pc := 52) dX12_restore_52 fX12_9 hS.1 rfl (by decide) rfl rM_0 ?_
          refine x_iload_n (pc := 55) dX12_restore_55 rfl rfl ?_
          refine x_aload_n (pc := 56) dX12_restore_56 rfl rfl ?_
          refine x_getR (jj := 1) (pc := 57) dX12_restore_57 fX12_13 hS.1 rfl (by decide) rfl rM_1 ?_
          refine x_sipush (pc := 60) dX12_restore_60 (by decide) ?_
          refine x_iload_n (pc := 63) dX12_restore_63 rfl rfl ?_
          refine x_imul (pc := 64) dX12_restore_64 (by omega) ?_
          refine x_iload_n (pc := 65) dX12_restore_65 rfl rfl ?_
          refine x_iadd (pc := 66) dX12_restore_66 (by omega) ?_
          refine x_ialoadV (pc := 67) dX12_restore_67 (sM_1 hS) (by omega) (by (repeat (first | rewrite [up_s] | rewrite [up_i (by omega)] | rewrite [up_a (by omega)] | rewrite [stM_a (by omega) (by omega)])); first | exact (hI.2.2.2.2.2.2.2.2.2.2.2.2.1 _ (by omega) (by omega)).trans (by unfold resA; rw [if_neg (by omega)]) | rfl) (fun g_67 => ?_)
          refine x_iastore (pc := 68) dX12_restore_68 (sM_0 hS) (by omega) ?_
          refine x_iinc (pc := 69) dX12_restore_69 rfl (by omega) (by decide) rfl ?_
          refine x_goto (tgt := 44) (pc := 72) dX12_restore_72 (by decide) ?_
          refine x_lo (lo' := [(0, (2, m)), (1, (0, i)), (2, (0, k + 1))]) ⟨rfl, rfl, rfl, trivial⟩ (ih (k + 1) _ ⟨by omega, by omega, by rw [up_a (by omega)]; exact hI.2.2.1, hI.2.2.2.1.up (by omega), hI.2.2.2.2.1.up (by omega), ?_⟩ (by omega))
          have z := hI.2.2.2.2.2.told (i := k) (v := A 7 (253 * i + k))
          refine cast (congrArg (RMs _ m) ?_) z
          funext r j
          unfold resA
          by_cases e : r = 0 ∧ j = k
          · rw [e.1, e.2, up_s, if_pos (by omega)]
          · rw [show up _ 0 k (A 7 (253 * i + k)) r j = _ from if_neg e]
            by_cases e2 : r = 0 ∧ 0 ≤ j ∧ j < k
            · rw [if_pos e2, if_pos (by omega)]
            · rw [if_neg e2, if_neg (show ¬ (r = 0 ∧ 0 ≤ j ∧ j < k + 1) by omega)])
      refine x_lo (lo' := [(0, (2, m)), (1, (0, i)), (2, (0, 0))]) ⟨rfl, rfl, rfl, trivial⟩ (loop 0 _ ⟨by omega, by omega, up_s, frM.rf.up (by omega), hR.z.up (by omega), ?_⟩)
      refine cast (congrArg (RMs _ m) ?_) hR.1.up3
      funext r j
      unfold resA
      rw [if_neg (by omega)]
    · refine x_iconst (pc := 26) dX12_restore_26 (by decide) ?_
      refine x_goto (tgt := 31) (pc := 27) dX12_restore_27 (by decide) ?_
      refine x_putI (jj := 3) (pc := 31) dX12_restore_31 fX12_103 hS.1 rfl (by decide) rfl ?_
      refine x_aload_n (pc := 34) dX12_restore_34 rfl rfl ?_
      refine x_getIV (jj := 3) (pc := 35) dX12_restore_35 fX12_103 hS.1 rfl (by decide) rfl (by (repeat (first | rewrite [up_s] | rewrite [up_i (by omega)] | rewrite [up_a (by omega)] | rewrite [stM_a (by omega) (by omega)])); first | exact hR.1.2.2.2.2.2.2.1 _ (by omega) (by omega) | rfl) ?_
      refine x_if_le (tgt := 42) (pc := 38) dX12_restore_38 (by decide) (fun c => absurd c (by decide)) (fun _ => ?_)
      refine x_return (pc := 41) dX12_restore_41 rfl (by decide) ?_
      have e9 : spRestore A i = (2, 0, A) := by
        unfold spRestore
        rw [if_neg (by omega), if_pos (by assumption)]
      rw [e9]
      exact ⟨rfl, rfl, rfl, up_s, hR.up3, frM.rf.up (by omega)⟩
  · refine x_if_ne (tgt := 17) (pc := 10) dX12_restore_10 (by decide) (fun c => absurd c (by decide)) (fun _ => ?_)
    refine x_iconst (pc := 13) dX12_restore_13 (by decide) ?_
    refine x_goto (tgt := 31) (pc := 14) dX12_restore_14 (by decide) ?_
    refine x_putI (jj := 3) (pc := 31) dX12_restore_31 fX12_103 hS.1 rfl (by decide) rfl ?_
    refine x_aload_n (pc := 34) dX12_restore_34 rfl rfl ?_
    refine x_getIV (jj := 3) (pc := 35) dX12_restore_35 fX12_103 hS.1 rfl (by decide) rfl (by (repeat (first | rewrite [up_s] | rewrite [up_i (by omega)] | rewrite [up_a (by omega)] | rewrite [stM_a (by omega) (by omega)])); first | exact hR.1.2.2.2.2.2.2.1 _ (by omega) (by omega) | rfl) ?_
    refine x_if_le (tgt := 42) (pc := 38) dX12_restore_38 (by decide) (fun c => absurd c (by decide)) (fun _ => ?_)
    refine x_return (pc := 41) dX12_restore_41 rfl (by decide) ?_
    have e9 : spRestore A i = (1, 0, A) := by
      unfold spRestore
      rw [if_pos (by omega)]
    rw [e9]
    exact ⟨rfl, rfl, rfl, up_s, hR.up3, frM.rf.up (by omega)⟩
