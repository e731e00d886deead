/-! isOf; the Street -/
theorem dX11_isOf_0 : decode cX11_isOf 0 = .ok (.iload_n 1, 1) := by decide +kernel
theorem dX11_isOf_1 : decode cX11_isOf 1 = .ok (.ifCond .lt 22, 3) := by decide +kernel
theorem dX11_isOf_4 : decode cX11_isOf 4 = .ok (.iload_n 1, 1) := by decide +kernel
theorem dX11_isOf_5 : decode cX11_isOf 5 = .ok (.bipush 7, 2) := by decide +kernel
theorem dX11_isOf_7 : decode cX11_isOf 7 = .ok (.if_icmp .ge 16, 3) := by decide +kernel
theorem dX11_isOf_10 : decode cX11_isOf 10 = .ok (.iload_n 0, 1) := by decide +kernel
theorem dX11_isOf_11 : decode cX11_isOf 11 = .ok (.iload_n 1, 1) := by decide +kernel
theorem dX11_isOf_12 : decode cX11_isOf 12 = .ok (.ishr, 1) := by decide +kernel
theorem dX11_isOf_13 : decode cX11_isOf 13 = .ok (.iconst 1, 1) := by decide +kernel
theorem dX11_isOf_14 : decode cX11_isOf 14 = .ok (.iand, 1) := by decide +kernel
theorem dX11_isOf_15 : decode cX11_isOf 15 = .ok (.iconst 1, 1) := by decide +kernel
theorem dX11_isOf_16 : decode cX11_isOf 16 = .ok (.if_icmp .ne 7, 3) := by decide +kernel
theorem dX11_isOf_19 : decode cX11_isOf 19 = .ok (.iconst 1, 1) := by decide +kernel
theorem dX11_isOf_20 : decode cX11_isOf 20 = .ok (.goto 4, 3) := by decide +kernel
theorem dX11_isOf_23 : decode cX11_isOf 23 = .ok (.iconst 0, 1) := by decide +kernel
theorem dX11_isOf_24 : decode cX11_isOf 24 = .ok (.ireturn, 1) := by decide +kernel
theorem dX7_has_0 : decode cX7_has 0 = .ok (.iload_n 1, 1) := by decide +kernel
theorem dX7_has_1 : decode cX7_has 1 = .ok (.ifCond .lt 15, 3) := by decide +kernel
theorem dX7_has_4 : decode cX7_has 4 = .ok (.iload_n 1, 1) := by decide +kernel
theorem dX7_has_5 : decode cX7_has 5 = .ok (.aload_n 0, 1) := by decide +kernel
theorem dX7_has_6 : decode cX7_has 6 = .ok (.getfield 51, 3) := by decide +kernel
theorem dX7_has_9 : decode cX7_has 9 = .ok (.if_icmp .ge 7, 3) := by decide +kernel
theorem dX7_has_12 : decode cX7_has 12 = .ok (.iconst 1, 1) := by decide +kernel
theorem dX7_has_13 : decode cX7_has 13 = .ok (.goto 4, 3) := by decide +kernel
theorem dX7_has_16 : decode cX7_has 16 = .ok (.iconst 0, 1) := by decide +kernel
theorem dX7_has_17 : decode cX7_has 17 = .ok (.ireturn, 1) := by decide +kernel
theorem dX7_settle_0 : decode cX7_settle 0 = .ok (.aload_n 0, 1) := by decide +kernel
theorem dX7_settle_1 : decode cX7_settle 1 = .ok (.getfield 51, 3) := by decide +kernel
theorem dX7_settle_4 : decode cX7_settle 4 = .ok (.bipush 7, 2) := by decide +kernel
theorem dX7_settle_6 : decode cX7_settle 6 = .ok (.if_icmp .lt 5, 3) := by decide +kernel
theorem dX7_settle_9 : decode cX7_settle 9 = .ok (.iconst (-1), 1) := by decide +kernel
theorem dX7_settle_10 : decode cX7_settle 10 = .ok (.ireturn, 1) := by decide +kernel
theorem dX7_settle_11 : decode cX7_settle 11 = .ok (.aload_n 0, 1) := by decide +kernel
theorem dX7_settle_12 : decode cX7_settle 12 = .ok (.getfield 18, 3) := by decide +kernel
theorem dX7_settle_15 : decode cX7_settle 15 = .ok (.aload_n 0, 1) := by decide +kernel
theorem dX7_settle_16 : decode cX7_settle 16 = .ok (.getfield 51, 3) := by decide +kernel
theorem dX7_settle_19 : decode cX7_settle 19 = .ok (.iload_n 1, 1) := by decide +kernel
theorem dX7_settle_20 : decode cX7_settle 20 = .ok (.iastore, 1) := by decide +kernel
theorem dX7_settle_21 : decode cX7_settle 21 = .ok (.aload_n 0, 1) := by decide +kernel
theorem dX7_settle_22 : decode cX7_settle 22 = .ok (.dup, 1) := by decide +kernel
theorem dX7_settle_23 : decode cX7_settle 23 = .ok (.getfield 51, 3) := by decide +kernel
theorem dX7_settle_26 : decode cX7_settle 26 = .ok (.dup_x1, 1) := by decide +kernel
theorem dX7_settle_27 : decode cX7_settle 27 = .ok (.iconst 1, 1) := by decide +kernel
theorem dX7_settle_28 : decode cX7_settle 28 = .ok (.iadd, 1) := by decide +kernel
theorem dX7_settle_29 : decode cX7_settle 29 = .ok (.putfield 51, 3) := by decide +kernel
theorem dX7_settle_32 : decode cX7_settle 32 = .ok (.ireturn, 1) := by decide +kernel
theorem dX7_holderOf_0 : decode cX7_holderOf 0 = .ok (.iconst 0, 1) := by decide +kernel
theorem dX7_holderOf_1 : decode cX7_holderOf 1 = .ok (.istore_n 2, 1) := by decide +kernel
theorem dX7_holderOf_2 : decode cX7_holderOf 2 = .ok (.iload_n 2, 1) := by decide +kernel
theorem dX7_holderOf_3 : decode cX7_holderOf 3 = .ok (.bipush 7, 2) := by decide +kernel
theorem dX7_holderOf_5 : decode cX7_holderOf 5 = .ok (.if_icmp .ge 40, 3) := by decide +kernel
theorem dX7_holderOf_8 : decode cX7_holderOf 8 = .ok (.iload_n 1, 1) := by decide +kernel
theorem dX7_holderOf_9 : decode cX7_holderOf 9 = .ok (.iconst 1, 1) := by decide +kernel
theorem dX7_holderOf_10 : decode cX7_holderOf 10 = .ok (.iload_n 2, 1) := by decide +kernel
theorem dX7_holderOf_11 : decode cX7_holderOf 11 = .ok (.ishl, 1) := by decide +kernel
theorem dX7_holderOf_12 : decode cX7_holderOf 12 = .ok (.iconst (-1), 1) := by decide +kernel
theorem dX7_holderOf_13 : decode cX7_holderOf 13 = .ok (.ixor, 1) := by decide +kernel
theorem dX7_holderOf_14 : decode cX7_holderOf 14 = .ok (.iand, 1) := by decide +kernel
theorem dX7_holderOf_15 : decode cX7_holderOf 15 = .ok (.istore_n 3, 1) := by decide +kernel
theorem dX7_holderOf_16 : decode cX7_holderOf 16 = .ok (.iload_n 1, 1) := by decide +kernel
theorem dX7_holderOf_17 : decode cX7_holderOf 17 = .ok (.iload_n 2, 1) := by decide +kernel
theorem dX7_holderOf_18 : decode cX7_holderOf 18 = .ok (.invokestatic 60, 3) := by decide +kernel
theorem dX7_holderOf_21 : decode cX7_holderOf 21 = .ok (.ifCond .eq 18, 3) := by decide +kernel
theorem dX7_holderOf_24 : decode cX7_holderOf 24 = .ok (.iload_n 3, 1) := by decide +kernel
theorem dX7_holderOf_25 : decode cX7_holderOf 25 = .ok (.aload_n 0, 1) := by decide +kernel
theorem dX7_holderOf_26 : decode cX7_holderOf 26 = .ok (.getfield 28, 3) := by decide +kernel
theorem dX7_holderOf_29 : decode cX7_holderOf 29 = .ok (.iload_n 2, 1) := by decide +kernel
theorem dX7_holderOf_30 : decode cX7_holderOf 30 = .ok (.iaload, 1) := by decide +kernel
theorem dX7_holderOf_31 : decode cX7_holderOf 31 = .ok (.iconst (-1), 1) := by decide +kernel
theorem dX7_holderOf_32 : decode cX7_holderOf 32 = .ok (.ixor, 1) := by decide +kernel
theorem dX7_holderOf_33 : decode cX7_holderOf 33 = .ok (.iand, 1) := by decide +kernel
theorem dX7_holderOf_34 : decode cX7_holderOf 34 = .ok (.ifCond .ne 5, 3) := by decide +kernel
theorem dX7_holderOf_37 : decode cX7_holderOf 37 = .ok (.iload_n 2, 1) := by decide +kernel
theorem dX7_holderOf_38 : decode cX7_holderOf 38 = .ok (.ireturn, 1) := by decide +kernel
theorem dX7_holderOf_39 : decode cX7_holderOf 39 = .ok (.iinc 2 1, 3) := by decide +kernel
theorem dX7_holderOf_42 : decode cX7_holderOf 42 = .ok (.goto (-40), 3) := by decide +kernel
theorem dX7_holderOf_45 : decode cX7_holderOf 45 = .ok (.iconst (-1), 1) := by decide +kernel
theorem dX7_holderOf_46 : decode cX7_holderOf 46 = .ok (.ireturn, 1) := by decide +kernel
theorem dX7_mayBuy_0 : decode cX7_mayBuy 0 = .ok (.iconst 0, 1) := by decide +kernel
theorem dX7_mayBuy_1 : decode cX7_mayBuy 1 = .ok (.istore_n 2, 1) := by decide +kernel
theorem dX7_mayBuy_2 : decode cX7_mayBuy 2 = .ok (.iload_n 2, 1) := by decide +kernel
theorem dX7_mayBuy_3 : decode cX7_mayBuy 3 = .ok (.bipush 7, 2) := by decide +kernel
theorem dX7_mayBuy_5 : decode cX7_mayBuy 5 = .ok (.if_icmp .ge 30, 3) := by decide +kernel
theorem dX7_mayBuy_8 : decode cX7_mayBuy 8 = .ok (.iload_n 1, 1) := by decide +kernel
theorem dX7_mayBuy_9 : decode cX7_mayBuy 9 = .ok (.iload_n 2, 1) := by decide +kernel
theorem dX7_mayBuy_10 : decode cX7_mayBuy 10 = .ok (.invokestatic 60, 3) := by decide +kernel
theorem dX7_mayBuy_13 : decode cX7_mayBuy 13 = .ok (.ifCond .eq 16, 3) := by decide +kernel
theorem dX7_mayBuy_16 : decode cX7_mayBuy 16 = .ok (.aload_n 0, 1) := by decide +kernel
theorem dX7_mayBuy_17 : decode cX7_mayBuy 17 = .ok (.getfield 25, 3) := by decide +kernel
theorem dX7_mayBuy_20 : decode cX7_mayBuy 20 = .ok (.iload_n 2, 1) := by decide +kernel
theorem dX7_mayBuy_21 : decode cX7_mayBuy 21 = .ok (.iaload, 1) := by decide +kernel
theorem dX7_mayBuy_22 : decode cX7_mayBuy 22 = .ok (.iload_n 1, 1) := by decide +kernel
theorem dX7_mayBuy_23 : decode cX7_mayBuy 23 = .ok (.iand, 1) := by decide +kernel
theorem dX7_mayBuy_24 : decode cX7_mayBuy 24 = .ok (.ifCond .eq 5, 3) := by decide +kernel
theorem dX7_mayBuy_27 : decode cX7_mayBuy 27 = .ok (.iconst 0, 1) := by decide +kernel
theorem dX7_mayBuy_28 : decode cX7_mayBuy 28 = .ok (.ireturn, 1) := by decide +kernel
theorem dX7_mayBuy_29 : decode cX7_mayBuy 29 = .ok (.iinc 2 1, 3) := by decide +kernel
theorem dX7_mayBuy_32 : decode cX7_mayBuy 32 = .ok (.goto (-30), 3) := by decide +kernel
theorem dX7_mayBuy_35 : decode cX7_mayBuy 35 = .ok (.aload_n 0, 1) := by decide +kernel
theorem dX7_mayBuy_36 : decode cX7_mayBuy 36 = .ok (.iload_n 1, 1) := by decide +kernel
theorem dX7_mayBuy_37 : decode cX7_mayBuy 37 = .ok (.invokevirtual 64, 3) := by decide +kernel
theorem dX7_mayBuy_40 : decode cX7_mayBuy 40 = .ok (.iconst (-1), 1) := by decide +kernel
theorem dX7_mayBuy_41 : decode cX7_mayBuy 41 = .ok (.if_icmp .eq 7, 3) := by decide +kernel
theorem dX7_mayBuy_44 : decode cX7_mayBuy 44 = .ok (.iconst 1, 1) := by decide +kernel
theorem dX7_mayBuy_45 : decode cX7_mayBuy 45 = .ok (.goto 4, 3) := by decide +kernel
theorem dX7_mayBuy_48 : decode cX7_mayBuy 48 = .ok (.iconst 0, 1) := by decide +kernel
theorem dX7_mayBuy_49 : decode cX7_mayBuy 49 = .ok (.ireturn, 1) := by decide +kernel
theorem dX7_stepsBetween_0 : decode cX7_stepsBetween 0 = .ok (.iconst 1, 1) := by decide +kernel
theorem dX7_stepsBetween_1 : decode cX7_stepsBetween 1 = .ok (.iload_n 1, 1) := by decide +kernel
theorem dX7_stepsBetween_2 : decode cX7_stepsBetween 2 = .ok (.ishl, 1) := by decide +kernel
theorem dX7_stepsBetween_3 : decode cX7_stepsBetween 3 = .ok (.istore_n 3, 1) := by decide +kernel
theorem dX7_stepsBetween_4 : decode cX7_stepsBetween 4 = .ok (.iconst 0, 1) := by decide +kernel
theorem dX7_stepsBetween_5 : decode cX7_stepsBetween 5 = .ok (.istore 4, 2) := by decide +kernel
theorem dX7_stepsBetween_7 : decode cX7_stepsBetween 7 = .ok (.iload 4, 2) := by decide +kernel
theorem dX7_stepsBetween_9 : decode cX7_stepsBetween 9 = .ok (.bipush 7, 2) := by decide +kernel
theorem dX7_stepsBetween_11 : decode cX7_stepsBetween 11 = .ok (.if_icmp .ge 28, 3) := by decide +kernel
theorem dX7_stepsBetween_14 : decode cX7_stepsBetween 14 = .ok (.iload_n 3, 1) := by decide +kernel
theorem dX7_stepsBetween_15 : decode cX7_stepsBetween 15 = .ok (.iload_n 2, 1) := by decide +kernel
theorem dX7_stepsBetween_16 : decode cX7_stepsBetween 16 = .ok (.invokestatic 60, 3) := by decide +kernel
theorem dX7_stepsBetween_19 : decode cX7_stepsBetween 19 = .ok (.ifCond .eq 6, 3) := by decide +kernel
theorem dX7_stepsBetween_22 : decode cX7_stepsBetween 22 = .ok (.iload 4, 2) := by decide +kernel
theorem dX7_stepsBetween_24 : decode cX7_stepsBetween 24 = .ok (.ireturn, 1) := by decide +kernel
theorem dX7_stepsBetween_25 : decode cX7_stepsBetween 25 = .ok (.iload_n 3, 1) := by decide +kernel
theorem dX7_stepsBetween_26 : decode cX7_stepsBetween 26 = .ok (.aload_n 0, 1) := by decide +kernel
theorem dX7_stepsBetween_27 : decode cX7_stepsBetween 27 = .ok (.iload_n 3, 1) := by decide +kernel
theorem dX7_stepsBetween_28 : decode cX7_stepsBetween 28 = .ok (.invokevirtual 68, 3) := by decide +kernel
theorem dX7_stepsBetween_31 : decode cX7_stepsBetween 31 = .ok (.ior, 1) := by decide +kernel
theorem dX7_stepsBetween_32 : decode cX7_stepsBetween 32 = .ok (.istore_n 3, 1) := by decide +kernel
theorem dX7_stepsBetween_33 : decode cX7_stepsBetween 33 = .ok (.iinc 4 1, 3) := by decide +kernel
theorem dX7_stepsBetween_36 : decode cX7_stepsBetween 36 = .ok (.goto (-29), 3) := by decide +kernel
theorem dX7_stepsBetween_39 : decode cX7_stepsBetween 39 = .ok (.iconst (-1), 1) := by decide +kernel
theorem dX7_stepsBetween_40 : decode cX7_stepsBetween 40 = .ok (.ireturn, 1) := by decide +kernel
theorem dX7_trustedBy_0 : decode cX7_trustedBy 0 = .ok (.iconst 0, 1) := by decide +kernel
theorem dX7_trustedBy_1 : decode cX7_trustedBy 1 = .ok (.istore_n 2, 1) := by decide +kernel
theorem dX7_trustedBy_2 : decode cX7_trustedBy 2 = .ok (.iconst 0, 1) := by decide +kernel
theorem dX7_trustedBy_3 : decode cX7_trustedBy 3 = .ok (.istore_n 3, 1) := by decide +kernel
theorem dX7_trustedBy_4 : decode cX7_trustedBy 4 = .ok (.iload_n 3, 1) := by decide +kernel
theorem dX7_trustedBy_5 : decode cX7_trustedBy 5 = .ok (.bipush 7, 2) := by decide +kernel
theorem dX7_trustedBy_7 : decode cX7_trustedBy 7 = .ok (.if_icmp .ge 26, 3) := by decide +kernel
theorem dX7_trustedBy_10 : decode cX7_trustedBy 10 = .ok (.aload_n 0, 1) := by decide +kernel
theorem dX7_trustedBy_11 : decode cX7_trustedBy 11 = .ok (.getfield 28, 3) := by decide +kernel
theorem dX7_trustedBy_14 : decode cX7_trustedBy 14 = .ok (.iload_n 3, 1) := by decide +kernel
theorem dX7_trustedBy_15 : decode cX7_trustedBy 15 = .ok (.iaload, 1) := by decide +kernel
theorem dX7_trustedBy_16 : decode cX7_trustedBy 16 = .ok (.iload_n 1, 1) := by decide +kernel
theorem dX7_trustedBy_17 : decode cX7_trustedBy 17 = .ok (.iand, 1) := by decide +kernel
theorem dX7_trustedBy_18 : decode cX7_trustedBy 18 = .ok (.ifCond .eq 9, 3) := by decide +kernel
theorem dX7_trustedBy_21 : decode cX7_trustedBy 21 = .ok (.iload_n 2, 1) := by decide +kernel
theorem dX7_trustedBy_22 : decode cX7_trustedBy 22 = .ok (.iconst 1, 1) := by decide +kernel
theorem dX7_trustedBy_23 : decode cX7_trustedBy 23 = .ok (.iload_n 3, 1) := by decide +kernel
theorem dX7_trustedBy_24 : decode cX7_trustedBy 24 = .ok (.ishl, 1) := by decide +kernel
theorem dX7_trustedBy_25 : decode cX7_trustedBy 25 = .ok (.ior, 1) := by decide +kernel
theorem dX7_trustedBy_26 : decode cX7_trustedBy 26 = .ok (.istore_n 2, 1) := by decide +kernel
theorem dX7_trustedBy_27 : decode cX7_trustedBy 27 = .ok (.iinc 3 1, 3) := by decide +kernel
theorem dX7_trustedBy_30 : decode cX7_trustedBy 30 = .ok (.goto (-26), 3) := by decide +kernel
theorem dX7_trustedBy_33 : decode cX7_trustedBy 33 = .ok (.iload_n 2, 1) := by decide +kernel
theorem dX7_trustedBy_34 : decode cX7_trustedBy 34 = .ok (.ireturn, 1) := by decide +kernel
theorem dX7_cellarsOf_0 : decode cX7_cellarsOf 0 = .ok (.iconst 0, 1) := by decide +kernel
theorem dX7_cellarsOf_1 : decode cX7_cellarsOf 1 = .ok (.istore_n 2, 1) := by decide +kernel
theorem dX7_cellarsOf_2 : decode cX7_cellarsOf 2 = .ok (.iconst 0, 1) := by decide +kernel
theorem dX7_cellarsOf_3 : decode cX7_cellarsOf 3 = .ok (.istore_n 3, 1) := by decide +kernel
theorem dX7_cellarsOf_4 : decode cX7_cellarsOf 4 = .ok (.iload_n 3, 1) := by decide +kernel
theorem dX7_cellarsOf_5 : decode cX7_cellarsOf 5 = .ok (.bipush 7, 2) := by decide +kernel
theorem dX7_cellarsOf_7 : decode cX7_cellarsOf 7 = .ok (.if_icmp .ge 26, 3) := by decide +kernel
theorem dX7_cellarsOf_10 : decode cX7_cellarsOf 10 = .ok (.iload_n 1, 1) := by decide +kernel
theorem dX7_cellarsOf_11 : decode cX7_cellarsOf 11 = .ok (.iload_n 3, 1) := by decide +kernel
theorem dX7_cellarsOf_12 : decode cX7_cellarsOf 12 = .ok (.invokestatic 60, 3) := by decide +kernel
theorem dX7_cellarsOf_15 : decode cX7_cellarsOf 15 = .ok (.ifCond .eq 12, 3) := by decide +kernel
theorem dX7_cellarsOf_18 : decode cX7_cellarsOf 18 = .ok (.iload_n 2, 1) := by decide +kernel
theorem dX7_cellarsOf_19 : decode cX7_cellarsOf 19 = .ok (.aload_n 0, 1) := by decide +kernel
theorem dX7_cellarsOf_20 : decode cX7_cellarsOf 20 = .ok (.getfield 18, 3) := by decide +kernel
theorem dX7_cellarsOf_23 : decode cX7_cellarsOf 23 = .ok (.iload_n 3, 1) := by decide +kernel
theorem dX7_cellarsOf_24 : decode cX7_cellarsOf 24 = .ok (.iaload, 1) := by decide +kernel
theorem dX7_cellarsOf_25 : decode cX7_cellarsOf 25 = .ok (.iadd, 1) := by decide +kernel
theorem dX7_cellarsOf_26 : decode cX7_cellarsOf 26 = .ok (.istore_n 2, 1) := by decide +kernel
theorem dX7_cellarsOf_27 : decode cX7_cellarsOf 27 = .ok (.iinc 3 1, 3) := by decide +kernel
theorem dX7_cellarsOf_30 : decode cX7_cellarsOf 30 = .ok (.goto (-26), 3) := by decide +kernel
theorem dX7_cellarsOf_33 : decode cX7_cellarsOf 33 = .ok (.iload_n 2, 1) := by decide +kernel
theorem dX7_cellarsOf_34 : decode cX7_cellarsOf 34 = .ok (.ireturn, 1) := by decide +kernel
theorem dX7_wantsOf_0 : decode cX7_wantsOf 0 = .ok (.iconst 0, 1) := by decide +kernel
theorem dX7_wantsOf_1 : decode cX7_wantsOf 1 = .ok (.istore_n 3, 1) := by decide +kernel
theorem dX7_wantsOf_2 : decode cX7_wantsOf 2 = .ok (.iconst 0, 1) := by decide +kernel
theorem dX7_wantsOf_3 : decode cX7_wantsOf 3 = .ok (.istore 4, 2) := by decide +kernel
theorem dX7_wantsOf_5 : decode cX7_wantsOf 5 = .ok (.iload 4, 2) := by decide +kernel
theorem dX7_wantsOf_7 : decode cX7_wantsOf 7 = .ok (.bipush 7, 2) := by decide +kernel
theorem dX7_wantsOf_9 : decode cX7_wantsOf 9 = .ok (.if_icmp .ge 33, 3) := by decide +kernel
theorem dX7_wantsOf_12 : decode cX7_wantsOf 12 = .ok (.iload_n 1, 1) := by decide +kernel
theorem dX7_wantsOf_13 : decode cX7_wantsOf 13 = .ok (.iload 4, 2) := by decide +kernel
theorem dX7_wantsOf_15 : decode cX7_wantsOf 15 = .ok (.invokestatic 60, 3) := by decide +kernel
theorem dX7_wantsOf_18 : decode cX7_wantsOf 18 = .ok (.ifCond .eq 18, 3) := by decide +kernel
theorem dX7_wantsOf_21 : decode cX7_wantsOf 21 = .ok (.iload_n 3, 1) := by decide +kernel
theorem dX7_wantsOf_22 : decode cX7_wantsOf 22 = .ok (.aload_n 0, 1) := by decide +kernel
theorem dX7_wantsOf_23 : decode cX7_wantsOf 23 = .ok (.getfield 22, 3) := by decide +kernel
theorem dX7_wantsOf_26 : decode cX7_wantsOf 26 = .ok (.iload 4, 2) := by decide +kernel
theorem dX7_wantsOf_28 : decode cX7_wantsOf 28 = .ok (.bipush 6, 2) := by decide +kernel
theorem dX7_wantsOf_30 : decode cX7_wantsOf 30 = .ok (.imul, 1) := by decide +kernel
theorem dX7_wantsOf_31 : decode cX7_wantsOf 31 = .ok (.iload_n 2, 1) := by decide +kernel
theorem dX7_wantsOf_32 : decode cX7_wantsOf 32 = .ok (.iadd, 1) := by decide +kernel
theorem dX7_wantsOf_33 : decode cX7_wantsOf 33 = .ok (.iaload, 1) := by decide +kernel
theorem dX7_wantsOf_34 : decode cX7_wantsOf 34 = .ok (.iadd, 1) := by decide +kernel
theorem dX7_wantsOf_35 : decode cX7_wantsOf 35 = .ok (.istore_n 3, 1) := by decide +kernel
theorem dX7_wantsOf_36 : decode cX7_wantsOf 36 = .ok (.iinc 4 1, 3) := by decide +kernel
theorem dX7_wantsOf_39 : decode cX7_wantsOf 39 = .ok (.goto (-34), 3) := by decide +kernel
theorem dX7_wantsOf_42 : decode cX7_wantsOf 42 = .ok (.iload_n 3, 1) := by decide +kernel
theorem dX7_wantsOf_43 : decode cX7_wantsOf 43 = .ok (.ireturn, 1) := by decide +kernel
theorem dX7_wantsThatCount_0 : decode cX7_wantsThatCount 0 = .ok (.iconst 0, 1) := by decide +kernel
theorem dX7_wantsThatCount_1 : decode cX7_wantsThatCount 1 = .ok (.istore_n 2, 1) := by decide +kernel
theorem dX7_wantsThatCount_2 : decode cX7_wantsThatCount 2 = .ok (.iconst 0, 1) := by decide +kernel
theorem dX7_wantsThatCount_3 : decode cX7_wantsThatCount 3 = .ok (.istore_n 3, 1) := by decide +kernel
theorem dX7_wantsThatCount_4 : decode cX7_wantsThatCount 4 = .ok (.iload_n 3, 1) := by decide +kernel
theorem dX7_wantsThatCount_5 : decode cX7_wantsThatCount 5 = .ok (.aload_n 0, 1) := by decide +kernel
theorem dX7_wantsThatCount_6 : decode cX7_wantsThatCount 6 = .ok (.getfield 12, 3) := by decide +kernel
theorem dX7_wantsThatCount_9 : decode cX7_wantsThatCount 9 = .ok (.getfield 71, 3) := by decide +kernel
theorem dX7_wantsThatCount_12 : decode cX7_wantsThatCount 12 = .ok (.if_icmp .ge 29, 3) := by decide +kernel
theorem dX7_wantsThatCount_15 : decode cX7_wantsThatCount 15 = .ok (.iload_n 3, 1) := by decide +kernel
theorem dX7_wantsThatCount_16 : decode cX7_wantsThatCount 16 = .ok (.bipush 6, 2) := by decide +kernel
theorem dX7_wantsThatCount_18 : decode cX7_wantsThatCount 18 = .ok (.if_icmp .ge 23, 3) := by decide +kernel
theorem dX7_wantsThatCount_21 : decode cX7_wantsThatCount 21 = .ok (.iload_n 2, 1) := by decide +kernel
theorem dX7_wantsThatCount_22 : decode cX7_wantsThatCount 22 = .ok (.aload_n 0, 1) := by decide +kernel
theorem dX7_wantsThatCount_23 : decode cX7_wantsThatCount 23 = .ok (.getfield 22, 3) := by decide +kernel
theorem dX7_wantsThatCount_26 : decode cX7_wantsThatCount 26 = .ok (.iload_n 1, 1) := by decide +kernel
theorem dX7_wantsThatCount_27 : decode cX7_wantsThatCount 27 = .ok (.bipush 6, 2) := by decide +kernel
theorem dX7_wantsThatCount_29 : decode cX7_wantsThatCount 29 = .ok (.imul, 1) := by decide +kernel
theorem dX7_wantsThatCount_30 : decode cX7_wantsThatCount 30 = .ok (.iload_n 3, 1) := by decide +kernel
theorem dX7_wantsThatCount_31 : decode cX7_wantsThatCount 31 = .ok (.iadd, 1) := by decide +kernel
theorem dX7_wantsThatCount_32 : decode cX7_wantsThatCount 32 = .ok (.iaload, 1) := by decide +kernel
theorem dX7_wantsThatCount_33 : decode cX7_wantsThatCount 33 = .ok (.iadd, 1) := by decide +kernel
theorem dX7_wantsThatCount_34 : decode cX7_wantsThatCount 34 = .ok (.istore_n 2, 1) := by decide +kernel
theorem dX7_wantsThatCount_35 : decode cX7_wantsThatCount 35 = .ok (.iinc 3 1, 3) := by decide +kernel
theorem dX7_wantsThatCount_38 : decode cX7_wantsThatCount 38 = .ok (.goto (-34), 3) := by decide +kernel
theorem dX7_wantsThatCount_41 : decode cX7_wantsThatCount 41 = .ok (.iload_n 2, 1) := by decide +kernel
theorem dX7_wantsThatCount_42 : decode cX7_wantsThatCount 42 = .ok (.ireturn, 1) := by decide +kernel
theorem dX7_addDoubt_0 : decode cX7_addDoubt 0 = .ok (.aload_n 0, 1) := by decide +kernel
theorem dX7_addDoubt_1 : decode cX7_addDoubt 1 = .ok (.getfield 38, 3) := by decide +kernel
theorem dX7_addDoubt_4 : decode cX7_addDoubt 4 = .ok (.iload_n 1, 1) := by decide +kernel
theorem dX7_addDoubt_5 : decode cX7_addDoubt 5 = .ok (.iaload, 1) := by decide +kernel
theorem dX7_addDoubt_6 : decode cX7_addDoubt 6 = .ok (.iconst 4, 1) := by decide +kernel
theorem dX7_addDoubt_7 : decode cX7_addDoubt 7 = .ok (.if_icmp .lt 5, 3) := by decide +kernel
theorem dX7_addDoubt_10 : decode cX7_addDoubt 10 = .ok (.iconst (-1), 1) := by decide +kernel
theorem dX7_addDoubt_11 : decode cX7_addDoubt 11 = .ok (.ireturn, 1) := by decide +kernel
theorem dX7_addDoubt_12 : decode cX7_addDoubt 12 = .ok (.iload_n 1, 1) := by decide +kernel
theorem dX7_addDoubt_13 : decode cX7_addDoubt 13 = .ok (.iconst 4, 1) := by decide +kernel
theorem dX7_addDoubt_14 : decode cX7_addDoubt 14 = .ok (.imul, 1) := by decide +kernel
theorem dX7_addDoubt_15 : decode cX7_addDoubt 15 = .ok (.aload_n 0, 1) := by decide +kernel
theorem dX7_addDoubt_16 : decode cX7_addDoubt 16 = .ok (.getfield 38, 3) := by decide +kernel
theorem dX7_addDoubt_19 : decode cX7_addDoubt 19 = .ok (.iload_n 1, 1) := by decide +kernel
theorem dX7_addDoubt_20 : decode cX7_addDoubt 20 = .ok (.iaload, 1) := by decide +kernel
theorem dX7_addDoubt_21 : decode cX7_addDoubt 21 = .ok (.iadd, 1) := by decide +kernel
theorem dX7_addDoubt_22 : decode cX7_addDoubt 22 = .ok (.istore 4, 2) := by decide +kernel
theorem dX7_addDoubt_24 : decode cX7_addDoubt 24 = .ok (.aload_n 0, 1) := by decide +kernel
theorem dX7_addDoubt_25 : decode cX7_addDoubt 25 = .ok (.getfield 41, 3) := by decide +kernel
theorem dX7_addDoubt_28 : decode cX7_addDoubt 28 = .ok (.iload 4, 2) := by decide +kernel
theorem dX7_addDoubt_30 : decode cX7_addDoubt 30 = .ok (.iload_n 2, 1) := by decide +kernel
theorem dX7_addDoubt_31 : decode cX7_addDoubt 31 = .ok (.iastore, 1) := by decide +kernel
theorem dX7_addDoubt_32 : decode cX7_addDoubt 32 = .ok (.aload_n 0, 1) := by decide +kernel
theorem dX7_addDoubt_33 : decode cX7_addDoubt 33 = .ok (.getfield 44, 3) := by decide +kernel
theorem dX7_addDoubt_36 : decode cX7_addDoubt 36 = .ok (.iload 4, 2) := by decide +kernel
theorem dX7_addDoubt_38 : decode cX7_addDoubt 38 = .ok (.iload_n 3, 1) := by decide +kernel
theorem dX7_addDoubt_39 : decode cX7_addDoubt 39 = .ok (.iastore, 1) := by decide +kernel
theorem dX7_addDoubt_40 : decode cX7_addDoubt 40 = .ok (.aload_n 0, 1) := by decide +kernel
theorem dX7_addDoubt_41 : decode cX7_addDoubt 41 = .ok (.getfield 38, 3) := by decide +kernel
theorem dX7_addDoubt_44 : decode cX7_addDoubt 44 = .ok (.iload_n 1, 1) := by decide +kernel
theorem dX7_addDoubt_45 : decode cX7_addDoubt 45 = .ok (.dup2, 1) := by decide +kernel
theorem dX7_addDoubt_46 : decode cX7_addDoubt 46 = .ok (.iaload, 1) := by decide +kernel
theorem dX7_addDoubt_47 : decode cX7_addDoubt 47 = .ok (.iconst 1, 1) := by decide +kernel
theorem dX7_addDoubt_48 : decode cX7_addDoubt 48 = .ok (.iadd, 1) := by decide +kernel
theorem dX7_addDoubt_49 : decode cX7_addDoubt 49 = .ok (.dup_x2, 1) := by decide +kernel
theorem dX7_addDoubt_50 : decode cX7_addDoubt 50 = .ok (.iastore, 1) := by decide +kernel
theorem dX7_addDoubt_51 : decode cX7_addDoubt 51 = .ok (.ireturn, 1) := by decide +kernel
theorem dX7_allDoubts_0 : decode cX7_allDoubts 0 = .ok (.iconst 0, 1) := by decide +kernel
theorem dX7_allDoubts_1 : decode cX7_allDoubts 1 = .ok (.istore_n 1, 1) := by decide +kernel
theorem dX7_allDoubts_2 : decode cX7_allDoubts 2 = .ok (.iconst 0, 1) := by decide +kernel
theorem dX7_allDoubts_3 : decode cX7_allDoubts 3 = .ok (.istore_n 2, 1) := by decide +kernel
theorem dX7_allDoubts_4 : decode cX7_allDoubts 4 = .ok (.iload_n 2, 1) := by decide +kernel
theorem dX7_allDoubts_5 : decode cX7_allDoubts 5 = .ok (.bipush 7, 2) := by decide +kernel
theorem dX7_allDoubts_7 : decode cX7_allDoubts 7 = .ok (.if_icmp .ge 18, 3) := by decide +kernel
theorem dX7_allDoubts_10 : decode cX7_allDoubts 10 = .ok (.iload_n 1, 1) := by decide +kernel
theorem dX7_allDoubts_11 : decode cX7_allDoubts 11 = .ok (.aload_n 0, 1) := by decide +kernel
theorem dX7_allDoubts_12 : decode cX7_allDoubts 12 = .ok (.getfield 38, 3) := by decide +kernel
theorem dX7_allDoubts_15 : decode cX7_allDoubts 15 = .ok (.iload_n 2, 1) := by decide +kernel
theorem dX7_allDoubts_16 : decode cX7_allDoubts 16 = .ok (.iaload, 1) := by decide +kernel
theorem dX7_allDoubts_17 : decode cX7_allDoubts 17 = .ok (.iadd, 1) := by decide +kernel
theorem dX7_allDoubts_18 : decode cX7_allDoubts 18 = .ok (.istore_n 1, 1) := by decide +kernel
theorem dX7_allDoubts_19 : decode cX7_allDoubts 19 = .ok (.iinc 2 1, 3) := by decide +kernel
theorem dX7_allDoubts_22 : decode cX7_allDoubts 22 = .ok (.goto (-18), 3) := by decide +kernel
theorem dX7_allDoubts_25 : decode cX7_allDoubts 25 = .ok (.iload_n 1, 1) := by decide +kernel
theorem dX7_allDoubts_26 : decode cX7_allDoubts 26 = .ok (.ireturn, 1) := by decide +kernel
def isOfV (set h : Int) : Int := if 0 ≤ h ∧ h < 7 ∧ hb set h = 1 then 1 else 0
theorem s_isOf {l : Launch} {E : aE} {N : Nat} {S : aS} {M : aM} (hfl : l.stackTraces = false) (set h : Int) : aMt l E pX11_isOf [(0, set), (0, h)] N S M (aR (0, isOfV set h) N S M) := by
  refine a_met hfl rfl (by decide +kernel) (Nat.le_of_ble_eq_true rfl) ?_
  refine x_iload_n (pc := 0) dX11_isOf_0 rfl rfl ?_
  refine x_if_lt (tgt := 23) (pc := 1) dX11_isOf_1 (by decide) (fun c_1 => ?_) (fun c_1 => ?_)
  · refine x_iconst (pc := 23) dX11_isOf_23 (by decide) ?_
    refine x_zreturn (pc := 24) dX11_isOf_24 rfl (by omega) (by decide) ?_
    refine ⟨?_, rfl, rfl, rfl⟩
    unfold isOfV hb
    split <;> first | rfl | (exfalso; omega)
  · refine x_iload_n (pc := 4) dX11_isOf_4 rfl rfl ?_
    refine x_bipush (pc := 5) dX11_isOf_5 (by decide) ?_
    refine x_icmp_ge (tgt := 23) (pc := 7) dX11_isOf_7 (by decide) (fun c_7 => ?_) (fun c_7 => ?_)
    · refine x_iconst (pc := 23) dX11_isOf_23 (by decide) ?_
      refine x_zreturn (pc := 24) dX11_isOf_24 rfl (by omega) (by decide) ?_
      refine ⟨?_, rfl, rfl, rfl⟩
      unfold isOfV hb
      split <;> first | rfl | (exfalso; omega)
    · refine x_iload_n (pc := 10) dX11_isOf_10 rfl rfl ?_
      refine x_iload_n (pc := 11) dX11_isOf_11 rfl rfl ?_
      refine x_ishr (pc := 12) dX11_isOf_12 ?_
      refine x_iconst (pc := 13) dX11_isOf_13 (by decide) ?_
      refine x_iand (pc := 14) dX11_isOf_14 ?_
      refine x_iconst (pc := 15) dX11_isOf_15 (by decide) ?_
      refine x_icmp_ne (tgt := 23) (pc := 16) dX11_isOf_16 (by decide) (fun c_16 => ?_) (fun c_16 => ?_)
      · refine x_iconst (pc := 23) dX11_isOf_23 (by decide) ?_
        refine x_zreturn (pc := 24) dX11_isOf_24 rfl (by omega) (by decide) ?_
        refine ⟨?_, rfl, rfl, rfl⟩
        unfold isOfV hb
        split <;> first | rfl | (exfalso; omega)
      · refine x_iconst (pc := 19) dX11_isOf_19 (by decide) ?_
        refine x_goto (tgt := 24) (pc := 20) dX11_isOf_20 (by decide) ?_
        refine x_zreturn (pc := 24) dX11_isOf_24 rfl (by omega) (by decide) ?_
        refine ⟨?_, rfl, rfl, rfl⟩
        unfold isOfV hb
        split <;> first | rfl | (exfalso; omega)
def rN : Int → Int := fun _ => -1
def rT (t : Int) : Int → Int := fun j => if j = 2 then t + 1 else if j = 3 then t + 2 else if j = 5 then t + 3 else if j = 6 then t + 4 else if j = 10 then t + 5 else -1
def rS (s : Int) : Int → Int := fun j => if j = 0 then s + 1 else if j = 2 then s + 7 else if j = 3 then s + 8 else if j = 4 then s + 9 else if j = 5 then s + 10 else if j = 6 then s + 11 else if j = 8 then s + 12 else if j = 9 then s + 13 else if j = 10 then s + 14 else -1
/-- a tariff and its rows -/
def lyT (S : aS) (t : Int) : Prop := S t = (8, 13, rT t) ∧ S (t + 1) = (13, 6, rN) ∧ S (t + 2) = (13, 6, rN) ∧ S (t + 3) = (13, 4, rN) ∧ S (t + 4) = (13, 4, rN) ∧ S (t + 5) = (13, 6, rN)
/-- a street and its rows -/
def lyS (S : aS) (s : Int) : Prop := lyT S (s + 1) ∧ S s = (7, 11, rS s) ∧ S (s + 7) = (13, 7, rN) ∧ S (s + 8) = (13, 42, rN) ∧ S (s + 9) = (13, 7, rN) ∧ S (s + 10) = (13, 7, rN) ∧ S (s + 11) = (13, 7, rN) ∧ S (s + 12) = (13, 7, rN) ∧ S (s + 13) = (13, 28, rN) ∧ S (s + 14) = (13, 28, rN)
theorem rT_2 {t : Int} : rT t 2 = t + 1 := rfl
theorem rT_3 {t : Int} : rT t 3 = t + 2 := rfl
theorem rT_5 {t : Int} : rT t 5 = t + 3 := rfl
theorem rT_6 {t : Int} : rT t 6 = t + 4 := rfl
theorem rT_10 {t : Int} : rT t 10 = t + 5 := rfl
theorem rS_0 {s : Int} : rS s 0 = s + 1 := rfl
theorem rS_2 {s : Int} : rS s 2 = s + 7 := rfl
theorem rS_3 {s : Int} : rS s 3 = s + 8 := rfl
theorem rS_4 {s : Int} : rS s 4 = s + 9 := rfl
theorem rS_5 {s : Int} : rS s 5 = s + 10 := rfl
theorem rS_6 {s : Int} : rS s 6 = s + 11 := rfl
theorem rS_8 {s : Int} : rS s 8 = s + 12 := rfl
theorem rS_9 {s : Int} : rS s 9 = s + 13 := rfl
theorem rS_10 {s : Int} : rS s 10 = s + 14 := rfl
theorem lyS.old {S : aS} {s : Int} (h : lyS S s) : (∃ r : Int → Int, S (s + 1) = (8, 13, r) ∧ r 2 = s + 1 + 1 ∧ r 3 = s + 1 + 2 ∧ r 5 = s + 1 + 3 ∧ r 6 = s + 1 + 4 ∧ r 10 = s + 1 + 5 ∧ S (s + 1 + 1) = (13, 6, rN) ∧ S (s + 1 + 2) = (13, 6, rN) ∧ S (s + 1 + 3) = (13, 4, rN) ∧ S (s + 1 + 4) = (13, 4, rN) ∧ S (s + 1 + 5) = (13, 6, rN)) ∧ ∃ r : Int → Int, S s = (7, 11, r) ∧ r 0 = s + 1 ∧ r 2 = s + 7 ∧ r 3 = s + 8 ∧ r 4 = s + 9 ∧ r 5 = s + 10 ∧ r 6 = s + 11 ∧ r 8 = s + 12 ∧ r 9 = s + 13 ∧ r 10 = s + 14 ∧ S (s + 7) = (13, 7, rN) ∧ S (s + 8) = (13, 42, rN) ∧ S (s + 9) = (13, 7, rN) ∧ S (s + 10) = (13, 7, rN) ∧ S (s + 11) = (13, 7, rN) ∧ S (s + 12) = (13, 7, rN) ∧ S (s + 13) = (13, 28, rN) ∧ S (s + 14) = (13, 28, rN) :=
  ⟨⟨rT (s + 1), h.1.1, rfl, rfl, rfl, rfl, rfl, h.1.2⟩, rS s, h.2.1, rfl, rfl, rfl, rfl, rfl, rfl, rfl, rfl, rfl, h.2.2⟩
theorem s_has {l : Launch} {E : aE} {N : Nat} {S : aS} {M : aM} (hfl : l.stackTraces = false) (s h : Int) (hS : lyS S s) : aMt l E pX7_has [(2, s), (0, h)] N S M (aR (0, if 0 ≤ h ∧ h < M s 1 then 1 else 0) N S M) := by
  refine a_met hfl rfl (by decide +kernel) (Nat.le_of_ble_eq_true rfl) ?_
  obtain ⟨⟨rt, y0, y1, y2, y3, y4, y5, y6, y7, y8, y9, y10⟩, r, z0, z1, z2, z3, z4, z5, z6, z7, z8, z9, z10, z11, z12, z13, z14, z15, z16, z17⟩ := hS.old
  refine x_iload_n (pc := 0) dX7_has_0 rfl rfl ?_
  refine x_if_lt (tgt := 16) (pc := 1) dX7_has_1 (by decide) (fun c_1 => ?_) (fun c_1 => ?_)
  · refine x_iconst (pc := 16) dX7_has_16 (by decide) ?_
    refine x_zreturn (pc := 17) dX7_has_17 rfl (by omega) (by decide) ?_
    refine ⟨?_, rfl, rfl, rfl⟩
    split <;> first | rfl | (exfalso; omega)
  · refine x_iload_n (pc := 4) dX7_has_4 rfl rfl ?_
    refine x_aload_n (pc := 5) dX7_has_5 rfl rfl ?_
    refine x_getI (jj := 1) (pc := 6) dX7_has_6 fX7_51 (by assumption) rfl (by decide) rfl ?_
    refine x_icmp_ge (tgt := 16) (pc := 9) dX7_has_9 (by decide) (fun c_9 => ?_) (fun c_9 => ?_)
    · refine x_iconst (pc := 16) dX7_has_16 (by decide) ?_
      refine x_zreturn (pc := 17) dX7_has_17 rfl (by omega) (by decide) ?_
      refine ⟨?_, rfl, rfl, rfl⟩
      split <;> first | rfl | (exfalso; omega)
    · refine x_iconst (pc := 12) dX7_has_12 (by decide) ?_
      refine x_goto (tgt := 17) (pc := 13) dX7_has_13 (by decide) ?_
      refine x_zreturn (pc := 17) dX7_has_17 rfl (by omega) (by decide) ?_
      refine ⟨?_, rfl, rfl, rfl⟩
      split <;> first | rfl | (exfalso; omega)
theorem s_settle {l : Launch} {E : aE} {N : Nat} {S : aS} {M : aM} (hfl : l.stackTraces = false) (s c : Int) (hS : lyS S s) (hc : 0 ≤ M s 1) : aMt l E pX7_settle [(2, s), (0, c)] N S M (aG N S (fun v M' => (7 ≤ M s 1 ∧ v = (0, -1) ∧ M' = M) ∨ (M s 1 < 7 ∧ v = (0, M s 1) ∧ M' = up (up M (s + 7) (M s 1) c) s 1 (M s 1 + 1)))) := by
  refine a_met hfl rfl (by decide +kernel) (Nat.le_of_ble_eq_true rfl) ?_
  obtain ⟨⟨rt, y0, y1, y2, y3, y4, y5, y6, y7, y8, y9, y10⟩, r, z0, z1, z2, z3, z4, z5, z6, z7, z8, z9, z10, z11, z12, z13, z14, z15, z16, z17⟩ := hS.old
  have e9 : ∀ v, up M (s + 7) (M s 1) v s 1 = M s 1 := fun v => up_a (by omega)
  refine x_aload_n (pc := 0) dX7_settle_0 rfl rfl ?_
  refine x_getI (jj := 1) (pc := 1) dX7_settle_1 fX7_51 (by assumption) rfl (by decide) rfl ?_
  refine x_bipush (pc := 4) dX7_settle_4 (by decide) ?_
  refine x_icmp_lt (tgt := 11) (pc := 6) dX7_settle_6 (by decide) (fun c_6 => ?_) (fun c_6 => ?_)
  · refine x_aload_n (pc := 11) dX7_settle_11 rfl rfl ?_
    refine x_getR (jj := 2) (pc := 12) dX7_settle_12 fX7_18 (by assumption) rfl (by decide) rfl (by first | assumption | rfl) ?_
    refine x_aload_n (pc := 15) dX7_settle_15 rfl rfl ?_
    refine x_getI (jj := 1) (pc := 16) dX7_settle_16 fX7_51 (by assumption) rfl (by decide) rfl ?_
    refine x_iload_n (pc := 19) dX7_settle_19 rfl rfl ?_
    refine x_iastore (pc := 20) dX7_settle_20 (by assumption) (by omega) ?_
    refine x_aload_n (pc := 21) dX7_settle_21 rfl rfl ?_
    refine x_dup (pc := 22) dX7_settle_22 rfl ?_
    refine x_getI (jj := 1) (pc := 23) dX7_settle_23 fX7_51 (by assumption) rfl (by decide) rfl ?_
    refine x_dup_x1 (pc := 26) dX7_settle_26 rfl rfl ?_
    refine x_iconst (pc := 27) dX7_settle_27 (by decide) ?_
    refine x_iadd (pc := 28) dX7_settle_28 (by rw [e9]; omega) ?_
    refine x_putI (jj := 1) (pc := 29) dX7_settle_29 fX7_51 (by assumption) rfl (by decide) rfl ?_
    refine x_ireturn (pc := 32) dX7_settle_32 rfl (by decide) ?_
    refine ⟨_, rfl, rfl, rfl, Or.inr ⟨by omega, by rw [e9], ?_⟩⟩
    rw [e9]
  · refine x_iconst (pc := 9) dX7_settle_9 (by decide) ?_
    refine x_ireturn (pc := 10) dX7_settle_10 rfl (by decide) ?_
    exact ⟨_, rfl, rfl, rfl, Or.inl ⟨by omega, rfl, rfl⟩⟩
def holdC (tr : Int → Int) (set i : Int) : Bool := decide (hb set i = 1) && decide (b_and (b_and set (b_xor (b_shl 1 i) (-1))) (b_xor (tr i) (-1)) = 0)
theorem s_holderOf {l : Launch} {E : aE} {N : Nat} {S : aS} {M : aM} (hfl : l.stackTraces = false) (s set : Int) (hS : lyS S s) : aMt l E pX7_holderOf [(2, s), (0, set)] N S M (aR (0, firstB (holdC (M (s + 10)) set) 7) N S M) := by
  refine a_met hfl rfl (by decide +kernel) (Nat.le_of_ble_eq_true rfl) ?_
  obtain ⟨⟨rt, y0, y1, y2, y3, y4, y5, y6, y7, y8, y9, y10⟩, r, z0, z1, z2, z3, z4, z5, z6, z7, z8, z9, z10, z11, z12, z13, z14, z15, z16, z17⟩ := hS.old
  have loop := a_loop1 (fun i => 0 ≤ i ∧ i ≤ 7 ∧ ∀ j, 0 ≤ j → j < i → holdC (M (s + 10)) set j = false) (fun i => (7 - i).toNat) (fun i => aX l E pX7_holderOf (aR (0, firstB (holdC (M (s + 10)) set) 7) N S M) 0 0 N S M 2 [(0, (2, s)), (1, (0, set)), (2, (0, i))] []) (by
    intro i hI ih
    obtain ⟨h0, h1, hI⟩ := hI
    refine x_iload_n (pc := 2) dX7_holderOf_2 rfl rfl ?_
    refine x_bipush (pc := 3) dX7_holderOf_3 (by decide) ?_
    refine x_icmp_ge (tgt := 45) (pc := 5) dX7_holderOf_5 (by decide) (fun c_5 => ?_) (fun c_5 => ?_)
    · refine x_iconst (pc := 45) dX7_holderOf_45 (by decide) ?_
      refine x_ireturn (pc := 46) dX7_holderOf_46 rfl (by decide) ?_
      refine ⟨?_, rfl, rfl, rfl⟩
      rw [firstB_none.mpr fun j j0 j1 => hI j j0 (by omega)]
    · refine x_iload_n (pc := 8) dX7_holderOf_8 rfl rfl ?_
      refine x_iconst (pc := 9) dX7_holderOf_9 (by decide) ?_
      refine x_iload_n (pc := 10) dX7_holderOf_10 rfl rfl ?_
      refine x_ishl (pc := 11) dX7_holderOf_11 ?_
      refine x_iconst (pc := 12) dX7_holderOf_12 (by decide) ?_
      refine x_ixor (pc := 13) dX7_holderOf_13 ?_
      refine x_iand (pc := 14) dX7_holderOf_14 ?_
      refine x_istore_n (pc := 15) dX7_holderOf_15 rfl (by decide) rfl ?_
      refine x_iload_n (pc := 16) dX7_holderOf_16 rfl rfl ?_
      refine x_iload_n (pc := 17) dX7_holderOf_17 rfl rfl ?_
      refine x_callSN2 (pc := 18) dX7_holderOf_18 rfl kX7_60 (s_isOf hfl set i) rfl (Nat.le_of_ble_eq_true rfl) (k_R ?_) n_R
      refine x_if_eq (tgt := 39) (pc := 21) dX7_holderOf_21 (by decide) (fun c_21 => ?_) (fun c_21 => ?_)
      · refine x_iinc (pc := 39) dX7_holderOf_39 rfl (by omega) (by decide) rfl ?_
        refine x_goto (tgt := 2) (pc := 42) dX7_holderOf_42 (by decide) ?_
        refine x_lo (lo' := [(0, (2, s)), (1, (0, set)), (2, (0, i + 1))]) ⟨rfl, rfl, rfl, trivial⟩ (ih (i + 1) ⟨by omega, by omega, fun j j0 j1 => ?_⟩ (by omega))
        by_cases e : j = i
        · subst e
          unfold isOfV at *
          unfold holdC
          simp_all
          try omega
        · exact hI j j0 (by omega)
      · refine x_iload_n (pc := 24) dX7_holderOf_24 rfl rfl ?_
        refine x_aload_n (pc := 25) dX7_holderOf_25 rfl rfl ?_
        refine x_getR (jj := 5) (pc := 26) dX7_holderOf_26 fX7_28 (by assumption) rfl (by decide) rfl (by first | assumption | rfl) ?_
        refine x_iload_n (pc := 29) dX7_holderOf_29 rfl rfl ?_
        refine x_iaload (pc := 30) dX7_holderOf_30 (by assumption) (by omega) (fun g_30 => ?_)
        refine x_iconst (pc := 31) dX7_holderOf_31 (by decide) ?_
        refine x_ixor (pc := 32) dX7_holderOf_32 ?_
        refine x_iand (pc := 33) dX7_holderOf_33 ?_
        refine x_if_ne (tgt := 39) (pc := 34) dX7_holderOf_34 (by decide) (fun c_34 => ?_) (fun c_34 => ?_)
        · refine x_iinc (pc := 39) dX7_holderOf_39 rfl (by omega) (by decide) rfl ?_
          refine x_goto (tgt := 2) (pc := 42) dX7_holderOf_42 (by decide) ?_
          refine x_lo (lo' := [(0, (2, s)), (1, (0, set)), (2, (0, i + 1))]) ⟨rfl, rfl, rfl, trivial⟩ (ih (i + 1) ⟨by omega, by omega, fun j j0 j1 => ?_⟩ (by omega))
          by_cases e : j = i
          · subst e
            unfold isOfV at *
            unfold holdC
            simp_all
            try omega
          · exact hI j j0 (by omega)
        · refine x_iload_n (pc := 37) dX7_holderOf_37 rfl rfl ?_
          refine x_ireturn (pc := 38) dX7_holderOf_38 rfl (by decide) ?_
          refine ⟨?_, rfl, rfl, rfl⟩
          rw [firstB_some h0 (by omega) ?_ hI]
          unfold isOfV at *
          unfold holdC
          simp_all
          try omega)
  refine x_iconst (pc := 0) dX7_holderOf_0 (by decide) ?_
  refine x_istore_n (pc := 1) dX7_holderOf_1 rfl (by decide) rfl ?_
  exact x_lo (lo' := [(0, (2, s)), (1, (0, set)), (2, (0, 0))]) ⟨rfl, rfl, rfl, trivial⟩ (loop 0 ⟨by omega, by omega, fun j j0 j1 => by omega⟩)
