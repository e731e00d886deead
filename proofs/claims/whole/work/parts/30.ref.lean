/-! the reference: basics -/
/-- the references of the reference's object -/
def rM (m : Int) : Int → Int := fun k => if k = 0 then m + 1 else if k = 1 then m + 2 else if k = 2 then m + 3 else if k = 4 then m + 4 else if k = 5 then m + 5 else if k = 16 then m + 6 else if k = 17 then m + 7 else if k = 18 then m + 8 else if k = 21 then m + 9 else if k = 22 then m + 10 else if k = 23 then m + 11 else if k = 24 then m + 12 else if k = 25 then m + 13 else if k = 26 then m + 14 else if k = 27 then m + 15 else if k = 29 then m + 16 else if k = 30 then m + 17 else if k = 31 then m + 18 else if k = 36 then m + 19 else if k = 37 then m + 20 else if k = 38 then m + 21 else if k = 39 then m + 22 else if k = 40 then m + 23 else if k = 41 then m + 24 else if k = 46 then m + 25 else if k = 47 then m + 26 else if k = 49 then m + 27 else if k = 50 then m + 28 else if k = 51 then m + 29 else -1
/-- the reference and its rows -/
def lyM (S : aS) (m : Int) : Prop := S m = (11, 52, rM m) ∧ S (m + 1) = (13, 253, rN) ∧ S (m + 2) = (13, 759, rN) ∧ S (m + 3) = (15, 3, rN) ∧ S (m + 4) = (13, 300, rN) ∧ S (m + 5) = (13, 34, rN) ∧ S (m + 6) = (13, 201, rN) ∧ S (m + 7) = (13, 201, rN) ∧ S (m + 8) = (13, 201, rN) ∧ S (m + 9) = (13, 2, rN) ∧ S (m + 10) = (13, 2, rN) ∧ S (m + 11) = (13, 399, rN) ∧ S (m + 12) = (13, 399, rN) ∧ S (m + 13) = (13, 6, rN) ∧ S (m + 14) = (13, 6, rN) ∧ S (m + 15) = (13, 128, rN) ∧ S (m + 16) = (13, 7, rN) ∧ S (m + 17) = (13, 7, rN) ∧ S (m + 18) = (13, 7, rN) ∧ S (m + 19) = (14, 7, rN) ∧ S (m + 20) = (14, 240, rN) ∧ S (m + 21) = (13, 5, rN) ∧ S (m + 22) = (13, 40, rN) ∧ S (m + 23) = (13, 5, rN) ∧ S (m + 24) = (15, 5, rN) ∧ S (m + 25) = (14, 57, rN) ∧ S (m + 26) = (14, 57, rN) ∧ S (m + 27) = (13, 4, rN) ∧ S (m + 28) = (13, 4, rN) ∧ S (m + 29) = (14, 160, rN)
theorem rM_0 {m : Int} : rM m 0 = m + 1 := rfl
theorem sM_0 {S : aS} {m : Int} (h : lyM S m) : S (m + 1) = (13, 253, rN) := h.2.1
theorem rM_1 {m : Int} : rM m 1 = m + 2 := rfl
theorem sM_1 {S : aS} {m : Int} (h : lyM S m) : S (m + 2) = (13, 759, rN) := h.2.2.1
theorem rM_2 {m : Int} : rM m 2 = m + 3 := rfl
theorem sM_2 {S : aS} {m : Int} (h : lyM S m) : S (m + 3) = (15, 3, rN) := h.2.2.2.1
theorem rM_4 {m : Int} : rM m 4 = m + 4 := rfl
theorem sM_4 {S : aS} {m : Int} (h : lyM S m) : S (m + 4) = (13, 300, rN) := h.2.2.2.2.1
theorem rM_5 {m : Int} : rM m 5 = m + 5 := rfl
theorem sM_5 {S : aS} {m : Int} (h : lyM S m) : S (m + 5) = (13, 34, rN) := h.2.2.2.2.2.1
theorem rM_16 {m : Int} : rM m 16 = m + 6 := rfl
theorem sM_16 {S : aS} {m : Int} (h : lyM S m) : S (m + 6) = (13, 201, rN) := h.2.2.2.2.2.2.1
theorem rM_17 {m : Int} : rM m 17 = m + 7 := rfl
theorem sM_17 {S : aS} {m : Int} (h : lyM S m) : S (m + 7) = (13, 201, rN) := h.2.2.2.2.2.2.2.1
theorem rM_18 {m : Int} : rM m 18 = m + 8 := rfl
theorem sM_18 {S : aS} {m : Int} (h : lyM S m) : S (m + 8) = (13, 201, rN) := h.2.2.2.2.2.2.2.2.1
theorem rM_21 {m : Int} : rM m 21 = m + 9 := rfl
theorem sM_21 {S : aS} {m : Int} (h : lyM S m) : S (m + 9) = (13, 2, rN) := h.2.2.2.2.2.2.2.2.2.1
theorem rM_22 {m : Int} : rM m 22 = m + 10 := rfl
theorem sM_22 {S : aS} {m : Int} (h : lyM S m) : S (m + 10) = (13, 2, rN) := h.2.2.2.2.2.2.2.2.2.2.1
theorem rM_23 {m : Int} : rM m 23 = m + 11 := rfl
theorem sM_23 {S : aS} {m : Int} (h : lyM S m) : S (m + 11) = (13, 399, rN) := h.2.2.2.2.2.2.2.2.2.2.2.1
theorem rM_24 {m : Int} : rM m 24 = m + 12 := rfl
theorem sM_24 {S : aS} {m : Int} (h : lyM S m) : S (m + 12) = (13, 399, rN) := h.2.2.2.2.2.2.2.2.2.2.2.2.1
theorem rM_25 {m : Int} : rM m 25 = m + 13 := rfl
theorem sM_25 {S : aS} {m : Int} (h : lyM S m) : S (m + 13) = (13, 6, rN) := h.2.2.2.2.2.2.2.2.2.2.2.2.2.1
theorem rM_26 {m : Int} : rM m 26 = m + 14 := rfl
theorem sM_26 {S : aS} {m : Int} (h : lyM S m) : S (m + 14) = (13, 6, rN) := h.2.2.2.2.2.2.2.2.2.2.2.2.2.2.1
theorem rM_27 {m : Int} : rM m 27 = m + 15 := rfl
theorem sM_27 {S : aS} {m : Int} (h : lyM S m) : S (m + 15) = (13, 128, rN) := h.2.2.2.2.2.2.2.2.2.2.2.2.2.2.2.1
theorem rM_29 {m : Int} : rM m 29 = m + 16 := rfl
theorem sM_29 {S : aS} {m : Int} (h : lyM S m) : S (m + 16) = (13, 7, rN) := h.2.2.2.2.2.2.2.2.2.2.2.2.2.2.2.2.1
theorem rM_30 {m : Int} : rM m 30 = m + 17 := rfl
theorem sM_30 {S : aS} {m : Int} (h : lyM S m) : S (m + 17) = (13, 7, rN) := h.2.2.2.2.2.2.2.2.2.2.2.2.2.2.2.2.2.1
theorem rM_31 {m : Int} : rM m 31 = m + 18 := rfl
theorem sM_31 {S : aS} {m : Int} (h : lyM S m) : S (m + 18) = (13, 7, rN) := h.2.2.2.2.2.2.2.2.2.2.2.2.2.2.2.2.2.2.1
theorem rM_36 {m : Int} : rM m 36 = m + 19 := rfl
theorem sM_36 {S : aS} {m : Int} (h : lyM S m) : S (m + 19) = (14, 7, rN) := h.2.2.2.2.2.2.2.2.2.2.2.2.2.2.2.2.2.2.2.1
theorem rM_37 {m : Int} : rM m 37 = m + 20 := rfl
theorem sM_37 {S : aS} {m : Int} (h : lyM S m) : S (m + 20) = (14, 240, rN) := h.2.2.2.2.2.2.2.2.2.2.2.2.2.2.2.2.2.2.2.2.1
theorem rM_38 {m : Int} : rM m 38 = m + 21 := rfl
theorem sM_38 {S : aS} {m : Int} (h : lyM S m) : S (m + 21) = (13, 5, rN) := h.2.2.2.2.2.2.2.2.2.2.2.2.2.2.2.2.2.2.2.2.2.1
theorem rM_39 {m : Int} : rM m 39 = m + 22 := rfl
theorem sM_39 {S : aS} {m : Int} (h : lyM S m) : S (m + 22) = (13, 40, rN) := h.2.2.2.2.2.2.2.2.2.2.2.2.2.2.2.2.2.2.2.2.2.2.1
theorem rM_40 {m : Int} : rM m 40 = m + 23 := rfl
theorem sM_40 {S : aS} {m : Int} (h : lyM S m) : S (m + 23) = (13, 5, rN) := h.2.2.2.2.2.2.2.2.2.2.2.2.2.2.2.2.2.2.2.2.2.2.2.1
theorem rM_41 {m : Int} : rM m 41 = m + 24 := rfl
theorem sM_41 {S : aS} {m : Int} (h : lyM S m) : S (m + 24) = (15, 5, rN) := h.2.2.2.2.2.2.2.2.2.2.2.2.2.2.2.2.2.2.2.2.2.2.2.2.1
theorem rM_46 {m : Int} : rM m 46 = m + 25 := rfl
theorem sM_46 {S : aS} {m : Int} (h : lyM S m) : S (m + 25) = (14, 57, rN) := h.2.2.2.2.2.2.2.2.2.2.2.2.2.2.2.2.2.2.2.2.2.2.2.2.2.1
theorem rM_47 {m : Int} : rM m 47 = m + 26 := rfl
theorem sM_47 {S : aS} {m : Int} (h : lyM S m) : S (m + 26) = (14, 57, rN) := h.2.2.2.2.2.2.2.2.2.2.2.2.2.2.2.2.2.2.2.2.2.2.2.2.2.2.1
theorem rM_49 {m : Int} : rM m 49 = m + 27 := rfl
theorem sM_49 {S : aS} {m : Int} (h : lyM S m) : S (m + 27) = (13, 4, rN) := h.2.2.2.2.2.2.2.2.2.2.2.2.2.2.2.2.2.2.2.2.2.2.2.2.2.2.2.1
theorem rM_50 {m : Int} : rM m 50 = m + 28 := rfl
theorem sM_50 {S : aS} {m : Int} (h : lyM S m) : S (m + 28) = (13, 4, rN) := h.2.2.2.2.2.2.2.2.2.2.2.2.2.2.2.2.2.2.2.2.2.2.2.2.2.2.2.2.1
theorem rM_51 {m : Int} : rM m 51 = m + 29 := rfl
theorem sM_51 {S : aS} {m : Int} (h : lyM S m) : S (m + 29) = (14, 160, rN) := h.2.2.2.2.2.2.2.2.2.2.2.2.2.2.2.2.2.2.2.2.2.2.2.2.2.2.2.2.2
theorem dX12_thrown_0 : decode cX12_thrown 0 = .ok (.aload_n 0, 1) := by decide +kernel
theorem dX12_thrown_1 : decode cX12_thrown 1 = .ok (.getfield 103, 3) := by decide +kernel
theorem dX12_thrown_4 : decode cX12_thrown 4 = .ok (.ireturn, 1) := by decide +kernel
theorem dX12_fails_0 : decode cX12_fails 0 = .ok (.aload_n 0, 1) := by decide +kernel
theorem dX12_fails_1 : decode cX12_fails 1 = .ok (.iload_n 1, 1) := by decide +kernel
theorem dX12_fails_2 : decode cX12_fails 2 = .ok (.putfield 103, 3) := by decide +kernel
theorem dX12_fails_5 : decode cX12_fails 5 = .ok (.iconst 0, 1) := by decide +kernel
theorem dX12_fails_6 : decode cX12_fails 6 = .ok (.ireturn, 1) := by decide +kernel
theorem dX12_fell_0 : decode cX12_fell 0 = .ok (.aload_n 0, 1) := by decide +kernel
theorem dX12_fell_1 : decode cX12_fell 1 = .ok (.iload_n 1, 1) := by decide +kernel
theorem dX12_fell_2 : decode cX12_fell 2 = .ok (.putfield 103, 3) := by decide +kernel
theorem dX12_fell_5 : decode cX12_fell 5 = .ok (.iconst 0, 1) := by decide +kernel
theorem dX12_fell_6 : decode cX12_fell 6 = .ok (.ireturn, 1) := by decide +kernel
theorem dX12_within_0 : decode cX12_within 0 = .ok (.lload_n 0, 1) := by decide +kernel
theorem dX12_within_1 : decode cX12_within 1 = .ok (.lload_n 2, 1) := by decide +kernel
theorem dX12_within_2 : decode cX12_within 2 = .ok (.lcmp, 1) := by decide +kernel
theorem dX12_within_3 : decode cX12_within 3 = .ok (.ifCond .lt 14, 3) := by decide +kernel
theorem dX12_within_6 : decode cX12_within 6 = .ok (.lload_n 0, 1) := by decide +kernel
theorem dX12_within_7 : decode cX12_within 7 = .ok (.lload 4, 2) := by decide +kernel
theorem dX12_within_9 : decode cX12_within 9 = .ok (.lcmp, 1) := by decide +kernel
theorem dX12_within_10 : decode cX12_within 10 = .ok (.ifCond .gt 7, 3) := by decide +kernel
theorem dX12_within_13 : decode cX12_within 13 = .ok (.iconst 1, 1) := by decide +kernel
theorem dX12_within_14 : decode cX12_within 14 = .ok (.goto 4, 3) := by decide +kernel
theorem dX12_within_17 : decode cX12_within 17 = .ok (.iconst 0, 1) := by decide +kernel
theorem dX12_within_18 : decode cX12_within 18 = .ok (.ireturn, 1) := by decide +kernel
theorem dX12_isHouse_0 : decode cX12_isHouse 0 = .ok (.iload_n 1, 1) := by decide +kernel
theorem dX12_isHouse_1 : decode cX12_isHouse 1 = .ok (.i2l, 1) := by decide +kernel
theorem dX12_isHouse_2 : decode cX12_isHouse 2 = .ok (.lconst 0, 1) := by decide +kernel
theorem dX12_isHouse_3 : decode cX12_isHouse 3 = .ok (.aload_n 0, 1) := by decide +kernel
theorem dX12_isHouse_4 : decode cX12_isHouse 4 = .ok (.getfield 9, 3) := by decide +kernel
theorem dX12_isHouse_7 : decode cX12_isHouse 7 = .ok (.iconst 0, 1) := by decide +kernel
theorem dX12_isHouse_8 : decode cX12_isHouse 8 = .ok (.iaload, 1) := by decide +kernel
theorem dX12_isHouse_9 : decode cX12_isHouse 9 = .ok (.iconst 1, 1) := by decide +kernel
theorem dX12_isHouse_10 : decode cX12_isHouse 10 = .ok (.isub, 1) := by decide +kernel
theorem dX12_isHouse_11 : decode cX12_isHouse 11 = .ok (.i2l, 1) := by decide +kernel
theorem dX12_isHouse_12 : decode cX12_isHouse 12 = .ok (.invokestatic 106, 3) := by decide +kernel
theorem dX12_isHouse_15 : decode cX12_isHouse 15 = .ok (.ireturn, 1) := by decide +kernel
theorem dX12_isSet_0 : decode cX12_isSet 0 = .ok (.iload_n 1, 1) := by decide +kernel
theorem dX12_isSet_1 : decode cX12_isSet 1 = .ok (.ifCond .le 19, 3) := by decide +kernel
theorem dX12_isSet_4 : decode cX12_isSet 4 = .ok (.iload_n 1, 1) := by decide +kernel
theorem dX12_isSet_5 : decode cX12_isSet 5 = .ok (.iconst 1, 1) := by decide +kernel
theorem dX12_isSet_6 : decode cX12_isSet 6 = .ok (.aload_n 0, 1) := by decide +kernel
theorem dX12_isSet_7 : decode cX12_isSet 7 = .ok (.getfield 9, 3) := by decide +kernel
theorem dX12_isSet_10 : decode cX12_isSet 10 = .ok (.iconst 0, 1) := by decide +kernel
theorem dX12_isSet_11 : decode cX12_isSet 11 = .ok (.iaload, 1) := by decide +kernel
theorem dX12_isSet_12 : decode cX12_isSet 12 = .ok (.ishl, 1) := by decide +kernel
theorem dX12_isSet_13 : decode cX12_isSet 13 = .ok (.if_icmp .ge 7, 3) := by decide +kernel
theorem dX12_isSet_16 : decode cX12_isSet 16 = .ok (.iconst 1, 1) := by decide +kernel
theorem dX12_isSet_17 : decode cX12_isSet 17 = .ok (.goto 4, 3) := by decide +kernel
theorem dX12_isSet_20 : decode cX12_isSet 20 = .ok (.iconst 0, 1) := by decide +kernel
theorem dX12_isSet_21 : decode cX12_isSet 21 = .ok (.ireturn, 1) := by decide +kernel
theorem dX12_has_0 : decode cX12_has 0 = .ok (.iload_n 0, 1) := by decide +kernel
theorem dX12_has_1 : decode cX12_has 1 = .ok (.iload_n 1, 1) := by decide +kernel
theorem dX12_has_2 : decode cX12_has 2 = .ok (.ishr, 1) := by decide +kernel
theorem dX12_has_3 : decode cX12_has 3 = .ok (.iconst 1, 1) := by decide +kernel
theorem dX12_has_4 : decode cX12_has 4 = .ok (.iand, 1) := by decide +kernel
theorem dX12_has_5 : decode cX12_has 5 = .ok (.iconst 1, 1) := by decide +kernel
theorem dX12_has_6 : decode cX12_has 6 = .ok (.if_icmp .ne 7, 3) := by decide +kernel
theorem dX12_has_9 : decode cX12_has 9 = .ok (.iconst 1, 1) := by decide +kernel
theorem dX12_has_10 : decode cX12_has 10 = .ok (.goto 4, 3) := by decide +kernel
theorem dX12_has_13 : decode cX12_has 13 = .ok (.iconst 0, 1) := by decide +kernel
theorem dX12_has_14 : decode cX12_has 14 = .ok (.ireturn, 1) := by decide +kernel
theorem dX12_sizeOf_0 : decode cX12_sizeOf 0 = .ok (.iconst 0, 1) := by decide +kernel
theorem dX12_sizeOf_1 : decode cX12_sizeOf 1 = .ok (.istore_n 1, 1) := by decide +kernel
theorem dX12_sizeOf_2 : decode cX12_sizeOf 2 = .ok (.iconst 0, 1) := by decide +kernel
theorem dX12_sizeOf_3 : decode cX12_sizeOf 3 = .ok (.istore_n 2, 1) := by decide +kernel
theorem dX12_sizeOf_4 : decode cX12_sizeOf 4 = .ok (.iload_n 2, 1) := by decide +kernel
theorem dX12_sizeOf_5 : decode cX12_sizeOf 5 = .ok (.bipush 7, 2) := by decide +kernel
theorem dX12_sizeOf_7 : decode cX12_sizeOf 7 = .ok (.if_icmp .ge 17, 3) := by decide +kernel
theorem dX12_sizeOf_10 : decode cX12_sizeOf 10 = .ok (.iload_n 1, 1) := by decide +kernel
theorem dX12_sizeOf_11 : decode cX12_sizeOf 11 = .ok (.iload_n 0, 1) := by decide +kernel
theorem dX12_sizeOf_12 : decode cX12_sizeOf 12 = .ok (.iload_n 2, 1) := by decide +kernel
theorem dX12_sizeOf_13 : decode cX12_sizeOf 13 = .ok (.ishr, 1) := by decide +kernel
theorem dX12_sizeOf_14 : decode cX12_sizeOf 14 = .ok (.iconst 1, 1) := by decide +kernel
theorem dX12_sizeOf_15 : decode cX12_sizeOf 15 = .ok (.iand, 1) := by decide +kernel
theorem dX12_sizeOf_16 : decode cX12_sizeOf 16 = .ok (.iadd, 1) := by decide +kernel
theorem dX12_sizeOf_17 : decode cX12_sizeOf 17 = .ok (.istore_n 1, 1) := by decide +kernel
theorem dX12_sizeOf_18 : decode cX12_sizeOf 18 = .ok (.iinc 2 1, 3) := by decide +kernel
theorem dX12_sizeOf_21 : decode cX12_sizeOf 21 = .ok (.goto (-17), 3) := by decide +kernel
theorem dX12_sizeOf_24 : decode cX12_sizeOf 24 = .ok (.iload_n 1, 1) := by decide +kernel
theorem dX12_sizeOf_25 : decode cX12_sizeOf 25 = .ok (.ireturn, 1) := by decide +kernel
theorem dX12_stale_0 : decode cX12_stale 0 = .ok (.aload_n 0, 1) := by decide +kernel
theorem dX12_stale_1 : decode cX12_stale 1 = .ok (.iconst 0, 1) := by decide +kernel
theorem dX12_stale_2 : decode cX12_stale 2 = .ok (.putfield 110, 3) := by decide +kernel
theorem dX12_stale_5 : decode cX12_stale 5 = .ok (.iconst 0, 1) := by decide +kernel
theorem dX12_stale_6 : decode cX12_stale 6 = .ok (.istore_n 1, 1) := by decide +kernel
theorem dX12_stale_7 : decode cX12_stale 7 = .ok (.iload_n 1, 1) := by decide +kernel
theorem dX12_stale_8 : decode cX12_stale 8 = .ok (.aload_n 0, 1) := by decide +kernel
theorem dX12_stale_9 : decode cX12_stale 9 = .ok (.getfield 57, 3) := by decide +kernel
theorem dX12_stale_12 : decode cX12_stale 12 = .ok (.arraylength, 1) := by decide +kernel
theorem dX12_stale_13 : decode cX12_stale 13 = .ok (.if_icmp .ge 17, 3) := by decide +kernel
theorem dX12_stale_16 : decode cX12_stale 16 = .ok (.aload_n 0, 1) := by decide +kernel
theorem dX12_stale_17 : decode cX12_stale 17 = .ok (.getfield 57, 3) := by decide +kernel
theorem dX12_stale_20 : decode cX12_stale 20 = .ok (.iload_n 1, 1) := by decide +kernel
theorem dX12_stale_21 : decode cX12_stale 21 = .ok (.bipush (-2), 2) := by decide +kernel
theorem dX12_stale_23 : decode cX12_stale 23 = .ok (.iastore, 1) := by decide +kernel
theorem dX12_stale_24 : decode cX12_stale 24 = .ok (.iinc 1 1, 3) := by decide +kernel
theorem dX12_stale_27 : decode cX12_stale 27 = .ok (.goto (-20), 3) := by decide +kernel
theorem dX12_stale_30 : decode cX12_stale 30 = .ok (.return_, 1) := by decide +kernel
theorem dX12_becomes_0 : decode cX12_becomes 0 = .ok (.aload_n 0, 1) := by decide +kernel
theorem dX12_becomes_1 : decode cX12_becomes 1 = .ok (.getfield 9, 3) := by decide +kernel
theorem dX12_becomes_4 : decode cX12_becomes 4 = .ok (.iload_n 1, 1) := by decide +kernel
theorem dX12_becomes_5 : decode cX12_becomes 5 = .ok (.iaload, 1) := by decide +kernel
theorem dX12_becomes_6 : decode cX12_becomes 6 = .ok (.istore_n 3, 1) := by decide +kernel
theorem dX12_becomes_7 : decode cX12_becomes 7 = .ok (.aload_n 0, 1) := by decide +kernel
theorem dX12_becomes_8 : decode cX12_becomes 8 = .ok (.getfield 9, 3) := by decide +kernel
theorem dX12_becomes_11 : decode cX12_becomes 11 = .ok (.iload_n 1, 1) := by decide +kernel
theorem dX12_becomes_12 : decode cX12_becomes 12 = .ok (.iload_n 2, 1) := by decide +kernel
theorem dX12_becomes_13 : decode cX12_becomes 13 = .ok (.iastore, 1) := by decide +kernel
theorem dX12_becomes_14 : decode cX12_becomes 14 = .ok (.aload_n 0, 1) := by decide +kernel
theorem dX12_becomes_15 : decode cX12_becomes 15 = .ok (.invokevirtual 120, 3) := by decide +kernel
theorem dX12_becomes_18 : decode cX12_becomes 18 = .ok (.iload_n 3, 1) := by decide +kernel
theorem dX12_becomes_19 : decode cX12_becomes 19 = .ok (.ireturn, 1) := by decide +kernel
theorem dX12_trusts_0 : decode cX12_trusts 0 = .ok (.aload_n 0, 1) := by decide +kernel
theorem dX12_trusts_1 : decode cX12_trusts 1 = .ok (.getfield 9, 3) := by decide +kernel
theorem dX12_trusts_4 : decode cX12_trusts 4 = .ok (.bipush 99, 2) := by decide +kernel
theorem dX12_trusts_6 : decode cX12_trusts 6 = .ok (.bipush 7, 2) := by decide +kernel
theorem dX12_trusts_8 : decode cX12_trusts 8 = .ok (.iload_n 1, 1) := by decide +kernel
theorem dX12_trusts_9 : decode cX12_trusts 9 = .ok (.imul, 1) := by decide +kernel
theorem dX12_trusts_10 : decode cX12_trusts 10 = .ok (.iadd, 1) := by decide +kernel
theorem dX12_trusts_11 : decode cX12_trusts 11 = .ok (.iload_n 2, 1) := by decide +kernel
theorem dX12_trusts_12 : decode cX12_trusts 12 = .ok (.iadd, 1) := by decide +kernel
theorem dX12_trusts_13 : decode cX12_trusts 13 = .ok (.iaload, 1) := by decide +kernel
theorem dX12_trusts_14 : decode cX12_trusts 14 = .ok (.iconst 1, 1) := by decide +kernel
theorem dX12_trusts_15 : decode cX12_trusts 15 = .ok (.if_icmp .ne 7, 3) := by decide +kernel
theorem dX12_trusts_18 : decode cX12_trusts 18 = .ok (.iconst 1, 1) := by decide +kernel
theorem dX12_trusts_19 : decode cX12_trusts 19 = .ok (.goto 4, 3) := by decide +kernel
theorem dX12_trusts_22 : decode cX12_trusts 22 = .ok (.iconst 0, 1) := by decide +kernel
theorem dX12_trusts_23 : decode cX12_trusts 23 = .ok (.ireturn, 1) := by decide +kernel
def stM (M : aM) (m : Int) : aM := fun a i => if a = m ∧ i = 19 then 0 else if a = m + 15 ∧ 0 ≤ i ∧ i < 128 then -2 else M a i
theorem stM_a {M : aM} {m a i : Int} (h1 : a ≠ m ∨ i ≠ 19) (h2 : a ≠ m + 15) : stM M m a i = M a i := by
  unfold stM
  rw [if_neg (by omega), if_neg (by omega)]
theorem s_thrown {l : Launch} {E : aE} {N : Nat} {S : aS} {M : aM} (hfl : l.stackTraces = false) (m : Int) (hS : lyM S m) : aMt l E pX12_thrown [(2, m)] N S M (aR (0, M m 3) N S M) := by
  refine a_met hfl rfl (by decide +kernel) (Nat.le_of_ble_eq_true rfl) ?_
  refine x_aload_n (pc := 0) dX12_thrown_0 rfl rfl ?_
  refine x_getIV (jj := 3) (pc := 1) dX12_thrown_1 fX12_103 hS.1 rfl (by decide) rfl (by (repeat (first | rewrite [up_s] | rewrite [up_i (by omega)] | rewrite [up_a (by omega)] | rewrite [stM_a (by omega) (by omega)])); rfl) ?_
  refine x_ireturn (pc := 4) dX12_thrown_4 rfl (by decide) ?_
  exact ⟨rfl, rfl, rfl, rfl⟩
theorem s_fails {l : Launch} {E : aE} {N : Nat} {S : aS} {M : aM} (hfl : l.stackTraces = false) (m k : Int) (hS : lyM S m) : aMt l E pX12_fails [(2, m), (0, k)] N S M (aG N S (fun v M' => v = (0, 0) ∧ M' = up M m 3 k)) := by
  refine a_met hfl rfl (by decide +kernel) (Nat.le_of_ble_eq_true rfl) ?_
  refine x_aload_n (pc := 0) dX12_fails_0 rfl rfl ?_
  refine x_iload_n (pc := 1) dX12_fails_1 rfl rfl ?_
  refine x_putI (jj := 3) (pc := 2) dX12_fails_2 fX12_103 hS.1 rfl (by decide) rfl ?_
  refine x_iconst (pc := 5) dX12_fails_5 (by decide) ?_
  refine x_ireturn (pc := 6) dX12_fails_6 rfl (by decide) ?_
  exact ⟨_, rfl, rfl, rfl, rfl, rfl⟩
theorem s_fell {l : Launch} {E : aE} {N : Nat} {S : aS} {M : aM} (hfl : l.stackTraces = false) (m k : Int) (hS : lyM S m) : aMt l E pX12_fell [(2, m), (0, k)] N S M (aG N S (fun v M' => v = (0, 0) ∧ M' = up M m 3 k)) := by
  refine a_met hfl rfl (by decide +kernel) (Nat.le_of_ble_eq_true rfl) ?_
  refine x_aload_n (pc := 0) dX12_fell_0 rfl rfl ?_
  refine x_iload_n (pc := 1) dX12_fell_1 rfl rfl ?_
  refine x_putI (jj := 3) (pc := 2) dX12_fell_2 fX12_103 hS.1 rfl (by decide) rfl ?_
  refine x_iconst (pc := 5) dX12_fell_5 (by decide) ?_
  refine x_zreturn (pc := 6) dX12_fell_6 rfl (by omega) (by decide) ?_
  exact ⟨_, rfl, rfl, rfl, rfl, rfl⟩
theorem s_within {l : Launch} {E : aE} {N : Nat} {S : aS} {M : aM} (hfl : l.stackTraces = false) (v lo9 hi : Int) : aMt l E pX12_within [(1, v), (1, lo9), (1, hi)] N S M (aB (lo9 ≤ v ∧ v ≤ hi) N S M) := by
  refine a_met hfl rfl (by decide +kernel) (Nat.le_of_ble_eq_true rfl) ?_
  refine x_lload_n (pc := 0) dX12_within_0 rfl rfl ?_
  refine x_lload_n (pc := 1) dX12_within_1 rfl rfl ?_
  refine x_llt (tgt := 17) (pc := 2) dX12_within_2 dX12_within_3 (by decide) (fun c_2 => ?_) (fun c_2 => ?_)
  · refine x_iconst (pc := 17) dX12_within_17 (by decide) ?_
    refine x_zreturn (pc := 18) dX12_within_18 rfl (by omega) (by decide) ?_
    first | exact b_1 ⟨by omega, by omega⟩ | exact b_0 (by omega)
  · refine x_lload_n (pc := 6) dX12_within_6 rfl rfl ?_
    refine x_lload (pc := 7) dX12_within_7 rfl ?_
    refine x_lgt (tgt := 17) (pc := 9) dX12_within_9 dX12_within_10 (by decide) (fun c_9 => ?_) (fun c_9 => ?_)
    · refine x_iconst (pc := 17) dX12_within_17 (by decide) ?_
      refine x_zreturn (pc := 18) dX12_within_18 rfl (by omega) (by decide) ?_
      first | exact b_1 ⟨by omega, by omega⟩ | exact b_0 (by omega)
    · refine x_iconst (pc := 13) dX12_within_13 (by decide) ?_
      refine x_goto (tgt := 18) (pc := 14) dX12_within_14 (by decide) ?_
      refine x_zreturn (pc := 18) dX12_within_18 rfl (by omega) (by decide) ?_
      first | exact b_1 ⟨by omega, by omega⟩ | exact b_0 (by omega)
theorem s_isHouse {l : Launch} {E : aE} {N : Nat} {S : aS} {M : aM} (hfl : l.stackTraces = false) (m h : Int) (hS : lyM S m) (h0 : 0 ≤ M (m + 1) 0 ∧ M (m + 1) 0 ≤ 7) : aMt l E pX12_isHouse [(2, m), (0, h)] N S M (aB (0 ≤ h ∧ h < M (m + 1) 0) N S M) := by
  refine a_met hfl rfl (by decide +kernel) (Nat.le_of_ble_eq_true rfl) ?_
  refine x_iload_n (pc := 0) dX12_isHouse_0 rfl rfl ?_
  refine x_i2l (pc := 1) dX12_isHouse_1 ?_
  refine x_lconst0 (pc := 2) dX12_isHouse_2 ?_
  refine x_aload_n (pc := 3) dX12_isHouse_3 rfl rfl ?_
  refine x_getR (jj := 0) (pc := 4) dX12_isHouse_4 fX12_9 hS.1 rfl (by decide) rfl rM_0 ?_
  refine x_iconst (pc := 7) dX12_isHouse_7 (by decide) ?_
  refine x_ialoadV (pc := 8) dX12_isHouse_8 (sM_0 hS) (by omega) (by (repeat (first | rewrite [up_s] | rewrite [up_i (by omega)] | rewrite [up_a (by omega)] | rewrite [stM_a (by omega) (by omega)])); rfl) (fun g_8 => ?_)
  refine x_iconst (pc := 9) dX12_isHouse_9 (by decide) ?_
  refine x_isub (pc := 10) dX12_isHouse_10 (by omega) ?_
  refine x_i2l (pc := 11) dX12_isHouse_11 ?_
  refine x_callS3 (pc := 12) dX12_isHouse_12 rfl kX12_106 (s_within hfl _ _ _) rfl (Nat.le_of_ble_eq_true rfl) (k_B (fun q_12 => ?_) (fun q_12 => ?_)) n_B
  · refine x_zreturn (pc := 15) dX12_isHouse_15 rfl (by omega) (by decide) ?_
    first | exact b_1 (by omega) | exact b_0 (by omega)
  · refine x_zreturn (pc := 15) dX12_isHouse_15 rfl (by omega) (by decide) ?_
    first | exact b_1 (by omega) | exact b_0 (by omega)
theorem s_isSet {l : Launch} {E : aE} {N : Nat} {S : aS} {M : aM} (hfl : l.stackTraces = false) (m s : Int) (hS : lyM S m) : aMt l E pX12_isSet [(2, m), (0, s)] N S M (aB (0 < s ∧ s < b_shl 1 (M (m + 1) 0)) N S M) := by
  refine a_met hfl rfl (by decide +kernel) (Nat.le_of_ble_eq_true rfl) ?_
  refine x_iload_n (pc := 0) dX12_isSet_0 rfl rfl ?_
  refine x_if_le (tgt := 20) (pc := 1) dX12_isSet_1 (by decide) (fun c_1 => ?_) (fun c_1 => ?_)
  · refine x_iconst (pc := 20) dX12_isSet_20 (by decide) ?_
    refine x_zreturn (pc := 21) dX12_isSet_21 rfl (by omega) (by decide) ?_
    first | exact b_1 (by omega) | exact b_0 (by omega)
  · refine x_iload_n (pc := 4) dX12_isSet_4 rfl rfl ?_
    refine x_iconst (pc := 5) dX12_isSet_5 (by decide) ?_
    refine x_aload_n (pc := 6) dX12_isSet_6 rfl rfl ?_
    refine x_getR (jj := 0) (pc := 7) dX12_isSet_7 fX12_9 hS.1 rfl (by decide) rfl rM_0 ?_
    refine x_iconst (pc := 10) dX12_isSet_10 (by decide) ?_
    refine x_ialoadV (pc := 11) dX12_isSet_11 (sM_0 hS) (by omega) (by (repeat (first | rewrite [up_s] | rewrite [up_i (by omega)] | rewrite [up_a (by omega)] | rewrite [stM_a (by omega) (by omega)])); rfl) (fun g_11 => ?_)
    refine x_ishl (pc := 12) dX12_isSet_12 ?_
    refine x_icmp_ge (tgt := 20) (pc := 13) dX12_isSet_13 (by decide) (fun c_13 => ?_) (fun c_13 => ?_)
    · refine x_iconst (pc := 20) dX12_isSet_20 (by decide) ?_
      refine x_zreturn (pc := 21) dX12_isSet_21 rfl (by omega) (by decide) ?_
      first | exact b_1 (by omega) | exact b_0 (by omega)
    · refine x_iconst (pc := 16) dX12_isSet_16 (by decide) ?_
      refine x_goto (tgt := 21) (pc := 17) dX12_isSet_17 (by decide) ?_
      refine x_zreturn (pc := 21) dX12_isSet_21 rfl (by omega) (by decide) ?_
      first | exact b_1 (by omega) | exact b_0 (by omega)
theorem s_hasM {l : Launch} {E : aE} {N : Nat} {S : aS} {M : aM} (hfl : l.stackTraces = false) (s h : Int) : aMt l E pX12_has [(0, s), (0, h)] N S M (aB (hb s h = 1) N S M) := by
  refine a_met hfl rfl (by decide +kernel) (Nat.le_of_ble_eq_true rfl) ?_
  refine x_iload_n (pc := 0) dX12_has_0 rfl rfl ?_
  refine x_iload_n (pc := 1) dX12_has_1 rfl rfl ?_
  refine x_ishr (pc := 2) dX12_has_2 ?_
  refine x_iconst (pc := 3) dX12_has_3 (by decide) ?_
  refine x_iand (pc := 4) dX12_has_4 ?_
  refine x_iconst (pc := 5) dX12_has_5 (by decide) ?_
  refine x_icmp_ne (tgt := 13) (pc := 6) dX12_has_6 (by decide) (fun c_6 => ?_) (fun c_6 => ?_)
  · refine x_iconst (pc := 13) dX12_has_13 (by decide) ?_
    refine x_zreturn (pc := 14) dX12_has_14 rfl (by omega) (by decide) ?_
    unfold hb at *
    first | exact b_1 (by assumption) | exact b_0 (by assumption)
  · refine x_iconst (pc := 9) dX12_has_9 (by decide) ?_
    refine x_goto (tgt := 14) (pc := 10) dX12_has_10 (by decide) ?_
    refine x_zreturn (pc := 14) dX12_has_14 rfl (by omega) (by decide) ?_
    unfold hb at *
    first | exact b_1 (by assumption) | exact b_0 (by assumption)
theorem s_sizeOf {l : Launch} {E : aE} {N : Nat} {S : aS} {M : aM} (hfl : l.stackTraces = false) (s : Int) (hs : 0 ≤ s ∧ s < 128) : aMt l E pX12_sizeOf [(0, s)] N S M (aR (0, sumN (hb s) 7) N S M) := by
  refine a_met hfl rfl (by decide +kernel) (Nat.le_of_ble_eq_true rfl) ?_
  have loop := a_loop1 (fun i => 0 ≤ i ∧ i ≤ 7) (fun i => (7 - i).toNat) (fun i => aX l E pX12_sizeOf (aR (0, sumN (hb s) 7) N S M) 0 0 N S M 4 [(0, (0, s)), (1, (0, sumN (hb s) i.toNat)), (2, (0, i))] []) (by
    intro i hI ih
    have hb9 := sumN_le (f := hb s) (c := 1) (n := i.toNat) (fun j j0 j1 => by have := hb01 hs (h := j) ⟨j0, by omega⟩; omega)
    have hc9 := fun (q : i < 7) => hb01 hs (h := i) ⟨hI.1, q⟩
    unfold hb at hc9 hb9
    refine x_iload_n (pc := 4) dX12_sizeOf_4 rfl rfl ?_
    refine x_bipush (pc := 5) dX12_sizeOf_5 (by decide) ?_
    refine x_icmp_ge (tgt := 24) (pc := 7) dX12_sizeOf_7 (by decide) (fun c_7 => ?_) (fun c_7 => ?_)
    · refine x_iload_n (pc := 24) dX12_sizeOf_24 rfl rfl ?_
      refine x_ireturn (pc := 25) dX12_sizeOf_25 rfl (by decide) ?_
      refine ⟨?_, rfl, rfl, rfl⟩
      rw [show (7 : Nat) = i.toNat by omega]
    · refine x_iload_n (pc := 10) dX12_sizeOf_10 rfl rfl ?_
      refine x_iload_n (pc := 11) dX12_sizeOf_11 rfl rfl ?_
      refine x_iload_n (pc := 12) dX12_sizeOf_12 rfl rfl ?_
      refine x_ishr (pc := 13) dX12_sizeOf_13 ?_
      refine x_iconst (pc := 14) dX12_sizeOf_14 (by decide) ?_
      refine x_iand (pc := 15) dX12_sizeOf_15 ?_
      refine x_iadd (pc := 16) dX12_sizeOf_16 (by have := hc9 (by omega); unfold hb; omega) ?_
      refine x_istore_n (pc := 17) dX12_sizeOf_17 rfl (by decide) rfl ?_
      refine x_iinc (pc := 18) dX12_sizeOf_18 rfl (by omega) (by decide) rfl ?_
      refine x_goto (tgt := 4) (pc := 21) dX12_sizeOf_21 (by decide) ?_
      have e := sumN_1 (hb s) hI.1
      refine x_lo (lo' := [(0, (0, s)), (1, (0, sumN (hb s) i.toNat + hb s i)), (2, (0, i + 1))]) ⟨rfl, rfl, rfl, trivial⟩ ?_
      have z := ih (i + 1) ⟨by omega, by omega⟩ (by omega)
      rw [e] at z
      exact z)
  refine x_iconst (pc := 0) dX12_sizeOf_0 (by decide) ?_
  refine x_istore_n (pc := 1) dX12_sizeOf_1 rfl (by decide) rfl ?_
  refine x_iconst (pc := 2) dX12_sizeOf_2 (by decide) ?_
  refine x_istore_n (pc := 3) dX12_sizeOf_3 rfl (by decide) rfl ?_
  exact x_lo (lo' := [(0, (0, s)), (1, (0, 0)), (2, (0, 0))]) ⟨rfl, rfl, rfl, trivial⟩ (loop 0 ⟨by omega, by omega⟩)
theorem s_stale {l : Launch} {E : aE} {N : Nat} {S : aS} {M : aM} (hfl : l.stackTraces = false) (m : Int) (hS : lyM S m) : aMt l E pX12_stale [(2, m)] N S M (aU N S (fun M' => M' = stM M m)) := by
  refine a_met hfl rfl (by decide +kernel) (Nat.le_of_ble_eq_true rfl) ?_
  have loop := a_loop2 (fun i M1 => 0 ≤ i ∧ i ≤ 128 ∧ M1 = fun a j => if a = m ∧ j = 19 then 0 else if a = m + 15 ∧ 0 ≤ j ∧ j < i then -2 else M a j) (fun i _ => (128 - i).toNat) (fun i M1 => aX l E pX12_stale (aU N S (fun M' => M' = stM M m)) 0 0 N S M1 7 [(0, (2, m)), (1, (0, i))] []) (by
    intro i M1 hI ih
    obtain ⟨h0, h1, hI⟩ := hI
    refine x_iload_n (pc := 7) dX12_stale_7 rfl rfl ?_
    refine x_aload_n (pc := 8) dX12_stale_8 rfl rfl ?_
    refine x_getR (jj := 27) (pc := 9) dX12_stale_9 fX12_57 hS.1 rfl (by decide) rfl rM_27 ?_
    refine x_alen (pc := 12) dX12_stale_12 (sM_27 hS) (by decide) (by decide) ?_
    refine x_icmp_ge (tgt := 30) (pc := 13) dX12_stale_13 (by decide) (fun c_13 => ?_) (fun c_13 => ?_)
    · refine x_return (pc := 30) dX12_stale_30 rfl (by decide) ?_
      refine ⟨rfl, rfl, rfl, ?_⟩
      rw [hI]
      unfold stM
      funext a j
      rw [show i = 128 by omega]
    · refine x_aload_n (pc := 16) dX12_stale_16 rfl rfl ?_
      refine x_getR (jj := 27) (pc := 17) dX12_stale_17 fX12_57 hS.1 rfl (by decide) rfl rM_27 ?_
      refine x_iload_n (pc := 20) dX12_stale_20 rfl rfl ?_
      refine x_bipush (pc := 21) dX12_stale_21 (by decide) ?_
      refine x_iastore (pc := 23) dX12_stale_23 (sM_27 hS) (by omega) ?_
      refine x_iinc (pc := 24) dX12_stale_24 rfl (by omega) (by decide) rfl ?_
      refine x_goto (tgt := 7) (pc := 27) dX12_stale_27 (by decide) ?_
      refine x_lo (lo' := [(0, (2, m)), (1, (0, i + 1))]) ⟨rfl, rfl, trivial⟩ (ih (i + 1) _ ⟨by omega, by omega, ?_⟩ (by omega))
      rw [hI]
      funext a j
      unfold up
      dsimp only
      by_cases e1 : a = m + 15 ∧ j = i
      · rw [if_pos e1, if_neg (by omega), if_pos (by omega)]
      · rw [if_neg e1]
        by_cases e2 : a = m ∧ j = 19
        · rw [if_pos e2, if_pos e2]
        · rw [if_neg e2, if_neg e2]
          by_cases e3 : a = m + 15 ∧ 0 ≤ j ∧ j < i
          · rw [if_pos e3, if_pos (by omega)]
          · rw [if_neg e3, if_neg (by omega)])
  refine x_aload_n (pc := 0) dX12_stale_0 rfl rfl ?_
  refine x_iconst (pc := 1) dX12_stale_1 (by decide) ?_
  refine x_putZ (jj := 19) (pc := 2) dX12_stale_2 fX12_110 hS.1 rfl (by decide) rfl (by omega) ?_
  refine x_iconst (pc := 5) dX12_stale_5 (by decide) ?_
  refine x_istore_n (pc := 6) dX12_stale_6 rfl (by decide) rfl ?_
  refine x_lo (lo' := [(0, (2, m)), (1, (0, 0))]) ⟨rfl, rfl, trivial⟩ (loop 0 _ ⟨by omega, by omega, ?_⟩)
  funext a j
  unfold up
  by_cases e2 : a = m ∧ j = 19
  · rw [if_pos e2, if_pos e2]
  · rw [if_neg e2, if_neg e2, if_neg (by omega)]
theorem s_becomes {l : Launch} {E : aE} {N : Nat} {S : aS} {M : aM} (hfl : l.stackTraces = false) (m i v : Int) (hS : lyM S m) (hi : 0 ≤ i ∧ i < 253) : aMt l E pX12_becomes [(2, m), (0, i), (0, v)] N S M (aG N S (fun u M' => u = (0, M (m + 1) i) ∧ M' = stM (up M (m + 1) i v) m)) := by
  refine a_met hfl rfl (by decide +kernel) (Nat.le_of_ble_eq_true rfl) ?_
  refine x_aload_n (pc := 0) dX12_becomes_0 rfl rfl ?_
  refine x_getR (jj := 0) (pc := 1) dX12_becomes_1 fX12_9 hS.1 rfl (by decide) rfl rM_0 ?_
  refine x_iload_n (pc := 4) dX12_becomes_4 rfl rfl ?_
  refine x_ialoadV (pc := 5) dX12_becomes_5 (sM_0 hS) (by omega) (by (repeat (first | rewrite [up_s] | rewrite [up_i (by omega)] | rewrite [up_a (by omega)] | rewrite [stM_a (by omega) (by omega)])); rfl) (fun g_5 => ?_)
  refine x_istore_n (pc := 6) dX12_becomes_6 rfl (by decide) rfl ?_
  refine x_aload_n (pc := 7) dX12_becomes_7 rfl rfl ?_
  refine x_getR (jj := 0) (pc := 8) dX12_becomes_8 fX12_9 hS.1 rfl (by decide) rfl rM_0 ?_
  refine x_iload_n (pc := 11) dX12_becomes_11 rfl rfl ?_
  refine x_iload_n (pc := 12) dX12_becomes_12 rfl rfl ?_
  refine x_iastore (pc := 13) dX12_becomes_13 (sM_0 hS) (by omega) ?_
  refine x_aload_n (pc := 14) dX12_becomes_14 rfl rfl ?_
  refine x_callV0 (pc := 15) dX12_becomes_15 rfl kX12_120 (s_stale hfl m hS) hS.1 rfl rfl (Nat.le_of_ble_eq_true rfl) (k_U (fun M9 hM9 => ?_)) n_U
  subst hM9
  refine x_iload_n (pc := 18) dX12_becomes_18 rfl rfl ?_
  refine x_ireturn (pc := 19) dX12_becomes_19 rfl (by decide) ?_
  exact ⟨_, rfl, rfl, rfl, rfl, rfl⟩
theorem s_trusts {l : Launch} {E : aE} {N : Nat} {S : aS} {M : aM} (hfl : l.stackTraces = false) (m a b : Int) (hS : lyM S m) (ha : 0 ≤ a ∧ a < 7) (hb9 : 0 ≤ b ∧ b < 7) : aMt l E pX12_trusts [(2, m), (0, a), (0, b)] N S M (aB (M (m + 1) (99 + 7 * a + b) = 1) N S M) := by
  refine a_met hfl rfl (by decide +kernel) (Nat.le_of_ble_eq_true rfl) ?_
  refine x_aload_n (pc := 0) dX12_trusts_0 rfl rfl ?_
  refine x_getR (jj := 0) (pc := 1) dX12_trusts_1 fX12_9 hS.1 rfl (by decide) rfl rM_0 ?_
  refine x_bipush (pc := 4) dX12_trusts_4 (by decide) ?_
  refine x_bipush (pc := 6) dX12_trusts_6 (by decide) ?_
  refine x_iload_n (pc := 8) dX12_trusts_8 rfl rfl ?_
  refine x_imul (pc := 9) dX12_trusts_9 (by omega) ?_
  refine x_iadd (pc := 10) dX12_trusts_10 (by omega) ?_
  refine x_iload_n (pc := 11) dX12_trusts_11 rfl rfl ?_
  refine x_iadd (pc := 12) dX12_trusts_12 (by omega) ?_
  refine x_ialoadV (pc := 13) dX12_trusts_13 (sM_0 hS) (by omega) (by (repeat (first | rewrite [up_s] | rewrite [up_i (by omega)] | rewrite [up_a (by omega)] | rewrite [stM_a (by omega) (by omega)])); rfl) (fun g_13 => ?_)
  refine x_iconst (pc := 14) dX12_trusts_14 (by decide) ?_
  refine x_icmp_ne (tgt := 22) (pc := 15) dX12_trusts_15 (by decide) (fun c_15 => ?_) (fun c_15 => ?_)
  · refine x_iconst (pc := 22) dX12_trusts_22 (by decide) ?_
    refine x_zreturn (pc := 23) dX12_trusts_23 rfl (by omega) (by decide) ?_
    first | exact b_1 (by assumption) | exact b_0 (by assumption)
  · refine x_iconst (pc := 18) dX12_trusts_18 (by decide) ?_
    refine x_goto (tgt := 23) (pc := 19) dX12_trusts_19 (by decide) ?_
    refine x_zreturn (pc := 23) dX12_trusts_23 rfl (by omega) (by decide) ?_
    first | exact b_1 (by assumption) | exact b_0 (by assumption)
