/-! allocation: what the tables say (by program: wip/whole/gen.py words4) -/
theorem ftX0 : ∀ j, j < 4 → defaultValue (tyX0 j) = a_dv (a_FT 0 j) := fun j hj => match j, hj with
  | 0, _ => rfl
  | 1, _ => rfl
  | 2, _ => rfl
  | 3, _ => rfl
  | j + 4, hj => absurd hj (by omega)
theorem ftX1 : ∀ j, j < 6 → defaultValue (tyX1 j) = a_dv (a_FT 1 j) := fun j hj => match j, hj with
  | 0, _ => rfl
  | 1, _ => rfl
  | 2, _ => rfl
  | 3, _ => rfl
  | 4, _ => rfl
  | 5, _ => rfl
  | j + 6, hj => absurd hj (by omega)
theorem ftX2 : ∀ j, j < 12 → defaultValue (tyX2 j) = a_dv (a_FT 2 j) := fun j hj => match j, hj with
  | 0, _ => rfl
  | 1, _ => rfl
  | 2, _ => rfl
  | 3, _ => rfl
  | 4, _ => rfl
  | 5, _ => rfl
  | 6, _ => rfl
  | 7, _ => rfl
  | 8, _ => rfl
  | 9, _ => rfl
  | 10, _ => rfl
  | 11, _ => rfl
  | j + 12, hj => absurd hj (by omega)
theorem ftX3 : ∀ j, j < 6 → defaultValue (tyX3 j) = a_dv (a_FT 3 j) := fun j hj => match j, hj with
  | 0, _ => rfl
  | 1, _ => rfl
  | 2, _ => rfl
  | 3, _ => rfl
  | 4, _ => rfl
  | 5, _ => rfl
  | j + 6, hj => absurd hj (by omega)
theorem ftX4 : ∀ j, j < 6 → defaultValue (tyX4 j) = a_dv (a_FT 4 j) := fun j hj => match j, hj with
  | 0, _ => rfl
  | 1, _ => rfl
  | 2, _ => rfl
  | 3, _ => rfl
  | 4, _ => rfl
  | 5, _ => rfl
  | j + 6, hj => absurd hj (by omega)
theorem ftX5 : ∀ j, j < 11 → defaultValue (tyX5 j) = a_dv (a_FT 5 j) := fun j hj => match j, hj with
  | 0, _ => rfl
  | 1, _ => rfl
  | 2, _ => rfl
  | 3, _ => rfl
  | 4, _ => rfl
  | 5, _ => rfl
  | 6, _ => rfl
  | 7, _ => rfl
  | 8, _ => rfl
  | 9, _ => rfl
  | 10, _ => rfl
  | j + 11, hj => absurd hj (by omega)
theorem ftX6 : ∀ j, j < 12 → defaultValue (tyX6 j) = a_dv (a_FT 6 j) := fun j hj => match j, hj with
  | 0, _ => rfl
  | 1, _ => rfl
  | 2, _ => rfl
  | 3, _ => rfl
  | 4, _ => rfl
  | 5, _ => rfl
  | 6, _ => rfl
  | 7, _ => rfl
  | 8, _ => rfl
  | 9, _ => rfl
  | 10, _ => rfl
  | 11, _ => rfl
  | j + 12, hj => absurd hj (by omega)
theorem ftX7 : ∀ j, j < 11 → defaultValue (tyX7 j) = a_dv (a_FT 7 j) := fun j hj => match j, hj with
  | 0, _ => rfl
  | 1, _ => rfl
  | 2, _ => rfl
  | 3, _ => rfl
  | 4, _ => rfl
  | 5, _ => rfl
  | 6, _ => rfl
  | 7, _ => rfl
  | 8, _ => rfl
  | 9, _ => rfl
  | 10, _ => rfl
  | j + 11, hj => absurd hj (by omega)
theorem ftX8 : ∀ j, j < 13 → defaultValue (tyX8 j) = a_dv (a_FT 8 j) := fun j hj => match j, hj with
  | 0, _ => rfl
  | 1, _ => rfl
  | 2, _ => rfl
  | 3, _ => rfl
  | 4, _ => rfl
  | 5, _ => rfl
  | 6, _ => rfl
  | 7, _ => rfl
  | 8, _ => rfl
  | 9, _ => rfl
  | 10, _ => rfl
  | 11, _ => rfl
  | 12, _ => rfl
  | j + 13, hj => absurd hj (by omega)
theorem ftX9 : ∀ j, j < 4 → defaultValue (tyX9 j) = a_dv (a_FT 9 j) := fun j hj => match j, hj with
  | 0, _ => rfl
  | 1, _ => rfl
  | 2, _ => rfl
  | 3, _ => rfl
  | j + 4, hj => absurd hj (by omega)
theorem ftX11 : ∀ j, j < 12 → defaultValue (tyX11 j) = a_dv (a_FT 10 j) := fun j hj => match j, hj with
  | 0, _ => rfl
  | 1, _ => rfl
  | 2, _ => rfl
  | 3, _ => rfl
  | 4, _ => rfl
  | 5, _ => rfl
  | 6, _ => rfl
  | 7, _ => rfl
  | 8, _ => rfl
  | 9, _ => rfl
  | 10, _ => rfl
  | 11, _ => rfl
  | j + 12, hj => absurd hj (by omega)
theorem ftX12 : ∀ j, j < 52 → defaultValue (tyX12 j) = a_dv (a_FT 11 j) := fun j hj => match j, hj with
  | 0, _ => rfl
  | 1, _ => rfl
  | 2, _ => rfl
  | 3, _ => rfl
  | 4, _ => rfl
  | 5, _ => rfl
  | 6, _ => rfl
  | 7, _ => rfl
  | 8, _ => rfl
  | 9, _ => rfl
  | 10, _ => rfl
  | 11, _ => rfl
  | 12, _ => rfl
  | 13, _ => rfl
  | 14, _ => rfl
  | 15, _ => rfl
  | 16, _ => rfl
  | 17, _ => rfl
  | 18, _ => rfl
  | 19, _ => rfl
  | 20, _ => rfl
  | 21, _ => rfl
  | 22, _ => rfl
  | 23, _ => rfl
  | 24, _ => rfl
  | 25, _ => rfl
  | 26, _ => rfl
  | 27, _ => rfl
  | 28, _ => rfl
  | 29, _ => rfl
  | 30, _ => rfl
  | 31, _ => rfl
  | 32, _ => rfl
  | 33, _ => rfl
  | 34, _ => rfl
  | 35, _ => rfl
  | 36, _ => rfl
  | 37, _ => rfl
  | 38, _ => rfl
  | 39, _ => rfl
  | 40, _ => rfl
  | 41, _ => rfl
  | 42, _ => rfl
  | 43, _ => rfl
  | 44, _ => rfl
  | 45, _ => rfl
  | 46, _ => rfl
  | 47, _ => rfl
  | 48, _ => rfl
  | 49, _ => rfl
  | 50, _ => rfl
  | 51, _ => rfl
  | j + 52, hj => absurd hj (by omega)
theorem nwX5_19 : a_nw RX5 19 8 13 := ⟨RX8, TX8, tyX8, klX8, (lw_ok_in (List.mem_of_getElem? (i := 285) (by decide +kernel)) rfl), (lw_ok_in (List.mem_of_getElem? (i := 154) (by decide +kernel)) rfl), (lw_ok_in (List.mem_of_getElem? (i := 112) (by decide +kernel)) rfl), ftX8⟩
theorem nwX6_9 : a_nw RX6 9 8 13 := ⟨RX8, TX8, tyX8, klX8, (lw_ok_in (List.mem_of_getElem? (i := 497) (by decide +kernel)) rfl), (lw_ok_in (List.mem_of_getElem? (i := 154) (by decide +kernel)) rfl), (lw_ok_in (List.mem_of_getElem? (i := 112) (by decide +kernel)) rfl), ftX8⟩
theorem nwX6_22 : a_nw RX6 22 4 6 := ⟨RX4, TX4, tyX4, klX4, (lw_ok_in (List.mem_of_getElem? (i := 499) (by decide +kernel)) rfl), (lw_ok_in (List.mem_of_getElem? (i := 328) (by decide +kernel)) rfl), (lw_ok_in (List.mem_of_getElem? (i := 114) (by decide +kernel)) rfl), ftX4⟩
theorem nwX6_31 : a_nw RX6 31 3 6 := ⟨RX3, TX3, tyX3, klX3, (lw_ok_in (List.mem_of_getElem? (i := 501) (by decide +kernel)) rfl), (lw_ok_in (List.mem_of_getElem? (i := 356) (by decide +kernel)) rfl), (lw_ok_in (List.mem_of_getElem? (i := 115) (by decide +kernel)) rfl), ftX3⟩
theorem nwX6_40 : a_nw RX6 40 1 6 := ⟨RX1, TX1, tyX1, klX1, (lw_ok_in (List.mem_of_getElem? (i := 503) (by decide +kernel)) rfl), (lw_ok_in (List.mem_of_getElem? (i := 385) (by decide +kernel)) rfl), (lw_ok_in (List.mem_of_getElem? (i := 117) (by decide +kernel)) rfl), ftX1⟩
theorem nwX7_9 : a_nw RX7 9 8 13 := ⟨RX8, TX8, tyX8, klX8, (lw_ok_in (List.mem_of_getElem? (i := 153) (by decide +kernel)) rfl), (lw_ok_in (List.mem_of_getElem? (i := 154) (by decide +kernel)) rfl), (lw_ok_in (List.mem_of_getElem? (i := 112) (by decide +kernel)) rfl), ftX8⟩
theorem nwX11_7 : a_nw RX11 7 7 11 := ⟨RX7, TX7, tyX7, klX7, (lw_ok_in (List.mem_of_getElem? (i := 147) (by decide +kernel)) rfl), (lw_ok_in (List.mem_of_getElem? (i := 148) (by decide +kernel)) rfl), (lw_ok_in (List.mem_of_getElem? (i := 111) (by decide +kernel)) rfl), ftX7⟩
theorem nwX11_20 : a_nw RX11 20 5 11 := ⟨RX5, TX5, tyX5, klX5, (lw_ok_in (List.mem_of_getElem? (i := 279) (by decide +kernel)) rfl), (lw_ok_in (List.mem_of_getElem? (i := 280) (by decide +kernel)) rfl), (lw_ok_in (List.mem_of_getElem? (i := 113) (by decide +kernel)) rfl), ftX5⟩
theorem nwX11_27 : a_nw RX11 27 4 6 := ⟨RX4, TX4, tyX4, klX4, (lw_ok_in (List.mem_of_getElem? (i := 327) (by decide +kernel)) rfl), (lw_ok_in (List.mem_of_getElem? (i := 328) (by decide +kernel)) rfl), (lw_ok_in (List.mem_of_getElem? (i := 114) (by decide +kernel)) rfl), ftX4⟩
theorem nwX11_40 : a_nw RX11 40 3 6 := ⟨RX3, TX3, tyX3, klX3, (lw_ok_in (List.mem_of_getElem? (i := 355) (by decide +kernel)) rfl), (lw_ok_in (List.mem_of_getElem? (i := 356) (by decide +kernel)) rfl), (lw_ok_in (List.mem_of_getElem? (i := 115) (by decide +kernel)) rfl), ftX3⟩
theorem nwX11_49 : a_nw RX11 49 1 6 := ⟨RX1, TX1, tyX1, klX1, (lw_ok_in (List.mem_of_getElem? (i := 384) (by decide +kernel)) rfl), (lw_ok_in (List.mem_of_getElem? (i := 385) (by decide +kernel)) rfl), (lw_ok_in (List.mem_of_getElem? (i := 117) (by decide +kernel)) rfl), ftX1⟩
theorem nwX11_58 : a_nw RX11 58 2 12 := ⟨RX2, TX2, tyX2, klX2, (lw_ok_in (List.mem_of_getElem? (i := 422) (by decide +kernel)) rfl), (lw_ok_in (List.mem_of_getElem? (i := 423) (by decide +kernel)) rfl), (lw_ok_in (List.mem_of_getElem? (i := 119) (by decide +kernel)) rfl), ftX2⟩
theorem nwX11_67 : a_nw RX11 67 0 4 := ⟨RX0, TX0, tyX0, klX0, (lw_ok_in (List.mem_of_getElem? (i := 471) (by decide +kernel)) rfl), (lw_ok_in (List.mem_of_getElem? (i := 472) (by decide +kernel)) rfl), (lw_ok_in (List.mem_of_getElem? (i := 120) (by decide +kernel)) rfl), ftX0⟩
theorem nwX11_76 : a_nw RX11 76 6 12 := ⟨RX6, TX6, tyX6, klX6, (lw_ok_in (List.mem_of_getElem? (i := 491) (by decide +kernel)) rfl), (lw_ok_in (List.mem_of_getElem? (i := 492) (by decide +kernel)) rfl), (lw_ok_in (List.mem_of_getElem? (i := 121) (by decide +kernel)) rfl), ftX6⟩
theorem nwX11_83 : a_nw RX11 83 9 4 := ⟨RX9, TX9, tyX9, klX9, (lw_ok_in (List.mem_of_getElem? (i := 546) (by decide +kernel)) rfl), (lw_ok_in (List.mem_of_getElem? (i := 547) (by decide +kernel)) rfl), (lw_ok_in (List.mem_of_getElem? (i := 122) (by decide +kernel)) rfl), ftX9⟩
theorem obX11_1 : a_ob RX11 1 := ⟨(lw_ok_in (List.mem_of_getElem? (i := 144) (by decide +kernel)) rfl), (lw_ok_in (List.mem_of_getElem? (i := 145) (by decide +kernel)) rfl), (lw_ok_in (List.mem_of_getElem? (i := 146) (by decide +kernel)) rfl)⟩
theorem obX0_3 : a_ob RX0 3 := ⟨(lw_ok_in (List.mem_of_getElem? (i := 476) (by decide +kernel)) rfl), (lw_ok_in (List.mem_of_getElem? (i := 145) (by decide +kernel)) rfl), (lw_ok_in (List.mem_of_getElem? (i := 146) (by decide +kernel)) rfl)⟩
theorem obX1_5 : a_ob RX1 5 := ⟨(lw_ok_in (List.mem_of_getElem? (i := 389) (by decide +kernel)) rfl), (lw_ok_in (List.mem_of_getElem? (i := 145) (by decide +kernel)) rfl), (lw_ok_in (List.mem_of_getElem? (i := 146) (by decide +kernel)) rfl)⟩
theorem obX2_3 : a_ob RX2 3 := ⟨(lw_ok_in (List.mem_of_getElem? (i := 427) (by decide +kernel)) rfl), (lw_ok_in (List.mem_of_getElem? (i := 145) (by decide +kernel)) rfl), (lw_ok_in (List.mem_of_getElem? (i := 146) (by decide +kernel)) rfl)⟩
theorem obX3_3 : a_ob RX3 3 := ⟨(lw_ok_in (List.mem_of_getElem? (i := 360) (by decide +kernel)) rfl), (lw_ok_in (List.mem_of_getElem? (i := 145) (by decide +kernel)) rfl), (lw_ok_in (List.mem_of_getElem? (i := 146) (by decide +kernel)) rfl)⟩
theorem obX4_3 : a_ob RX4 3 := ⟨(lw_ok_in (List.mem_of_getElem? (i := 332) (by decide +kernel)) rfl), (lw_ok_in (List.mem_of_getElem? (i := 145) (by decide +kernel)) rfl), (lw_ok_in (List.mem_of_getElem? (i := 146) (by decide +kernel)) rfl)⟩
theorem obX5_3 : a_ob RX5 3 := ⟨(lw_ok_in (List.mem_of_getElem? (i := 284) (by decide +kernel)) rfl), (lw_ok_in (List.mem_of_getElem? (i := 145) (by decide +kernel)) rfl), (lw_ok_in (List.mem_of_getElem? (i := 146) (by decide +kernel)) rfl)⟩
theorem obX6_3 : a_ob RX6 3 := ⟨(lw_ok_in (List.mem_of_getElem? (i := 496) (by decide +kernel)) rfl), (lw_ok_in (List.mem_of_getElem? (i := 145) (by decide +kernel)) rfl), (lw_ok_in (List.mem_of_getElem? (i := 146) (by decide +kernel)) rfl)⟩
theorem obX7_3 : a_ob RX7 3 := ⟨(lw_ok_in (List.mem_of_getElem? (i := 152) (by decide +kernel)) rfl), (lw_ok_in (List.mem_of_getElem? (i := 145) (by decide +kernel)) rfl), (lw_ok_in (List.mem_of_getElem? (i := 146) (by decide +kernel)) rfl)⟩
theorem obX8_3 : a_ob RX8 3 := ⟨(lw_ok_in (List.mem_of_getElem? (i := 158) (by decide +kernel)) rfl), (lw_ok_in (List.mem_of_getElem? (i := 145) (by decide +kernel)) rfl), (lw_ok_in (List.mem_of_getElem? (i := 146) (by decide +kernel)) rfl)⟩
theorem obX9_3 : a_ob RX9 3 := ⟨(lw_ok_in (List.mem_of_getElem? (i := 551) (by decide +kernel)) rfl), (lw_ok_in (List.mem_of_getElem? (i := 145) (by decide +kernel)) rfl), (lw_ok_in (List.mem_of_getElem? (i := 146) (by decide +kernel)) rfl)⟩
theorem obX12_3 : a_ob RX12 3 := ⟨(lw_ok_in (List.mem_of_getElem? (i := 1539) (by decide +kernel)) rfl), (lw_ok_in (List.mem_of_getElem? (i := 145) (by decide +kernel)) rfl), (lw_ok_in (List.mem_of_getElem? (i := 146) (by decide +kernel)) rfl)⟩
theorem ac_int : Cond.arrayClass .int ∈ lw_ok := (lw_ok_in (List.mem_of_getElem? (i := 226) (by decide +kernel)) rfl)
theorem ac_long : Cond.arrayClass .long ∈ lw_ok := (lw_ok_in (List.mem_of_getElem? (i := 469) (by decide +kernel)) rfl)
theorem ac_boolean : Cond.arrayClass .boolean ∈ lw_ok := (lw_ok_in (List.mem_of_getElem? (i := 470) (by decide +kernel)) rfl)
theorem ac_byte : Cond.arrayClass .byte ∈ lw_ok := (lw_ok_in (List.mem_of_getElem? (i := 326) (by decide +kernel)) rfl)
