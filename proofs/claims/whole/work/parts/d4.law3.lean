/-! THE LAW: its cases -/
theorem dL_law_1052 : decode code 1052 = .ok (.aload_n 1, 1) := by decide +kernel
theorem dL_law_1053 : decode code 1053 = .ok (.aload_n 0, 1) := by decide +kernel
theorem dL_law_1054 : decode code 1054 = .ok (.iload 4, 2) := by decide +kernel
theorem dL_law_1056 : decode code 1056 = .ok (.iconst 1, 1) := by decide +kernel
theorem dL_law_1057 : decode code 1057 = .ok (.iadd, 1) := by decide +kernel
theorem dL_law_1058 : decode code 1058 = .ok (.iaload, 1) := by decide +kernel
theorem dL_law_1059 : decode code 1059 = .ok (.aload_n 0, 1) := by decide +kernel
theorem dL_law_1060 : decode code 1060 = .ok (.iload 4, 2) := by decide +kernel
theorem dL_law_1062 : decode code 1062 = .ok (.iconst 2, 1) := by decide +kernel
theorem dL_law_1063 : decode code 1063 = .ok (.iadd, 1) := by decide +kernel
theorem dL_law_1064 : decode code 1064 = .ok (.iaload, 1) := by decide +kernel
theorem dL_law_1065 : decode code 1065 = .ok (.aload_n 3, 1) := by decide +kernel
theorem dL_law_1066 : decode code 1066 = .ok (.invokestatic 188, 3) := by decide +kernel
theorem dL_law_1069 : decode code 1069 = .ok (.istore 5, 2) := by decide +kernel
theorem dL_law_1071 : decode code 1071 = .ok (.aload_n 2, 1) := by decide +kernel
theorem dL_law_1072 : decode code 1072 = .ok (.aload_n 0, 1) := by decide +kernel
theorem dL_law_1073 : decode code 1073 = .ok (.iload 4, 2) := by decide +kernel
theorem dL_law_1075 : decode code 1075 = .ok (.iconst 1, 1) := by decide +kernel
theorem dL_law_1076 : decode code 1076 = .ok (.iadd, 1) := by decide +kernel
theorem dL_law_1077 : decode code 1077 = .ok (.iaload, 1) := by decide +kernel
theorem dL_law_1078 : decode code 1078 = .ok (.aload_n 0, 1) := by decide +kernel
theorem dL_law_1079 : decode code 1079 = .ok (.iload 4, 2) := by decide +kernel
theorem dL_law_1081 : decode code 1081 = .ok (.iconst 2, 1) := by decide +kernel
theorem dL_law_1082 : decode code 1082 = .ok (.iadd, 1) := by decide +kernel
theorem dL_law_1083 : decode code 1083 = .ok (.iaload, 1) := by decide +kernel
theorem dL_law_1084 : decode code 1084 = .ok (.invokevirtual 190, 3) := by decide +kernel
theorem dL_law_1087 : decode code 1087 = .ok (.istore 6, 2) := by decide +kernel
theorem dL_law_1089 : decode code 1089 = .ok (.aload_n 2, 1) := by decide +kernel
theorem dL_law_1090 : decode code 1090 = .ok (.invokevirtual 142, 3) := by decide +kernel
theorem dL_law_1093 : decode code 1093 = .ok (.iload 5, 2) := by decide +kernel
theorem dL_law_1095 : decode code 1095 = .ok (.if_icmp .eq 5, 3) := by decide +kernel
theorem dL_law_1098 : decode code 1098 = .ok (.iconst 0, 1) := by decide +kernel
theorem dL_law_1099 : decode code 1099 = .ok (.ireturn, 1) := by decide +kernel
theorem dL_law_1100 : decode code 1100 = .ok (.iload 5, 2) := by decide +kernel
theorem dL_law_1102 : decode code 1102 = .ok (.ifCond .ne 15, 3) := by decide +kernel
theorem dL_law_1105 : decode code 1105 = .ok (.aload_n 3, 1) := by decide +kernel
theorem dL_law_1106 : decode code 1106 = .ok (.iconst 0, 1) := by decide +kernel
theorem dL_law_1107 : decode code 1107 = .ok (.laload, 1) := by decide +kernel
theorem dL_law_1108 : decode code 1108 = .ok (.iload 6, 2) := by decide +kernel
theorem dL_law_1110 : decode code 1110 = .ok (.i2l, 1) := by decide +kernel
theorem dL_law_1111 : decode code 1111 = .ok (.lcmp, 1) := by decide +kernel
theorem dL_law_1112 : decode code 1112 = .ok (.ifCond .eq 5, 3) := by decide +kernel
theorem dL_law_1115 : decode code 1115 = .ok (.iconst 0, 1) := by decide +kernel
theorem dL_law_1116 : decode code 1116 = .ok (.ireturn, 1) := by decide +kernel
theorem dL_law_1117 : decode code 1117 = .ok (.goto 1500, 3) := by decide +kernel
theorem kLH_188 : a_kSH RL 188 pL_bought 4 := ⟨(lw_ok_in (List.mem_of_getElem? (i := 1092) (by decide +kernel)) rfl), (lw_ok_in (List.mem_of_getElem? (i := 109) (by decide +kernel)) rfl), by decide +kernel, (lw_ok_in (List.mem_of_getElem? (i := 1090) (by decide +kernel)) rfl), (lw_ok_in (List.mem_of_getElem? (i := 1091) (by decide +kernel)) rfl)⟩
theorem kL_190 : a_kV RL 190 pX12_bought 2 := ⟨cbX12_bought, (lw_ok_in (List.mem_of_getElem? (i := 1910) (by decide +kernel)) rfl), (lw_ok_in (List.mem_of_getElem? (i := 1911) (by decide +kernel)) rfl), (lw_ok_in (List.mem_of_getElem? (i := 1912) (by decide +kernel)) rfl)⟩
theorem case_bought {l : Launch} {E : aE} {hh : List (Nat × Nat × Nat × Nat)} {n N : Nat} {S : aS} {M A : aM} (hfl : l.stackTraces = false) (h42 : E.2.2.2 42 ≤ 3072) (hi : 6 * (n : Int) + 6 ≤ (E.2.2.2 42 : Int)) (hW : LWI N S M A) (hN9 : N ≤ 140 + 15 * n) (tail : lawTail l E hh n) : aX l E (pL_law hh) QL (200 + 40 * n) (20000 + 400 * n) N S M 1052 [(0, (2, -43)), (1, (2, 0)), (2, (2, 109)), (3, (2, 139)), (4, (0, 6 * (n : Int)))] [] := by
  obtain ⟨hN0, hC, hS9, hO, hR, hRM, hI⟩ := id hW
  have hM := hS9
  have hn : n ≤ 511 := by omega
  refine x_aload_n (pc := 1052) dL_law_1052 rfl rfl ?_
  refine x_aload_n (pc := 1053) dL_law_1053 rfl rfl ?_
  refine x_iload (pc := 1054) dL_law_1054 rfl ?_
  refine x_iconst (pc := 1056) dL_law_1056 (by decide) ?_
  refine x_iadd (pc := 1057) dL_law_1057 (by omega) ?_
  refine x_sld (pc := 1058) dL_law_1058 ⟨by omega, by omega⟩ ?_
  refine x_aload_n (pc := 1059) dL_law_1059 rfl rfl ?_
  refine x_iload (pc := 1060) dL_law_1060 rfl ?_
  refine x_iconst (pc := 1062) dL_law_1062 (by decide) ?_
  refine x_iadd (pc := 1063) dL_law_1063 (by omega) ?_
  refine x_sld (pc := 1064) dL_law_1064 ⟨by omega, by omega⟩ ?_
  refine x_aload_n (pc := 1065) dL_law_1065 rfl rfl ?_
  refine x_callS4H (pc := 1066) dL_law_1066 kLH_188 (h_bought hfl (a_scr E (6 * (n : Int) + 1)) (a_scr E (6 * (n : Int) + 2)) A hW) (a_rmL rfl rfl (by show 200 + 40 * n + 2 ≤ 601024; omega) (by show 20000 + 400 * n + 12 ≤ 7293034; omega)) (Nat.le_of_ble_eq_true rfl) (k_hQ (fun M9 f9 R9 v9 => ?_)) n_hQ
  refine x_room (kc' := 220 + 40 * n) (ks' := 20200 + 400 * n) (by show 200 + 40 * n + 2 ≤ 220 + 40 * n; omega) (by show 20000 + 400 * n + 12 ≤ 20200 + 400 * n; omega) ?_
  have hC9 := hC
  have hM9 := hM
  have hO9 := hO
  have RM9 : RM M9 109 A := hRM.cgo fun a p q i => f9 a i (by omega) (by omega)
  refine x_istore (pc := 1069) dL_law_1069 (by show _ < 8; decide) rfl ?_
  refine x_aload_n (pc := 1071) dL_law_1071 rfl rfl ?_
  refine x_aload_n (pc := 1072) dL_law_1072 rfl rfl ?_
  refine x_iload (pc := 1073) dL_law_1073 rfl ?_
  refine x_iconst (pc := 1075) dL_law_1075 (by decide) ?_
  refine x_iadd (pc := 1076) dL_law_1076 (by omega) ?_
  refine x_sld (pc := 1077) dL_law_1077 ⟨by omega, by omega⟩ ?_
  refine x_aload_n (pc := 1078) dL_law_1078 rfl rfl ?_
  refine x_iload (pc := 1079) dL_law_1079 rfl ?_
  refine x_iconst (pc := 1081) dL_law_1081 (by decide) ?_
  refine x_iadd (pc := 1082) dL_law_1082 (by omega) ?_
  refine x_sld (pc := 1083) dL_law_1083 ⟨by omega, by omega⟩ ?_
  refine x_callV2N (pc := 1084) dL_law_1084 kL_190 (s_Mbought hfl (a_scr E (6 * (n : Int) + 1)) (a_scr E (6 * (n : Int) + 2)) 109 A hM9 RM9 hI.1) hM9.1 rfl (a_rmL rfl rfl (by show 220 + 40 * n + 0 ≤ 601024; omega) (by show 20200 + 400 * n + 0 ≤ 7293034; omega)) (Nat.le_of_ble_eq_true rfl) (k_G (fun v8 M8 hM8 => ?_)) n_GN
  obtain ⟨kd, t8, e8, R8, F8⟩ := hM8
  obtain ⟨k8, w8⟩ := v8
  have kd : k8 = 0 := kd
  subst kd
  have RC8 : RC M8 N S (spBought A (a_scr E (6 * (n : Int) + 1)) (a_scr E (6 * (n : Int) + 2))).2.2 := R9.cgo fun a q i => F8 a i (by omega)
  refine x_istore (pc := 1087) dL_law_1087 (by show _ < 8; decide) rfl ?_
  refine x_aload_n (pc := 1089) dL_law_1089 rfl rfl ?_
  refine x_callV0N (pc := 1090) dL_law_1090 kL_142 (s_thrown hfl 109 hM9) hM9.1 rfl (a_rmL rfl rfl (by show 220 + 40 * n + 0 + 0 ≤ 601024; omega) (by show 20200 + 400 * n + 0 + 0 ≤ 7293034; omega)) (Nat.le_of_ble_eq_true rfl) (k_R ?_) n_RN
  rw [t8]
  refine x_iload (pc := 1093) dL_law_1093 rfl ?_
  refine x_icmp_eq (tgt := 1100) (pc := 1095) dL_law_1095 (by decide) (fun c_1095 => ?_) (fun c_1095 => ?_)
  · refine x_iload (pc := 1100) dL_law_1100 rfl ?_
    refine x_if_ne (tgt := 1117) (pc := 1102) dL_law_1102 (by decide) (fun c_1102 => ?_) (fun c_1102 => ?_)
    · refine x_goto (tgt := 2617) (pc := 1117) dL_law_1117 (by decide) ?_
      exact x_lo (lo' := [(0, (2, -43)), (1, (2, 0)), (2, (2, 109)), (3, (2, 139)), (4, (0, 6 * (n : Int)))]) ⟨rfl, rfl, rfl, rfl, rfl, trivial⟩ (x_room (by show 220 + 40 * n + 0 + 0 ≤ 200 + 40 * (n + 1); omega) (by show 20200 + 400 * n + 0 + 0 ≤ 20000 + 400 * (n + 1); omega) (tail N S M8 (spBought A (a_scr E (6 * (n : Int) + 1)) (a_scr E (6 * (n : Int) + 2))).2.2 ⟨by omega, hC9, hM9, hO9, RC8, R8, INV.bought_ hI (a_scr E (6 * (n : Int) + 1)) (a_scr E (6 * (n : Int) + 2))⟩ (by omega)))
    · have e139 : M8 139 0 = (spBought A (a_scr E (6 * (n : Int) + 1)) (a_scr E (6 * (n : Int) + 2))).2.1 := (F8 139 0 (by omega)).trans (v9 c_1102)
      have ew : w8 = (spBought A (a_scr E (6 * (n : Int) + 1)) (a_scr E (6 * (n : Int) + 2))).2.1 := congrArg Prod.snd (e8 c_1102)
      refine x_aload_n (pc := 1105) dL_law_1105 rfl rfl ?_
      refine x_iconst (pc := 1106) dL_law_1106 (by decide) ?_
      refine x_laloadV (pc := 1107) dL_law_1107 hO9 (by omega) (by (repeat (first | rewrite [up_s] | rewrite [up_i (by omega)] | rewrite [up_a (by omega)])); first | exact e139 | rfl) (fun g_1107 => ?_)
      refine x_iload (pc := 1108) dL_law_1108 rfl ?_
      refine x_i2l (pc := 1110) dL_law_1110 ?_
      refine x_leq (tgt := 1117) (pc := 1111) dL_law_1111 dL_law_1112 (by decide) (fun c_1111 => ?_) (fun c_1111 => ?_)
      · refine x_goto (tgt := 2617) (pc := 1117) dL_law_1117 (by decide) ?_
        exact x_lo (lo' := [(0, (2, -43)), (1, (2, 0)), (2, (2, 109)), (3, (2, 139)), (4, (0, 6 * (n : Int)))]) ⟨rfl, rfl, rfl, rfl, rfl, trivial⟩ (x_room (by show 220 + 40 * n + 0 + 0 ≤ 200 + 40 * (n + 1); omega) (by show 20200 + 400 * n + 0 + 0 ≤ 20000 + 400 * (n + 1); omega) (tail N S M8 (spBought A (a_scr E (6 * (n : Int) + 1)) (a_scr E (6 * (n : Int) + 2))).2.2 ⟨by omega, hC9, hM9, hO9, RC8, R8, INV.bought_ hI (a_scr E (6 * (n : Int) + 1)) (a_scr E (6 * (n : Int) + 2))⟩ (by omega)))
      · exfalso; omega
  · exfalso; omega
theorem dL_law_1120 : decode code 1120 = .ok (.aload_n 1, 1) := by decide +kernel
theorem dL_law_1121 : decode code 1121 = .ok (.aload_n 0, 1) := by decide +kernel
theorem dL_law_1122 : decode code 1122 = .ok (.iload 4, 2) := by decide +kernel
theorem dL_law_1124 : decode code 1124 = .ok (.iconst 1, 1) := by decide +kernel
theorem dL_law_1125 : decode code 1125 = .ok (.iadd, 1) := by decide +kernel
theorem dL_law_1126 : decode code 1126 = .ok (.iaload, 1) := by decide +kernel
theorem dL_law_1127 : decode code 1127 = .ok (.aload_n 3, 1) := by decide +kernel
theorem dL_law_1128 : decode code 1128 = .ok (.invokestatic 191, 3) := by decide +kernel
theorem dL_law_1131 : decode code 1131 = .ok (.istore 5, 2) := by decide +kernel
theorem dL_law_1133 : decode code 1133 = .ok (.aload_n 2, 1) := by decide +kernel
theorem dL_law_1134 : decode code 1134 = .ok (.aload_n 0, 1) := by decide +kernel
theorem dL_law_1135 : decode code 1135 = .ok (.iload 4, 2) := by decide +kernel
theorem dL_law_1137 : decode code 1137 = .ok (.iconst 1, 1) := by decide +kernel
theorem dL_law_1138 : decode code 1138 = .ok (.iadd, 1) := by decide +kernel
theorem dL_law_1139 : decode code 1139 = .ok (.iaload, 1) := by decide +kernel
theorem dL_law_1140 : decode code 1140 = .ok (.invokevirtual 193, 3) := by decide +kernel
theorem dL_law_1143 : decode code 1143 = .ok (.istore 6, 2) := by decide +kernel
theorem dL_law_1145 : decode code 1145 = .ok (.aload_n 2, 1) := by decide +kernel
theorem dL_law_1146 : decode code 1146 = .ok (.invokevirtual 142, 3) := by decide +kernel
theorem dL_law_1149 : decode code 1149 = .ok (.iload 5, 2) := by decide +kernel
theorem dL_law_1151 : decode code 1151 = .ok (.if_icmp .eq 5, 3) := by decide +kernel
theorem dL_law_1154 : decode code 1154 = .ok (.iconst 0, 1) := by decide +kernel
theorem dL_law_1155 : decode code 1155 = .ok (.ireturn, 1) := by decide +kernel
theorem dL_law_1156 : decode code 1156 = .ok (.iload 5, 2) := by decide +kernel
theorem dL_law_1158 : decode code 1158 = .ok (.ifCond .ne 15, 3) := by decide +kernel
theorem dL_law_1161 : decode code 1161 = .ok (.aload_n 3, 1) := by decide +kernel
theorem dL_law_1162 : decode code 1162 = .ok (.iconst 0, 1) := by decide +kernel
theorem dL_law_1163 : decode code 1163 = .ok (.laload, 1) := by decide +kernel
theorem dL_law_1164 : decode code 1164 = .ok (.iload 6, 2) := by decide +kernel
theorem dL_law_1166 : decode code 1166 = .ok (.i2l, 1) := by decide +kernel
theorem dL_law_1167 : decode code 1167 = .ok (.lcmp, 1) := by decide +kernel
theorem dL_law_1168 : decode code 1168 = .ok (.ifCond .eq 5, 3) := by decide +kernel
theorem dL_law_1171 : decode code 1171 = .ok (.iconst 0, 1) := by decide +kernel
theorem dL_law_1172 : decode code 1172 = .ok (.ireturn, 1) := by decide +kernel
theorem dL_law_1173 : decode code 1173 = .ok (.goto 1444, 3) := by decide +kernel
theorem kLH_191 : a_kSH RL 191 pL_least 3 := ⟨(lw_ok_in (List.mem_of_getElem? (i := 1111) (by decide +kernel)) rfl), (lw_ok_in (List.mem_of_getElem? (i := 109) (by decide +kernel)) rfl), by decide +kernel, (lw_ok_in (List.mem_of_getElem? (i := 1109) (by decide +kernel)) rfl), (lw_ok_in (List.mem_of_getElem? (i := 1110) (by decide +kernel)) rfl)⟩
theorem kL_193 : a_kV RL 193 pX12_least 1 := ⟨cbX12_least, (lw_ok_in (List.mem_of_getElem? (i := 1922) (by decide +kernel)) rfl), (lw_ok_in (List.mem_of_getElem? (i := 1923) (by decide +kernel)) rfl), (lw_ok_in (List.mem_of_getElem? (i := 1924) (by decide +kernel)) rfl)⟩
theorem case_least {l : Launch} {E : aE} {hh : List (Nat × Nat × Nat × Nat)} {n N : Nat} {S : aS} {M A : aM} (hfl : l.stackTraces = false) (h42 : E.2.2.2 42 ≤ 3072) (hi : 6 * (n : Int) + 6 ≤ (E.2.2.2 42 : Int)) (hW : LWI N S M A) (hN9 : N ≤ 140 + 15 * n) (tail : lawTail l E hh n) : aX l E (pL_law hh) QL (200 + 40 * n) (20000 + 400 * n) N S M 1120 [(0, (2, -43)), (1, (2, 0)), (2, (2, 109)), (3, (2, 139)), (4, (0, 6 * (n : Int)))] [] := by
  obtain ⟨hN0, hC, hS9, hO, hR, hRM, hI⟩ := id hW
  have hM := hS9
  have hn : n ≤ 511 := by omega
  refine x_aload_n (pc := 1120) dL_law_1120 rfl rfl ?_
  refine x_aload_n (pc := 1121) dL_law_1121 rfl rfl ?_
  refine x_iload (pc := 1122) dL_law_1122 rfl ?_
  refine x_iconst (pc := 1124) dL_law_1124 (by decide) ?_
  refine x_iadd (pc := 1125) dL_law_1125 (by omega) ?_
  refine x_sld (pc := 1126) dL_law_1126 ⟨by omega, by omega⟩ ?_
  refine x_aload_n (pc := 1127) dL_law_1127 rfl rfl ?_
  refine x_callS3H (pc := 1128) dL_law_1128 kLH_191 (h_least hfl (a_scr E (6 * (n : Int) + 1)) A hW) (a_rmL rfl rfl (by show 200 + 40 * n + 1 ≤ 601024; omega) (by show 20000 + 400 * n + 6 ≤ 7293034; omega)) (Nat.le_of_ble_eq_true rfl) (k_hQ (fun M9 f9 R9 v9 => ?_)) n_hQ
  refine x_room (kc' := 220 + 40 * n) (ks' := 20200 + 400 * n) (by show 200 + 40 * n + 1 ≤ 220 + 40 * n; omega) (by show 20000 + 400 * n + 6 ≤ 20200 + 400 * n; omega) ?_
  have hC9 := hC
  have hM9 := hM
  have hO9 := hO
  have RM9 : RM M9 109 A := hRM.cgo fun a p q i => f9 a i (by omega) (by omega)
  refine x_istore (pc := 1131) dL_law_1131 (by show _ < 8; decide) rfl ?_
  refine x_aload_n (pc := 1133) dL_law_1133 rfl rfl ?_
  refine x_aload_n (pc := 1134) dL_law_1134 rfl rfl ?_
  refine x_iload (pc := 1135) dL_law_1135 rfl ?_
  refine x_iconst (pc := 1137) dL_law_1137 (by decide) ?_
  refine x_iadd (pc := 1138) dL_law_1138 (by omega) ?_
  refine x_sld (pc := 1139) dL_law_1139 ⟨by omega, by omega⟩ ?_
  refine x_callV1N (pc := 1140) dL_law_1140 kL_193 (s_Mleast hfl (a_scr E (6 * (n : Int) + 1)) 109 A hM9 RM9 hI.1) hM9.1 rfl (a_rmL rfl rfl (by show 220 + 40 * n + 0 ≤ 601024; omega) (by show 20200 + 400 * n + 0 ≤ 7293034; omega)) (Nat.le_of_ble_eq_true rfl) (k_G (fun v8 M8 hM8 => ?_)) n_GN
  obtain ⟨kd, t8, e8, R8, F8⟩ := hM8
  obtain ⟨k8, w8⟩ := v8
  have kd : k8 = 0 := kd
  subst kd
  have RC8 : RC M8 N S (spLeast A (a_scr E (6 * (n : Int) + 1))).2.2 := R9.cgo fun a q i => F8 a i (by omega)
  refine x_istore (pc := 1143) dL_law_1143 (by show _ < 8; decide) rfl ?_
  refine x_aload_n (pc := 1145) dL_law_1145 rfl rfl ?_
  refine x_callV0N (pc := 1146) dL_law_1146 kL_142 (s_thrown hfl 109 hM9) hM9.1 rfl (a_rmL rfl rfl (by show 220 + 40 * n + 0 + 0 ≤ 601024; omega) (by show 20200 + 400 * n + 0 + 0 ≤ 7293034; omega)) (Nat.le_of_ble_eq_true rfl) (k_R ?_) n_RN
  rw [t8]
  refine x_iload (pc := 1149) dL_law_1149 rfl ?_
  refine x_icmp_eq (tgt := 1156) (pc := 1151) dL_law_1151 (by decide) (fun c_1151 => ?_) (fun c_1151 => ?_)
  · refine x_iload (pc := 1156) dL_law_1156 rfl ?_
    refine x_if_ne (tgt := 1173) (pc := 1158) dL_law_1158 (by decide) (fun c_1158 => ?_) (fun c_1158 => ?_)
    · refine x_goto (tgt := 2617) (pc := 1173) dL_law_1173 (by decide) ?_
      exact x_lo (lo' := [(0, (2, -43)), (1, (2, 0)), (2, (2, 109)), (3, (2, 139)), (4, (0, 6 * (n : Int)))]) ⟨rfl, rfl, rfl, rfl, rfl, trivial⟩ (x_room (by show 220 + 40 * n + 0 + 0 ≤ 200 + 40 * (n + 1); omega) (by show 20200 + 400 * n + 0 + 0 ≤ 20000 + 400 * (n + 1); omega) (tail N S M8 (spLeast A (a_scr E (6 * (n : Int) + 1))).2.2 ⟨by omega, hC9, hM9, hO9, RC8, R8, INV.least_ hI (a_scr E (6 * (n : Int) + 1))⟩ (by omega)))
    · have e139 : M8 139 0 = (spLeast A (a_scr E (6 * (n : Int) + 1))).2.1 := (F8 139 0 (by omega)).trans (v9 c_1158)
      have ew : w8 = (spLeast A (a_scr E (6 * (n : Int) + 1))).2.1 := congrArg Prod.snd (e8 c_1158)
      refine x_aload_n (pc := 1161) dL_law_1161 rfl rfl ?_
      refine x_iconst (pc := 1162) dL_law_1162 (by decide) ?_
      refine x_laloadV (pc := 1163) dL_law_1163 hO9 (by omega) (by (repeat (first | rewrite [up_s] | rewrite [up_i (by omega)] | rewrite [up_a (by omega)])); first | exact e139 | rfl) (fun g_1163 => ?_)
      refine x_iload (pc := 1164) dL_law_1164 rfl ?_
      refine x_i2l (pc := 1166) dL_law_1166 ?_
      refine x_leq (tgt := 1173) (pc := 1167) dL_law_1167 dL_law_1168 (by decide) (fun c_1167 => ?_) (fun c_1167 => ?_)
      · refine x_goto (tgt := 2617) (pc := 1173) dL_law_1173 (by decide) ?_
        exact x_lo (lo' := [(0, (2, -43)), (1, (2, 0)), (2, (2, 109)), (3, (2, 139)), (4, (0, 6 * (n : Int)))]) ⟨rfl, rfl, rfl, rfl, rfl, trivial⟩ (x_room (by show 220 + 40 * n + 0 + 0 ≤ 200 + 40 * (n + 1); omega) (by show 20200 + 400 * n + 0 + 0 ≤ 20000 + 400 * (n + 1); omega) (tail N S M8 (spLeast A (a_scr E (6 * (n : Int) + 1))).2.2 ⟨by omega, hC9, hM9, hO9, RC8, R8, INV.least_ hI (a_scr E (6 * (n : Int) + 1))⟩ (by omega)))
      · exfalso; omega
  · exfalso; omega
theorem dL_law_1176 : decode code 1176 = .ok (.aload_n 1, 1) := by decide +kernel
theorem dL_law_1177 : decode code 1177 = .ok (.aload_n 0, 1) := by decide +kernel
theorem dL_law_1178 : decode code 1178 = .ok (.iload 4, 2) := by decide +kernel
theorem dL_law_1180 : decode code 1180 = .ok (.iconst 1, 1) := by decide +kernel
theorem dL_law_1181 : decode code 1181 = .ok (.iadd, 1) := by decide +kernel
theorem dL_law_1182 : decode code 1182 = .ok (.iaload, 1) := by decide +kernel
theorem dL_law_1183 : decode code 1183 = .ok (.aload_n 0, 1) := by decide +kernel
theorem dL_law_1184 : decode code 1184 = .ok (.iload 4, 2) := by decide +kernel
theorem dL_law_1186 : decode code 1186 = .ok (.iconst 2, 1) := by decide +kernel
theorem dL_law_1187 : decode code 1187 = .ok (.iadd, 1) := by decide +kernel
theorem dL_law_1188 : decode code 1188 = .ok (.iaload, 1) := by decide +kernel
theorem dL_law_1189 : decode code 1189 = .ok (.aload_n 3, 1) := by decide +kernel
theorem dL_law_1190 : decode code 1190 = .ok (.invokestatic 194, 3) := by decide +kernel
theorem dL_law_1193 : decode code 1193 = .ok (.istore 5, 2) := by decide +kernel
theorem dL_law_1195 : decode code 1195 = .ok (.aload_n 2, 1) := by decide +kernel
theorem dL_law_1196 : decode code 1196 = .ok (.aload_n 0, 1) := by decide +kernel
theorem dL_law_1197 : decode code 1197 = .ok (.iload 4, 2) := by decide +kernel
theorem dL_law_1199 : decode code 1199 = .ok (.iconst 1, 1) := by decide +kernel
theorem dL_law_1200 : decode code 1200 = .ok (.iadd, 1) := by decide +kernel
theorem dL_law_1201 : decode code 1201 = .ok (.iaload, 1) := by decide +kernel
theorem dL_law_1202 : decode code 1202 = .ok (.aload_n 0, 1) := by decide +kernel
theorem dL_law_1203 : decode code 1203 = .ok (.iload 4, 2) := by decide +kernel
theorem dL_law_1205 : decode code 1205 = .ok (.iconst 2, 1) := by decide +kernel
theorem dL_law_1206 : decode code 1206 = .ok (.iadd, 1) := by decide +kernel
theorem dL_law_1207 : decode code 1207 = .ok (.iaload, 1) := by decide +kernel
theorem dL_law_1208 : decode code 1208 = .ok (.invokevirtual 196, 3) := by decide +kernel
theorem dL_law_1211 : decode code 1211 = .ok (.istore 6, 2) := by decide +kernel
theorem dL_law_1213 : decode code 1213 = .ok (.aload_n 2, 1) := by decide +kernel
theorem dL_law_1214 : decode code 1214 = .ok (.invokevirtual 142, 3) := by decide +kernel
theorem dL_law_1217 : decode code 1217 = .ok (.iload 5, 2) := by decide +kernel
theorem dL_law_1219 : decode code 1219 = .ok (.if_icmp .eq 5, 3) := by decide +kernel
theorem dL_law_1222 : decode code 1222 = .ok (.iconst 0, 1) := by decide +kernel
theorem dL_law_1223 : decode code 1223 = .ok (.ireturn, 1) := by decide +kernel
theorem dL_law_1224 : decode code 1224 = .ok (.iload 5, 2) := by decide +kernel
theorem dL_law_1226 : decode code 1226 = .ok (.ifCond .ne 15, 3) := by decide +kernel
theorem dL_law_1229 : decode code 1229 = .ok (.aload_n 3, 1) := by decide +kernel
theorem dL_law_1230 : decode code 1230 = .ok (.iconst 0, 1) := by decide +kernel
theorem dL_law_1231 : decode code 1231 = .ok (.laload, 1) := by decide +kernel
theorem dL_law_1232 : decode code 1232 = .ok (.iload 6, 2) := by decide +kernel
theorem dL_law_1234 : decode code 1234 = .ok (.i2l, 1) := by decide +kernel
theorem dL_law_1235 : decode code 1235 = .ok (.lcmp, 1) := by decide +kernel
theorem dL_law_1236 : decode code 1236 = .ok (.ifCond .eq 5, 3) := by decide +kernel
theorem dL_law_1239 : decode code 1239 = .ok (.iconst 0, 1) := by decide +kernel
theorem dL_law_1240 : decode code 1240 = .ok (.ireturn, 1) := by decide +kernel
theorem dL_law_1241 : decode code 1241 = .ok (.goto 1376, 3) := by decide +kernel
theorem kLH_194 : a_kSH RL 194 pL_group 4 := ⟨(lw_ok_in (List.mem_of_getElem? (i := 1132) (by decide +kernel)) rfl), (lw_ok_in (List.mem_of_getElem? (i := 109) (by decide +kernel)) rfl), by decide +kernel, (lw_ok_in (List.mem_of_getElem? (i := 1130) (by decide +kernel)) rfl), (lw_ok_in (List.mem_of_getElem? (i := 1131) (by decide +kernel)) rfl)⟩
theorem kL_196 : a_kV RL 196 pX12_group 2 := ⟨cbX12_group, (lw_ok_in (List.mem_of_getElem? (i := 1938) (by decide +kernel)) rfl), (lw_ok_in (List.mem_of_getElem? (i := 1939) (by decide +kernel)) rfl), (lw_ok_in (List.mem_of_getElem? (i := 1940) (by decide +kernel)) rfl)⟩
theorem case_group {l : Launch} {E : aE} {hh : List (Nat × Nat × Nat × Nat)} {n N : Nat} {S : aS} {M A : aM} (hfl : l.stackTraces = false) (h42 : E.2.2.2 42 ≤ 3072) (hi : 6 * (n : Int) + 6 ≤ (E.2.2.2 42 : Int)) (hW : LWI N S M A) (hN9 : N ≤ 140 + 15 * n) (tail : lawTail l E hh n) : aX l E (pL_law hh) QL (200 + 40 * n) (20000 + 400 * n) N S M 1176 [(0, (2, -43)), (1, (2, 0)), (2, (2, 109)), (3, (2, 139)), (4, (0, 6 * (n : Int)))] [] := by
  obtain ⟨hN0, hC, hS9, hO, hR, hRM, hI⟩ := id hW
  have hM := hS9
  have hn : n ≤ 511 := by omega
  refine x_aload_n (pc := 1176) dL_law_1176 rfl rfl ?_
  refine x_aload_n (pc := 1177) dL_law_1177 rfl rfl ?_
  refine x_iload (pc := 1178) dL_law_1178 rfl ?_
  refine x_iconst (pc := 1180) dL_law_1180 (by decide) ?_
  refine x_iadd (pc := 1181) dL_law_1181 (by omega) ?_
  refine x_sld (pc := 1182) dL_law_1182 ⟨by omega, by omega⟩ ?_
  refine x_aload_n (pc := 1183) dL_law_1183 rfl rfl ?_
  refine x_iload (pc := 1184) dL_law_1184 rfl ?_
  refine x_iconst (pc := 1186) dL_law_1186 (by decide) ?_
  refine x_iadd (pc := 1187) dL_law_1187 (by omega) ?_
  refine x_sld (pc := 1188) dL_law_1188 ⟨by omega, by omega⟩ ?_
  refine x_aload_n (pc := 1189) dL_law_1189 rfl rfl ?_
  refine x_callS4H (pc := 1190) dL_law_1190 kLH_194 (h_group hfl (a_scr E (6 * (n : Int) + 1)) (a_scr E (6 * (n : Int) + 2)) A hW) (a_rmL rfl rfl (by show 200 + 40 * n + 1 ≤ 601024; omega) (by show 20000 + 400 * n + 6 ≤ 7293034; omega)) (Nat.le_of_ble_eq_true rfl) (k_hQ (fun M9 f9 R9 v9 => ?_)) n_hQ
  refine x_room (kc' := 220 + 40 * n) (ks' := 20200 + 400 * n) (by show 200 + 40 * n + 1 ≤ 220 + 40 * n; omega) (by show 20000 + 400 * n + 6 ≤ 20200 + 400 * n; omega) ?_
  have hC9 := hC
  have hM9 := hM
  have hO9 := hO
  have RM9 : RM M9 109 A := hRM.cgo fun a p q i => f9 a i (by omega) (by omega)
  refine x_istore (pc := 1193) dL_law_1193 (by show _ < 8; decide) rfl ?_
  refine x_aload_n (pc := 1195) dL_law_1195 rfl rfl ?_
  refine x_aload_n (pc := 1196) dL_law_1196 rfl rfl ?_
  refine x_iload (pc := 1197) dL_law_1197 rfl ?_
  refine x_iconst (pc := 1199) dL_law_1199 (by decide) ?_
  refine x_iadd (pc := 1200) dL_law_1200 (by omega) ?_
  refine x_sld (pc := 1201) dL_law_1201 ⟨by omega, by omega⟩ ?_
  refine x_aload_n (pc := 1202) dL_law_1202 rfl rfl ?_
  refine x_iload (pc := 1203) dL_law_1203 rfl ?_
  refine x_iconst (pc := 1205) dL_law_1205 (by decide) ?_
  refine x_iadd (pc := 1206) dL_law_1206 (by omega) ?_
  refine x_sld (pc := 1207) dL_law_1207 ⟨by omega, by omega⟩ ?_
  refine x_callV2N (pc := 1208) dL_law_1208 kL_196 (s_Mgroup hfl (a_scr E (6 * (n : Int) + 1)) (a_scr E (6 * (n : Int) + 2)) 109 A hM9 RM9 hI.1) hM9.1 rfl (a_rmL rfl rfl (by show 220 + 40 * n + 0 ≤ 601024; omega) (by show 20200 + 400 * n + 0 ≤ 7293034; omega)) (Nat.le_of_ble_eq_true rfl) (k_G (fun v8 M8 hM8 => ?_)) n_GN
  obtain ⟨kd, t8, e8, R8, F8⟩ := hM8
  obtain ⟨k8, w8⟩ := v8
  have kd : k8 = 0 := kd
  subst kd
  have RC8 : RC M8 N S (spGroup A (a_scr E (6 * (n : Int) + 1)) (a_scr E (6 * (n : Int) + 2))).2.2 := R9.cgo fun a q i => F8 a i (by omega)
  refine x_istore (pc := 1211) dL_law_1211 (by show _ < 8; decide) rfl ?_
  refine x_aload_n (pc := 1213) dL_law_1213 rfl rfl ?_
  refine x_callV0N (pc := 1214) dL_law_1214 kL_142 (s_thrown hfl 109 hM9) hM9.1 rfl (a_rmL rfl rfl (by show 220 + 40 * n + 0 + 0 ≤ 601024; omega) (by show 20200 + 400 * n + 0 + 0 ≤ 7293034; omega)) (Nat.le_of_ble_eq_true rfl) (k_R ?_) n_RN
  rw [t8]
  refine x_iload (pc := 1217) dL_law_1217 rfl ?_
  refine x_icmp_eq (tgt := 1224) (pc := 1219) dL_law_1219 (by decide) (fun c_1219 => ?_) (fun c_1219 => ?_)
  · refine x_iload (pc := 1224) dL_law_1224 rfl ?_
    refine x_if_ne (tgt := 1241) (pc := 1226) dL_law_1226 (by decide) (fun c_1226 => ?_) (fun c_1226 => ?_)
    · refine x_goto (tgt := 2617) (pc := 1241) dL_law_1241 (by decide) ?_
      exact x_lo (lo' := [(0, (2, -43)), (1, (2, 0)), (2, (2, 109)), (3, (2, 139)), (4, (0, 6 * (n : Int)))]) ⟨rfl, rfl, rfl, rfl, rfl, trivial⟩ (x_room (by show 220 + 40 * n + 0 + 0 ≤ 200 + 40 * (n + 1); omega) (by show 20200 + 400 * n + 0 + 0 ≤ 20000 + 400 * (n + 1); omega) (tail N S M8 (spGroup A (a_scr E (6 * (n : Int) + 1)) (a_scr E (6 * (n : Int) + 2))).2.2 ⟨by omega, hC9, hM9, hO9, RC8, R8, INV.group_ hI (a_scr E (6 * (n : Int) + 1)) (a_scr E (6 * (n : Int) + 2))⟩ (by omega)))
    · have e139 : M8 139 0 = (spGroup A (a_scr E (6 * (n : Int) + 1)) (a_scr E (6 * (n : Int) + 2))).2.1 := (F8 139 0 (by omega)).trans (v9 c_1226)
      have ew : w8 = (spGroup A (a_scr E (6 * (n : Int) + 1)) (a_scr E (6 * (n : Int) + 2))).2.1 := congrArg Prod.snd (e8 c_1226)
      refine x_aload_n (pc := 1229) dL_law_1229 rfl rfl ?_
      refine x_iconst (pc := 1230) dL_law_1230 (by decide) ?_
      refine x_laloadV (pc := 1231) dL_law_1231 hO9 (by omega) (by (repeat (first | rewrite [up_s] | rewrite [up_i (by omega)] | rewrite [up_a (by omega)])); first | exact e139 | rfl) (fun g_1231 => ?_)
      refine x_iload (pc := 1232) dL_law_1232 rfl ?_
      refine x_i2l (pc := 1234) dL_law_1234 ?_
      refine x_leq (tgt := 1241) (pc := 1235) dL_law_1235 dL_law_1236 (by decide) (fun c_1235 => ?_) (fun c_1235 => ?_)
      · refine x_goto (tgt := 2617) (pc := 1241) dL_law_1241 (by decide) ?_
        exact x_lo (lo' := [(0, (2, -43)), (1, (2, 0)), (2, (2, 109)), (3, (2, 139)), (4, (0, 6 * (n : Int)))]) ⟨rfl, rfl, rfl, rfl, rfl, trivial⟩ (x_room (by show 220 + 40 * n + 0 + 0 ≤ 200 + 40 * (n + 1); omega) (by show 20200 + 400 * n + 0 + 0 ≤ 20000 + 400 * (n + 1); omega) (tail N S M8 (spGroup A (a_scr E (6 * (n : Int) + 1)) (a_scr E (6 * (n : Int) + 2))).2.2 ⟨by omega, hC9, hM9, hO9, RC8, R8, INV.group_ hI (a_scr E (6 * (n : Int) + 1)) (a_scr E (6 * (n : Int) + 2))⟩ (by omega)))
      · exfalso; omega
  · exfalso; omega
theorem dL_law_1244 : decode code 1244 = .ok (.aload_n 1, 1) := by decide +kernel
theorem dL_law_1245 : decode code 1245 = .ok (.aload_n 0, 1) := by decide +kernel
theorem dL_law_1246 : decode code 1246 = .ok (.iload 4, 2) := by decide +kernel
theorem dL_law_1248 : decode code 1248 = .ok (.iconst 1, 1) := by decide +kernel
theorem dL_law_1249 : decode code 1249 = .ok (.iadd, 1) := by decide +kernel
theorem dL_law_1250 : decode code 1250 = .ok (.iaload, 1) := by decide +kernel
theorem dL_law_1251 : decode code 1251 = .ok (.aload_n 0, 1) := by decide +kernel
theorem dL_law_1252 : decode code 1252 = .ok (.iload 4, 2) := by decide +kernel
theorem dL_law_1254 : decode code 1254 = .ok (.iconst 2, 1) := by decide +kernel
theorem dL_law_1255 : decode code 1255 = .ok (.iadd, 1) := by decide +kernel
theorem dL_law_1256 : decode code 1256 = .ok (.iaload, 1) := by decide +kernel
theorem dL_law_1257 : decode code 1257 = .ok (.aload_n 3, 1) := by decide +kernel
theorem dL_law_1258 : decode code 1258 = .ok (.invokestatic 197, 3) := by decide +kernel
theorem dL_law_1261 : decode code 1261 = .ok (.istore 5, 2) := by decide +kernel
theorem dL_law_1263 : decode code 1263 = .ok (.aload_n 2, 1) := by decide +kernel
theorem dL_law_1264 : decode code 1264 = .ok (.aload_n 0, 1) := by decide +kernel
theorem dL_law_1265 : decode code 1265 = .ok (.iload 4, 2) := by decide +kernel
theorem dL_law_1267 : decode code 1267 = .ok (.iconst 1, 1) := by decide +kernel
theorem dL_law_1268 : decode code 1268 = .ok (.iadd, 1) := by decide +kernel
theorem dL_law_1269 : decode code 1269 = .ok (.iaload, 1) := by decide +kernel
theorem dL_law_1270 : decode code 1270 = .ok (.aload_n 0, 1) := by decide +kernel
theorem dL_law_1271 : decode code 1271 = .ok (.iload 4, 2) := by decide +kernel
theorem dL_law_1273 : decode code 1273 = .ok (.iconst 2, 1) := by decide +kernel
theorem dL_law_1274 : decode code 1274 = .ok (.iadd, 1) := by decide +kernel
theorem dL_law_1275 : decode code 1275 = .ok (.iaload, 1) := by decide +kernel
theorem dL_law_1276 : decode code 1276 = .ok (.invokevirtual 199, 3) := by decide +kernel
theorem dL_law_1279 : decode code 1279 = .ok (.istore 6, 2) := by decide +kernel
theorem dL_law_1281 : decode code 1281 = .ok (.aload_n 2, 1) := by decide +kernel
theorem dL_law_1282 : decode code 1282 = .ok (.invokevirtual 142, 3) := by decide +kernel
theorem dL_law_1285 : decode code 1285 = .ok (.iload 5, 2) := by decide +kernel
theorem dL_law_1287 : decode code 1287 = .ok (.if_icmp .eq 5, 3) := by decide +kernel
theorem dL_law_1290 : decode code 1290 = .ok (.iconst 0, 1) := by decide +kernel
theorem dL_law_1291 : decode code 1291 = .ok (.ireturn, 1) := by decide +kernel
theorem dL_law_1292 : decode code 1292 = .ok (.iload 5, 2) := by decide +kernel
theorem dL_law_1294 : decode code 1294 = .ok (.ifCond .ne 15, 3) := by decide +kernel
theorem dL_law_1297 : decode code 1297 = .ok (.aload_n 3, 1) := by decide +kernel
theorem dL_law_1298 : decode code 1298 = .ok (.iconst 0, 1) := by decide +kernel
theorem dL_law_1299 : decode code 1299 = .ok (.laload, 1) := by decide +kernel
theorem dL_law_1300 : decode code 1300 = .ok (.iload 6, 2) := by decide +kernel
theorem dL_law_1302 : decode code 1302 = .ok (.i2l, 1) := by decide +kernel
theorem dL_law_1303 : decode code 1303 = .ok (.lcmp, 1) := by decide +kernel
theorem dL_law_1304 : decode code 1304 = .ok (.ifCond .eq 5, 3) := by decide +kernel
theorem dL_law_1307 : decode code 1307 = .ok (.iconst 0, 1) := by decide +kernel
theorem dL_law_1308 : decode code 1308 = .ok (.ireturn, 1) := by decide +kernel
theorem dL_law_1309 : decode code 1309 = .ok (.goto 1308, 3) := by decide +kernel
theorem kLH_197 : a_kSH RL 197 pL_come 4 := ⟨(lw_ok_in (List.mem_of_getElem? (i := 1148) (by decide +kernel)) rfl), (lw_ok_in (List.mem_of_getElem? (i := 109) (by decide +kernel)) rfl), by decide +kernel, (lw_ok_in (List.mem_of_getElem? (i := 1146) (by decide +kernel)) rfl), (lw_ok_in (List.mem_of_getElem? (i := 1147) (by decide +kernel)) rfl)⟩
theorem kL_199 : a_kV RL 199 pX12_come 2 := ⟨cbX12_come, (lw_ok_in (List.mem_of_getElem? (i := 1943) (by decide +kernel)) rfl), (lw_ok_in (List.mem_of_getElem? (i := 1944) (by decide +kernel)) rfl), (lw_ok_in (List.mem_of_getElem? (i := 1945) (by decide +kernel)) rfl)⟩
theorem case_come {l : Launch} {E : aE} {hh : List (Nat × Nat × Nat × Nat)} {n N : Nat} {S : aS} {M A : aM} (hfl : l.stackTraces = false) (h42 : E.2.2.2 42 ≤ 3072) (hi : 6 * (n : Int) + 6 ≤ (E.2.2.2 42 : Int)) (hW : LWI N S M A) (hN9 : N ≤ 140 + 15 * n) (tail : lawTail l E hh n) : aX l E (pL_law hh) QL (200 + 40 * n) (20000 + 400 * n) N S M 1244 [(0, (2, -43)), (1, (2, 0)), (2, (2, 109)), (3, (2, 139)), (4, (0, 6 * (n : Int)))] [] := by
  obtain ⟨hN0, hC, hS9, hO, hR, hRM, hI⟩ := id hW
  have hM := hS9
  have hn : n ≤ 511 := by omega
  refine x_aload_n (pc := 1244) dL_law_1244 rfl rfl ?_
  refine x_aload_n (pc := 1245) dL_law_1245 rfl rfl ?_
  refine x_iload (pc := 1246) dL_law_1246 rfl ?_
  refine x_iconst (pc := 1248) dL_law_1248 (by decide) ?_
  refine x_iadd (pc := 1249) dL_law_1249 (by omega) ?_
  refine x_sld (pc := 1250) dL_law_1250 ⟨by omega, by omega⟩ ?_
  refine x_aload_n (pc := 1251) dL_law_1251 rfl rfl ?_
  refine x_iload (pc := 1252) dL_law_1252 rfl ?_
  refine x_iconst (pc := 1254) dL_law_1254 (by decide) ?_
  refine x_iadd (pc := 1255) dL_law_1255 (by omega) ?_
  refine x_sld (pc := 1256) dL_law_1256 ⟨by omega, by omega⟩ ?_
  refine x_aload_n (pc := 1257) dL_law_1257 rfl rfl ?_
  refine x_callS4H (pc := 1258) dL_law_1258 kLH_197 (h_come hfl (a_scr E (6 * (n : Int) + 1)) (a_scr E (6 * (n : Int) + 2)) A hW) (a_rmL rfl rfl (by show 200 + 40 * n + 3 ≤ 601024; omega) (by show 20000 + 400 * n + 18 ≤ 7293034; omega)) (Nat.le_of_ble_eq_true rfl) (k_hQ (fun M9 f9 R9 v9 => ?_)) n_hQ
  refine x_room (kc' := 220 + 40 * n) (ks' := 20200 + 400 * n) (by show 200 + 40 * n + 3 ≤ 220 + 40 * n; omega) (by show 20000 + 400 * n + 18 ≤ 20200 + 400 * n; omega) ?_
  have hC9 := hC
  have hM9 := hM
  have hO9 := hO
  have RM9 : RM M9 109 A := hRM.cgo fun a p q i => f9 a i (by omega) (by omega)
  refine x_istore (pc := 1261) dL_law_1261 (by show _ < 8; decide) rfl ?_
  refine x_aload_n (pc := 1263) dL_law_1263 rfl rfl ?_
  refine x_aload_n (pc := 1264) dL_law_1264 rfl rfl ?_
  refine x_iload (pc := 1265) dL_law_1265 rfl ?_
  refine x_iconst (pc := 1267) dL_law_1267 (by decide) ?_
  refine x_iadd (pc := 1268) dL_law_1268 (by omega) ?_
  refine x_sld (pc := 1269) dL_law_1269 ⟨by omega, by omega⟩ ?_
  refine x_aload_n (pc := 1270) dL_law_1270 rfl rfl ?_
  refine x_iload (pc := 1271) dL_law_1271 rfl ?_
  refine x_iconst (pc := 1273) dL_law_1273 (by decide) ?_
  refine x_iadd (pc := 1274) dL_law_1274 (by omega) ?_
  refine x_sld (pc := 1275) dL_law_1275 ⟨by omega, by omega⟩ ?_
  refine x_callV2N (pc := 1276) dL_law_1276 kL_199 (s_Mcome hfl (a_scr E (6 * (n : Int) + 1)) (a_scr E (6 * (n : Int) + 2)) 109 A hM9 RM9 hI.1) hM9.1 rfl (a_rmL rfl rfl (by show 220 + 40 * n + 0 ≤ 601024; omega) (by show 20200 + 400 * n + 0 ≤ 7293034; omega)) (Nat.le_of_ble_eq_true rfl) (k_G (fun v8 M8 hM8 => ?_)) n_GN
  obtain ⟨kd, t8, e8, R8, F8⟩ := hM8
  obtain ⟨k8, w8⟩ := v8
  have kd : k8 = 0 := kd
  subst kd
  have RC8 : RC M8 N S (spCome A (a_scr E (6 * (n : Int) + 1)) (a_scr E (6 * (n : Int) + 2))).2.2 := R9.cgo fun a q i => F8 a i (by omega)
  refine x_istore (pc := 1279) dL_law_1279 (by show _ < 8; decide) rfl ?_
  refine x_aload_n (pc := 1281) dL_law_1281 rfl rfl ?_
  refine x_callV0N (pc := 1282) dL_law_1282 kL_142 (s_thrown hfl 109 hM9) hM9.1 rfl (a_rmL rfl rfl (by show 220 + 40 * n + 0 + 0 ≤ 601024; omega) (by show 20200 + 400 * n + 0 + 0 ≤ 7293034; omega)) (Nat.le_of_ble_eq_true rfl) (k_R ?_) n_RN
  rw [t8]
  refine x_iload (pc := 1285) dL_law_1285 rfl ?_
  refine x_icmp_eq (tgt := 1292) (pc := 1287) dL_law_1287 (by decide) (fun c_1287 => ?_) (fun c_1287 => ?_)
  · refine x_iload (pc := 1292) dL_law_1292 rfl ?_
    refine x_if_ne (tgt := 1309) (pc := 1294) dL_law_1294 (by decide) (fun c_1294 => ?_) (fun c_1294 => ?_)
    · refine x_goto (tgt := 2617) (pc := 1309) dL_law_1309 (by decide) ?_
      exact x_lo (lo' := [(0, (2, -43)), (1, (2, 0)), (2, (2, 109)), (3, (2, 139)), (4, (0, 6 * (n : Int)))]) ⟨rfl, rfl, rfl, rfl, rfl, trivial⟩ (x_room (by show 220 + 40 * n + 0 + 0 ≤ 200 + 40 * (n + 1); omega) (by show 20200 + 400 * n + 0 + 0 ≤ 20000 + 400 * (n + 1); omega) (tail N S M8 (spCome A (a_scr E (6 * (n : Int) + 1)) (a_scr E (6 * (n : Int) + 2))).2.2 ⟨by omega, hC9, hM9, hO9, RC8, R8, INV.come_ hI (a_scr E (6 * (n : Int) + 1)) (a_scr E (6 * (n : Int) + 2))⟩ (by omega)))
    · have e139 : M8 139 0 = (spCome A (a_scr E (6 * (n : Int) + 1)) (a_scr E (6 * (n : Int) + 2))).2.1 := (F8 139 0 (by omega)).trans (v9 c_1294)
      have ew : w8 = (spCome A (a_scr E (6 * (n : Int) + 1)) (a_scr E (6 * (n : Int) + 2))).2.1 := congrArg Prod.snd (e8 c_1294)
      refine x_aload_n (pc := 1297) dL_law_1297 rfl rfl ?_
      refine x_iconst (pc := 1298) dL_law_1298 (by decide) ?_
      refine x_laloadV (pc := 1299) dL_law_1299 hO9 (by omega) (by (repeat (first | rewrite [up_s] | rewrite [up_i (by omega)] | rewrite [up_a (by omega)])); first | exact e139 | rfl) (fun g_1299 => ?_)
      refine x_iload (pc := 1300) dL_law_1300 rfl ?_
      refine x_i2l (pc := 1302) dL_law_1302 ?_
      refine x_leq (tgt := 1309) (pc := 1303) dL_law_1303 dL_law_1304 (by decide) (fun c_1303 => ?_) (fun c_1303 => ?_)
      · refine x_goto (tgt := 2617) (pc := 1309) dL_law_1309 (by decide) ?_
        exact x_lo (lo' := [(0, (2, -43)), (1, (2, 0)), (2, (2, 109)), (3, (2, 139)), (4, (0, 6 * (n : Int)))]) ⟨rfl, rfl, rfl, rfl, rfl, trivial⟩ (x_room (by show 220 + 40 * n + 0 + 0 ≤ 200 + 40 * (n + 1); omega) (by show 20200 + 400 * n + 0 + 0 ≤ 20000 + 400 * (n + 1); omega) (tail N S M8 (spCome A (a_scr E (6 * (n : Int) + 1)) (a_scr E (6 * (n : Int) + 2))).2.2 ⟨by omega, hC9, hM9, hO9, RC8, R8, INV.come_ hI (a_scr E (6 * (n : Int) + 1)) (a_scr E (6 * (n : Int) + 2))⟩ (by omega)))
      · exfalso; omega
  · exfalso; omega
theorem dL_law_1312 : decode code 1312 = .ok (.aload_n 1, 1) := by decide +kernel
theorem dL_law_1313 : decode code 1313 = .ok (.aload_n 0, 1) := by decide +kernel
theorem dL_law_1314 : decode code 1314 = .ok (.iload 4, 2) := by decide +kernel
theorem dL_law_1316 : decode code 1316 = .ok (.iconst 1, 1) := by decide +kernel
theorem dL_law_1317 : decode code 1317 = .ok (.iadd, 1) := by decide +kernel
theorem dL_law_1318 : decode code 1318 = .ok (.iaload, 1) := by decide +kernel
theorem dL_law_1319 : decode code 1319 = .ok (.aload_n 0, 1) := by decide +kernel
theorem dL_law_1320 : decode code 1320 = .ok (.iload 4, 2) := by decide +kernel
theorem dL_law_1322 : decode code 1322 = .ok (.iconst 2, 1) := by decide +kernel
theorem dL_law_1323 : decode code 1323 = .ok (.iadd, 1) := by decide +kernel
theorem dL_law_1324 : decode code 1324 = .ok (.iaload, 1) := by decide +kernel
theorem dL_law_1325 : decode code 1325 = .ok (.aload_n 0, 1) := by decide +kernel
theorem dL_law_1326 : decode code 1326 = .ok (.iload 4, 2) := by decide +kernel
theorem dL_law_1328 : decode code 1328 = .ok (.iconst 3, 1) := by decide +kernel
theorem dL_law_1329 : decode code 1329 = .ok (.iadd, 1) := by decide +kernel
theorem dL_law_1330 : decode code 1330 = .ok (.iaload, 1) := by decide +kernel
theorem dL_law_1331 : decode code 1331 = .ok (.aload_n 3, 1) := by decide +kernel
theorem dL_law_1332 : decode code 1332 = .ok (.invokestatic 200, 3) := by decide +kernel
theorem dL_law_1335 : decode code 1335 = .ok (.istore 5, 2) := by decide +kernel
theorem dL_law_1337 : decode code 1337 = .ok (.aload_n 2, 1) := by decide +kernel
theorem dL_law_1338 : decode code 1338 = .ok (.aload_n 0, 1) := by decide +kernel
theorem dL_law_1339 : decode code 1339 = .ok (.iload 4, 2) := by decide +kernel
theorem dL_law_1341 : decode code 1341 = .ok (.iconst 1, 1) := by decide +kernel
theorem dL_law_1342 : decode code 1342 = .ok (.iadd, 1) := by decide +kernel
theorem dL_law_1343 : decode code 1343 = .ok (.iaload, 1) := by decide +kernel
theorem dL_law_1344 : decode code 1344 = .ok (.aload_n 0, 1) := by decide +kernel
theorem dL_law_1345 : decode code 1345 = .ok (.iload 4, 2) := by decide +kernel
theorem dL_law_1347 : decode code 1347 = .ok (.iconst 2, 1) := by decide +kernel
theorem dL_law_1348 : decode code 1348 = .ok (.iadd, 1) := by decide +kernel
theorem dL_law_1349 : decode code 1349 = .ok (.iaload, 1) := by decide +kernel
theorem dL_law_1350 : decode code 1350 = .ok (.aload_n 0, 1) := by decide +kernel
theorem dL_law_1351 : decode code 1351 = .ok (.iload 4, 2) := by decide +kernel
theorem dL_law_1353 : decode code 1353 = .ok (.iconst 3, 1) := by decide +kernel
theorem dL_law_1354 : decode code 1354 = .ok (.iadd, 1) := by decide +kernel
theorem dL_law_1355 : decode code 1355 = .ok (.iaload, 1) := by decide +kernel
theorem dL_law_1356 : decode code 1356 = .ok (.invokevirtual 202, 3) := by decide +kernel
theorem dL_law_1359 : decode code 1359 = .ok (.istore 6, 2) := by decide +kernel
theorem dL_law_1361 : decode code 1361 = .ok (.aload_n 2, 1) := by decide +kernel
theorem dL_law_1362 : decode code 1362 = .ok (.invokevirtual 142, 3) := by decide +kernel
theorem dL_law_1365 : decode code 1365 = .ok (.iload 5, 2) := by decide +kernel
theorem dL_law_1367 : decode code 1367 = .ok (.if_icmp .eq 5, 3) := by decide +kernel
theorem dL_law_1370 : decode code 1370 = .ok (.iconst 0, 1) := by decide +kernel
theorem dL_law_1371 : decode code 1371 = .ok (.ireturn, 1) := by decide +kernel
theorem dL_law_1372 : decode code 1372 = .ok (.iload 5, 2) := by decide +kernel
theorem dL_law_1374 : decode code 1374 = .ok (.ifCond .ne 15, 3) := by decide +kernel
theorem dL_law_1377 : decode code 1377 = .ok (.aload_n 3, 1) := by decide +kernel
theorem dL_law_1378 : decode code 1378 = .ok (.iconst 0, 1) := by decide +kernel
theorem dL_law_1379 : decode code 1379 = .ok (.laload, 1) := by decide +kernel
theorem dL_law_1380 : decode code 1380 = .ok (.iload 6, 2) := by decide +kernel
theorem dL_law_1382 : decode code 1382 = .ok (.i2l, 1) := by decide +kernel
theorem dL_law_1383 : decode code 1383 = .ok (.lcmp, 1) := by decide +kernel
theorem dL_law_1384 : decode code 1384 = .ok (.ifCond .eq 5, 3) := by decide +kernel
theorem dL_law_1387 : decode code 1387 = .ok (.iconst 0, 1) := by decide +kernel
theorem dL_law_1388 : decode code 1388 = .ok (.ireturn, 1) := by decide +kernel
theorem dL_law_1389 : decode code 1389 = .ok (.goto 1228, 3) := by decide +kernel
theorem kLH_200 : a_kSH RL 200 pL_join 5 := ⟨(lw_ok_in (List.mem_of_getElem? (i := 1159) (by decide +kernel)) rfl), (lw_ok_in (List.mem_of_getElem? (i := 109) (by decide +kernel)) rfl), by decide +kernel, (lw_ok_in (List.mem_of_getElem? (i := 1157) (by decide +kernel)) rfl), (lw_ok_in (List.mem_of_getElem? (i := 1158) (by decide +kernel)) rfl)⟩
theorem kL_202 : a_kV RL 202 pX12_join 3 := ⟨cbX12_join, (lw_ok_in (List.mem_of_getElem? (i := 1951) (by decide +kernel)) rfl), (lw_ok_in (List.mem_of_getElem? (i := 1952) (by decide +kernel)) rfl), (lw_ok_in (List.mem_of_getElem? (i := 1953) (by decide +kernel)) rfl)⟩
theorem case_join {l : Launch} {E : aE} {hh : List (Nat × Nat × Nat × Nat)} {n N : Nat} {S : aS} {M A : aM} (hfl : l.stackTraces = false) (h42 : E.2.2.2 42 ≤ 3072) (hi : 6 * (n : Int) + 6 ≤ (E.2.2.2 42 : Int)) (hW : LWI N S M A) (hN9 : N ≤ 140 + 15 * n) (tail : lawTail l E hh n) : aX l E (pL_law hh) QL (200 + 40 * n) (20000 + 400 * n) N S M 1312 [(0, (2, -43)), (1, (2, 0)), (2, (2, 109)), (3, (2, 139)), (4, (0, 6 * (n : Int)))] [] := by
  obtain ⟨hN0, hC, hS9, hO, hR, hRM, hI⟩ := id hW
  have hM := hS9
  have hn : n ≤ 511 := by omega
  refine x_aload_n (pc := 1312) dL_law_1312 rfl rfl ?_
  refine x_aload_n (pc := 1313) dL_law_1313 rfl rfl ?_
  refine x_iload (pc := 1314) dL_law_1314 rfl ?_
  refine x_iconst (pc := 1316) dL_law_1316 (by decide) ?_
  refine x_iadd (pc := 1317) dL_law_1317 (by omega) ?_
  refine x_sld (pc := 1318) dL_law_1318 ⟨by omega, by omega⟩ ?_
  refine x_aload_n (pc := 1319) dL_law_1319 rfl rfl ?_
  refine x_iload (pc := 1320) dL_law_1320 rfl ?_
  refine x_iconst (pc := 1322) dL_law_1322 (by decide) ?_
  refine x_iadd (pc := 1323) dL_law_1323 (by omega) ?_
  refine x_sld (pc := 1324) dL_law_1324 ⟨by omega, by omega⟩ ?_
  refine x_aload_n (pc := 1325) dL_law_1325 rfl rfl ?_
  refine x_iload (pc := 1326) dL_law_1326 rfl ?_
  refine x_iconst (pc := 1328) dL_law_1328 (by decide) ?_
  refine x_iadd (pc := 1329) dL_law_1329 (by omega) ?_
  refine x_sld (pc := 1330) dL_law_1330 ⟨by omega, by omega⟩ ?_
  refine x_aload_n (pc := 1331) dL_law_1331 rfl rfl ?_
  refine x_callS5H (pc := 1332) dL_law_1332 kLH_200 (h_join hfl (a_scr E (6 * (n : Int) + 1)) (a_scr E (6 * (n : Int) + 2)) (a_scr E (6 * (n : Int) + 3)) A hW) (a_rmL rfl rfl (by show 200 + 40 * n + 4 ≤ 601024; omega) (by show 20000 + 400 * n + 24 ≤ 7293034; omega)) (Nat.le_of_ble_eq_true rfl) (k_hQ (fun M9 f9 R9 v9 => ?_)) n_hQ
  refine x_room (kc' := 220 + 40 * n) (ks' := 20200 + 400 * n) (by show 200 + 40 * n + 4 ≤ 220 + 40 * n; omega) (by show 20000 + 400 * n + 24 ≤ 20200 + 400 * n; omega) ?_
  have hC9 := hC
  have hM9 := hM
  have hO9 := hO
  have RM9 : RM M9 109 A := hRM.cgo fun a p q i => f9 a i (by omega) (by omega)
  refine x_istore (pc := 1335) dL_law_1335 (by show _ < 8; decide) rfl ?_
  refine x_aload_n (pc := 1337) dL_law_1337 rfl rfl ?_
  refine x_aload_n (pc := 1338) dL_law_1338 rfl rfl ?_
  refine x_iload (pc := 1339) dL_law_1339 rfl ?_
  refine x_iconst (pc := 1341) dL_law_1341 (by decide) ?_
  refine x_iadd (pc := 1342) dL_law_1342 (by omega) ?_
  refine x_sld (pc := 1343) dL_law_1343 ⟨by omega, by omega⟩ ?_
  refine x_aload_n (pc := 1344) dL_law_1344 rfl rfl ?_
  refine x_iload (pc := 1345) dL_law_1345 rfl ?_
  refine x_iconst (pc := 1347) dL_law_1347 (by decide) ?_
  refine x_iadd (pc := 1348) dL_law_1348 (by omega) ?_
  refine x_sld (pc := 1349) dL_law_1349 ⟨by omega, by omega⟩ ?_
  refine x_aload_n (pc := 1350) dL_law_1350 rfl rfl ?_
  refine x_iload (pc := 1351) dL_law_1351 rfl ?_
  refine x_iconst (pc := 1353) dL_law_1353 (by decide) ?_
  refine x_iadd (pc := 1354) dL_law_1354 (by omega) ?_
  refine x_sld (pc := 1355) dL_law_1355 ⟨by omega, by omega⟩ ?_
  refine x_callV3N (pc := 1356) dL_law_1356 kL_202 (s_Mjoin hfl (a_scr E (6 * (n : Int) + 1)) (a_scr E (6 * (n : Int) + 2)) (a_scr E (6 * (n : Int) + 3)) 109 A hM9 RM9 hI.1) hM9.1 rfl (a_rmL rfl rfl (by show 220 + 40 * n + 0 ≤ 601024; omega) (by show 20200 + 400 * n + 0 ≤ 7293034; omega)) (Nat.le_of_ble_eq_true rfl) (k_G (fun v8 M8 hM8 => ?_)) n_GN
  obtain ⟨kd, t8, e8, R8, F8⟩ := hM8
  obtain ⟨k8, w8⟩ := v8
  have kd : k8 = 0 := kd
  subst kd
  have RC8 : RC M8 N S (spJoin A (a_scr E (6 * (n : Int) + 1)) (a_scr E (6 * (n : Int) + 2)) (a_scr E (6 * (n : Int) + 3))).2.2 := R9.cgo fun a q i => F8 a i (by omega)
  refine x_istore (pc := 1359) dL_law_1359 (by show _ < 8; decide) rfl ?_
  refine x_aload_n (pc := 1361) dL_law_1361 rfl rfl ?_
  refine x_callV0N (pc := 1362) dL_law_1362 kL_142 (s_thrown hfl 109 hM9) hM9.1 rfl (a_rmL rfl rfl (by show 220 + 40 * n + 0 + 0 ≤ 601024; omega) (by show 20200 + 400 * n + 0 + 0 ≤ 7293034; omega)) (Nat.le_of_ble_eq_true rfl) (k_R ?_) n_RN
  rw [t8]
  refine x_iload (pc := 1365) dL_law_1365 rfl ?_
  refine x_icmp_eq (tgt := 1372) (pc := 1367) dL_law_1367 (by decide) (fun c_1367 => ?_) (fun c_1367 => ?_)
  · refine x_iload (pc := 1372) dL_law_1372 rfl ?_
    refine x_if_ne (tgt := 1389) (pc := 1374) dL_law_1374 (by decide) (fun c_1374 => ?_) (fun c_1374 => ?_)
    · refine x_goto (tgt := 2617) (pc := 1389) dL_law_1389 (by decide) ?_
      exact x_lo (lo' := [(0, (2, -43)), (1, (2, 0)), (2, (2, 109)), (3, (2, 139)), (4, (0, 6 * (n : Int)))]) ⟨rfl, rfl, rfl, rfl, rfl, trivial⟩ (x_room (by show 220 + 40 * n + 0 + 0 ≤ 200 + 40 * (n + 1); omega) (by show 20200 + 400 * n + 0 + 0 ≤ 20000 + 400 * (n + 1); omega) (tail N S M8 (spJoin A (a_scr E (6 * (n : Int) + 1)) (a_scr E (6 * (n : Int) + 2)) (a_scr E (6 * (n : Int) + 3))).2.2 ⟨by omega, hC9, hM9, hO9, RC8, R8, INV.join_ hI (a_scr E (6 * (n : Int) + 1)) (a_scr E (6 * (n : Int) + 2)) (a_scr E (6 * (n : Int) + 3))⟩ (by omega)))
    · have e139 : M8 139 0 = (spJoin A (a_scr E (6 * (n : Int) + 1)) (a_scr E (6 * (n : Int) + 2)) (a_scr E (6 * (n : Int) + 3))).2.1 := (F8 139 0 (by omega)).trans (v9 c_1374)
      have ew : w8 = (spJoin A (a_scr E (6 * (n : Int) + 1)) (a_scr E (6 * (n : Int) + 2)) (a_scr E (6 * (n : Int) + 3))).2.1 := congrArg Prod.snd (e8 c_1374)
      refine x_aload_n (pc := 1377) dL_law_1377 rfl rfl ?_
      refine x_iconst (pc := 1378) dL_law_1378 (by decide) ?_
      refine x_laloadV (pc := 1379) dL_law_1379 hO9 (by omega) (by (repeat (first | rewrite [up_s] | rewrite [up_i (by omega)] | rewrite [up_a (by omega)])); first | exact e139 | rfl) (fun g_1379 => ?_)
      refine x_iload (pc := 1380) dL_law_1380 rfl ?_
      refine x_i2l (pc := 1382) dL_law_1382 ?_
      refine x_leq (tgt := 1389) (pc := 1383) dL_law_1383 dL_law_1384 (by decide) (fun c_1383 => ?_) (fun c_1383 => ?_)
      · refine x_goto (tgt := 2617) (pc := 1389) dL_law_1389 (by decide) ?_
        exact x_lo (lo' := [(0, (2, -43)), (1, (2, 0)), (2, (2, 109)), (3, (2, 139)), (4, (0, 6 * (n : Int)))]) ⟨rfl, rfl, rfl, rfl, rfl, trivial⟩ (x_room (by show 220 + 40 * n + 0 + 0 ≤ 200 + 40 * (n + 1); omega) (by show 20200 + 400 * n + 0 + 0 ≤ 20000 + 400 * (n + 1); omega) (tail N S M8 (spJoin A (a_scr E (6 * (n : Int) + 1)) (a_scr E (6 * (n : Int) + 2)) (a_scr E (6 * (n : Int) + 3))).2.2 ⟨by omega, hC9, hM9, hO9, RC8, R8, INV.join_ hI (a_scr E (6 * (n : Int) + 1)) (a_scr E (6 * (n : Int) + 2)) (a_scr E (6 * (n : Int) + 3))⟩ (by omega)))
      · exfalso; omega
  · exfalso; omega
