/-! STRINGS: length and charAt of the constants -/
abbrev pJ0_coder_7d493 : aP := (yJ0_coder_7d493, cJ0_coder_7d493, 1, (some .byte), { frames := 8, cells := 0, slots := 0, locals := 110 }, [])
abbrev pJ0_isLatin1_aae02 : aP := (yJ0_isLatin1_aae02, cJ0_isLatin1_aae02, 1, (some .boolean), { frames := 8, cells := 0, slots := 0, locals := 110 }, [])
abbrev pJ1_charAt_3b067 : aP := (yJ1_charAt_3b067, cJ1_charAt_3b067, 2, (some .char), { frames := 10, cells := 0, slots := 0, locals := 153 }, [])
abbrev pJ0_checkIndex_df160 : aP := (yJ0_checkIndex_df160, cJ0_checkIndex_df160, 2, none, { frames := 9, cells := 0, slots := 0, locals := 132 }, [])
abbrev pJ3_checkIndex_8e157 : aP := (yJ3_checkIndex_8e157, cJ3_checkIndex_8e157, 3, (some .int), { frames := 8, cells := 0, slots := 0, locals := 110 }, [])
theorem cbJ0_coder_7d493 : a_cb pJ0_coder_7d493 0 := ⟨(lw_ok_in (List.mem_of_getElem? (i := 884) (by decide +kernel)) rfl), (lw_ok_in (List.mem_of_getElem? (i := 132) (by decide +kernel)) rfl), by decide +kernel⟩
theorem cbJ0_isLatin1_aae02 : a_cb pJ0_isLatin1_aae02 0 := ⟨(lw_ok_in (List.mem_of_getElem? (i := 894) (by decide +kernel)) rfl), (lw_ok_in (List.mem_of_getElem? (i := 132) (by decide +kernel)) rfl), by decide +kernel⟩
theorem cbJ1_charAt_3b067 : a_cb pJ1_charAt_3b067 2 := ⟨(lw_ok_in (List.mem_of_getElem? (i := 897) (by decide +kernel)) rfl), (lw_ok_in (List.mem_of_getElem? (i := 133) (by decide +kernel)) rfl), by decide +kernel⟩
theorem cbJ0_checkIndex_df160 : a_cb pJ0_checkIndex_df160 2 := ⟨(lw_ok_in (List.mem_of_getElem? (i := 900) (by decide +kernel)) rfl), (lw_ok_in (List.mem_of_getElem? (i := 132) (by decide +kernel)) rfl), by decide +kernel⟩
theorem cbJ3_checkIndex_8e157 : a_cb pJ3_checkIndex_8e157 3 := ⟨(lw_ok_in (List.mem_of_getElem? (i := 905) (by decide +kernel)) rfl), (lw_ok_in (List.mem_of_getElem? (i := 134) (by decide +kernel)) rfl), by decide +kernel⟩
theorem kJ0_335 : a_kV RJ0 335 pJ0_coder_7d493 0 := ⟨cbJ0_coder_7d493, (lw_ok_in (List.mem_of_getElem? (i := 881) (by decide +kernel)) rfl), (lw_ok_in (List.mem_of_getElem? (i := 882) (by decide +kernel)) rfl), (lw_ok_in (List.mem_of_getElem? (i := 883) (by decide +kernel)) rfl)⟩
theorem kJ0_492 : a_kV RJ0 492 pJ0_isLatin1_aae02 0 := ⟨cbJ0_isLatin1_aae02, (lw_ok_in (List.mem_of_getElem? (i := 891) (by decide +kernel)) rfl), (lw_ok_in (List.mem_of_getElem? (i := 892) (by decide +kernel)) rfl), (lw_ok_in (List.mem_of_getElem? (i := 893) (by decide +kernel)) rfl)⟩
theorem kJ0_495 : a_kS RJ0 495 pJ1_charAt_3b067 2 := ⟨cbJ1_charAt_3b067, (lw_ok_in (List.mem_of_getElem? (i := 895) (by decide +kernel)) rfl), (lw_ok_in (List.mem_of_getElem? (i := 896) (by decide +kernel)) rfl)⟩
theorem kJ1_9 : a_kS RJ1 9 pJ0_checkIndex_df160 2 := ⟨cbJ0_checkIndex_df160, (lw_ok_in (List.mem_of_getElem? (i := 898) (by decide +kernel)) rfl), (lw_ok_in (List.mem_of_getElem? (i := 899) (by decide +kernel)) rfl)⟩
theorem kJ0_1059 : a_kS RJ0 1059 pJ3_checkIndex_8e157 3 := ⟨cbJ3_checkIndex_8e157, (lw_ok_in (List.mem_of_getElem? (i := 903) (by decide +kernel)) rfl), (lw_ok_in (List.mem_of_getElem? (i := 904) (by decide +kernel)) rfl)⟩
theorem dJ0_coder_7d493_0 : decode cJ0_coder_7d493 0 = .ok (.getstatic 38, 3) := by decide +kernel
theorem dJ0_coder_7d493_3 : decode cJ0_coder_7d493 3 = .ok (.ifCond .eq 10, 3) := by decide +kernel
theorem dJ0_coder_7d493_6 : decode cJ0_coder_7d493 6 = .ok (.aload_n 0, 1) := by decide +kernel
theorem dJ0_coder_7d493_7 : decode cJ0_coder_7d493 7 = .ok (.getfield 15, 3) := by decide +kernel
theorem dJ0_coder_7d493_10 : decode cJ0_coder_7d493 10 = .ok (.goto 4, 3) := by decide +kernel
theorem dJ0_coder_7d493_13 : decode cJ0_coder_7d493 13 = .ok (.iconst 1, 1) := by decide +kernel
theorem dJ0_coder_7d493_14 : decode cJ0_coder_7d493 14 = .ok (.ireturn, 1) := by decide +kernel
theorem dJ0_isLatin1_aae02_0 : decode cJ0_isLatin1_aae02 0 = .ok (.getstatic 38, 3) := by decide +kernel
theorem dJ0_isLatin1_aae02_3 : decode cJ0_isLatin1_aae02 3 = .ok (.ifCond .eq 14, 3) := by decide +kernel
theorem dJ0_isLatin1_aae02_6 : decode cJ0_isLatin1_aae02 6 = .ok (.aload_n 0, 1) := by decide +kernel
theorem dJ0_isLatin1_aae02_7 : decode cJ0_isLatin1_aae02 7 = .ok (.getfield 15, 3) := by decide +kernel
theorem dJ0_isLatin1_aae02_10 : decode cJ0_isLatin1_aae02 10 = .ok (.ifCond .ne 7, 3) := by decide +kernel
theorem dJ0_isLatin1_aae02_13 : decode cJ0_isLatin1_aae02 13 = .ok (.iconst 1, 1) := by decide +kernel
theorem dJ0_isLatin1_aae02_14 : decode cJ0_isLatin1_aae02 14 = .ok (.goto 4, 3) := by decide +kernel
theorem dJ0_isLatin1_aae02_17 : decode cJ0_isLatin1_aae02 17 = .ok (.iconst 0, 1) := by decide +kernel
theorem dJ0_isLatin1_aae02_18 : decode cJ0_isLatin1_aae02 18 = .ok (.ireturn, 1) := by decide +kernel
theorem dJ1_charAt_3b067_0 : decode cJ1_charAt_3b067 0 = .ok (.iload_n 1, 1) := by decide +kernel
theorem dJ1_charAt_3b067_1 : decode cJ1_charAt_3b067 1 = .ok (.aload_n 0, 1) := by decide +kernel
theorem dJ1_charAt_3b067_2 : decode cJ1_charAt_3b067 2 = .ok (.arraylength, 1) := by decide +kernel
theorem dJ1_charAt_3b067_3 : decode cJ1_charAt_3b067 3 = .ok (.invokestatic 9, 3) := by decide +kernel
theorem dJ1_charAt_3b067_6 : decode cJ1_charAt_3b067 6 = .ok (.aload_n 0, 1) := by decide +kernel
theorem dJ1_charAt_3b067_7 : decode cJ1_charAt_3b067 7 = .ok (.iload_n 1, 1) := by decide +kernel
theorem dJ1_charAt_3b067_8 : decode cJ1_charAt_3b067 8 = .ok (.baload, 1) := by decide +kernel
theorem dJ1_charAt_3b067_9 : decode cJ1_charAt_3b067 9 = .ok (.sipush 255, 3) := by decide +kernel
theorem dJ1_charAt_3b067_12 : decode cJ1_charAt_3b067 12 = .ok (.iand, 1) := by decide +kernel
theorem dJ1_charAt_3b067_13 : decode cJ1_charAt_3b067 13 = .ok (.i2c, 1) := by decide +kernel
theorem dJ1_charAt_3b067_14 : decode cJ1_charAt_3b067 14 = .ok (.ireturn, 1) := by decide +kernel
theorem dJ0_checkIndex_df160_0 : decode cJ0_checkIndex_df160 0 = .ok (.iload_n 0, 1) := by decide +kernel
theorem dJ0_checkIndex_df160_1 : decode cJ0_checkIndex_df160 1 = .ok (.iload_n 1, 1) := by decide +kernel
theorem dJ0_checkIndex_df160_2 : decode cJ0_checkIndex_df160 2 = .ok (.getstatic 1053, 3) := by decide +kernel
theorem dJ0_checkIndex_df160_5 : decode cJ0_checkIndex_df160 5 = .ok (.invokestatic 1059, 3) := by decide +kernel
theorem dJ0_checkIndex_df160_8 : decode cJ0_checkIndex_df160 8 = .ok (.pop, 1) := by decide +kernel
theorem dJ0_checkIndex_df160_9 : decode cJ0_checkIndex_df160 9 = .ok (.return_, 1) := by decide +kernel
theorem dJ3_checkIndex_8e157_0 : decode cJ3_checkIndex_8e157 0 = .ok (.iload_n 0, 1) := by decide +kernel
theorem dJ3_checkIndex_8e157_1 : decode cJ3_checkIndex_8e157 1 = .ok (.ifCond .lt 8, 3) := by decide +kernel
theorem dJ3_checkIndex_8e157_4 : decode cJ3_checkIndex_8e157 4 = .ok (.iload_n 0, 1) := by decide +kernel
theorem dJ3_checkIndex_8e157_5 : decode cJ3_checkIndex_8e157 5 = .ok (.iload_n 1, 1) := by decide +kernel
theorem dJ3_checkIndex_8e157_6 : decode cJ3_checkIndex_8e157 6 = .ok (.if_icmp .lt 10, 3) := by decide +kernel
theorem dJ3_checkIndex_8e157_9 : decode cJ3_checkIndex_8e157 9 = .ok (.aload_n 2, 1) := by decide +kernel
theorem dJ3_checkIndex_8e157_10 : decode cJ3_checkIndex_8e157 10 = .ok (.iload_n 0, 1) := by decide +kernel
theorem dJ3_checkIndex_8e157_11 : decode cJ3_checkIndex_8e157 11 = .ok (.iload_n 1, 1) := by decide +kernel
theorem dJ3_checkIndex_8e157_12 : decode cJ3_checkIndex_8e157 12 = .ok (.invokestatic 95, 3) := by decide +kernel
theorem dJ3_checkIndex_8e157_15 : decode cJ3_checkIndex_8e157 15 = .ok (.athrow, 1) := by decide +kernel
theorem dJ3_checkIndex_8e157_16 : decode cJ3_checkIndex_8e157 16 = .ok (.iload_n 0, 1) := by decide +kernel
theorem dJ3_checkIndex_8e157_17 : decode cJ3_checkIndex_8e157 17 = .ok (.ireturn, 1) := by decide +kernel
theorem dJ0_length_8abf5_0 : decode cJ0_length_8abf5 0 = .ok (.aload_n 0, 1) := by decide +kernel
theorem dJ0_length_8abf5_1 : decode cJ0_length_8abf5 1 = .ok (.getfield 9, 3) := by decide +kernel
theorem dJ0_length_8abf5_4 : decode cJ0_length_8abf5 4 = .ok (.arraylength, 1) := by decide +kernel
theorem dJ0_length_8abf5_5 : decode cJ0_length_8abf5 5 = .ok (.aload_n 0, 1) := by decide +kernel
theorem dJ0_length_8abf5_6 : decode cJ0_length_8abf5 6 = .ok (.invokevirtual 335, 3) := by decide +kernel
theorem dJ0_length_8abf5_9 : decode cJ0_length_8abf5 9 = .ok (.ishr, 1) := by decide +kernel
theorem dJ0_length_8abf5_10 : decode cJ0_length_8abf5 10 = .ok (.ireturn, 1) := by decide +kernel
theorem dJ0_charAt_5068e_0 : decode cJ0_charAt_5068e 0 = .ok (.aload_n 0, 1) := by decide +kernel
theorem dJ0_charAt_5068e_1 : decode cJ0_charAt_5068e 1 = .ok (.invokevirtual 492, 3) := by decide +kernel
theorem dJ0_charAt_5068e_4 : decode cJ0_charAt_5068e 4 = .ok (.ifCond .eq 12, 3) := by decide +kernel
theorem dJ0_charAt_5068e_7 : decode cJ0_charAt_5068e 7 = .ok (.aload_n 0, 1) := by decide +kernel
theorem dJ0_charAt_5068e_8 : decode cJ0_charAt_5068e 8 = .ok (.getfield 9, 3) := by decide +kernel
theorem dJ0_charAt_5068e_11 : decode cJ0_charAt_5068e 11 = .ok (.iload_n 1, 1) := by decide +kernel
theorem dJ0_charAt_5068e_12 : decode cJ0_charAt_5068e 12 = .ok (.invokestatic 495, 3) := by decide +kernel
theorem dJ0_charAt_5068e_15 : decode cJ0_charAt_5068e 15 = .ok (.ireturn, 1) := by decide +kernel
theorem dJ0_charAt_5068e_16 : decode cJ0_charAt_5068e 16 = .ok (.aload_n 0, 1) := by decide +kernel
theorem dJ0_charAt_5068e_17 : decode cJ0_charAt_5068e 17 = .ok (.getfield 9, 3) := by decide +kernel
theorem dJ0_charAt_5068e_20 : decode cJ0_charAt_5068e 20 = .ok (.iload_n 1, 1) := by decide +kernel
theorem dJ0_charAt_5068e_21 : decode cJ0_charAt_5068e 21 = .ok (.invokestatic 498, 3) := by decide +kernel
theorem dJ0_charAt_5068e_24 : decode cJ0_charAt_5068e 24 = .ok (.ireturn, 1) := by decide +kernel
def wdV (k : Nat) : List aV := (wdL k).map fun c => (0, c)
theorem hkO : ∀ k, k < 13 → (14 + k, "java/lang/String") ∈ a_kO := fun k hk => match k, hk with
  | 0, _ => List.mem_of_getElem? (i := 13) rfl
  | 1, _ => List.mem_of_getElem? (i := 14) rfl
  | 2, _ => List.mem_of_getElem? (i := 15) rfl
  | 3, _ => List.mem_of_getElem? (i := 16) rfl
  | 4, _ => List.mem_of_getElem? (i := 17) rfl
  | 5, _ => List.mem_of_getElem? (i := 18) rfl
  | 6, _ => List.mem_of_getElem? (i := 19) rfl
  | 7, _ => List.mem_of_getElem? (i := 20) rfl
  | 8, _ => List.mem_of_getElem? (i := 21) rfl
  | 9, _ => List.mem_of_getElem? (i := 22) rfl
  | 10, _ => List.mem_of_getElem? (i := 23) rfl
  | 11, _ => List.mem_of_getElem? (i := 24) rfl
  | 12, _ => List.mem_of_getElem? (i := 25) rfl
  | k + 13, h => absurd h (by omega)
theorem hkC : ∀ k : Nat, k < 13 → ("java/lang/String", "coder", "B", 14 + k, ((0 : Nat), (0 : Int))) ∈ a_kF := fun k hk => match k, hk with
  | 0, _ => List.mem_of_getElem? (i := 91) rfl
  | 1, _ => List.mem_of_getElem? (i := 93) rfl
  | 2, _ => List.mem_of_getElem? (i := 95) rfl
  | 3, _ => List.mem_of_getElem? (i := 97) rfl
  | 4, _ => List.mem_of_getElem? (i := 99) rfl
  | 5, _ => List.mem_of_getElem? (i := 101) rfl
  | 6, _ => List.mem_of_getElem? (i := 103) rfl
  | 7, _ => List.mem_of_getElem? (i := 105) rfl
  | 8, _ => List.mem_of_getElem? (i := 107) rfl
  | 9, _ => List.mem_of_getElem? (i := 109) rfl
  | 10, _ => List.mem_of_getElem? (i := 111) rfl
  | 11, _ => List.mem_of_getElem? (i := 113) rfl
  | 12, _ => List.mem_of_getElem? (i := 115) rfl
  | k + 13, h => absurd h (by omega)
theorem hkV : ∀ k : Nat, k < 13 → ("java/lang/String", "value", "[B", 14 + k, ((2 : Nat), -29 - (k : Int))) ∈ a_kF := fun k hk => match k, hk with
  | 0, _ => List.mem_of_getElem? (i := 92) rfl
  | 1, _ => List.mem_of_getElem? (i := 94) rfl
  | 2, _ => List.mem_of_getElem? (i := 96) rfl
  | 3, _ => List.mem_of_getElem? (i := 98) rfl
  | 4, _ => List.mem_of_getElem? (i := 100) rfl
  | 5, _ => List.mem_of_getElem? (i := 102) rfl
  | 6, _ => List.mem_of_getElem? (i := 104) rfl
  | 7, _ => List.mem_of_getElem? (i := 106) rfl
  | 8, _ => List.mem_of_getElem? (i := 108) rfl
  | 9, _ => List.mem_of_getElem? (i := 110) rfl
  | 10, _ => List.mem_of_getElem? (i := 112) rfl
  | 11, _ => List.mem_of_getElem? (i := 114) rfl
  | 12, _ => List.mem_of_getElem? (i := 116) rfl
  | k + 13, h => absurd h (by omega)
theorem hkT : ∀ k, k < 13 → (FieldType.byte, 27 + k, wdV k) ∈ a_kT := fun k hk => match k, hk with
  | 0, _ => List.mem_of_getElem? (i := 1) rfl
  | 1, _ => List.mem_of_getElem? (i := 2) rfl
  | 2, _ => List.mem_of_getElem? (i := 3) rfl
  | 3, _ => List.mem_of_getElem? (i := 4) rfl
  | 4, _ => List.mem_of_getElem? (i := 5) rfl
  | 5, _ => List.mem_of_getElem? (i := 6) rfl
  | 6, _ => List.mem_of_getElem? (i := 7) rfl
  | 7, _ => List.mem_of_getElem? (i := 8) rfl
  | 8, _ => List.mem_of_getElem? (i := 9) rfl
  | 9, _ => List.mem_of_getElem? (i := 10) rfl
  | 10, _ => List.mem_of_getElem? (i := 11) rfl
  | 11, _ => List.mem_of_getElem? (i := 12) rfl
  | 12, _ => List.mem_of_getElem? (i := 13) rfl
  | k + 13, h => absurd h (by omega)
theorem hkS : ∀ k, k < 13 → b_shr ((wdV k).length : Nat) 0 = ((wdL k).length : Nat) ∧ (wdV k).length ≤ 100 ∧ (wdV k).length = (wdL k).length := by decide +kernel
theorem hkB : ∀ k, k < 13 → ∀ i, i < (wdL k).length → (wdV k).getD i (0, 0) = (0, (wdL k).getD i 0) ∧ 0 ≤ (wdL k).getD i 0 ∧ (wdL k).getD i 0 < 128 := by decide +kernel
theorem nar_c {c : Int} (h : 0 ≤ c ∧ c < 128) : narrow .char (.int (Int32.ofInt c)) = .int (Int32.ofInt c) := by
  have g : ∀ n : Nat, n < 128 → narrow .char (.int (Int32.ofInt (n : Int))) = .int (Int32.ofInt (n : Int)) := by decide +kernel
  have := g c.toNat (by omega)
  rwa [Int.toNat_of_nonneg h.1] at this
theorem and255 {c : Int} (h : 0 ≤ c ∧ c < 128) : b_and c 255 = c := by
  have g : ∀ n : Nat, n < 128 → b_and (n : Int) 255 = (n : Int) := by decide +kernel
  have := g c.toNat (by omega)
  rwa [Int.toNat_of_nonneg h.1] at this
section AXF
variable {l : Launch} {E : aE} {P : aP} {Q : aQ} {kc ks N : Nat} {S : aS} {M : aM} {pc : Nat} {lo : List (Nat × aV)} {st : List aV}
theorem x_kfmt {i : Nat} (hd : decode P.2.1 pc = .ok (.getstatic i, 3)) (hl : Cond.fieldLink P.1.cls i "jdk/internal/util/Preconditions" "SIOOBE_FORMATTER" "Ljava/util/function/BiFunction;" ∈ lw_ok)
    (kk : ∀ v : Int, v < 0 → aX l E P Q kc ks N S M (pc + 3) lo ((2, v) :: st)) : aX l E P Q kc ks N S M pc lo st := by
  intro p e s m args below meth c H locs ls ad0 ad N0 S0 B w9 x hS9 hl9 h1 h2
  rcases B.2.2.2.2.2.2.2.2.1.2.2.2.2.1.2.2.2.2.1 with hz | hz
  · refine va_gets B.1 B.2.1 hz hS9 B.2.2.2.2.1 (B.2.2.2.2.2.1 _ hl) (fun x h => h) hd ?_
    exact kk (-1) (by decide) p e s m args below meth c H locs ls ad0 ad N0 S0 B w9 x hS9 hl9 (a_cons (by show (-1 : Int) < (N : Int); omega) h1) h2
  · refine va_gets B.1 B.2.1 hz hS9 B.2.2.2.2.1 (B.2.2.2.2.2.1 _ hl) (fun x h => h) hd ?_
    exact kk (-42) (by decide) p e s m args below meth c H locs ls ad0 ad N0 S0 B w9 x hS9 hl9 (a_cons (by show (-42 : Int) < (N : Int); omega) h1) h2
end AXF
theorem s_coder {l : Launch} {E : aE} {N : Nat} {S : aS} {M : aM} (hfl : l.stackTraces = false) (k : Nat) (hk : k < 13) : aMt l E pJ0_coder_7d493 [(2, -16 - (k : Int))] N S M (aR (0, 0) N S M) := by
  refine a_met hfl rfl (by decide +kernel) (Nat.le_of_ble_eq_true rfl) ?_
  refine x_kZ (pc := 0) dJ0_coder_7d493_0 (lw_ok_in (List.mem_of_getElem? (i := 885) (by decide +kernel)) rfl) (List.mem_of_getElem? (i := 14) rfl) (Or.inl ⟨rfl, by decide, by decide⟩) ?_
  refine x_if_eq (tgt := 13) (pc := 3) dJ0_coder_7d493_3 (by decide) (fun c => absurd c (by decide)) (fun _ => ?_)
  refine x_aload_n (pc := 6) dJ0_coder_7d493_6 rfl rfl ?_
  refine x_kF (pc := 7) dJ0_coder_7d493_7 (lw_ok_in (List.mem_of_getElem? (i := 2145) (by decide +kernel)) rfl) (hkC k hk) (by omega) (Or.inl ⟨rfl, by decide, by decide⟩) ?_
  refine x_goto (tgt := 14) (pc := 10) dJ0_coder_7d493_10 (by decide) ?_
  refine x_nreturn (pc := 14) dJ0_coder_7d493_14 rfl rfl (by decide) ?_
  exact ⟨rfl, rfl, rfl, rfl⟩
theorem s_isLatin1 {l : Launch} {E : aE} {N : Nat} {S : aS} {M : aM} (hfl : l.stackTraces = false) (k : Nat) (hk : k < 13) : aMt l E pJ0_isLatin1_aae02 [(2, -16 - (k : Int))] N S M (aR (0, 1) N S M) := by
  refine a_met hfl rfl (by decide +kernel) (Nat.le_of_ble_eq_true rfl) ?_
  refine x_kZ (pc := 0) dJ0_isLatin1_aae02_0 (lw_ok_in (List.mem_of_getElem? (i := 885) (by decide +kernel)) rfl) (List.mem_of_getElem? (i := 14) rfl) (Or.inl ⟨rfl, by decide, by decide⟩) ?_
  refine x_if_eq (tgt := 17) (pc := 3) dJ0_isLatin1_aae02_3 (by decide) (fun c => absurd c (by decide)) (fun _ => ?_)
  refine x_aload_n (pc := 6) dJ0_isLatin1_aae02_6 rfl rfl ?_
  refine x_kF (pc := 7) dJ0_isLatin1_aae02_7 (lw_ok_in (List.mem_of_getElem? (i := 2145) (by decide +kernel)) rfl) (hkC k hk) (by omega) (Or.inl ⟨rfl, by decide, by decide⟩) ?_
  refine x_if_ne (tgt := 17) (pc := 10) dJ0_isLatin1_aae02_10 (by decide) (fun c => absurd rfl c) (fun _ => ?_)
  refine x_iconst (pc := 13) dJ0_isLatin1_aae02_13 (by decide) ?_
  refine x_goto (tgt := 18) (pc := 14) dJ0_isLatin1_aae02_14 (by decide) ?_
  refine x_zreturn (pc := 18) dJ0_isLatin1_aae02_18 rfl (Or.inr rfl) (by decide) ?_
  exact ⟨rfl, rfl, rfl, rfl⟩
theorem s_check3 {l : Launch} {E : aE} {N : Nat} {S : aS} {M : aM} (hfl : l.stackTraces = false) (i n v : Int) (hi : 0 ≤ i ∧ i < n) : aMt l E pJ3_checkIndex_8e157 [(0, i), (0, n), (2, v)] N S M (aR (0, i) N S M) := by
  refine a_met hfl rfl (by decide +kernel) (Nat.le_of_ble_eq_true rfl) ?_
  refine x_iload_n (pc := 0) dJ3_checkIndex_8e157_0 rfl rfl ?_
  refine x_if_lt (tgt := 9) (pc := 1) dJ3_checkIndex_8e157_1 (by decide) (fun c => absurd c (by omega)) (fun _ => ?_)
  refine x_iload_n (pc := 4) dJ3_checkIndex_8e157_4 rfl rfl ?_
  refine x_iload_n (pc := 5) dJ3_checkIndex_8e157_5 rfl rfl ?_
  refine x_icmp_lt (tgt := 16) (pc := 6) dJ3_checkIndex_8e157_6 (by decide) (fun _ => ?_) (fun c => absurd c (by omega))
  refine x_iload_n (pc := 16) dJ3_checkIndex_8e157_16 rfl rfl ?_
  refine x_ireturn (pc := 17) dJ3_checkIndex_8e157_17 rfl (by decide) ?_
  exact ⟨rfl, rfl, rfl, rfl⟩
theorem s_check2 {l : Launch} {E : aE} {N : Nat} {S : aS} {M : aM} (hfl : l.stackTraces = false) (i n : Int) (hi : 0 ≤ i ∧ i < n) : aMt l E pJ0_checkIndex_df160 [(0, i), (0, n)] N S M (aU N S (fun M' => M' = M)) := by
  refine a_met hfl rfl (by decide +kernel) (Nat.le_of_ble_eq_true rfl) ?_
  refine x_iload_n (pc := 0) dJ0_checkIndex_df160_0 rfl rfl ?_
  refine x_iload_n (pc := 1) dJ0_checkIndex_df160_1 rfl rfl ?_
  refine x_kfmt (pc := 2) dJ0_checkIndex_df160_2 (lw_ok_in (List.mem_of_getElem? (i := 901) (by decide +kernel)) rfl) (fun v hv => ?_)
  refine x_callS3 (pc := 5) dJ0_checkIndex_df160_5 rfl kJ0_1059 (s_check3 hfl i n v hi) rfl (Nat.le_of_ble_eq_true rfl) (k_R ?_) n_R
  refine x_pop (pc := 8) dJ0_checkIndex_df160_8 rfl ?_
  refine x_return (pc := 9) dJ0_checkIndex_df160_9 rfl (by decide) ?_
  exact ⟨rfl, rfl, rfl, rfl⟩
theorem s_charAt1 {l : Launch} {E : aE} {N : Nat} {S : aS} {M : aM} (hfl : l.stackTraces = false) (k : Nat) (hk : k < 13) (i : Int) (hi : 0 ≤ i ∧ i < ((wdL k).length : Nat)) : aMt l E pJ1_charAt_3b067 [(2, -29 - (k : Int)), (0, i)] N S M (aR (0, (wdL k).getD i.toNat 0) N S M) := by
  refine a_met hfl rfl (by decide +kernel) (Nat.le_of_ble_eq_true rfl) ?_
  obtain ⟨q1, q2, q3⟩ := hkS k hk
  obtain ⟨r1, r2, r3⟩ := hkB k hk i.toNat (by omega)
  refine x_iload_n (pc := 0) dJ1_charAt_3b067_0 rfl rfl ?_
  refine x_aload_n (pc := 1) dJ1_charAt_3b067_1 rfl rfl ?_
  refine x_klen (pc := 2) dJ1_charAt_3b067_2 (hkT k hk) (by omega) q2 ?_
  refine x_callS2 (pc := 3) dJ1_charAt_3b067_3 rfl kJ1_9 (s_check2 hfl i _ (by rw [q3]; exact hi)) rfl (Nat.le_of_ble_eq_true rfl) (k_U (fun M9 hM9 => ?_)) n_U
  subst hM9
  refine x_aload_n (pc := 6) dJ1_charAt_3b067_6 rfl rfl ?_
  refine x_iload_n (pc := 7) dJ1_charAt_3b067_7 rfl rfl ?_
  refine x_ktb (pc := 8) dJ1_charAt_3b067_8 (hkT k hk) (by omega) (by rw [q3]; exact hi) r1 (Or.inl ⟨rfl, by show -2147483648 ≤ (wdL k).getD i.toNat 0; omega, by show (wdL k).getD i.toNat 0 ≤ 2147483647; omega⟩) ?_
  refine x_sipush (pc := 9) dJ1_charAt_3b067_9 (by decide) ?_
  refine x_iand (pc := 12) dJ1_charAt_3b067_12 ?_
  rewrite [and255 ⟨r2, r3⟩]
  refine x_i2c (pc := 13) dJ1_charAt_3b067_13 ⟨r2, by omega⟩ ?_
  refine x_nreturn (pc := 14) dJ1_charAt_3b067_14 rfl (nar_c ⟨r2, r3⟩) (by decide) ?_
  exact ⟨rfl, rfl, rfl, rfl⟩
theorem s_charAt {l : Launch} {E : aE} {N : Nat} {S : aS} {M : aM} (hfl : l.stackTraces = false) (k : Nat) (hk : k < 13) (i : Int) (hi : 0 ≤ i ∧ i < ((wdL k).length : Nat)) : aMt l E pJ0_charAt_5068e [(2, -16 - (k : Int)), (0, i)] N S M (aR (0, (wdL k).getD i.toNat 0) N S M) := by
  refine a_met hfl rfl (by decide +kernel) (Nat.le_of_ble_eq_true rfl) ?_
  obtain ⟨r1, r2, r3⟩ := hkB k hk i.toNat (by omega)
  refine x_aload_n (pc := 0) dJ0_charAt_5068e_0 rfl rfl ?_
  refine x_callK0 (pc := 1) dJ0_charAt_5068e_1 rfl kJ0_492 (s_isLatin1 hfl k hk) (hkO k hk) (by omega) rfl rfl (Nat.le_of_ble_eq_true rfl) (k_R ?_) n_R
  refine x_if_eq (tgt := 16) (pc := 4) dJ0_charAt_5068e_4 (by decide) (fun c => absurd c (by decide)) (fun _ => ?_)
  refine x_aload_n (pc := 7) dJ0_charAt_5068e_7 rfl rfl ?_
  refine x_kF (pc := 8) dJ0_charAt_5068e_8 (lw_ok_in (List.mem_of_getElem? (i := 2144) (by decide +kernel)) rfl) (hkV k hk) (by omega) (Or.inr ⟨rfl, by show -29 - (k : Int) < 0; omega⟩) ?_
  refine x_iload_n (pc := 11) dJ0_charAt_5068e_11 rfl rfl ?_
  refine x_callS2 (pc := 12) dJ0_charAt_5068e_12 rfl kJ0_495 (s_charAt1 hfl k hk i hi) rfl (Nat.le_of_ble_eq_true rfl) (k_R ?_) n_R
  refine x_nreturn (pc := 15) dJ0_charAt_5068e_15 rfl (nar_c ⟨r2, r3⟩) (by decide) ?_
  exact ⟨rfl, rfl, rfl, rfl⟩
theorem s_strlen {l : Launch} {E : aE} {N : Nat} {S : aS} {M : aM} (hfl : l.stackTraces = false) (k : Nat) (hk : k < 13) : aMt l E pJ0_length_8abf5 [(2, -16 - (k : Int))] N S M (aR (0, ((wdL k).length : Nat)) N S M) := by
  refine a_met hfl rfl (by decide +kernel) (Nat.le_of_ble_eq_true rfl) ?_
  obtain ⟨q1, q2, q3⟩ := hkS k hk
  refine x_aload_n (pc := 0) dJ0_length_8abf5_0 rfl rfl ?_
  refine x_kF (pc := 1) dJ0_length_8abf5_1 (lw_ok_in (List.mem_of_getElem? (i := 2144) (by decide +kernel)) rfl) (hkV k hk) (by omega) (Or.inr ⟨rfl, by show -29 - (k : Int) < 0; omega⟩) ?_
  refine x_klen (pc := 4) dJ0_length_8abf5_4 (hkT k hk) (by omega) q2 ?_
  refine x_aload_n (pc := 5) dJ0_length_8abf5_5 rfl rfl ?_
  refine x_callK0 (pc := 6) dJ0_length_8abf5_6 rfl kJ0_335 (s_coder hfl k hk) (hkO k hk) (by omega) rfl rfl (Nat.le_of_ble_eq_true rfl) (k_R ?_) n_R
  refine x_ishr (pc := 9) dJ0_length_8abf5_9 ?_
  rewrite [q1]
  refine x_ireturn (pc := 10) dJ0_length_8abf5_10 rfl (by decide) ?_
  exact ⟨rfl, rfl, rfl, rfl⟩
theorem eqL_iff {T : Int → Int} : ∀ (L : List Int) (b : Int), eqL T b L = true ↔ ∀ j : Nat, j < L.length → T (b + j) = L.getD j 0
  | [], b => ⟨fun _ j h => absurd h (by show ¬ j < 0; omega), fun _ => rfl⟩
  | c :: L, b => by
    have e : eqL T b (c :: L) = (decide (T b = c) && eqL T (b + 1) L) := rfl
    rw [e, Bool.and_eq_true, decide_eq_true_iff, eqL_iff L (b + 1)]
    constructor
    · rintro ⟨h1, h2⟩ j hj
      cases j with
      | zero => rw [show b + ((0 : Nat) : Int) = b by omega]; exact h1
      | succ j =>
        have := h2 j (by simp at hj; omega)
        rw [show b + ((j + 1 : Nat) : Int) = b + 1 + (j : Int) by omega]
        exact this
    · intro h
      refine ⟨?_, fun j hj => ?_⟩
      · have := h 0 (by simp)
        rw [show b + ((0 : Nat) : Int) = b by omega] at this
        exact this
      · have := h (j + 1) (by simp; omega)
        rw [show b + ((j + 1 : Nat) : Int) = b + 1 + (j : Int) by omega] at this
        exact this
theorem dX12_isWord_0 : decode cX12_isWord 0 = .ok (.aload_n 0, 1) := by decide +kernel
theorem dX12_isWord_1 : decode cX12_isWord 1 = .ok (.getfield 176, 3) := by decide +kernel
theorem dX12_isWord_4 : decode cX12_isWord 4 = .ok (.ifCond .ne 31, 3) := by decide +kernel
theorem dX12_isWord_7 : decode cX12_isWord 7 = .ok (.aload_n 0, 1) := by decide +kernel
theorem dX12_isWord_8 : decode cX12_isWord 8 = .ok (.getfield 161, 3) := by decide +kernel
theorem dX12_isWord_11 : decode cX12_isWord 11 = .ok (.iconst 1, 1) := by decide +kernel
theorem dX12_isWord_12 : decode cX12_isWord 12 = .ok (.if_icmp .ne 23, 3) := by decide +kernel
theorem dX12_isWord_15 : decode cX12_isWord 15 = .ok (.aload_n 0, 1) := by decide +kernel
theorem dX12_isWord_16 : decode cX12_isWord 16 = .ok (.getfield 155, 3) := by decide +kernel
theorem dX12_isWord_19 : decode cX12_isWord 19 = .ok (.aload_n 0, 1) := by decide +kernel
theorem dX12_isWord_20 : decode cX12_isWord 20 = .ok (.getfield 158, 3) := by decide +kernel
theorem dX12_isWord_23 : decode cX12_isWord 23 = .ok (.isub, 1) := by decide +kernel
theorem dX12_isWord_24 : decode cX12_isWord 24 = .ok (.aload_n 1, 1) := by decide +kernel
theorem dX12_isWord_25 : decode cX12_isWord 25 = .ok (.invokevirtual 182, 3) := by decide +kernel
theorem dX12_isWord_28 : decode cX12_isWord 28 = .ok (.if_icmp .ne 7, 3) := by decide +kernel
theorem dX12_isWord_31 : decode cX12_isWord 31 = .ok (.iconst 1, 1) := by decide +kernel
theorem dX12_isWord_32 : decode cX12_isWord 32 = .ok (.goto 4, 3) := by decide +kernel
theorem dX12_isWord_35 : decode cX12_isWord 35 = .ok (.iconst 0, 1) := by decide +kernel
theorem dX12_isWord_36 : decode cX12_isWord 36 = .ok (.istore_n 2, 1) := by decide +kernel
theorem dX12_isWord_37 : decode cX12_isWord 37 = .ok (.iconst 0, 1) := by decide +kernel
theorem dX12_isWord_38 : decode cX12_isWord 38 = .ok (.istore_n 3, 1) := by decide +kernel
theorem dX12_isWord_39 : decode cX12_isWord 39 = .ok (.iload_n 2, 1) := by decide +kernel
theorem dX12_isWord_40 : decode cX12_isWord 40 = .ok (.ifCond .eq 42, 3) := by decide +kernel
theorem dX12_isWord_43 : decode cX12_isWord 43 = .ok (.iload_n 3, 1) := by decide +kernel
theorem dX12_isWord_44 : decode cX12_isWord 44 = .ok (.aload_n 1, 1) := by decide +kernel
theorem dX12_isWord_45 : decode cX12_isWord 45 = .ok (.invokevirtual 182, 3) := by decide +kernel
theorem dX12_isWord_48 : decode cX12_isWord 48 = .ok (.if_icmp .ge 34, 3) := by decide +kernel
theorem dX12_isWord_51 : decode cX12_isWord 51 = .ok (.aload_n 0, 1) := by decide +kernel
theorem dX12_isWord_52 : decode cX12_isWord 52 = .ok (.getfield 20, 3) := by decide +kernel
theorem dX12_isWord_55 : decode cX12_isWord 55 = .ok (.aload_n 0, 1) := by decide +kernel
theorem dX12_isWord_56 : decode cX12_isWord 56 = .ok (.getfield 158, 3) := by decide +kernel
theorem dX12_isWord_59 : decode cX12_isWord 59 = .ok (.iload_n 3, 1) := by decide +kernel
theorem dX12_isWord_60 : decode cX12_isWord 60 = .ok (.iadd, 1) := by decide +kernel
theorem dX12_isWord_61 : decode cX12_isWord 61 = .ok (.iaload, 1) := by decide +kernel
theorem dX12_isWord_62 : decode cX12_isWord 62 = .ok (.aload_n 1, 1) := by decide +kernel
theorem dX12_isWord_63 : decode cX12_isWord 63 = .ok (.iload_n 3, 1) := by decide +kernel
theorem dX12_isWord_64 : decode cX12_isWord 64 = .ok (.invokevirtual 188, 3) := by decide +kernel
theorem dX12_isWord_67 : decode cX12_isWord 67 = .ok (.if_icmp .ne 7, 3) := by decide +kernel
theorem dX12_isWord_70 : decode cX12_isWord 70 = .ok (.iconst 1, 1) := by decide +kernel
theorem dX12_isWord_71 : decode cX12_isWord 71 = .ok (.goto 4, 3) := by decide +kernel
theorem dX12_isWord_74 : decode cX12_isWord 74 = .ok (.iconst 0, 1) := by decide +kernel
theorem dX12_isWord_75 : decode cX12_isWord 75 = .ok (.istore_n 2, 1) := by decide +kernel
theorem dX12_isWord_76 : decode cX12_isWord 76 = .ok (.iinc 3 1, 3) := by decide +kernel
theorem dX12_isWord_79 : decode cX12_isWord 79 = .ok (.goto (-40), 3) := by decide +kernel
theorem dX12_isWord_82 : decode cX12_isWord 82 = .ok (.iload_n 2, 1) := by decide +kernel
theorem dX12_isWord_83 : decode cX12_isWord 83 = .ok (.ireturn, 1) := by decide +kernel
theorem s_isWordM {l : Launch} {E : aE} {N : Nat} {S : aS} {M : aM} (hfl : l.stackTraces = false) (m : Int) (T : Int → Int) (n : Int) (hS : lyM S m) (hB : RTp M m T n) (hn : 0 ≤ n ∧ n ≤ 300) (a : Int) (ha : 0 ≤ a ∧ a ≤ n) (h0 : M m 12 = 0) (hT : RTk M m T n a) (k : Nat) (hk : k < 13) : aMt l E pX12_isWord [(2, m), (2, -16 - (k : Int))] N S M (aB (tK T n a = 1 ∧ isWd T (tB T n a) (tE T n a) k = true) N S M) := by
  refine a_met hfl rfl (by decide +kernel) (Nat.le_of_ble_eq_true rfl) ?_
  have hbr := tB_r (T := T) (n := n) (a := a) ha.2
  have her := tE_r (T := T) (n := n) (a := a) ha.2
  have isd : isWd T (tB T n a) (tE T n a) k = true ↔ tE T n a - tB T n a = ((wdL k).length : Nat) ∧ eqL T (tB T n a) (wdL k) = true := by
    unfold isWd
    rw [Bool.and_eq_true, decide_eq_true_iff]
    rfl
  have loop := a_loop2 (fun i z => i ≤ (wdL k).length ∧ ((z = 1 ∧ (tK T n a = 1 ∧ tE T n a - tB T n a = ((wdL k).length : Nat)) ∧ ∀ j : Nat, j < i → T (tB T n a + j) = (wdL k).getD j 0) ∨ (z = 0 ∧ ¬ (tK T n a = 1 ∧ isWd T (tB T n a) (tE T n a) k = true)))) (fun i z => (wdL k).length - i) (fun i z => aX l E pX12_isWord (aB (tK T n a = 1 ∧ isWd T (tB T n a) (tE T n a) k = true) N S M) 0 0 N S M 39 [(0, (2, m)), (1, (2, -16 - (k : Int))), (2, (0, z)), (3, (0, (i : Int)))] []) (by
    intro i z hI ih
    obtain ⟨k1, k2⟩ := hI
    refine x_iload_n (pc := 39) dX12_isWord_39 rfl rfl ?_
    refine x_if_eq (tgt := 82) (pc := 40) dX12_isWord_40 (by decide) (fun c_40 => ?_) (fun c_40 => ?_)
    · refine x_iload_n (pc := 82) dX12_isWord_82 rfl rfl ?_
      refine x_zreturn (pc := 83) dX12_isWord_83 rfl (by omega) (by decide) ?_
      rcases k2 with ⟨g1, g2, g3⟩ | ⟨g1, g2⟩
      · exfalso; omega
      · subst g1; exact b_0 g2
    · refine x_iload_n (pc := 43) dX12_isWord_43 rfl rfl ?_
      refine x_aload_n (pc := 44) dX12_isWord_44 rfl rfl ?_
      refine x_callK0 (pc := 45) dX12_isWord_45 rfl kX12_182 (s_strlen hfl k hk) (hkO k hk) (by omega) rfl rfl (Nat.le_of_ble_eq_true rfl) (k_R ?_) n_R
      refine x_icmp_ge (tgt := 82) (pc := 48) dX12_isWord_48 (by decide) (fun c_48 => ?_) (fun c_48 => ?_)
      · refine x_iload_n (pc := 82) dX12_isWord_82 rfl rfl ?_
        refine x_zreturn (pc := 83) dX12_isWord_83 rfl (by omega) (by decide) ?_
        rcases k2 with ⟨g1, g2, g3⟩ | ⟨g1, g2⟩
        · subst g1; exact b_1 ⟨g2.1, isd.mpr ⟨g2.2, (eqL_iff _ _).mpr fun j hj => g3 j (by omega)⟩⟩
        · exfalso; omega
      · obtain ⟨g1, g2, g3⟩ : z = 1 ∧ (tK T n a = 1 ∧ tE T n a - tB T n a = ((wdL k).length : Nat)) ∧ ∀ j : Nat, j < i → T (tB T n a + j) = (wdL k).getD j 0 := by
          rcases k2 with g | g
          · exact g
          · exfalso; omega
        refine x_aload_n (pc := 51) dX12_isWord_51 rfl rfl ?_
        refine x_getR (jj := 4) (pc := 52) dX12_isWord_52 fX12_20 hS.1 rfl (by decide) rfl rM_4 ?_
        refine x_aload_n (pc := 55) dX12_isWord_55 rfl rfl ?_
        refine x_getIV (jj := 9) (pc := 56) dX12_isWord_56 fX12_158 hS.1 rfl (by decide) rfl (by (repeat (first | rewrite [up_s] | rewrite [up_i (by omega)] | rewrite [up_a (by omega)] | rewrite [stM_a (by omega) (by omega)])); first | exact hT.2.1 | exact hB.2 _ (by omega) (by omega) | rfl) ?_
        refine x_iload_n (pc := 59) dX12_isWord_59 rfl rfl ?_
        refine x_iadd (pc := 60) dX12_isWord_60 (by omega) ?_
        refine x_ialoadV (pc := 61) dX12_isWord_61 (sM_4 hS) (by omega) (by (repeat (first | rewrite [up_s] | rewrite [up_i (by omega)] | rewrite [up_a (by omega)] | rewrite [stM_a (by omega) (by omega)])); first | exact hT.2.1 | exact hB.2 _ (by omega) (by omega) | rfl) (fun g_61 => ?_)
        refine x_aload_n (pc := 62) dX12_isWord_62 rfl rfl ?_
        refine x_iload_n (pc := 63) dX12_isWord_63 rfl rfl ?_
        refine x_callK1 (pc := 64) dX12_isWord_64 rfl kX12_188 (s_charAt hfl k hk (i : Int) ⟨by omega, by omega⟩) (hkO k hk) (by omega) rfl rfl (Nat.le_of_ble_eq_true rfl) (k_R ?_) n_R
        refine x_icmp_ne (tgt := 74) (pc := 67) dX12_isWord_67 (by decide) (fun c_67 => ?_) (fun c_67 => ?_)
        · refine x_iconst (pc := 74) dX12_isWord_74 (by decide) ?_
          refine x_istore_n (pc := 75) dX12_isWord_75 rfl (by decide) rfl ?_
          refine x_iinc (pc := 76) dX12_isWord_76 rfl (by omega) (by decide) rfl ?_
          refine x_goto (tgt := 39) (pc := 79) dX12_isWord_79 (by decide) ?_
          refine x_lo (lo' := [(0, (2, m)), (1, (2, -16 - (k : Int))), (2, (0, 0)), (3, (0, ((i + 1 : Nat) : Int)))]) ⟨rfl, rfl, rfl, rfl, trivial⟩ (ih (i + 1) 0 ⟨by omega, Or.inr ⟨rfl, fun q => ?_⟩⟩ (by omega))
          have := (eqL_iff _ _).mp (isd.mp q.2).2 i (by omega)
          rw [show ((i : Int)).toNat = i by omega] at c_67
          omega
        · refine x_iconst (pc := 70) dX12_isWord_70 (by decide) ?_
          refine x_goto (tgt := 75) (pc := 71) dX12_isWord_71 (by decide) ?_
          refine x_istore_n (pc := 75) dX12_isWord_75 rfl (by decide) rfl ?_
          refine x_iinc (pc := 76) dX12_isWord_76 rfl (by omega) (by decide) rfl ?_
          refine x_goto (tgt := 39) (pc := 79) dX12_isWord_79 (by decide) ?_
          refine x_lo (lo' := [(0, (2, m)), (1, (2, -16 - (k : Int))), (2, (0, 1)), (3, (0, ((i + 1 : Nat) : Int)))]) ⟨rfl, rfl, rfl, rfl, trivial⟩ (ih (i + 1) 1 ⟨by omega, Or.inl ⟨rfl, g2, fun j hj => ?_⟩⟩ (by omega))
          by_cases e : j = i
          · subst e
            rw [show ((j : Int)).toNat = j by omega] at c_67
            omega
          · exact g3 j (by omega))
  refine x_aload_n (pc := 0) dX12_isWord_0 rfl rfl ?_
  refine x_getIV (jj := 12) (pc := 1) dX12_isWord_1 fX12_176 hS.1 rfl (by decide) rfl (by (repeat (first | rewrite [up_s] | rewrite [up_i (by omega)] | rewrite [up_a (by omega)] | rewrite [stM_a (by omega) (by omega)])); first | exact h0 | exact hT.1 | exact hT.2.1 | exact hT.2.2.1 | rfl) ?_
  refine x_if_ne (tgt := 35) (pc := 4) dX12_isWord_4 (by decide) (fun c_4 => ?_) (fun c_4 => ?_)
  · refine x_iconst (pc := 35) dX12_isWord_35 (by decide) ?_
    refine x_istore_n (pc := 36) dX12_isWord_36 rfl (by decide) rfl ?_
    refine x_iconst (pc := 37) dX12_isWord_37 (by decide) ?_
    refine x_istore_n (pc := 38) dX12_isWord_38 rfl (by decide) rfl ?_
    exact absurd rfl c_4
  · refine x_aload_n (pc := 7) dX12_isWord_7 rfl rfl ?_
    refine x_getIV (jj := 10) (pc := 8) dX12_isWord_8 fX12_161 hS.1 rfl (by decide) rfl (by (repeat (first | rewrite [up_s] | rewrite [up_i (by omega)] | rewrite [up_a (by omega)] | rewrite [stM_a (by omega) (by omega)])); first | exact h0 | exact hT.1 | exact hT.2.1 | exact hT.2.2.1 | rfl) ?_
    refine x_iconst (pc := 11) dX12_isWord_11 (by decide) ?_
    refine x_icmp_ne (tgt := 35) (pc := 12) dX12_isWord_12 (by decide) (fun c_12 => ?_) (fun c_12 => ?_)
    · refine x_iconst (pc := 35) dX12_isWord_35 (by decide) ?_
      refine x_istore_n (pc := 36) dX12_isWord_36 rfl (by decide) rfl ?_
      refine x_iconst (pc := 37) dX12_isWord_37 (by decide) ?_
      refine x_istore_n (pc := 38) dX12_isWord_38 rfl (by decide) rfl ?_
      exact x_lo (lo' := [(0, (2, m)), (1, (2, -16 - (k : Int))), (2, (0, 0)), (3, (0, ((0 : Nat) : Int)))]) ⟨rfl, rfl, rfl, rfl, trivial⟩ (loop 0 0 ⟨by omega, Or.inr ⟨rfl, fun q => by have := hT.1; omega⟩⟩)
    · refine x_aload_n (pc := 15) dX12_isWord_15 rfl rfl ?_
      refine x_getIV (jj := 8) (pc := 16) dX12_isWord_16 fX12_155 hS.1 rfl (by decide) rfl (by (repeat (first | rewrite [up_s] | rewrite [up_i (by omega)] | rewrite [up_a (by omega)] | rewrite [stM_a (by omega) (by omega)])); first | exact h0 | exact hT.1 | exact hT.2.1 | exact hT.2.2.1 | rfl) ?_
      refine x_aload_n (pc := 19) dX12_isWord_19 rfl rfl ?_
      refine x_getIV (jj := 9) (pc := 20) dX12_isWord_20 fX12_158 hS.1 rfl (by decide) rfl (by (repeat (first | rewrite [up_s] | rewrite [up_i (by omega)] | rewrite [up_a (by omega)] | rewrite [stM_a (by omega) (by omega)])); first | exact h0 | exact hT.1 | exact hT.2.1 | exact hT.2.2.1 | rfl) ?_
      refine x_isub (pc := 23) dX12_isWord_23 (by omega) ?_
      refine x_aload_n (pc := 24) dX12_isWord_24 rfl rfl ?_
      refine x_callK0 (pc := 25) dX12_isWord_25 rfl kX12_182 (s_strlen hfl k hk) (hkO k hk) (by omega) rfl rfl (Nat.le_of_ble_eq_true rfl) (k_R ?_) n_R
      refine x_icmp_ne (tgt := 35) (pc := 28) dX12_isWord_28 (by decide) (fun c_28 => ?_) (fun c_28 => ?_)
      · refine x_iconst (pc := 35) dX12_isWord_35 (by decide) ?_
        refine x_istore_n (pc := 36) dX12_isWord_36 rfl (by decide) rfl ?_
        refine x_iconst (pc := 37) dX12_isWord_37 (by decide) ?_
        refine x_istore_n (pc := 38) dX12_isWord_38 rfl (by decide) rfl ?_
        exact x_lo (lo' := [(0, (2, m)), (1, (2, -16 - (k : Int))), (2, (0, 0)), (3, (0, ((0 : Nat) : Int)))]) ⟨rfl, rfl, rfl, rfl, trivial⟩ (loop 0 0 ⟨by omega, Or.inr ⟨rfl, fun q => by have := (isd.mp q.2).1; omega⟩⟩)
      · refine x_iconst (pc := 31) dX12_isWord_31 (by decide) ?_
        refine x_goto (tgt := 36) (pc := 32) dX12_isWord_32 (by decide) ?_
        refine x_istore_n (pc := 36) dX12_isWord_36 rfl (by decide) rfl ?_
        refine x_iconst (pc := 37) dX12_isWord_37 (by decide) ?_
        refine x_istore_n (pc := 38) dX12_isWord_38 rfl (by decide) rfl ?_
        exact x_lo (lo' := [(0, (2, m)), (1, (2, -16 - (k : Int))), (2, (0, 1)), (3, (0, ((0 : Nat) : Int)))]) ⟨rfl, rfl, rfl, rfl, trivial⟩ (loop 0 1 ⟨by omega, Or.inl ⟨rfl, ⟨by have := hT.1; omega, by omega⟩, fun j hj => by omega⟩⟩)
