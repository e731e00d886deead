/-! TEXT: the class's words -/
theorem hkL : ∀ k : Nat, k < 13 → ("CoalStreet$Word", "letters", "Ljava/lang/String;", k, ((2 : Nat), -16 - (k : Int))) ∈ a_kF := fun k hk => match k, hk with
  | 0, _ => List.mem_of_getElem? (i := 6) rfl
  | 1, _ => List.mem_of_getElem? (i := 13) rfl
  | 2, _ => List.mem_of_getElem? (i := 20) rfl
  | 3, _ => List.mem_of_getElem? (i := 27) rfl
  | 4, _ => List.mem_of_getElem? (i := 34) rfl
  | 5, _ => List.mem_of_getElem? (i := 41) rfl
  | 6, _ => List.mem_of_getElem? (i := 48) rfl
  | 7, _ => List.mem_of_getElem? (i := 55) rfl
  | 8, _ => List.mem_of_getElem? (i := 62) rfl
  | 9, _ => List.mem_of_getElem? (i := 69) rfl
  | 10, _ => List.mem_of_getElem? (i := 76) rfl
  | 11, _ => List.mem_of_getElem? (i := 83) rfl
  | 12, _ => List.mem_of_getElem? (i := 90) rfl
  | k + 13, h => absurd h (by omega)
def allL : List aV := [(2, -2), (2, -3), (2, -4), (2, -5), (2, -6), (2, -7), (2, -8), (2, -9), (2, -10), (2, -11), (2, -12), (2, -13), (2, -14)]
theorem hkA : (FieldType.object "CoalStreet$Word", 13, allL) ∈ a_kT := List.mem_of_getElem? (i := 0) rfl
theorem hkAv : ∀ k : Nat, k < 13 → allL.getD k (0, 0) = (2, -2 - (k : Int)) := by decide +kernel
theorem dX5_spells_0 : decode cX5_spells 0 = .ok (.aload_n 1, 1) := by decide +kernel
theorem dX5_spells_1 : decode cX5_spells 1 = .ok (.invokevirtual 204, 3) := by decide +kernel
theorem dX5_spells_4 : decode cX5_spells 4 = .ok (.aload_n 0, 1) := by decide +kernel
theorem dX5_spells_5 : decode cX5_spells 5 = .ok (.getfield 44, 3) := by decide +kernel
theorem dX5_spells_8 : decode cX5_spells 8 = .ok (.aload_n 0, 1) := by decide +kernel
theorem dX5_spells_9 : decode cX5_spells 9 = .ok (.getfield 177, 3) := by decide +kernel
theorem dX5_spells_12 : decode cX5_spells 12 = .ok (.isub, 1) := by decide +kernel
theorem dX5_spells_13 : decode cX5_spells 13 = .ok (.if_icmp .eq 5, 3) := by decide +kernel
theorem dX5_spells_16 : decode cX5_spells 16 = .ok (.iconst 0, 1) := by decide +kernel
theorem dX5_spells_17 : decode cX5_spells 17 = .ok (.ireturn, 1) := by decide +kernel
theorem dX5_spells_18 : decode cX5_spells 18 = .ok (.iconst 0, 1) := by decide +kernel
theorem dX5_spells_19 : decode cX5_spells 19 = .ok (.istore_n 2, 1) := by decide +kernel
theorem dX5_spells_20 : decode cX5_spells 20 = .ok (.iload_n 2, 1) := by decide +kernel
theorem dX5_spells_21 : decode cX5_spells 21 = .ok (.aload_n 1, 1) := by decide +kernel
theorem dX5_spells_22 : decode cX5_spells 22 = .ok (.invokevirtual 204, 3) := by decide +kernel
theorem dX5_spells_25 : decode cX5_spells 25 = .ok (.if_icmp .ge 30, 3) := by decide +kernel
theorem dX5_spells_28 : decode cX5_spells 28 = .ok (.aload_n 1, 1) := by decide +kernel
theorem dX5_spells_29 : decode cX5_spells 29 = .ok (.iload_n 2, 1) := by decide +kernel
theorem dX5_spells_30 : decode cX5_spells 30 = .ok (.invokevirtual 209, 3) := by decide +kernel
theorem dX5_spells_33 : decode cX5_spells 33 = .ok (.aload_n 0, 1) := by decide +kernel
theorem dX5_spells_34 : decode cX5_spells 34 = .ok (.getfield 11, 3) := by decide +kernel
theorem dX5_spells_37 : decode cX5_spells 37 = .ok (.aload_n 0, 1) := by decide +kernel
theorem dX5_spells_38 : decode cX5_spells 38 = .ok (.getfield 177, 3) := by decide +kernel
theorem dX5_spells_41 : decode cX5_spells 41 = .ok (.iload_n 2, 1) := by decide +kernel
theorem dX5_spells_42 : decode cX5_spells 42 = .ok (.iadd, 1) := by decide +kernel
theorem dX5_spells_43 : decode cX5_spells 43 = .ok (.baload, 1) := by decide +kernel
theorem dX5_spells_44 : decode cX5_spells 44 = .ok (.if_icmp .eq 5, 3) := by decide +kernel
theorem dX5_spells_47 : decode cX5_spells 47 = .ok (.iconst 0, 1) := by decide +kernel
theorem dX5_spells_48 : decode cX5_spells 48 = .ok (.ireturn, 1) := by decide +kernel
theorem dX5_spells_49 : decode cX5_spells 49 = .ok (.iinc 2 1, 3) := by decide +kernel
theorem dX5_spells_52 : decode cX5_spells 52 = .ok (.goto (-32), 3) := by decide +kernel
theorem dX5_spells_55 : decode cX5_spells 55 = .ok (.iconst 1, 1) := by decide +kernel
theorem dX5_spells_56 : decode cX5_spells 56 = .ok (.ireturn, 1) := by decide +kernel
theorem dX5_wordHere_0 : decode cX5_wordHere 0 = .ok (.aload_n 0, 1) := by decide +kernel
theorem dX5_wordHere_1 : decode cX5_wordHere 1 = .ok (.getfield 53, 3) := by decide +kernel
theorem dX5_wordHere_4 : decode cX5_wordHere 4 = .ok (.iconst 1, 1) := by decide +kernel
theorem dX5_wordHere_5 : decode cX5_wordHere 5 = .ok (.if_icmp .eq 5, 3) := by decide +kernel
theorem dX5_wordHere_8 : decode cX5_wordHere 8 = .ok (.aconst_null, 1) := by decide +kernel
theorem dX5_wordHere_9 : decode cX5_wordHere 9 = .ok (.areturn, 1) := by decide +kernel
theorem dX5_wordHere_10 : decode cX5_wordHere 10 = .ok (.iconst 0, 1) := by decide +kernel
theorem dX5_wordHere_11 : decode cX5_wordHere 11 = .ok (.istore_n 1, 1) := by decide +kernel
theorem dX5_wordHere_12 : decode cX5_wordHere 12 = .ok (.iload_n 1, 1) := by decide +kernel
theorem dX5_wordHere_13 : decode cX5_wordHere 13 = .ok (.getstatic 192, 3) := by decide +kernel
theorem dX5_wordHere_16 : decode cX5_wordHere 16 = .ok (.arraylength, 1) := by decide +kernel
theorem dX5_wordHere_17 : decode cX5_wordHere 17 = .ok (.if_icmp .ge 30, 3) := by decide +kernel
theorem dX5_wordHere_20 : decode cX5_wordHere 20 = .ok (.aload_n 0, 1) := by decide +kernel
theorem dX5_wordHere_21 : decode cX5_wordHere 21 = .ok (.getstatic 192, 3) := by decide +kernel
theorem dX5_wordHere_24 : decode cX5_wordHere 24 = .ok (.iload_n 1, 1) := by decide +kernel
theorem dX5_wordHere_25 : decode cX5_wordHere 25 = .ok (.aaload, 1) := by decide +kernel
theorem dX5_wordHere_26 : decode cX5_wordHere 26 = .ok (.getfield 196, 3) := by decide +kernel
theorem dX5_wordHere_29 : decode cX5_wordHere 29 = .ok (.invokevirtual 200, 3) := by decide +kernel
theorem dX5_wordHere_32 : decode cX5_wordHere 32 = .ok (.ifCond .eq 9, 3) := by decide +kernel
theorem dX5_wordHere_35 : decode cX5_wordHere 35 = .ok (.getstatic 192, 3) := by decide +kernel
theorem dX5_wordHere_38 : decode cX5_wordHere 38 = .ok (.iload_n 1, 1) := by decide +kernel
theorem dX5_wordHere_39 : decode cX5_wordHere 39 = .ok (.aaload, 1) := by decide +kernel
theorem dX5_wordHere_40 : decode cX5_wordHere 40 = .ok (.areturn, 1) := by decide +kernel
theorem dX5_wordHere_41 : decode cX5_wordHere 41 = .ok (.iinc 1 1, 3) := by decide +kernel
theorem dX5_wordHere_44 : decode cX5_wordHere 44 = .ok (.goto (-32), 3) := by decide +kernel
theorem dX5_wordHere_47 : decode cX5_wordHere 47 = .ok (.aconst_null, 1) := by decide +kernel
theorem dX5_wordHere_48 : decode cX5_wordHere 48 = .ok (.areturn, 1) := by decide +kernel
theorem s_spells {l : Launch} {E : aE} {N : Nat} {S : aS} {M : aM} (hfl : l.stackTraces = false) (hC : lyC S) (T : Int → Int) (n : Int) (hB : CB M T n) (hn : 0 ≤ n ∧ n ≤ 300) (b e : Int) (hb : 0 ≤ b ∧ b ≤ e ∧ e ≤ n) (h8 : M 17 8 = b) (h9 : M 17 9 = e) (k : Nat) (hk : k < 13) : aMt l E pX5_spells [(2, 17), (2, -16 - (k : Int))] N S M (aB (isWd T b e k = true) N S M) := by
  refine a_met hfl rfl (by decide +kernel) (Nat.le_of_ble_eq_true rfl) ?_
  have isd : isWd T b e k = true ↔ e - b = ((wdL k).length : Nat) ∧ eqL T b (wdL k) = true := by
    unfold isWd
    rw [Bool.and_eq_true, decide_eq_true_iff]
    rfl
  refine x_aload_n (pc := 0) dX5_spells_0 rfl rfl ?_
  refine x_callK0 (pc := 1) dX5_spells_1 rfl kX5_204 (s_strlen hfl k hk) (hkO k hk) (by omega) rfl rfl (Nat.le_of_ble_eq_true rfl) (k_R ?_) n_R
  refine x_aload_n (pc := 4) dX5_spells_4 rfl rfl ?_
  refine x_getIV (jj := 9) (pc := 5) dX5_spells_5 fX5_44 (sC_17 hC) rfl (by decide) rfl (by (repeat (first | rewrite [up_s] | rewrite [up_i (by omega)] | rewrite [up_a (by omega)])); first | exact h8 | exact h9 | rfl) ?_
  refine x_aload_n (pc := 8) dX5_spells_8 rfl rfl ?_
  refine x_getIV (jj := 8) (pc := 9) dX5_spells_9 fX5_177 (sC_17 hC) rfl (by decide) rfl (by (repeat (first | rewrite [up_s] | rewrite [up_i (by omega)] | rewrite [up_a (by omega)])); first | exact h8 | exact h9 | rfl) ?_
  refine x_isub (pc := 12) dX5_spells_12 (by omega) ?_
  refine x_icmp_eq (tgt := 18) (pc := 13) dX5_spells_13 (by decide) (fun c_13 => ?_) (fun c_13 => ?_)
  · have hlen : e - b = ((wdL k).length : Nat) := by omega
    have loop := a_loop1 (fun i => (i : Nat) ≤ (wdL k).length ∧ ∀ j : Nat, j < i → T (b + j) = (wdL k).getD j 0) (fun i => (wdL k).length - i) (fun i => aX l E pX5_spells (aB (isWd T b e k = true) N S M) 0 0 N S M 20 [(0, (2, 17)), (1, (2, -16 - (k : Int))), (2, (0, (i : Int)))] []) (by
      intro i hI ih
      obtain ⟨k1, k2⟩ := hI
      refine x_iload_n (pc := 20) dX5_spells_20 rfl rfl ?_
      refine x_aload_n (pc := 21) dX5_spells_21 rfl rfl ?_
      refine x_callK0 (pc := 22) dX5_spells_22 rfl kX5_204 (s_strlen hfl k hk) (hkO k hk) (by omega) rfl rfl (Nat.le_of_ble_eq_true rfl) (k_R ?_) n_R
      refine x_icmp_ge (tgt := 55) (pc := 25) dX5_spells_25 (by decide) (fun c_25 => ?_) (fun c_25 => ?_)
      · refine x_iconst (pc := 55) dX5_spells_55 (by decide) ?_
        refine x_zreturn (pc := 56) dX5_spells_56 rfl (by omega) (by decide) ?_
        exact b_1 (isd.mpr ⟨by omega, (eqL_iff _ _).mpr fun j hj => k2 j (by omega)⟩)
      · have hi9 : i < (wdL k).length := by omega
        have hc9 := hkB k hk i hi9
        have hx := hB.2 (b + i) (by omega) (by omega)
        have hce := sg_e (x := T (b + i)) (k := (wdL k).getD i 0) hx.2 hc9.2
        refine x_aload_n (pc := 28) dX5_spells_28 rfl rfl ?_
        refine x_iload_n (pc := 29) dX5_spells_29 rfl rfl ?_
        refine x_callK1 (pc := 30) dX5_spells_30 rfl kX5_209 (s_charAt hfl k hk (i : Int) ⟨by omega, by omega⟩) (hkO k hk) (by omega) rfl rfl (Nat.le_of_ble_eq_true rfl) (k_R ?_) n_R
        refine x_aload_n (pc := 33) dX5_spells_33 rfl rfl ?_
        refine x_getR (jj := 0) (pc := 34) dX5_spells_34 fX5_11 (sC_17 hC) rfl (by decide) rfl rC_17_0 ?_
        refine x_aload_n (pc := 37) dX5_spells_37 rfl rfl ?_
        refine x_getIV (jj := 8) (pc := 38) dX5_spells_38 fX5_177 (sC_17 hC) rfl (by decide) rfl (by (repeat (first | rewrite [up_s] | rewrite [up_i (by omega)] | rewrite [up_a (by omega)])); first | exact h8 | exact h9 | exact (hB.2 _ (by omega) (by omega)).1 | rfl) ?_
        refine x_iload_n (pc := 41) dX5_spells_41 rfl rfl ?_
        refine x_iadd (pc := 42) dX5_spells_42 (by omega) ?_
        refine x_baloadV (pc := 43) dX5_spells_43 (sC_18 hC) (by omega) (by (repeat (first | rewrite [up_s] | rewrite [up_i (by omega)] | rewrite [up_a (by omega)])); first | exact h8 | exact h9 | exact (hB.2 _ (by omega) (by omega)).1 | rfl) ?_
        refine x_icmp_eq (tgt := 49) (pc := 44) dX5_spells_44 (by decide) (fun c_44 => ?_) (fun c_44 => ?_)
        · refine x_iinc (pc := 49) dX5_spells_49 rfl (by omega) (by decide) rfl ?_
          refine x_goto (tgt := 20) (pc := 52) dX5_spells_52 (by decide) ?_
          exact x_lo (lo' := [(0, (2, 17)), (1, (2, -16 - (k : Int))), (2, (0, ((i + 1 : Nat) : Int)))]) ⟨rfl, rfl, rfl, trivial⟩ (ih (i + 1) ⟨by omega, fun j hj => by
            by_cases z : j = i
            · subst z; exact hce.mp (by rw [← c_44, show ((j : Int)).toNat = j by omega])
            · exact k2 j (by omega)⟩ (by omega))
        · refine x_iconst (pc := 47) dX5_spells_47 (by decide) ?_
          refine x_zreturn (pc := 48) dX5_spells_48 rfl (by omega) (by decide) ?_
          refine b_0 fun q => c_44 ?_
          rw [show ((i : Int)).toNat = i by omega]
          exact (hce.mpr ((eqL_iff _ _).mp (isd.mp q).2 i hi9)).symm)
    refine x_iconst (pc := 18) dX5_spells_18 (by decide) ?_
    refine x_istore_n (pc := 19) dX5_spells_19 rfl (by decide) rfl ?_
    exact x_lo (lo' := [(0, (2, 17)), (1, (2, -16 - (k : Int))), (2, (0, ((0 : Nat) : Int)))]) ⟨rfl, rfl, rfl, trivial⟩ (loop 0 ⟨by omega, fun j hj => by omega⟩)
  · refine x_iconst (pc := 16) dX5_spells_16 (by decide) ?_
    refine x_zreturn (pc := 17) dX5_spells_17 rfl (by omega) (by decide) ?_
    exact b_0 fun q => by have := (isd.mp q).1; omega
theorem s_wordHere {l : Launch} {E : aE} {N : Nat} {S : aS} {M : aM} (hfl : l.stackTraces = false) (hC : lyC S) (T : Int → Int) (n : Int) (hB : CB M T n) (hn : 0 ≤ n ∧ n ≤ 300) (a : Int) (ha : 0 ≤ a ∧ a ≤ n) (g7 : M 17 7 = tK T n a) (g8 : M 17 8 = tB T n a) (g9 : M 17 9 = tE T n a) : aMt l E pX5_wordHere [(2, 17)] N S M (aR (2, if tK T n a = 1 then -2 - wIx T (tB T n a) (tE T n a) else -1) N S M) := by
  refine a_met hfl rfl (by decide +kernel) (Nat.le_of_ble_eq_true rfl) ?_
  have hl13 : allL.length = 13 := rfl
  have hbe : 0 ≤ tB T n a ∧ tB T n a ≤ tE T n a ∧ tE T n a ≤ n := by
    have h1 := tB_r (T := T) ha.2
    have h2 := tE_r (T := T) ha.2
    omega
  refine x_aload_n (pc := 0) dX5_wordHere_0 rfl rfl ?_
  refine x_getIV (jj := 7) (pc := 1) dX5_wordHere_1 fX5_53 (sC_17 hC) rfl (by decide) rfl (by (repeat (first | rewrite [up_s] | rewrite [up_i (by omega)] | rewrite [up_a (by omega)])); first | exact g7 | rfl) ?_
  refine x_iconst (pc := 4) dX5_wordHere_4 (by decide) ?_
  refine x_icmp_eq (tgt := 10) (pc := 5) dX5_wordHere_5 (by decide) (fun c_5 => ?_) (fun c_5 => ?_)
  · have h1 : tK T n a = 1 := by omega
    have loop := a_loop1 (fun i => (i : Nat) ≤ 13 ∧ firstW (isWd T (tB T n a) (tE T n a)) (13 - i) i = wIx T (tB T n a) (tE T n a)) (fun i => 13 - i) (fun i => aX l E pX5_wordHere (aR (2, if tK T n a = 1 then -2 - wIx T (tB T n a) (tE T n a) else -1) N S M) 0 0 N S M 12 [(0, (2, 17)), (1, (0, (i : Int)))] []) (by
      intro i hI ih
      obtain ⟨k1, k2⟩ := hI
      refine x_iload_n (pc := 12) dX5_wordHere_12 rfl rfl ?_
      refine x_kZN (pc := 13) (host := "CoalStreet") dX5_wordHere_13 (List.mem_filter.mpr ⟨List.mem_of_getElem? (i := 871) (by decide +kernel), rfl⟩) (List.mem_of_getElem? (i := 13) rfl) (Or.inr ⟨rfl, by decide⟩) ?_
      refine x_klen (pc := 16) dX5_wordHere_16 hkA (by decide) (by decide) ?_
      refine x_icmp_ge (tgt := 47) (pc := 17) dX5_wordHere_17 (by decide) (fun c_17 => ?_) (fun c_17 => ?_)
      · refine x_null (pc := 47) dX5_wordHere_47 ?_
        refine x_areturn (pc := 48) dX5_wordHere_48 rfl (by decide) ?_
        have ei : i = 13 := by
          have : (13 : Int) ≤ i := by assumption
          omega
        subst ei
        have hw : wIx T (tB T n a) (tE T n a) = -1 := k2.symm
        rw [if_pos h1, hw]
        exact ⟨rfl, rfl, rfl, rfl⟩
      · refine x_aload_n (pc := 20) dX5_wordHere_20 rfl rfl ?_
        refine x_kZN (pc := 21) (host := "CoalStreet") dX5_wordHere_21 (List.mem_filter.mpr ⟨List.mem_of_getElem? (i := 871) (by decide +kernel), rfl⟩) (List.mem_of_getElem? (i := 13) rfl) (Or.inr ⟨rfl, by decide⟩) ?_
        refine x_iload_n (pc := 24) dX5_wordHere_24 rfl rfl ?_
        refine x_ktq (w := (2, -2 - (i : Int))) (pc := 25) dX5_wordHere_25 hkA (by decide) ⟨by omega, by omega⟩ (by rw [show ((i : Int)).toNat = i by omega]; exact hkAv i (by omega)) (Or.inr ⟨rfl, by show -2 - (i : Int) < 0; omega⟩) ?_
        refine x_kF (pc := 26) dX5_wordHere_26 (lw_ok_in (List.mem_of_getElem? (i := 2143) (by decide +kernel)) rfl) (hkL i (by omega)) rfl (Or.inr ⟨rfl, by show -16 - (i : Int) < 0; omega⟩) ?_
        refine x_callV1 (pc := 29) dX5_wordHere_29 rfl kX5_200 (s_spells hfl hC T n hB hn (tB T n a) (tE T n a) hbe g8 g9 i (by omega)) (sC_17 hC) rfl rfl (Nat.le_of_ble_eq_true rfl) (k_B (fun q_29 => ?_) (fun q_29 => ?_)) n_B
        · refine x_if_eq (tgt := 41) (pc := 32) dX5_wordHere_32 (by decide) (fun c => absurd c (by decide)) (fun _ => ?_)
          refine x_kZN (pc := 35) (host := "CoalStreet") dX5_wordHere_35 (List.mem_filter.mpr ⟨List.mem_of_getElem? (i := 871) (by decide +kernel), rfl⟩) (List.mem_of_getElem? (i := 13) rfl) (Or.inr ⟨rfl, by decide⟩) ?_
          refine x_iload_n (pc := 38) dX5_wordHere_38 rfl rfl ?_
          refine x_ktq (w := (2, -2 - (i : Int))) (pc := 39) dX5_wordHere_39 hkA (by decide) ⟨by omega, by omega⟩ (by rw [show ((i : Int)).toNat = i by omega]; exact hkAv i (by omega)) (Or.inr ⟨rfl, by show -2 - (i : Int) < 0; omega⟩) ?_
          refine x_areturn (pc := 40) dX5_wordHere_40 rfl (by decide) ?_
          have hw : wIx T (tB T n a) (tE T n a) = i := by
            rw [← k2, show 13 - i = (13 - (i + 1)) + 1 by omega]
            exact if_pos q_29
          rw [if_pos h1, hw]
          exact ⟨rfl, rfl, rfl, rfl⟩
        · refine x_if_eq (tgt := 41) (pc := 32) dX5_wordHere_32 (by decide) (fun _ => ?_) (fun c => absurd c (by decide))
          refine x_iinc (pc := 41) dX5_wordHere_41 rfl (by omega) (by decide) rfl ?_
          refine x_goto (tgt := 12) (pc := 44) dX5_wordHere_44 (by decide) ?_
          have hf : firstW (isWd T (tB T n a) (tE T n a)) (13 - i) i = firstW (isWd T (tB T n a) (tE T n a)) (13 - (i + 1)) ((i + 1 : Nat) : Int) := by
            rw [show 13 - i = (13 - (i + 1)) + 1 by omega]
            exact if_neg q_29
          exact x_lo (lo' := [(0, (2, 17)), (1, (0, ((i + 1 : Nat) : Int)))]) ⟨rfl, rfl, trivial⟩ (ih (i + 1) ⟨by omega, hf.symm.trans k2⟩ (by omega)))
    refine x_iconst (pc := 10) dX5_wordHere_10 (by decide) ?_
    refine x_istore_n (pc := 11) dX5_wordHere_11 rfl (by decide) rfl ?_
    exact x_lo (lo' := [(0, (2, 17)), (1, (0, ((0 : Nat) : Int)))]) ⟨rfl, rfl, trivial⟩ (loop 0 ⟨by omega, rfl⟩)
  · refine x_null (pc := 8) dX5_wordHere_8 ?_
    refine x_areturn (pc := 9) dX5_wordHere_9 rfl (by decide) ?_
    rw [if_neg (by omega)]
    exact ⟨rfl, rfl, rfl, rfl⟩
