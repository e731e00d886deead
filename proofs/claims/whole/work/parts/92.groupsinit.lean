/-! the Groups' constructor -/
theorem ones_st {x : Int} (hx : 0 < x ∧ x < 128) : (0 ≤ b_and x (x - 1) ∧ b_and x (x - 1) < x) ∧ b_or (onesV (b_and x (x - 1))) (b_shl 1 ((6 - lowV x) * 3)) = onesV x ∧ 0 ≤ lowV x ∧ lowV x < 7 := bt_fin (n := 128) (m := 1) (P := fun x _ => 0 < x → (0 ≤ b_and x (x - 1) ∧ b_and x (x - 1) < x) ∧ b_or (onesV (b_and x (x - 1))) (b_shl 1 ((6 - lowV x) * 3)) = onesV x ∧ 0 ≤ lowV x ∧ lowV x < 7) (by decide +kernel) (a := x) (by omega) (b := 0) (by omega) hx.1
theorem onesV_0 : onesV 0 = 0 := by decide +kernel
def wX1i (s i : Int) : Nat × Int × (Int → Int) := (13, 128, rN)
def fX1i (s q : Int) : Int → Int := fun j => if j = 0 then q else if j = 1 then s + 1 else if j = 2 then s + 2 else if j = 3 then s + 3 else if j = 4 then s + 4 else if j = 5 then s + 5 else -1
theorem dX1_init_0 : decode cX1_init 0 = .ok (.aload_n 0, 1) := by decide +kernel
theorem dX1_init_1 : decode cX1_init 1 = .ok (.invokespecial 5, 3) := by decide +kernel
theorem dX1_init_4 : decode cX1_init 4 = .ok (.aload_n 0, 1) := by decide +kernel
theorem dX1_init_5 : decode cX1_init 5 = .ok (.sipush 128, 3) := by decide +kernel
theorem dX1_init_8 : decode cX1_init 8 = .ok (.newarray .int, 2) := by decide +kernel
theorem dX1_init_10 : decode cX1_init 10 = .ok (.putfield 11, 3) := by decide +kernel
theorem dX1_init_13 : decode cX1_init 13 = .ok (.aload_n 0, 1) := by decide +kernel
theorem dX1_init_14 : decode cX1_init 14 = .ok (.sipush 128, 3) := by decide +kernel
theorem dX1_init_17 : decode cX1_init 17 = .ok (.newarray .int, 2) := by decide +kernel
theorem dX1_init_19 : decode cX1_init 19 = .ok (.putfield 15, 3) := by decide +kernel
theorem dX1_init_22 : decode cX1_init 22 = .ok (.aload_n 0, 1) := by decide +kernel
theorem dX1_init_23 : decode cX1_init 23 = .ok (.sipush 128, 3) := by decide +kernel
theorem dX1_init_26 : decode cX1_init 26 = .ok (.newarray .int, 2) := by decide +kernel
theorem dX1_init_28 : decode cX1_init 28 = .ok (.putfield 18, 3) := by decide +kernel
theorem dX1_init_31 : decode cX1_init 31 = .ok (.aload_n 0, 1) := by decide +kernel
theorem dX1_init_32 : decode cX1_init 32 = .ok (.sipush 128, 3) := by decide +kernel
theorem dX1_init_35 : decode cX1_init 35 = .ok (.newarray .int, 2) := by decide +kernel
theorem dX1_init_37 : decode cX1_init 37 = .ok (.putfield 21, 3) := by decide +kernel
theorem dX1_init_40 : decode cX1_init 40 = .ok (.aload_n 0, 1) := by decide +kernel
theorem dX1_init_41 : decode cX1_init 41 = .ok (.sipush 128, 3) := by decide +kernel
theorem dX1_init_44 : decode cX1_init 44 = .ok (.newarray .int, 2) := by decide +kernel
theorem dX1_init_46 : decode cX1_init 46 = .ok (.putfield 24, 3) := by decide +kernel
theorem dX1_init_49 : decode cX1_init 49 = .ok (.aload_n 0, 1) := by decide +kernel
theorem dX1_init_50 : decode cX1_init 50 = .ok (.aload_n 1, 1) := by decide +kernel
theorem dX1_init_51 : decode cX1_init 51 = .ok (.putfield 27, 3) := by decide +kernel
theorem dX1_init_54 : decode cX1_init 54 = .ok (.iconst 1, 1) := by decide +kernel
theorem dX1_init_55 : decode cX1_init 55 = .ok (.istore_n 2, 1) := by decide +kernel
theorem dX1_init_56 : decode cX1_init 56 = .ok (.iload_n 2, 1) := by decide +kernel
theorem dX1_init_57 : decode cX1_init 57 = .ok (.sipush 128, 3) := by decide +kernel
theorem dX1_init_60 : decode cX1_init 60 = .ok (.if_icmp .ge 37, 3) := by decide +kernel
theorem dX1_init_63 : decode cX1_init 63 = .ok (.iload_n 2, 1) := by decide +kernel
theorem dX1_init_64 : decode cX1_init 64 = .ok (.invokestatic 31, 3) := by decide +kernel
theorem dX1_init_67 : decode cX1_init 67 = .ok (.istore_n 3, 1) := by decide +kernel
theorem dX1_init_68 : decode cX1_init 68 = .ok (.aload_n 0, 1) := by decide +kernel
theorem dX1_init_69 : decode cX1_init 69 = .ok (.getfield 24, 3) := by decide +kernel
theorem dX1_init_72 : decode cX1_init 72 = .ok (.iload_n 2, 1) := by decide +kernel
theorem dX1_init_73 : decode cX1_init 73 = .ok (.aload_n 0, 1) := by decide +kernel
theorem dX1_init_74 : decode cX1_init 74 = .ok (.getfield 24, 3) := by decide +kernel
theorem dX1_init_77 : decode cX1_init 77 = .ok (.iload_n 2, 1) := by decide +kernel
theorem dX1_init_78 : decode cX1_init 78 = .ok (.iload_n 2, 1) := by decide +kernel
theorem dX1_init_79 : decode cX1_init 79 = .ok (.iconst 1, 1) := by decide +kernel
theorem dX1_init_80 : decode cX1_init 80 = .ok (.isub, 1) := by decide +kernel
theorem dX1_init_81 : decode cX1_init 81 = .ok (.iand, 1) := by decide +kernel
theorem dX1_init_82 : decode cX1_init 82 = .ok (.iaload, 1) := by decide +kernel
theorem dX1_init_83 : decode cX1_init 83 = .ok (.iconst 1, 1) := by decide +kernel
theorem dX1_init_84 : decode cX1_init 84 = .ok (.iload_n 3, 1) := by decide +kernel
theorem dX1_init_85 : decode cX1_init 85 = .ok (.invokestatic 37, 3) := by decide +kernel
theorem dX1_init_88 : decode cX1_init 88 = .ok (.ishl, 1) := by decide +kernel
theorem dX1_init_89 : decode cX1_init 89 = .ok (.ior, 1) := by decide +kernel
theorem dX1_init_90 : decode cX1_init 90 = .ok (.iastore, 1) := by decide +kernel
theorem dX1_init_91 : decode cX1_init 91 = .ok (.iinc 2 1, 3) := by decide +kernel
theorem dX1_init_94 : decode cX1_init 94 = .ok (.goto (-38), 3) := by decide +kernel
theorem dX1_init_97 : decode cX1_init 97 = .ok (.return_, 1) := by decide +kernel
theorem s_X1init {l : Launch} {E : aE} {N : Nat} {S : aS} {M : aM} (hfl : l.stackTraces = false) (s q : Int) (h0 : 0 ≤ s) (hN : (N : Int) = s + 1) (hS : S s = (1, 6, fun _ => -1)) (hq : 0 ≤ q ∧ q < s) : aMt l E pX1_init [(2, s), (2, q)] N S M (aC (fun N' S' M' => N' = N + 5 ∧ Bd S M s (wX1i s) (fun i j => if i = s + 5 ∧ 0 ≤ j ∧ j < 128 then onesV j else 0) 1 6 (fX1i s q) (M s) N' S' M')) := by
  refine a_met hfl rfl (by decide +kernel) (Nat.le_of_ble_eq_true rfl) ?_
  have hB := Bd.rf (w := wX1i s) (v := fun _ _ => 0) (M := M) hS hN
  refine x_aload_n (pc := 0) dX1_init_0 rfl rfl ?_
  refine x_objInit (pc := 1) dX1_init_1 obX1_5 (by omega) (by decide) (Nat.le_of_ble_eq_true rfl) ?_
  refine x_aload_n (pc := 4) dX1_init_4 rfl rfl ?_
  refine x_sipush (pc := 5) dX1_init_5 (by decide) ?_
  refine x_newI (pc := 8) dX1_init_8 ac_int (by decide) (by decide) ?_
  refine x_putR (j := 1) (pc := 10) dX1_init_10 fX1_11 (by first | exact hB.1 | exact (sAdd_o (by omega)).trans hB.1) (by decide) rfl (by omega) (fun _ => rfl) (fun _ => rfl) (Or.inr ⟨rfl, own_1⟩) ?_
  refine x_bd (bd_arr hB 1 (by omega) rfl (fun _ => rfl)) (fun S0 M0 hB => ?_)
  refine x_aload_n (pc := 13) dX1_init_13 rfl rfl ?_
  refine x_sipush (pc := 14) dX1_init_14 (by decide) ?_
  refine x_newI (pc := 17) dX1_init_17 ac_int (by decide) (by decide) ?_
  refine x_putR (j := 2) (pc := 19) dX1_init_19 fX1_15 (by first | exact hB.1 | exact (sAdd_o (by omega)).trans hB.1) (by decide) rfl (by omega) (fun _ => rfl) (fun _ => rfl) (Or.inr ⟨rfl, own_1⟩) ?_
  refine x_bd (bd_arr hB 2 (by omega) rfl (fun _ => rfl)) (fun S1 M1 hB => ?_)
  refine x_aload_n (pc := 22) dX1_init_22 rfl rfl ?_
  refine x_sipush (pc := 23) dX1_init_23 (by decide) ?_
  refine x_newI (pc := 26) dX1_init_26 ac_int (by decide) (by decide) ?_
  refine x_putR (j := 3) (pc := 28) dX1_init_28 fX1_18 (by first | exact hB.1 | exact (sAdd_o (by omega)).trans hB.1) (by decide) rfl (by omega) (fun _ => rfl) (fun _ => rfl) (Or.inr ⟨rfl, own_1⟩) ?_
  refine x_bd (bd_arr hB 3 (by omega) rfl (fun _ => rfl)) (fun S2 M2 hB => ?_)
  refine x_aload_n (pc := 31) dX1_init_31 rfl rfl ?_
  refine x_sipush (pc := 32) dX1_init_32 (by decide) ?_
  refine x_newI (pc := 35) dX1_init_35 ac_int (by decide) (by decide) ?_
  refine x_putR (j := 4) (pc := 37) dX1_init_37 fX1_21 (by first | exact hB.1 | exact (sAdd_o (by omega)).trans hB.1) (by decide) rfl (by omega) (fun _ => rfl) (fun _ => rfl) (Or.inr ⟨rfl, own_1⟩) ?_
  refine x_bd (bd_arr hB 4 (by omega) rfl (fun _ => rfl)) (fun S3 M3 hB => ?_)
  refine x_aload_n (pc := 40) dX1_init_40 rfl rfl ?_
  refine x_sipush (pc := 41) dX1_init_41 (by decide) ?_
  refine x_newI (pc := 44) dX1_init_44 ac_int (by decide) (by decide) ?_
  refine x_putR (j := 5) (pc := 46) dX1_init_46 fX1_24 (by first | exact hB.1 | exact (sAdd_o (by omega)).trans hB.1) (by decide) rfl (by omega) (fun _ => rfl) (fun _ => rfl) (Or.inr ⟨rfl, own_1⟩) ?_
  refine x_bd (bd_arr hB 5 (by omega) rfl (fun _ => rfl)) (fun S4 M4 hB => ?_)
  refine x_aload_n (pc := 49) dX1_init_49 rfl rfl ?_
  refine x_aload_n (pc := 50) dX1_init_50 rfl rfl ?_
  refine x_putR (j := 0) (pc := 51) dX1_init_51 fX1_27 (by first | exact hB.1 | exact (sAdd_o (by omega)).trans hB.1) (by decide) rfl (by omega) (fun _ => rfl) (fun _ => rfl) (Or.inr ⟨rfl, own_1⟩) ?_
  refine x_bd (bd_ref hB 0 q) (fun S10 M10 hB => ?_)
  refine x_bd (Bd.F hB (F' := fX1i s q) (fun j => by unfold fX1i; (repeat' split) <;> omega)) (fun S20 M20 hB => ?_)
  have hg : fX1i s q 5 = s + 5 := rfl
  have h5 : S20 (s + 5) = (13, 128, rN) := hB.2.1 _ (by omega) (by omega)
  clear hS
  have hz5 : ∀ i, M20 (s + 5) i = 0 := fun i => hB.2.2.2.2.1 _ i (by omega) (by omega)
  have loop := a_loop2 (fun x M2 => (1 ≤ x ∧ x ≤ 128) ∧ (∀ a i, a ≠ s + 5 → M2 a i = M20 a i) ∧ (∀ i, 0 ≤ i → i < x → M2 (s + 5) i = onesV i) ∧ ∀ i, i < 0 ∨ x ≤ i → M2 (s + 5) i = 0) (fun x _ => (128 - x).toNat) (fun x M2 => aX l E pX1_init (aC (fun N' S' M' => N' = N + 5 ∧ Bd S M s (wX1i s) (fun i j => if i = s + 5 ∧ 0 ≤ j ∧ j < 128 then onesV j else 0) 1 6 (fX1i s q) (M s) N' S' M')) 5 640 (N + 1 + 1 + 1 + 1 + 1) S20 M2 56 [(0, (2, s)), (1, (2, q)), (2, (0, x))] []) (by
    intro x M2 hI ih
    obtain ⟨k1, k2, k3, k4⟩ := hI
    refine x_iload_n (pc := 56) dX1_init_56 rfl rfl ?_
    refine x_sipush (pc := 57) dX1_init_57 (by decide) ?_
    refine x_icmp_ge (tgt := 97) (pc := 60) dX1_init_60 (by decide) (fun c_60 => ?_) (fun c_60 => ?_)
    · refine x_return (pc := 97) dX1_init_97 rfl (by decide) ?_
      have e : x = 128 := by omega
      subst e
      refine ⟨rfl, rfl, hB.1, hB.2.1, hB.2.2.1, fun i j a => (k2 i j (by omega)).trans (hB.2.2.2.1 i j a), fun i j a b => ?_, fun j => (k2 s j (by omega)).trans (hB.2.2.2.2.2 j)⟩
      by_cases e : i = s + 5 ∧ 0 ≤ j ∧ j < 128
      · refine Eq.trans ?_ (if_pos e).symm
        rw [e.1]; exact k3 j e.2.1 e.2.2
      · refine Eq.trans ?_ (if_neg e).symm
        by_cases e2 : i = s + 5
        · rw [e2]; exact k4 j (by omega)
        · exact (k2 i j e2).trans (hB.2.2.2.2.1 i j a b)
    · have ho := ones_st (x := x) ⟨by omega, by omega⟩
      refine x_iload_n (pc := 63) dX1_init_63 rfl rfl ?_
      refine x_callS1 (pc := 64) dX1_init_64 rfl kX1_31 (s_ntz hfl x ⟨by omega, by omega⟩) rfl (Nat.le_of_ble_eq_true rfl) (k_R ?_) n_R
      refine x_istore_n (pc := 67) dX1_init_67 rfl (by decide) rfl ?_
      refine x_aload_n (pc := 68) dX1_init_68 rfl rfl ?_
      refine x_getR (jj := 5) (pc := 69) dX1_init_69 fX1_24 (by first | exact hB.1 | exact (sAdd_o (by omega)).trans hB.1) rfl (by decide) rfl (by first | assumption | rfl) ?_
      refine x_iload_n (pc := 72) dX1_init_72 rfl rfl ?_
      refine x_aload_n (pc := 73) dX1_init_73 rfl rfl ?_
      refine x_getR (jj := 5) (pc := 74) dX1_init_74 fX1_24 (by first | exact hB.1 | exact (sAdd_o (by omega)).trans hB.1) rfl (by decide) rfl (by first | assumption | rfl) ?_
      refine x_iload_n (pc := 77) dX1_init_77 rfl rfl ?_
      refine x_iload_n (pc := 78) dX1_init_78 rfl rfl ?_
      refine x_iconst (pc := 79) dX1_init_79 (by decide) ?_
      refine x_isub (pc := 80) dX1_init_80 (by omega) ?_
      refine x_iand (pc := 81) dX1_init_81 ?_
      refine x_ialoadV (pc := 82) dX1_init_82 (by assumption) (by omega) (by (repeat (first | rewrite [up_s] | rewrite [up_i (by omega)] | rewrite [up_a (by omega)])); first | exact k3 _ ho.1.1 ho.1.2 | rfl) (fun g_82 => ?_)
      refine x_iconst (pc := 83) dX1_init_83 (by decide) ?_
      refine x_iload_n (pc := 84) dX1_init_84 rfl rfl ?_
      refine x_callS1 (pc := 85) dX1_init_85 rfl kX1_37 (s_shiftOf hfl (lowV x) ho.2.2) rfl (Nat.le_of_ble_eq_true rfl) (k_R ?_) n_R
      refine x_ishl (pc := 88) dX1_init_88 ?_
      refine x_ior (pc := 89) dX1_init_89 ?_
      refine x_iastore (pc := 90) dX1_init_90 (by assumption) (by omega) ?_
      refine x_iinc (pc := 91) dX1_init_91 rfl (by omega) (by decide) rfl ?_
      refine x_goto (tgt := 56) (pc := 94) dX1_init_94 (by decide) ?_
      refine x_lo (lo' := [(0, (2, s)), (1, (2, q)), (2, (0, x + 1))]) ⟨rfl, rfl, rfl, trivial⟩ (ih (x + 1) _ ⟨by omega, fun a i z => (up_a z).trans (k2 a i z), fun i a b => ?_, fun i a => ?_⟩ (by omega))
      · by_cases e : i = x
        · subst e; exact up_s.trans ho.2.1
        · exact (up_i e).trans (k3 i a (by omega))
      · exact (up_i (by omega)).trans (k4 i (by omega)))
  refine x_iconst (pc := 54) dX1_init_54 (by decide) ?_
  refine x_istore_n (pc := 55) dX1_init_55 rfl (by decide) rfl ?_
  refine x_lo (lo' := [(0, (2, s)), (1, (2, q)), (2, (0, 1))]) ⟨rfl, rfl, rfl, trivial⟩ (loop 1 _ ⟨by omega, fun _ _ _ => rfl, fun i a b => ?_, fun i _ => hz5 i⟩)
  rw [show i = 0 by omega, onesV_0]
  exact hz5 0
