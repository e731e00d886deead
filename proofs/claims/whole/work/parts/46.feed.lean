/-! feed -/
theorem dX5_append_0 : decode cX5_append 0 = .ok (.bipush 24, 2) := by decide +kernel
theorem dX5_append_2 : decode cX5_append 2 = .ok (.istore_n 2, 1) := by decide +kernel
theorem dX5_append_3 : decode cX5_append 3 = .ok (.iload_n 2, 1) := by decide +kernel
theorem dX5_append_4 : decode cX5_append 4 = .ok (.ifCond .lt 42, 3) := by decide +kernel
theorem dX5_append_7 : decode cX5_append 7 = .ok (.aload_n 0, 1) := by decide +kernel
theorem dX5_append_8 : decode cX5_append 8 = .ok (.getfield 26, 3) := by decide +kernel
theorem dX5_append_11 : decode cX5_append 11 = .ok (.sipush 300, 3) := by decide +kernel
theorem dX5_append_14 : decode cX5_append 14 = .ok (.if_icmp .ge 32, 3) := by decide +kernel
theorem dX5_append_17 : decode cX5_append 17 = .ok (.aload_n 0, 1) := by decide +kernel
theorem dX5_append_18 : decode cX5_append 18 = .ok (.getfield 11, 3) := by decide +kernel
theorem dX5_append_21 : decode cX5_append 21 = .ok (.aload_n 0, 1) := by decide +kernel
theorem dX5_append_22 : decode cX5_append 22 = .ok (.getfield 26, 3) := by decide +kernel
theorem dX5_append_25 : decode cX5_append 25 = .ok (.iload_n 1, 1) := by decide +kernel
theorem dX5_append_26 : decode cX5_append 26 = .ok (.iload_n 2, 1) := by decide +kernel
theorem dX5_append_27 : decode cX5_append 27 = .ok (.ishr, 1) := by decide +kernel
theorem dX5_append_28 : decode cX5_append 28 = .ok (.i2b, 1) := by decide +kernel
theorem dX5_append_29 : decode cX5_append 29 = .ok (.bastore, 1) := by decide +kernel
theorem dX5_append_30 : decode cX5_append 30 = .ok (.aload_n 0, 1) := by decide +kernel
theorem dX5_append_31 : decode cX5_append 31 = .ok (.dup, 1) := by decide +kernel
theorem dX5_append_32 : decode cX5_append 32 = .ok (.getfield 26, 3) := by decide +kernel
theorem dX5_append_35 : decode cX5_append 35 = .ok (.iconst 1, 1) := by decide +kernel
theorem dX5_append_36 : decode cX5_append 36 = .ok (.iadd, 1) := by decide +kernel
theorem dX5_append_37 : decode cX5_append 37 = .ok (.putfield 26, 3) := by decide +kernel
theorem dX5_append_40 : decode cX5_append 40 = .ok (.iinc 2 (-8), 3) := by decide +kernel
theorem dX5_append_43 : decode cX5_append 43 = .ok (.goto (-40), 3) := by decide +kernel
theorem dX5_append_46 : decode cX5_append 46 = .ok (.return_, 1) := by decide +kernel
theorem dX11_feed_0 : decode cX11_feed 0 = .ok (.aload_n 0, 1) := by decide +kernel
theorem dX11_feed_1 : decode cX11_feed 1 = .ok (.getfield 23, 3) := by decide +kernel
theorem dX11_feed_4 : decode cX11_feed 4 = .ok (.getfield 141, 3) := by decide +kernel
theorem dX11_feed_7 : decode cX11_feed 7 = .ok (.bipush 20, 2) := by decide +kernel
theorem dX11_feed_9 : decode cX11_feed 9 = .ok (.iadd, 1) := by decide +kernel
theorem dX11_feed_10 : decode cX11_feed 10 = .ok (.sipush 300, 3) := by decide +kernel
theorem dX11_feed_13 : decode cX11_feed 13 = .ok (.if_icmp .le 5, 3) := by decide +kernel
theorem dX11_feed_16 : decode cX11_feed 16 = .ok (.iconst (-1), 1) := by decide +kernel
theorem dX11_feed_17 : decode cX11_feed 17 = .ok (.ireturn, 1) := by decide +kernel
theorem dX11_feed_18 : decode cX11_feed 18 = .ok (.aload_n 0, 1) := by decide +kernel
theorem dX11_feed_19 : decode cX11_feed 19 = .ok (.getfield 23, 3) := by decide +kernel
theorem dX11_feed_22 : decode cX11_feed 22 = .ok (.iload_n 1, 1) := by decide +kernel
theorem dX11_feed_23 : decode cX11_feed 23 = .ok (.invokevirtual 145, 3) := by decide +kernel
theorem dX11_feed_26 : decode cX11_feed 26 = .ok (.aload_n 0, 1) := by decide +kernel
theorem dX11_feed_27 : decode cX11_feed 27 = .ok (.getfield 23, 3) := by decide +kernel
theorem dX11_feed_30 : decode cX11_feed 30 = .ok (.iload_n 2, 1) := by decide +kernel
theorem dX11_feed_31 : decode cX11_feed 31 = .ok (.invokevirtual 145, 3) := by decide +kernel
theorem dX11_feed_34 : decode cX11_feed 34 = .ok (.aload_n 0, 1) := by decide +kernel
theorem dX11_feed_35 : decode cX11_feed 35 = .ok (.getfield 23, 3) := by decide +kernel
theorem dX11_feed_38 : decode cX11_feed 38 = .ok (.iload_n 3, 1) := by decide +kernel
theorem dX11_feed_39 : decode cX11_feed 39 = .ok (.invokevirtual 145, 3) := by decide +kernel
theorem dX11_feed_42 : decode cX11_feed 42 = .ok (.aload_n 0, 1) := by decide +kernel
theorem dX11_feed_43 : decode cX11_feed 43 = .ok (.getfield 23, 3) := by decide +kernel
theorem dX11_feed_46 : decode cX11_feed 46 = .ok (.iload 4, 2) := by decide +kernel
theorem dX11_feed_48 : decode cX11_feed 48 = .ok (.invokevirtual 145, 3) := by decide +kernel
theorem dX11_feed_51 : decode cX11_feed 51 = .ok (.aload_n 0, 1) := by decide +kernel
theorem dX11_feed_52 : decode cX11_feed 52 = .ok (.getfield 23, 3) := by decide +kernel
theorem dX11_feed_55 : decode cX11_feed 55 = .ok (.iload 5, 2) := by decide +kernel
theorem dX11_feed_57 : decode cX11_feed 57 = .ok (.invokevirtual 145, 3) := by decide +kernel
theorem dX11_feed_60 : decode cX11_feed 60 = .ok (.aload_n 0, 1) := by decide +kernel
theorem dX11_feed_61 : decode cX11_feed 61 = .ok (.getfield 23, 3) := by decide +kernel
theorem dX11_feed_64 : decode cX11_feed 64 = .ok (.getfield 141, 3) := by decide +kernel
theorem dX11_feed_67 : decode cX11_feed 67 = .ok (.ireturn, 1) := by decide +kernel
/-- a byte more on the tape -/
def ap1 (A : aM) (v : Int) : aM := up (up A 1 (A 2 0) v) 2 0 (A 2 0 + 1)
theorem ap1_len {A : aM} {v : Int} : ap1 A v 2 0 = A 2 0 + 1 := up_s
def apk (A : aM) (w : Int) : Nat → aM
  | 0 => A
  | n + 1 => ap1 (apk A w n) (bys w (24 - 8 * (n : Int)))
theorem apk_len {A : aM} {w : Int} : ∀ {n : Nat}, apk A w n 2 0 = A 2 0 + n
  | 0 => by show A 2 0 = _; omega
  | n + 1 => by
    unfold apk
    rw [ap1_len, apk_len]
    omega
theorem ap1_0 {A : aM} {v : Int} : ap1 A v 0 = A 0 := by
  unfold ap1
  rw [up_r (by omega), up_r (by omega)]
def wrd (w1 w2 w3 w4 w5 n : Int) : Int := if n < 4 then w1 else if n < 8 then w2 else if n < 12 then w3 else if n < 16 then w4 else w5
def fedA (A : aM) (w1 w2 w3 w4 w5 : Int) : Nat → aM
  | 0 => A
  | n + 1 => ap1 (fedA A w1 w2 w3 w4 w5 n) (bys (wrd w1 w2 w3 w4 w5 (n : Int)) (24 - 8 * ((n : Int) % 4)))
theorem fedA_len {A : aM} {w1 w2 w3 w4 w5 : Int} : ∀ {n : Nat}, fedA A w1 w2 w3 w4 w5 n 2 0 = A 2 0 + n
  | 0 => by show A 2 0 = _; omega
  | n + 1 => by
    unfold fedA
    rw [ap1_len, fedA_len]
    omega
theorem fedA_20 {A : aM} {w1 w2 w3 w4 w5 : Int} : fedA A w1 w2 w3 w4 w5 20 = apk (apk (apk (apk (apk A w1 4) w2 4) w3 4) w4 4) w5 4 := rfl
def spFeed (A : aM) (w1 w2 w3 w4 w5 : Int) : Int × Int × aM := if 300 < A 2 0 + 20 then (0, -1, A) else (0, A 2 0 + 20, apk (apk (apk (apk (apk A w1 4) w2 4) w3 4) w4 4) w5 4)
theorem RM.len {M A : aM} {m : Int} (h : RM M m A) (h0 : 0 ≤ A 2 0) (hx : M (m + 4) (A 2 0) = A 1 (A 2 0)) : RM (up M m 6 (A 2 0 + 1)) m (up A 2 0 (A 2 0 + 1)) := by
  obtain ⟨⟨h1, h2, h3, ⟨h4, h5, h6, h7⟩, h8, h9, h10, h11, h12⟩, h13⟩ := h
  refine ⟨⟨fun j x y => ?_, ?_, fun j x y => ?_, ⟨?_, ?_, ?_, ?_⟩, fun j x y => ⟨?_, ?_⟩, fun j x y => ?_, fun j x y => ?_, fun j x y => ?_, ?_⟩, ?_⟩
  · rw [up_a (by omega), up_a (by omega)]; exact h1 j x y
  · rw [up_s, up_s]
  · rw [up_s] at y
    rw [up_a (by omega), up_a (by omega)]
    by_cases e : j = A 2 0
    · rw [e]; exact hx
    · exact h3 j x (by omega)
  · rw [up_i (by omega), up_i (by omega)]; exact h4
  · rw [up_i (by omega), up_i (by omega)]; exact h5
  · rw [up_i (by omega), up_i (by omega)]; exact h6
  · rw [up_i (by omega), up_i (by omega)]; exact h7
  · rw [up_a (by omega), up_a (by omega)]; exact (h8 j x y).1
  · rw [up_a (by omega), up_a (by omega)]; exact (h8 j x y).2
  · rw [up_a (by omega), up_a (by omega)]; exact h9 j x y
  · rw [up_a (by omega), up_a (by omega)]; exact h10 j x y
  · rw [up_a (by omega), up_a (by omega)]; exact h11 j x y
  · rw [up_i (by omega)]; exact h12
  · rw [up_r (by omega)]
    exact h13.other (by omega)
theorem RM.tape1 {M A : aM} {m v : Int} (h : RM M m A) (h0 : 0 ≤ A 2 0) : RM (up (up M (m + 4) (A 2 0) v) m 6 (A 2 0 + 1)) m (ap1 A v) := by
  have z := h.row (a := m + 4) (k := 1) (i := A 2 0) (v := v) (by omega)
  have z2 := z.len (by rw [up_a (by omega)]; exact h0) (by rw [up_a (by omega : (2 : Int) ≠ 1), up_s, up_s])
  rw [up_a (by omega : (2 : Int) ≠ 1)] at z2
  exact z2
theorem s_Mfeed {l : Launch} {E : aE} {N : Nat} {S : aS} {M : aM} (hfl : l.stackTraces = false) (w1 w2 w3 w4 w5 : Int) (m : Int) (A : aM) (hS : lyM S m) (hR : RM M m A) (hA : TOK (A 0)) (hL : 0 ≤ A 2 0 ∧ A 2 0 ≤ 300) : aMt l E pX12_feed [(2, m), (0, w1), (0, w2), (0, w3), (0, w4), (0, w5)] N S M (aG N S (opM M m 0 (spFeed A w1 w2 w3 w4 w5))) := by
  refine a_met hfl rfl (by decide +kernel) (Nat.le_of_ble_eq_true rfl) ?_
  refine x_aload_n (pc := 0) dX12_feed_0 rfl rfl ?_
  refine x_iconst (pc := 1) dX12_feed_1 (by decide) ?_
  refine x_putI (jj := 3) (pc := 2) dX12_feed_2 fX12_103 hS.1 rfl (by decide) rfl ?_
  refine x_memI (fun M1 hM1 => ?_)
  have R1 : RM M1 m A := by rw [hM1]; exact hR.up3
  have F1 : frM M M1 m := by rw [hM1]; exact frM.rf.up (by omega)
  have T1 : M1 m 3 = 0 := by rw [hM1]; exact up_s
  clear hM1
  have e0 : M1 (m + 1) 0 = A 0 0 := R1.1.1 0 (by omega) (by omega)
  have t0 := hA.1
  refine x_aload_n (pc := 5) dX12_feed_5 rfl rfl ?_
  refine x_getIV (jj := 6) (pc := 6) dX12_feed_6 fX12_149 hS.1 rfl (by decide) rfl (by (repeat (first | rewrite [up_s] | rewrite [up_i (by omega)] | rewrite [up_a (by omega)] | rewrite [stM_a (by omega) (by omega)])); first | exact R1.1.2.1 | exact l6 | exact R1.1.1 _ (by omega) (by omega) | rfl) ?_
  refine x_bipush (pc := 9) dX12_feed_9 (by decide) ?_
  refine x_iadd (pc := 11) dX12_feed_11 (by omega) ?_
  refine x_sipush (pc := 12) dX12_feed_12 (by decide) ?_
  refine x_icmp_le (tgt := 20) (pc := 15) dX12_feed_15 (by decide) (fun c_15 => ?_) (fun c_15 => ?_)
  · refine x_iconst (pc := 20) dX12_feed_20 (by decide) ?_
    refine x_istore (pc := 21) dX12_feed_21 (by decide) rfl ?_
    have loop := a_loop2 (fun k M2 => 0 ≤ k ∧ k ≤ 20 ∧ M2 m 3 = 0 ∧ frM M M2 m ∧ RM M2 m (fedA A w1 w2 w3 w4 w5 k.toNat)) (fun k _ => (20 - k).toNat) (fun k M2 => aX l E pX12_feed (aG N S (opM M m 0 (spFeed A w1 w2 w3 w4 w5))) 0 0 N S M2 23 [(0, (2, m)), (1, (0, w1)), (2, (0, w2)), (3, (0, w3)), (4, (0, w4)), (5, (0, w5)), (6, (0, k))] []) (by
      intro k M2 hI ih
      have hk := hI.1
      have hk2 := hI.2.1
      have l6 : M2 m 6 = A 2 0 + k := by
        rw [hI.2.2.2.2.1.2.1, fedA_len]
        omega
      refine x_iload (pc := 23) dX12_feed_23 rfl ?_
      refine x_bipush (pc := 25) dX12_feed_25 (by decide) ?_
      refine x_icmp_ge (tgt := 120) (pc := 27) dX12_feed_27 (by decide) (fun c_27 => ?_) (fun c_27 => ?_)
      · refine x_aload_n (pc := 120) dX12_feed_120 rfl rfl ?_
        refine x_getIV (jj := 6) (pc := 121) dX12_feed_121 fX12_149 hS.1 rfl (by decide) rfl (by (repeat (first | rewrite [up_s] | rewrite [up_i (by omega)] | rewrite [up_a (by omega)] | rewrite [stM_a (by omega) (by omega)])); first | exact R1.1.2.1 | exact l6 | exact R1.1.1 _ (by omega) (by omega) | rfl) ?_
        refine x_ireturn (pc := 124) dX12_feed_124 rfl (by decide) ?_
        have e8 : k = 20 := by omega
        subst e8
        have e9 : spFeed A w1 w2 w3 w4 w5 = (0, A 2 0 + 20, apk (apk (apk (apk (apk A w1 4) w2 4) w3 4) w4 4) w5 4) := by
          unfold spFeed
          rw [if_neg (by omega)]
        rw [e9, ← fedA_20]
        exact ⟨_, rfl, rfl, rfl, rfl, hI.2.2.1, fun _ => rfl, hI.2.2.2.2, hI.2.2.2.1⟩
      · have e3 : b_and k 3 = k % 4 := bt_fin (n := 20) (m := 1) (P := fun k _ => b_and k 3 = k % 4) (by decide +kernel) (a := k) (by omega) (b := 0) (by omega)
        refine x_iload (pc := 30) dX12_feed_30 rfl ?_
        refine x_iconst (pc := 32) dX12_feed_32 (by decide) ?_
        refine x_icmp_ge (tgt := 40) (pc := 33) dX12_feed_33 (by decide) (fun c_33 => ?_) (fun c_33 => ?_)
        · refine x_iload (pc := 40) dX12_feed_40 rfl ?_
          refine x_bipush (pc := 42) dX12_feed_42 (by decide) ?_
          refine x_icmp_ge (tgt := 51) (pc := 44) dX12_feed_44 (by decide) (fun c_44 => ?_) (fun c_44 => ?_)
          · refine x_iload (pc := 51) dX12_feed_51 rfl ?_
            refine x_bipush (pc := 53) dX12_feed_53 (by decide) ?_
            refine x_icmp_ge (tgt := 62) (pc := 55) dX12_feed_55 (by decide) (fun c_55 => ?_) (fun c_55 => ?_)
            · refine x_iload (pc := 62) dX12_feed_62 rfl ?_
              refine x_bipush (pc := 64) dX12_feed_64 (by decide) ?_
              refine x_icmp_ge (tgt := 74) (pc := 66) dX12_feed_66 (by decide) (fun c_66 => ?_) (fun c_66 => ?_)
              · refine x_iload (pc := 74) dX12_feed_74 rfl ?_
                refine x_istore (pc := 76) dX12_feed_76 (by decide) rfl ?_
                refine x_aload_n (pc := 78) dX12_feed_78 rfl rfl ?_
                refine x_getR (jj := 4) (pc := 79) dX12_feed_79 fX12_20 hS.1 rfl (by decide) rfl rM_4 ?_
                refine x_aload_n (pc := 82) dX12_feed_82 rfl rfl ?_
                refine x_getIV (jj := 6) (pc := 83) dX12_feed_83 fX12_149 hS.1 rfl (by decide) rfl (by (repeat (first | rewrite [up_s] | rewrite [up_i (by omega)] | rewrite [up_a (by omega)] | rewrite [stM_a (by omega) (by omega)])); first | exact R1.1.2.1 | exact l6 | exact R1.1.1 _ (by omega) (by omega) | rfl) ?_
                refine x_iload (pc := 86) dX12_feed_86 rfl ?_
                refine x_bipush (pc := 88) dX12_feed_88 (by decide) ?_
                refine x_bipush (pc := 90) dX12_feed_90 (by decide) ?_
                refine x_iload (pc := 92) dX12_feed_92 rfl ?_
                refine x_iconst (pc := 94) dX12_feed_94 (by decide) ?_
                refine x_iand (pc := 95) dX12_feed_95 ?_
                refine x_imul (pc := 96) dX12_feed_96 (by omega) ?_
                refine x_isub (pc := 97) dX12_feed_97 (by omega) ?_
                refine x_iushr (pc := 98) dX12_feed_98 ?_
                refine x_sipush (pc := 99) dX12_feed_99 (by decide) ?_
                refine x_iand (pc := 102) dX12_feed_102 ?_
                refine x_iastore (pc := 103) dX12_feed_103 (sM_4 hS) (by omega) ?_
                refine x_aload_n (pc := 104) dX12_feed_104 rfl rfl ?_
                refine x_dup (pc := 105) dX12_feed_105 rfl ?_
                refine x_getIV (jj := 6) (pc := 106) dX12_feed_106 fX12_149 hS.1 rfl (by decide) rfl (by (repeat (first | rewrite [up_s] | rewrite [up_i (by omega)] | rewrite [up_a (by omega)] | rewrite [stM_a (by omega) (by omega)])); first | exact R1.1.2.1 | exact l6 | exact R1.1.1 _ (by omega) (by omega) | rfl) ?_
                refine x_iconst (pc := 109) dX12_feed_109 (by decide) ?_
                refine x_iadd (pc := 110) dX12_feed_110 (by omega) ?_
                refine x_putI (jj := 6) (pc := 111) dX12_feed_111 fX12_149 hS.1 rfl (by decide) rfl ?_
                refine x_iinc (pc := 114) dX12_feed_114 rfl (by omega) (by decide) rfl ?_
                refine x_goto (tgt := 23) (pc := 117) dX12_feed_117 (by decide) ?_
                refine x_lo (lo' := [(0, (2, m)), (1, (0, w1)), (2, (0, w2)), (3, (0, w3)), (4, (0, w4)), (5, (0, w5)), (6, (0, k + 1))]) ⟨rfl, rfl, rfl, rfl, rfl, rfl, rfl, trivial⟩ (ih (k + 1) _ ⟨by omega, by omega, by rw [up_i (by omega), up_a (by omega)]; exact hI.2.2.1, (hI.2.2.2.1.up (by omega)).up (by omega), ?_⟩ (by omega))
                rw [show (k + 1).toNat = k.toNat + 1 by omega]
                unfold fedA
                have e4 : ((k.toNat : Nat) : Int) = k := by omega
                have z := hI.2.2.2.2.tape1 (v := bys (wrd w1 w2 w3 w4 w5 k) (24 - 8 * (k % 4))) (by rw [fedA_len]; omega)
                rw [fedA_len, e4] at z
                rw [e4]
                have e5 : wrd w1 w2 w3 w4 w5 k = w5 := by
                  unfold wrd
                  (repeat' split) <;> first | rfl | (exfalso; omega)
                rw [e5] at z ⊢
                rw [← e3] at z ⊢
                exact z
              · refine x_iload (pc := 69) dX12_feed_69 rfl ?_
                refine x_goto (tgt := 76) (pc := 71) dX12_feed_71 (by decide) ?_
                refine x_istore (pc := 76) dX12_feed_76 (by decide) rfl ?_
                refine x_aload_n (pc := 78) dX12_feed_78 rfl rfl ?_
                refine x_getR (jj := 4) (pc := 79) dX12_feed_79 fX12_20 hS.1 rfl (by decide) rfl rM_4 ?_
                refine x_aload_n (pc := 82) dX12_feed_82 rfl rfl ?_
                refine x_getIV (jj := 6) (pc := 83) dX12_feed_83 fX12_149 hS.1 rfl (by decide) rfl (by (repeat (first | rewrite [up_s] | rewrite [up_i (by omega)] | rewrite [up_a (by omega)] | rewrite [stM_a (by omega) (by omega)])); first | exact R1.1.2.1 | exact l6 | exact R1.1.1 _ (by omega) (by omega) | rfl) ?_
                refine x_iload (pc := 86) dX12_feed_86 rfl ?_
                refine x_bipush (pc := 88) dX12_feed_88 (by decide) ?_
                refine x_bipush (pc := 90) dX12_feed_90 (by decide) ?_
                refine x_iload (pc := 92) dX12_feed_92 rfl ?_
                refine x_iconst (pc := 94) dX12_feed_94 (by decide) ?_
                refine x_iand (pc := 95) dX12_feed_95 ?_
                refine x_imul (pc := 96) dX12_feed_96 (by omega) ?_
                refine x_isub (pc := 97) dX12_feed_97 (by omega) ?_
                refine x_iushr (pc := 98) dX12_feed_98 ?_
                refine x_sipush (pc := 99) dX12_feed_99 (by decide) ?_
                refine x_iand (pc := 102) dX12_feed_102 ?_
                refine x_iastore (pc := 103) dX12_feed_103 (sM_4 hS) (by omega) ?_
                refine x_aload_n (pc := 104) dX12_feed_104 rfl rfl ?_
                refine x_dup (pc := 105) dX12_feed_105 rfl ?_
                refine x_getIV (jj := 6) (pc := 106) dX12_feed_106 fX12_149 hS.1 rfl (by decide) rfl (by (repeat (first | rewrite [up_s] | rewrite [up_i (by omega)] | rewrite [up_a (by omega)] | rewrite [stM_a (by omega) (by omega)])); first | exact R1.1.2.1 | exact l6 | exact R1.1.1 _ (by omega) (by omega) | rfl) ?_
                refine x_iconst (pc := 109) dX12_feed_109 (by decide) ?_
                refine x_iadd (pc := 110) dX12_feed_110 (by omega) ?_
                refine x_putI (jj := 6) (pc := 111) dX12_feed_111 fX12_149 hS.1 rfl (by decide) rfl ?_
                refine x_iinc (pc := 114) dX12_feed_114 rfl (by omega) (by decide) rfl ?_
                refine x_goto (tgt := 23) (pc := 117) dX12_feed_117 (by decide) ?_
                refine x_lo (lo' := [(0, (2, m)), (1, (0, w1)), (2, (0, w2)), (3, (0, w3)), (4, (0, w4)), (5, (0, w5)), (6, (0, k + 1))]) ⟨rfl, rfl, rfl, rfl, rfl, rfl, rfl, trivial⟩ (ih (k + 1) _ ⟨by omega, by omega, by rw [up_i (by omega), up_a (by omega)]; exact hI.2.2.1, (hI.2.2.2.1.up (by omega)).up (by omega), ?_⟩ (by omega))
                rw [show (k + 1).toNat = k.toNat + 1 by omega]
                unfold fedA
                have e4 : ((k.toNat : Nat) : Int) = k := by omega
                have z := hI.2.2.2.2.tape1 (v := bys (wrd w1 w2 w3 w4 w5 k) (24 - 8 * (k % 4))) (by rw [fedA_len]; omega)
                rw [fedA_len, e4] at z
                rw [e4]
                have e5 : wrd w1 w2 w3 w4 w5 k = w4 := by
                  unfold wrd
                  (repeat' split) <;> first | rfl | (exfalso; omega)
                rw [e5] at z ⊢
                rw [← e3] at z ⊢
                exact z
            · refine x_iload_n (pc := 58) dX12_feed_58 rfl rfl ?_
              refine x_goto (tgt := 76) (pc := 59) dX12_feed_59 (by decide) ?_
              refine x_istore (pc := 76) dX12_feed_76 (by decide) rfl ?_
              refine x_aload_n (pc := 78) dX12_feed_78 rfl rfl ?_
              refine x_getR (jj := 4) (pc := 79) dX12_feed_79 fX12_20 hS.1 rfl (by decide) rfl rM_4 ?_
              refine x_aload_n (pc := 82) dX12_feed_82 rfl rfl ?_
              refine x_getIV (jj := 6) (pc := 83) dX12_feed_83 fX12_149 hS.1 rfl (by decide) rfl (by (repeat (first | rewrite [up_s] | rewrite [up_i (by omega)] | rewrite [up_a (by omega)] | rewrite [stM_a (by omega) (by omega)])); first | exact R1.1.2.1 | exact l6 | exact R1.1.1 _ (by omega) (by omega) | rfl) ?_
              refine x_iload (pc := 86) dX12_feed_86 rfl ?_
              refine x_bipush (pc := 88) dX12_feed_88 (by decide) ?_
              refine x_bipush (pc := 90) dX12_feed_90 (by decide) ?_
              refine x_iload (pc := 92) dX12_feed_92 rfl ?_
              refine x_iconst (pc := 94) dX12_feed_94 (by decide) ?_
              refine x_iand (pc := 95) dX12_feed_95 ?_
              refine x_imul (pc := 96) dX12_feed_96 (by omega) ?_
              refine x_isub (pc := 97) dX12_feed_97 (by omega) ?_
              refine x_iushr (pc := 98) dX12_feed_98 ?_
              refine x_sipush (pc := 99) dX12_feed_99 (by decide) ?_
              refine x_iand (pc := 102) dX12_feed_102 ?_
              refine x_iastore (pc := 103) dX12_feed_103 (sM_4 hS) (by omega) ?_
              refine x_aload_n (pc := 104) dX12_feed_104 rfl rfl ?_
              refine x_dup (pc := 105) dX12_feed_105 rfl ?_
              refine x_getIV (jj := 6) (pc := 106) dX12_feed_106 fX12_149 hS.1 rfl (by decide) rfl (by (repeat (first | rewrite [up_s] | rewrite [up_i (by omega)] | rewrite [up_a (by omega)] | rewrite [stM_a (by omega) (by omega)])); first | exact R1.1.2.1 | exact l6 | exact R1.1.1 _ (by omega) (by omega) | rfl) ?_
              refine x_iconst (pc := 109) dX12_feed_109 (by decide) ?_
              refine x_iadd (pc := 110) dX12_feed_110 (by omega) ?_
              refine x_putI (jj := 6) (pc := 111) dX12_feed_111 fX12_149 hS.1 rfl (by decide) rfl ?_
              refine x_iinc (pc := 114) dX12_feed_114 rfl (by omega) (by decide) rfl ?_
              refine x_goto (tgt := 23) (pc := 117) dX12_feed_117 (by decide) ?_
              refine x_lo (lo' := [(0, (2, m)), (1, (0, w1)), (2, (0, w2)), (3, (0, w3)), (4, (0, w4)), (5, (0, w5)), (6, (0, k + 1))]) ⟨rfl, rfl, rfl, rfl, rfl, rfl, rfl, trivial⟩ (ih (k + 1) _ ⟨by omega, by omega, by rw [up_i (by omega), up_a (by omega)]; exact hI.2.2.1, (hI.2.2.2.1.up (by omega)).up (by omega), ?_⟩ (by omega))
              rw [show (k + 1).toNat = k.toNat + 1 by omega]
              unfold fedA
              have e4 : ((k.toNat : Nat) : Int) = k := by omega
              have z := hI.2.2.2.2.tape1 (v := bys (wrd w1 w2 w3 w4 w5 k) (24 - 8 * (k % 4))) (by rw [fedA_len]; omega)
              rw [fedA_len, e4] at z
              rw [e4]
              have e5 : wrd w1 w2 w3 w4 w5 k = w3 := by
                unfold wrd
                (repeat' split) <;> first | rfl | (exfalso; omega)
              rw [e5] at z ⊢
              rw [← e3] at z ⊢
              exact z
          · refine x_iload_n (pc := 47) dX12_feed_47 rfl rfl ?_
            refine x_goto (tgt := 76) (pc := 48) dX12_feed_48 (by decide) ?_
            refine x_istore (pc := 76) dX12_feed_76 (by decide) rfl ?_
            refine x_aload_n (pc := 78) dX12_feed_78 rfl rfl ?_
            refine x_getR (jj := 4) (pc := 79) dX12_feed_79 fX12_20 hS.1 rfl (by decide) rfl rM_4 ?_
            refine x_aload_n (pc := 82) dX12_feed_82 rfl rfl ?_
            refine x_getIV (jj := 6) (pc := 83) dX12_feed_83 fX12_149 hS.1 rfl (by decide) rfl (by (repeat (first | rewrite [up_s] | rewrite [up_i (by omega)] | rewrite [up_a (by omega)] | rewrite [stM_a (by omega) (by omega)])); first | exact R1.1.2.1 | exact l6 | exact R1.1.1 _ (by omega) (by omega) | rfl) ?_
            refine x_iload (pc := 86) dX12_feed_86 rfl ?_
            refine x_bipush (pc := 88) dX12_feed_88 (by decide) ?_
            refine x_bipush (pc := 90) dX12_feed_90 (by decide) ?_
            refine x_iload (pc := 92) dX12_feed_92 rfl ?_
            refine x_iconst (pc := 94) dX12_feed_94 (by decide) ?_
            refine x_iand (pc := 95) dX12_feed_95 ?_
            refine x_imul (pc := 96) dX12_feed_96 (by omega) ?_
            refine x_isub (pc := 97) dX12_feed_97 (by omega) ?_
            refine x_iushr (pc := 98) dX12_feed_98 ?_
            refine x_sipush (pc := 99) dX12_feed_99 (by decide) ?_
            refine x_iand (pc := 102) dX12_feed_102 ?_
            refine x_iastore (pc := 103) dX12_feed_103 (sM_4 hS) (by omega) ?_
            refine x_aload_n (pc := 104) dX12_feed_104 rfl rfl ?_
            refine x_dup (pc := 105) dX12_feed_105 rfl ?_
            refine x_getIV (jj := 6) (pc := 106) dX12_feed_106 fX12_149 hS.1 rfl (by decide) rfl (by (repeat (first | rewrite [up_s] | rewrite [up_i (by omega)] | rewrite [up_a (by omega)] | rewrite [stM_a (by omega) (by omega)])); first | exact R1.1.2.1 | exact l6 | exact R1.1.1 _ (by omega) (by omega) | rfl) ?_
            refine x_iconst (pc := 109) dX12_feed_109 (by decide) ?_
            refine x_iadd (pc := 110) dX12_feed_110 (by omega) ?_
            refine x_putI (jj := 6) (pc := 111) dX12_feed_111 fX12_149 hS.1 rfl (by decide) rfl ?_
            refine x_iinc (pc := 114) dX12_feed_114 rfl (by omega) (by decide) rfl ?_
            refine x_goto (tgt := 23) (pc := 117) dX12_feed_117 (by decide) ?_
            refine x_lo (lo' := [(0, (2, m)), (1, (0, w1)), (2, (0, w2)), (3, (0, w3)), (4, (0, w4)), (5, (0, w5)), (6, (0, k + 1))]) ⟨rfl, rfl, rfl, rfl, rfl, rfl, rfl, trivial⟩ (ih (k + 1) _ ⟨by omega, by omega, by rw [up_i (by omega), up_a (by omega)]; exact hI.2.2.1, (hI.2.2.2.1.up (by omega)).up (by omega), ?_⟩ (by omega))
            rw [show (k + 1).toNat = k.toNat + 1 by omega]
            unfold fedA
            have e4 : ((k.toNat : Nat) : Int) = k := by omega
            have z := hI.2.2.2.2.tape1 (v := bys (wrd w1 w2 w3 w4 w5 k) (24 - 8 * (k % 4))) (by rw [fedA_len]; omega)
            rw [fedA_len, e4] at z
            rw [e4]
            have e5 : wrd w1 w2 w3 w4 w5 k = w2 := by
              unfold wrd
              (repeat' split) <;> first | rfl | (exfalso; omega)
            rw [e5] at z ⊢
            rw [← e3] at z ⊢
            exact z
        · refine x_iload_n (pc := 36) dX12_feed_36 rfl rfl ?_
          refine x_goto (tgt := 76) (pc := 37) dX12_feed_37 (by decide) ?_
          refine x_istore (pc := 76) dX12_feed_76 (by decide) rfl ?_
          refine x_aload_n (pc := 78) dX12_feed_78 rfl rfl ?_
          refine x_getR (jj := 4) (pc := 79) dX12_feed_79 fX12_20 hS.1 rfl (by decide) rfl rM_4 ?_
          refine x_aload_n (pc := 82) dX12_feed_82 rfl rfl ?_
          refine x_getIV (jj := 6) (pc := 83) dX12_feed_83 fX12_149 hS.1 rfl (by decide) rfl (by (repeat (first | rewrite [up_s] | rewrite [up_i (by omega)] | rewrite [up_a (by omega)] | rewrite [stM_a (by omega) (by omega)])); first | exact R1.1.2.1 | exact l6 | exact R1.1.1 _ (by omega) (by omega) | rfl) ?_
          refine x_iload (pc := 86) dX12_feed_86 rfl ?_
          refine x_bipush (pc := 88) dX12_feed_88 (by decide) ?_
          refine x_bipush (pc := 90) dX12_feed_90 (by decide) ?_
          refine x_iload (pc := 92) dX12_feed_92 rfl ?_
          refine x_iconst (pc := 94) dX12_feed_94 (by decide) ?_
          refine x_iand (pc := 95) dX12_feed_95 ?_
          refine x_imul (pc := 96) dX12_feed_96 (by omega) ?_
          refine x_isub (pc := 97) dX12_feed_97 (by omega) ?_
          refine x_iushr (pc := 98) dX12_feed_98 ?_
          refine x_sipush (pc := 99) dX12_feed_99 (by decide) ?_
          refine x_iand (pc := 102) dX12_feed_102 ?_
          refine x_iastore (pc := 103) dX12_feed_103 (sM_4 hS) (by omega) ?_
          refine x_aload_n (pc := 104) dX12_feed_104 rfl rfl ?_
          refine x_dup (pc := 105) dX12_feed_105 rfl ?_
          refine x_getIV (jj := 6) (pc := 106) dX12_feed_106 fX12_149 hS.1 rfl (by decide) rfl (by (repeat (first | rewrite [up_s] | rewrite [up_i (by omega)] | rewrite [up_a (by omega)] | rewrite [stM_a (by omega) (by omega)])); first | exact R1.1.2.1 | exact l6 | exact R1.1.1 _ (by omega) (by omega) | rfl) ?_
          refine x_iconst (pc := 109) dX12_feed_109 (by decide) ?_
          refine x_iadd (pc := 110) dX12_feed_110 (by omega) ?_
          refine x_putI (jj := 6) (pc := 111) dX12_feed_111 fX12_149 hS.1 rfl (by decide) rfl ?_
          refine x_iinc (pc := 114) dX12_feed_114 rfl (by omega) (by decide) rfl ?_
          refine x_goto (tgt := 23) (pc := 117) dX12_feed_117 (by decide) ?_
          refine x_lo (lo' := [(0, (2, m)), (1, (0, w1)), (2, (0, w2)), (3, (0, w3)), (4, (0, w4)), (5, (0, w5)), (6, (0, k + 1))]) ⟨rfl, rfl, rfl, rfl, rfl, rfl, rfl, trivial⟩ (ih (k + 1) _ ⟨by omega, by omega, by rw [up_i (by omega), up_a (by omega)]; exact hI.2.2.1, (hI.2.2.2.1.up (by omega)).up (by omega), ?_⟩ (by omega))
          rw [show (k + 1).toNat = k.toNat + 1 by omega]
          unfold fedA
          have e4 : ((k.toNat : Nat) : Int) = k := by omega
          have z := hI.2.2.2.2.tape1 (v := bys (wrd w1 w2 w3 w4 w5 k) (24 - 8 * (k % 4))) (by rw [fedA_len]; omega)
          rw [fedA_len, e4] at z
          rw [e4]
          have e5 : wrd w1 w2 w3 w4 w5 k = w1 := by
            unfold wrd
            (repeat' split) <;> first | rfl | (exfalso; omega)
          rw [e5] at z ⊢
          rw [← e3] at z ⊢
          exact z)
    exact x_lo (lo' := [(0, (2, m)), (1, (0, w1)), (2, (0, w2)), (3, (0, w3)), (4, (0, w4)), (5, (0, w5)), (6, (0, 0))]) ⟨rfl, rfl, rfl, rfl, rfl, rfl, rfl, trivial⟩ (loop 0 _ ⟨by omega, by omega, T1, F1, R1⟩)
  · refine x_iconst (pc := 18) dX12_feed_18 (by decide) ?_
    refine x_ireturn (pc := 19) dX12_feed_19 rfl (by decide) ?_
    have e9 : spFeed A w1 w2 w3 w4 w5 = (0, -1, A) := by
      unfold spFeed
      rw [if_pos (by omega)]
    rw [e9]
    exact ⟨_, rfl, rfl, rfl, rfl, T1, fun _ => rfl, R1, F1⟩
def cp1 (M : aM) (x : Int) : aM := up (up M 18 (M 17 1) x) 17 1 (M 17 1 + 1)
def fedC (M : aM) (w : Int) : Nat → aM
  | 0 => M
  | n + 1 => cp1 (fedC M w n) (b_i2b (b_shr w (24 - 8 * (n : Int))))
theorem fedC_len {M : aM} {w : Int} : ∀ {n : Nat}, fedC M w n 17 1 = M 17 1 + n
  | 0 => by show M 17 1 = _; omega
  | n + 1 => by
    unfold fedC cp1
    rw [up_s, fedC_len]
    omega
theorem fedC_a {M : aM} {w a i : Int} (h1 : a ≠ 17) (h2 : a ≠ 18) : ∀ {n : Nat}, fedC M w n a i = M a i
  | 0 => rfl
  | n + 1 => by
    unfold fedC cp1
    rw [up_a h1, up_a h2, fedC_a h1 h2]
theorem RC.tape1 {M A : aM} {N : Nat} {S : aS} {v : Int} (h : RC M N S A) (h0 : 0 ≤ A 2 0) : RC (cp1 M (sgn8 v)) N S (ap1 A v) := by
  obtain ⟨h1, h2, h3, h4, h5, h6, h7, h8, h9⟩ := h
  have g : ∀ a, a ≠ 17 → a ≠ 18 → eqR M (cp1 M (sgn8 v)) a := fun a x y j => by unfold cp1; rw [up_a x, up_a y]
  have e0 : ap1 A v 0 = A 0 := ap1_0
  have er : ∀ r, r ≠ 1 → r ≠ 2 → ap1 A v r = A r := fun r x y => funext fun j => by unfold ap1; rw [up_a y, up_a x]
  have e2 : ∀ j, j ≠ 0 → ap1 A v 2 j = A 2 j := fun j x => by unfold ap1; rw [up_i x, up_a (by omega)]
  refine ⟨?_, ?_, ?_, ?_, ?_, ?_, ?_, h8.cg (fun a x y => g a (by omega) (by omega)) (fun a x y => g a (by omega) (by omega)), ?_⟩
  · rw [ap1_0]; exact h1.cg fun a x y => g a (by omega) (by omega)
  · have z := h2.cg (g 0 (by omega) (by omega))
    unfold RFr at z ⊢
    rw [e2 3 (by omega), e2 4 (by omega)]; exact z
  · obtain ⟨q1, q2, q3, q4⟩ := h3
    refine ⟨?_, fun i a b => ?_, ?_, ?_⟩
    · unfold cp1; rw [up_s, ap1_len, q1]
    · rw [ap1_len] at b
      unfold cp1 ap1
      rw [up_a (by omega : (18 : Int) ≠ 17), up_a (by omega : (1 : Int) ≠ 2), q1]
      by_cases e : i = A 2 0
      · rw [e, up_s, up_s]
      · rw [up_i e, up_i e]; exact q2 i a (by omega)
    · unfold cp1; rw [up_i (by omega), up_a (by omega), e2 1 (by omega)]; exact q3
    · unfold cp1; rw [up_i (by omega), up_a (by omega), e2 2 (by omega)]; exact q4
  · have z := h4.cg (g 105 (by omega) (by omega)) (g 106 (by omega) (by omega)) (g 107 (by omega) (by omega))
    unfold RTy at z ⊢
    rw [er 3 (by omega) (by omega), er 4 (by omega) (by omega), er 5 (by omega) (by omega)]; exact z
  · have z := h5.cg (g 16 (by omega) (by omega)) (fun a x => g a (by omega) (by omega))
    unfold RIm at z ⊢
    rw [er 6 (by omega) (by omega), er 7 (by omega) (by omega)]; exact z
  · rw [ap1_0]; exact h6.cg fun a x y => g a (by omega) (by omega)
  · rw [ap1_0]; exact h7.cg (g _ (by omega) (by omega))
  · rw [ap1_0]; exact h9.cg (g 82 (by omega) (by omega))
theorem RC.fed {M A : aM} {N : Nat} {S : aS} (w : Int) (h : RC M N S A) (h0 : 0 ≤ A 2 0) : RC (fedC M w 4) N S (apk A w 4) := by
  have z1 := h.tape1 (v := bys w (24 - 8 * ((0 : Nat) : Int))) h0
  have z2 := z1.tape1 (v := bys w (24 - 8 * ((1 : Nat) : Int))) (by rw [ap1_len]; omega)
  have z3 := z2.tape1 (v := bys w (24 - 8 * ((2 : Nat) : Int))) (by rw [ap1_len, ap1_len]; omega)
  have z4 := z3.tape1 (v := bys w (24 - 8 * ((3 : Nat) : Int))) (by rw [ap1_len, ap1_len, ap1_len]; omega)
  rw [← bys_sgn (k := 24) (by omega) (by omega), ← bys_sgn (k := 16) (by omega) (by omega), ← bys_sgn (k := 8) (by omega) (by omega), ← bys_sgn (k := 0) (by omega) (by omega)] at z4
  exact z4
theorem s_append {l : Launch} {E : aE} {N : Nat} {S : aS} {M : aM} (hfl : l.stackTraces = false) (w : Int) (hC : lyC S) (hl : 0 ≤ M 17 1 ∧ M 17 1 + 4 ≤ 300) : aMt l E pX5_append [(2, 17), (0, w)] N S M (aU N S (fun M' => M' = fedC M w 4)) := by
  refine a_met hfl rfl (by decide +kernel) (Nat.le_of_ble_eq_true rfl) ?_
  have loop := a_loop3 (fun k i M2 => 0 ≤ k ∧ k ≤ 4 ∧ i = 24 - 8 * k ∧ M2 = fedC M w k.toNat ∧ M2 17 1 = M 17 1 + k) (fun k _ _ => (4 - k).toNat) (fun k i M2 => aX l E pX5_append (aU N S (fun M' => M' = fedC M w 4)) 0 0 N S M2 3 [(0, (2, 17)), (1, (0, w)), (2, (0, i))] []) (by
    intro k i M2 hI ih
    have hk := hI.1
    have hk2 := hI.2.1
    have hk3 := hI.2.2.1
    refine x_iload_n (pc := 3) dX5_append_3 rfl rfl ?_
    refine x_if_lt (tgt := 46) (pc := 4) dX5_append_4 (by decide) (fun c_4 => ?_) (fun c_4 => ?_)
    · refine x_return (pc := 46) dX5_append_46 rfl (by decide) ?_
      exact ⟨rfl, rfl, rfl, by rw [hI.2.2.2.1, show k.toNat = 4 by omega]⟩
    · refine x_aload_n (pc := 7) dX5_append_7 rfl rfl ?_
      refine x_getIV (jj := 1) (pc := 8) dX5_append_8 fX5_26 (sC_17 hC) rfl (by decide) rfl (by (repeat (first | rewrite [up_s] | rewrite [up_i (by omega)] | rewrite [up_a (by omega)])); first | exact hI.2.2.2.2 | rfl) ?_
      refine x_sipush (pc := 11) dX5_append_11 (by decide) ?_
      refine x_icmp_ge (tgt := 46) (pc := 14) dX5_append_14 (by decide) (fun c_14 => ?_) (fun c_14 => ?_)
      · refine x_return (pc := 46) dX5_append_46 rfl (by decide) ?_
        exfalso; omega
      · refine x_aload_n (pc := 17) dX5_append_17 rfl rfl ?_
        refine x_getR (jj := 0) (pc := 18) dX5_append_18 fX5_11 (sC_17 hC) rfl (by decide) rfl rC_17_0 ?_
        refine x_aload_n (pc := 21) dX5_append_21 rfl rfl ?_
        refine x_getIV (jj := 1) (pc := 22) dX5_append_22 fX5_26 (sC_17 hC) rfl (by decide) rfl (by (repeat (first | rewrite [up_s] | rewrite [up_i (by omega)] | rewrite [up_a (by omega)])); first | exact hI.2.2.2.2 | rfl) ?_
        refine x_iload_n (pc := 25) dX5_append_25 rfl rfl ?_
        refine x_iload_n (pc := 26) dX5_append_26 rfl rfl ?_
        refine x_ishr (pc := 27) dX5_append_27 ?_
        refine x_i2b (pc := 28) dX5_append_28 ?_
        refine x_bastore (pc := 29) dX5_append_29 (sC_18 hC) (by omega) (by exact b_i2b_r _) ?_
        refine x_aload_n (pc := 30) dX5_append_30 rfl rfl ?_
        refine x_dup (pc := 31) dX5_append_31 rfl ?_
        refine x_getIV (jj := 1) (pc := 32) dX5_append_32 fX5_26 (sC_17 hC) rfl (by decide) rfl (by (repeat (first | rewrite [up_s] | rewrite [up_i (by omega)] | rewrite [up_a (by omega)])); first | exact hI.2.2.2.2 | rfl) ?_
        refine x_iconst (pc := 35) dX5_append_35 (by decide) ?_
        refine x_iadd (pc := 36) dX5_append_36 (by omega) ?_
        refine x_putI (jj := 1) (pc := 37) dX5_append_37 fX5_26 (sC_17 hC) rfl (by decide) rfl ?_
        refine x_iinc (pc := 40) dX5_append_40 rfl (by omega) (by decide) rfl ?_
        refine x_goto (tgt := 3) (pc := 43) dX5_append_43 (by decide) ?_
        refine x_lo (lo' := [(0, (2, 17)), (1, (0, w)), (2, (0, i + -8))]) ⟨rfl, rfl, rfl, trivial⟩ (ih (k + 1) _ _ ⟨by omega, by omega, by omega, ?_, by rw [up_s]; omega⟩ (by omega))
        rw [show (k + 1).toNat = k.toNat + 1 by omega]
        unfold fedC cp1
        rw [← hI.2.2.2.1, hI.2.2.2.2, show 24 - 8 * ((k.toNat : Nat) : Int) = i by omega])
  refine x_bipush (pc := 0) dX5_append_0 (by decide) ?_
  refine x_istore_n (pc := 2) dX5_append_2 rfl (by decide) rfl ?_
  exact x_lo (lo' := [(0, (2, 17)), (1, (0, w)), (2, (0, 24))]) ⟨rfl, rfl, rfl, trivial⟩ (loop 0 24 _ ⟨by omega, by omega, by omega, rfl, by omega⟩)
theorem s_Cfeed {l : Launch} {E : aE} {N : Nat} {S : aS} {M : aM} (hfl : l.stackTraces = false) (w1 w2 w3 w4 w5 : Int) (hC : lyC S) (A : aM) (hR : RC M N S A) (hA : TOK (A 0)) (hL : 0 ≤ A 2 0 ∧ A 2 0 ≤ 300) : aMt l E pX11_feed [(2, 0), (0, w1), (0, w2), (0, w3), (0, w4), (0, w5)] N S M (opC M N S 0 (spFeed A w1 w2 w3 w4 w5) (fun _ => 0)) := by
  refine a_met hfl rfl (by decide +kernel) (Nat.le_of_ble_eq_true rfl) ?_
  have l0 : M 17 1 = A 2 0 := hR.2.2.1.1
  refine x_aload_n (pc := 0) dX11_feed_0 rfl rfl ?_
  refine x_getR (jj := 2) (pc := 1) dX11_feed_1 fX11_23 (sC_0 hC) rfl (by decide) rfl rC_0_2 ?_
  refine x_getIV (jj := 1) (pc := 4) dX11_feed_4 fX11_141 (sC_17 hC) rfl (by decide) rfl (by (repeat (first | rewrite [up_s] | rewrite [up_i (by omega)] | rewrite [up_a (by omega)])); first | exact hR.2.2.1.1 | rfl) ?_
  refine x_bipush (pc := 7) dX11_feed_7 (by decide) ?_
  refine x_iadd (pc := 9) dX11_feed_9 (by omega) ?_
  refine x_sipush (pc := 10) dX11_feed_10 (by decide) ?_
  refine x_icmp_le (tgt := 18) (pc := 13) dX11_feed_13 (by decide) (fun c_13 => ?_) (fun c_13 => ?_)
  · refine x_aload_n (pc := 18) dX11_feed_18 rfl rfl ?_
    refine x_getR (jj := 2) (pc := 19) dX11_feed_19 fX11_23 (sC_0 hC) rfl (by decide) rfl rC_0_2 ?_
    refine x_iload_n (pc := 22) dX11_feed_22 rfl rfl ?_
    refine x_callV1 (pc := 23) dX11_feed_23 rfl kX11_145 (s_append hfl w1 hC (by (repeat rw [fedC_len]); omega)) (sC_17 hC) rfl rfl (Nat.le_of_ble_eq_true rfl) (k_U (fun M9 hM9 => ?_)) n_U
    subst hM9
    refine x_aload_n (pc := 26) dX11_feed_26 rfl rfl ?_
    refine x_getR (jj := 2) (pc := 27) dX11_feed_27 fX11_23 (sC_0 hC) rfl (by decide) rfl rC_0_2 ?_
    refine x_iload_n (pc := 30) dX11_feed_30 rfl rfl ?_
    refine x_callV1 (pc := 31) dX11_feed_31 rfl kX11_145 (s_append hfl w2 hC (by (repeat rw [fedC_len]); omega)) (sC_17 hC) rfl rfl (Nat.le_of_ble_eq_true rfl) (k_U (fun M9 hM9 => ?_)) n_U
    subst hM9
    refine x_aload_n (pc := 34) dX11_feed_34 rfl rfl ?_
    refine x_getR (jj := 2) (pc := 35) dX11_feed_35 fX11_23 (sC_0 hC) rfl (by decide) rfl rC_0_2 ?_
    refine x_iload_n (pc := 38) dX11_feed_38 rfl rfl ?_
    refine x_callV1 (pc := 39) dX11_feed_39 rfl kX11_145 (s_append hfl w3 hC (by (repeat rw [fedC_len]); omega)) (sC_17 hC) rfl rfl (Nat.le_of_ble_eq_true rfl) (k_U (fun M9 hM9 => ?_)) n_U
    subst hM9
    refine x_aload_n (pc := 42) dX11_feed_42 rfl rfl ?_
    refine x_getR (jj := 2) (pc := 43) dX11_feed_43 fX11_23 (sC_0 hC) rfl (by decide) rfl rC_0_2 ?_
    refine x_iload (pc := 46) dX11_feed_46 rfl ?_
    refine x_callV1 (pc := 48) dX11_feed_48 rfl kX11_145 (s_append hfl w4 hC (by (repeat rw [fedC_len]); omega)) (sC_17 hC) rfl rfl (Nat.le_of_ble_eq_true rfl) (k_U (fun M9 hM9 => ?_)) n_U
    subst hM9
    refine x_aload_n (pc := 51) dX11_feed_51 rfl rfl ?_
    refine x_getR (jj := 2) (pc := 52) dX11_feed_52 fX11_23 (sC_0 hC) rfl (by decide) rfl rC_0_2 ?_
    refine x_iload (pc := 55) dX11_feed_55 rfl ?_
    refine x_callV1 (pc := 57) dX11_feed_57 rfl kX11_145 (s_append hfl w5 hC (by (repeat rw [fedC_len]); omega)) (sC_17 hC) rfl rfl (Nat.le_of_ble_eq_true rfl) (k_U (fun M9 hM9 => ?_)) n_U
    subst hM9
    refine x_aload_n (pc := 60) dX11_feed_60 rfl rfl ?_
    refine x_getR (jj := 2) (pc := 61) dX11_feed_61 fX11_23 (sC_0 hC) rfl (by decide) rfl rC_0_2 ?_
    refine x_getIV (jj := 1) (pc := 64) dX11_feed_64 fX11_141 (sC_17 hC) rfl (by decide) rfl (by (repeat (first | rewrite [up_s] | rewrite [up_i (by omega)] | rewrite [up_a (by omega)])); first | exact hR.2.2.1.1 | rfl) ?_
    refine x_ireturn (pc := 67) dX11_feed_67 rfl (by decide) ?_
    have z1 := hR.fed w1 hL.1
    have z2 := z1.fed w2 (by rw [apk_len]; omega)
    have z3 := z2.fed w3 (by rw [apk_len, apk_len]; omega)
    have z4 := z3.fed w4 (by rw [apk_len, apk_len, apk_len]; omega)
    have z5 := z4.fed w5 (by rw [apk_len, apk_len, apk_len, apk_len]; omega)
    have e9 : spFeed A w1 w2 w3 w4 w5 = (0, A 2 0 + 20, apk (apk (apk (apk (apk A w1 4) w2 4) w3 4) w4 4) w5 4) := by
      unfold spFeed
      (repeat' split) <;> first | rfl | (exfalso; omega)
    rw [e9]
    rw [z5.2.2.1.1, apk_len, apk_len, apk_len, apk_len, apk_len, show A 2 0 + ((4 : Nat) : Int) + ((4 : Nat) : Int) + ((4 : Nat) : Int) + ((4 : Nat) : Int) + ((4 : Nat) : Int) = A 2 0 + 20 by omega]
    exact ⟨rfl, rfl, fun a j x y => by (repeat rw [fedC_a (by omega) (by omega)]), z5, Or.inl ⟨rfl, rfl⟩⟩
  · refine x_iconst (pc := 16) dX11_feed_16 (by decide) ?_
    refine x_ireturn (pc := 17) dX11_feed_17 rfl (by decide) ?_
    have e9 : spFeed A w1 w2 w3 w4 w5 = (0, -1, A) := by
      unfold spFeed
      (repeat' split) <;> first | rfl | (exfalso; omega)
    rw [e9]
    exact ⟨rfl, rfl, fun _ _ _ _ => rfl, hR, Or.inl ⟨rfl, rfl⟩⟩
