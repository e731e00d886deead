/-! isOf; Tariff -/
theorem dX11_isOf_0 : decode cX11_isOf 0 = .ok (.iload_n 1, 1) := by decide +kernel
theorem dX11_isOf_1 : decode cX11_isOf 1 = .ok (.ifCond .lt 22, 3) := by decide +kernel
theorem dX11_isOf_4 : decode cX11_isOf 4 = .ok (.iload_n 1, 1) := by decide +kernel
theorem dX11_isOf_5 : decode cX11_isOf 5 = .ok (.bipush 7, 2) := by decide +kernel
theorem dX11_isOf_7 : decode cX11_isOf 7 = .ok (.if_icmp .ge 16, 3) := by decide +kernel
theorem dX11_isOf_10 : decode cX11_isOf 10 = .ok (.iload_n 0, 1) := by decide +kernel
theorem dX11_isOf_11 : decode cX11_isOf 11 = .ok (.iload_n 1, 1) := by decide +kernel
theorem dX11_isOf_12 : decode cX11_isOf 12 = .ok (.ishr, 1) := by decide +kernel
theorem dX11_isOf_13 : decode cX11_isOf 13 = .ok (.iconst 1, 1) := by decide +kernel
theorem dX11_isOf_14 : decode cX11_isOf 14 = .ok (.iand, 1) := by decide +kernel
theorem dX11_isOf_15 : decode cX11_isOf 15 = .ok (.iconst 1, 1) := by decide +kernel
theorem dX11_isOf_16 : decode cX11_isOf 16 = .ok (.if_icmp .ne 7, 3) := by decide +kernel
theorem dX11_isOf_19 : decode cX11_isOf 19 = .ok (.iconst 1, 1) := by decide +kernel
theorem dX11_isOf_20 : decode cX11_isOf 20 = .ok (.goto 4, 3) := by decide +kernel
theorem dX11_isOf_23 : decode cX11_isOf 23 = .ok (.iconst 0, 1) := by decide +kernel
theorem dX11_isOf_24 : decode cX11_isOf 24 = .ok (.ireturn, 1) := by decide +kernel
theorem dX8_hasStep_0 : decode cX8_hasStep 0 = .ok (.iconst 0, 1) := by decide +kernel
theorem dX8_hasStep_1 : decode cX8_hasStep 1 = .ok (.istore_n 2, 1) := by decide +kernel
theorem dX8_hasStep_2 : decode cX8_hasStep 2 = .ok (.iload_n 2, 1) := by decide +kernel
theorem dX8_hasStep_3 : decode cX8_hasStep 3 = .ok (.aload_n 0, 1) := by decide +kernel
theorem dX8_hasStep_4 : decode cX8_hasStep 4 = .ok (.getfield 35, 3) := by decide +kernel
theorem dX8_hasStep_7 : decode cX8_hasStep 7 = .ok (.if_icmp .ge 21, 3) := by decide +kernel
theorem dX8_hasStep_10 : decode cX8_hasStep 10 = .ok (.aload_n 0, 1) := by decide +kernel
theorem dX8_hasStep_11 : decode cX8_hasStep 11 = .ok (.getfield 11, 3) := by decide +kernel
theorem dX8_hasStep_14 : decode cX8_hasStep 14 = .ok (.iload_n 2, 1) := by decide +kernel
theorem dX8_hasStep_15 : decode cX8_hasStep 15 = .ok (.iaload, 1) := by decide +kernel
theorem dX8_hasStep_16 : decode cX8_hasStep 16 = .ok (.iload_n 1, 1) := by decide +kernel
theorem dX8_hasStep_17 : decode cX8_hasStep 17 = .ok (.if_icmp .ne 5, 3) := by decide +kernel
theorem dX8_hasStep_20 : decode cX8_hasStep 20 = .ok (.iconst 1, 1) := by decide +kernel
theorem dX8_hasStep_21 : decode cX8_hasStep 21 = .ok (.ireturn, 1) := by decide +kernel
theorem dX8_hasStep_22 : decode cX8_hasStep 22 = .ok (.iinc 2 1, 3) := by decide +kernel
theorem dX8_hasStep_25 : decode cX8_hasStep 25 = .ok (.goto (-23), 3) := by decide +kernel
theorem dX8_hasStep_28 : decode cX8_hasStep 28 = .ok (.iconst 0, 1) := by decide +kernel
theorem dX8_hasStep_29 : decode cX8_hasStep 29 = .ok (.ireturn, 1) := by decide +kernel
/-- the bit of a household in a set -/
def hb (set h : Int) : Int := b_and (b_shr set h) 1
def isOfV (set h : Int) : Int := if 0 ≤ h ∧ h < 7 ∧ hb set h = 1 then 1 else 0
theorem s_isOf {l : Launch} {E : aE} {N : Nat} {S : aS} {M : aM} (hfl : l.stackTraces = false) (set h : Int) : aMt l E pX11_isOf [(0, set), (0, h)] N S M (aR (0, isOfV set h) N S M) := by
  refine a_met hfl rfl (by decide +kernel) (Nat.le_of_ble_eq_true rfl) ?_
  refine x_iload_n (pc := 0) dX11_isOf_0 rfl rfl ?_
  refine x_if_lt (tgt := 23) (pc := 1) dX11_isOf_1 (by decide) (fun c_1 => ?_) (fun c_1 => ?_)
  · refine x_iconst (pc := 23) dX11_isOf_23 (by decide) ?_
    refine x_zreturn (pc := 24) dX11_isOf_24 rfl (by omega) (by decide) ?_
    refine ⟨?_, rfl, rfl, rfl⟩
    unfold isOfV hb
    split <;> first | rfl | (exfalso; omega)
  · refine x_iload_n (pc := 4) dX11_isOf_4 rfl rfl ?_
    refine x_bipush (pc := 5) dX11_isOf_5 (by decide) ?_
    refine x_icmp_ge (tgt := 23) (pc := 7) dX11_isOf_7 (by decide) (fun c_7 => ?_) (fun c_7 => ?_)
    · refine x_iconst (pc := 23) dX11_isOf_23 (by decide) ?_
      refine x_zreturn (pc := 24) dX11_isOf_24 rfl (by omega) (by decide) ?_
      refine ⟨?_, rfl, rfl, rfl⟩
      unfold isOfV hb
      split <;> first | rfl | (exfalso; omega)
    · refine x_iload_n (pc := 10) dX11_isOf_10 rfl rfl ?_
      refine x_iload_n (pc := 11) dX11_isOf_11 rfl rfl ?_
      refine x_ishr (pc := 12) dX11_isOf_12 ?_
      refine x_iconst (pc := 13) dX11_isOf_13 (by decide) ?_
      refine x_iand (pc := 14) dX11_isOf_14 ?_
      refine x_iconst (pc := 15) dX11_isOf_15 (by decide) ?_
      refine x_icmp_ne (tgt := 23) (pc := 16) dX11_isOf_16 (by decide) (fun c_16 => ?_) (fun c_16 => ?_)
      · refine x_iconst (pc := 23) dX11_isOf_23 (by decide) ?_
        refine x_zreturn (pc := 24) dX11_isOf_24 rfl (by omega) (by decide) ?_
        refine ⟨?_, rfl, rfl, rfl⟩
        unfold isOfV hb
        split <;> first | rfl | (exfalso; omega)
      · refine x_iconst (pc := 19) dX11_isOf_19 (by decide) ?_
        refine x_goto (tgt := 24) (pc := 20) dX11_isOf_20 (by decide) ?_
        refine x_zreturn (pc := 24) dX11_isOf_24 rfl (by omega) (by decide) ?_
        refine ⟨?_, rfl, rfl, rfl⟩
        unfold isOfV hb
        split <;> first | rfl | (exfalso; omega)
theorem s_hasStep {l : Launch} {E : aE} {N : Nat} {S : aS} {M : aM} (hfl : l.stackTraces = false) (t x f : Int) {r rf : Int → Int} (ht : S t = (8, 13, r)) (hr : r 2 = f) (hf : S f = (13, 6, rf)) (hn : 0 ≤ M t 1 ∧ M t 1 ≤ 6) :
    aMt l E pX8_hasStep [(2, t), (0, x)] N S M (aG N S (fun v M' => M' = M ∧ v.1 = 0 ∧ ((v.2 = 1 ∧ ∃ i, 0 ≤ i ∧ i < M t 1 ∧ M f i = x) ∨ (v.2 = 0 ∧ ∀ i, 0 ≤ i → i < M t 1 → M f i ≠ x)))) := by
  refine a_met hfl rfl (by decide +kernel) (Nat.le_of_ble_eq_true rfl) ?_
  have loop : ∀ (n : Nat) (i : Int), 0 ≤ i → i ≤ M t 1 → (M t 1 - i).toNat = n → (∀ j, 0 ≤ j → j < i → M f j ≠ x) → aX l E pX8_hasStep (aG N S (fun v M' => M' = M ∧ v.1 = 0 ∧ ((v.2 = 1 ∧ ∃ i, 0 ≤ i ∧ i < M t 1 ∧ M f i = x) ∨ (v.2 = 0 ∧ ∀ i, 0 ≤ i → i < M t 1 → M f i ≠ x)))) 0 0 N S M 2 [(0, (2, t)), (1, (0, x)), (2, (0, i))] [] := by
    intro n
    induction n with
    | zero =>
      intro i h0 h1 h2 hI
      refine x_iload_n (pc := 2) dX8_hasStep_2 rfl rfl ?_
      refine x_aload_n (pc := 3) dX8_hasStep_3 rfl rfl ?_
      refine x_getI (jj := 1) (pc := 4) dX8_hasStep_4 fX8_35 (by assumption) rfl (by decide) rfl ?_
      refine x_icmp_ge (tgt := 28) (pc := 7) dX8_hasStep_7 (by decide) (fun c_7 => ?_) (fun c_7 => ?_)
      · refine x_iconst (pc := 28) dX8_hasStep_28 (by decide) ?_
        refine x_zreturn (pc := 29) dX8_hasStep_29 rfl (by omega) (by decide) ?_
        first | (exfalso; omega) | exact ⟨_, rfl, rfl, rfl, rfl, rfl, Or.inl ⟨rfl, i, h0, by omega, by assumption⟩⟩ | exact ⟨_, rfl, rfl, rfl, rfl, rfl, Or.inr ⟨rfl, fun j j0 j1 => hI j j0 (by omega)⟩⟩
      · refine x_aload_n (pc := 10) dX8_hasStep_10 rfl rfl ?_
        refine x_getR (jj := 2) (pc := 11) dX8_hasStep_11 fX8_11 (by assumption) rfl (by decide) rfl (by first | assumption | rfl) ?_
        refine x_iload_n (pc := 14) dX8_hasStep_14 rfl rfl ?_
        refine x_iaload (pc := 15) dX8_hasStep_15 (by assumption) (by omega) (fun g_15 => ?_)
        refine x_iload_n (pc := 16) dX8_hasStep_16 rfl rfl ?_
        refine x_icmp_ne (tgt := 22) (pc := 17) dX8_hasStep_17 (by decide) (fun c_17 => ?_) (fun c_17 => ?_)
        · refine x_iinc (pc := 22) dX8_hasStep_22 rfl (by omega) (by decide) rfl ?_
          refine x_goto (tgt := 2) (pc := 25) dX8_hasStep_25 (by decide) ?_
          exfalso; omega
        · refine x_iconst (pc := 20) dX8_hasStep_20 (by decide) ?_
          refine x_zreturn (pc := 21) dX8_hasStep_21 rfl (by omega) (by decide) ?_
          first | (exfalso; omega) | exact ⟨_, rfl, rfl, rfl, rfl, rfl, Or.inl ⟨rfl, i, h0, by omega, by assumption⟩⟩ | exact ⟨_, rfl, rfl, rfl, rfl, rfl, Or.inr ⟨rfl, fun j j0 j1 => hI j j0 (by omega)⟩⟩
    | succ n ih =>
      intro i h0 h1 h2 hI
      refine x_iload_n (pc := 2) dX8_hasStep_2 rfl rfl ?_
      refine x_aload_n (pc := 3) dX8_hasStep_3 rfl rfl ?_
      refine x_getI (jj := 1) (pc := 4) dX8_hasStep_4 fX8_35 (by assumption) rfl (by decide) rfl ?_
      refine x_icmp_ge (tgt := 28) (pc := 7) dX8_hasStep_7 (by decide) (fun c_7 => ?_) (fun c_7 => ?_)
      · refine x_iconst (pc := 28) dX8_hasStep_28 (by decide) ?_
        refine x_zreturn (pc := 29) dX8_hasStep_29 rfl (by omega) (by decide) ?_
        first | (exfalso; omega) | exact ⟨_, rfl, rfl, rfl, rfl, rfl, Or.inl ⟨rfl, i, h0, by omega, by assumption⟩⟩ | exact ⟨_, rfl, rfl, rfl, rfl, rfl, Or.inr ⟨rfl, fun j j0 j1 => hI j j0 (by omega)⟩⟩
      · refine x_aload_n (pc := 10) dX8_hasStep_10 rfl rfl ?_
        refine x_getR (jj := 2) (pc := 11) dX8_hasStep_11 fX8_11 (by assumption) rfl (by decide) rfl (by first | assumption | rfl) ?_
        refine x_iload_n (pc := 14) dX8_hasStep_14 rfl rfl ?_
        refine x_iaload (pc := 15) dX8_hasStep_15 (by assumption) (by omega) (fun g_15 => ?_)
        refine x_iload_n (pc := 16) dX8_hasStep_16 rfl rfl ?_
        refine x_icmp_ne (tgt := 22) (pc := 17) dX8_hasStep_17 (by decide) (fun c_17 => ?_) (fun c_17 => ?_)
        · refine x_iinc (pc := 22) dX8_hasStep_22 rfl (by omega) (by decide) rfl ?_
          refine x_goto (tgt := 2) (pc := 25) dX8_hasStep_25 (by decide) ?_
          refine x_lo (lo' := [(0, (2, t)), (1, (0, x)), (2, (0, i + 1))]) ⟨rfl, rfl, rfl, trivial⟩ (ih (i + 1) (by omega) (by omega) (by omega) (fun j j0 j1 => ?_))
          by_cases e : j = i
          · subst e; assumption
          · exact hI j j0 (by omega)
        · refine x_iconst (pc := 20) dX8_hasStep_20 (by decide) ?_
          refine x_zreturn (pc := 21) dX8_hasStep_21 rfl (by omega) (by decide) ?_
          first | (exfalso; omega) | exact ⟨_, rfl, rfl, rfl, rfl, rfl, Or.inl ⟨rfl, i, h0, by omega, by assumption⟩⟩ | exact ⟨_, rfl, rfl, rfl, rfl, rfl, Or.inr ⟨rfl, fun j j0 j1 => hI j j0 (by omega)⟩⟩
  refine x_iconst (pc := 0) dX8_hasStep_0 (by decide) ?_
  refine x_istore_n (pc := 1) dX8_hasStep_1 rfl (by decide) rfl ?_
  exact x_lo (lo' := [(0, (2, t)), (1, (0, x)), (2, (0, 0))]) ⟨rfl, rfl, rfl, trivial⟩ (loop _ 0 (by omega) hn.1 rfl (fun j j0 j1 => by omega))
