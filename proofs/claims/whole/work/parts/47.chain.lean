/-! chain -/
theorem dX12_chain_0 : decode cX12_chain 0 = .ok (.aload_n 0, 1) := by decide +kernel
theorem dX12_chain_1 : decode cX12_chain 1 = .ok (.iconst 0, 1) := by decide +kernel
theorem dX12_chain_2 : decode cX12_chain 2 = .ok (.putfield 103, 3) := by decide +kernel
theorem dX12_chain_5 : decode cX12_chain 5 = .ok (.aload_n 0, 1) := by decide +kernel
theorem dX12_chain_6 : decode cX12_chain 6 = .ok (.iload_n 1, 1) := by decide +kernel
theorem dX12_chain_7 : decode cX12_chain 7 = .ok (.invokevirtual 123, 3) := by decide +kernel
theorem dX12_chain_10 : decode cX12_chain 10 = .ok (.ifCond .eq 11, 3) := by decide +kernel
theorem dX12_chain_13 : decode cX12_chain 13 = .ok (.aload_n 0, 1) := by decide +kernel
theorem dX12_chain_14 : decode cX12_chain 14 = .ok (.iload_n 2, 1) := by decide +kernel
theorem dX12_chain_15 : decode cX12_chain 15 = .ok (.invokevirtual 123, 3) := by decide +kernel
theorem dX12_chain_18 : decode cX12_chain 18 = .ok (.ifCond .ne 9, 3) := by decide +kernel
theorem dX12_chain_21 : decode cX12_chain 21 = .ok (.aload_n 0, 1) := by decide +kernel
theorem dX12_chain_22 : decode cX12_chain 22 = .ok (.iconst 1, 1) := by decide +kernel
theorem dX12_chain_23 : decode cX12_chain 23 = .ok (.invokevirtual 116, 3) := by decide +kernel
theorem dX12_chain_26 : decode cX12_chain 26 = .ok (.ireturn, 1) := by decide +kernel
theorem dX12_chain_27 : decode cX12_chain 27 = .ok (.iconst 1, 1) := by decide +kernel
theorem dX12_chain_28 : decode cX12_chain 28 = .ok (.iload_n 1, 1) := by decide +kernel
theorem dX12_chain_29 : decode cX12_chain 29 = .ok (.ishl, 1) := by decide +kernel
theorem dX12_chain_30 : decode cX12_chain 30 = .ok (.istore_n 3, 1) := by decide +kernel
theorem dX12_chain_31 : decode cX12_chain 31 = .ok (.iconst 0, 1) := by decide +kernel
theorem dX12_chain_32 : decode cX12_chain 32 = .ok (.istore 4, 2) := by decide +kernel
theorem dX12_chain_34 : decode cX12_chain 34 = .ok (.iload 4, 2) := by decide +kernel
theorem dX12_chain_36 : decode cX12_chain 36 = .ok (.bipush 7, 2) := by decide +kernel
theorem dX12_chain_38 : decode cX12_chain 38 = .ok (.if_icmp .ge 99, 3) := by decide +kernel
theorem dX12_chain_41 : decode cX12_chain 41 = .ok (.iload_n 3, 1) := by decide +kernel
theorem dX12_chain_42 : decode cX12_chain 42 = .ok (.iload_n 2, 1) := by decide +kernel
theorem dX12_chain_43 : decode cX12_chain 43 = .ok (.invokestatic 136, 3) := by decide +kernel
theorem dX12_chain_46 : decode cX12_chain 46 = .ok (.ifCond .eq 6, 3) := by decide +kernel
theorem dX12_chain_49 : decode cX12_chain 49 = .ok (.iload 4, 2) := by decide +kernel
theorem dX12_chain_51 : decode cX12_chain 51 = .ok (.ireturn, 1) := by decide +kernel
theorem dX12_chain_52 : decode cX12_chain 52 = .ok (.iload_n 3, 1) := by decide +kernel
theorem dX12_chain_53 : decode cX12_chain 53 = .ok (.istore 5, 2) := by decide +kernel
theorem dX12_chain_55 : decode cX12_chain 55 = .ok (.iconst 0, 1) := by decide +kernel
theorem dX12_chain_56 : decode cX12_chain 56 = .ok (.istore 6, 2) := by decide +kernel
theorem dX12_chain_58 : decode cX12_chain 58 = .ok (.iload 6, 2) := by decide +kernel
theorem dX12_chain_60 : decode cX12_chain 60 = .ok (.aload_n 0, 1) := by decide +kernel
theorem dX12_chain_61 : decode cX12_chain 61 = .ok (.getfield 9, 3) := by decide +kernel
theorem dX12_chain_64 : decode cX12_chain 64 = .ok (.iconst 0, 1) := by decide +kernel
theorem dX12_chain_65 : decode cX12_chain 65 = .ok (.iaload, 1) := by decide +kernel
theorem dX12_chain_66 : decode cX12_chain 66 = .ok (.if_icmp .ge 62, 3) := by decide +kernel
theorem dX12_chain_69 : decode cX12_chain 69 = .ok (.iconst 0, 1) := by decide +kernel
theorem dX12_chain_70 : decode cX12_chain 70 = .ok (.istore 7, 2) := by decide +kernel
theorem dX12_chain_72 : decode cX12_chain 72 = .ok (.iload 7, 2) := by decide +kernel
theorem dX12_chain_74 : decode cX12_chain 74 = .ok (.aload_n 0, 1) := by decide +kernel
theorem dX12_chain_75 : decode cX12_chain 75 = .ok (.getfield 9, 3) := by decide +kernel
theorem dX12_chain_78 : decode cX12_chain 78 = .ok (.iconst 0, 1) := by decide +kernel
theorem dX12_chain_79 : decode cX12_chain 79 = .ok (.iaload, 1) := by decide +kernel
theorem dX12_chain_80 : decode cX12_chain 80 = .ok (.if_icmp .ge 42, 3) := by decide +kernel
theorem dX12_chain_83 : decode cX12_chain 83 = .ok (.iload_n 3, 1) := by decide +kernel
theorem dX12_chain_84 : decode cX12_chain 84 = .ok (.iload 6, 2) := by decide +kernel
theorem dX12_chain_86 : decode cX12_chain 86 = .ok (.invokestatic 136, 3) := by decide +kernel
theorem dX12_chain_89 : decode cX12_chain 89 = .ok (.ifCond .eq 33, 3) := by decide +kernel
theorem dX12_chain_92 : decode cX12_chain 92 = .ok (.iload 5, 2) := by decide +kernel
theorem dX12_chain_94 : decode cX12_chain 94 = .ok (.aload_n 0, 1) := by decide +kernel
theorem dX12_chain_95 : decode cX12_chain 95 = .ok (.iload 6, 2) := by decide +kernel
theorem dX12_chain_97 : decode cX12_chain 97 = .ok (.iload 7, 2) := by decide +kernel
theorem dX12_chain_99 : decode cX12_chain 99 = .ok (.invokevirtual 140, 3) := by decide +kernel
theorem dX12_chain_102 : decode cX12_chain 102 = .ok (.ifCond .eq 10, 3) := by decide +kernel
theorem dX12_chain_105 : decode cX12_chain 105 = .ok (.iconst 1, 1) := by decide +kernel
theorem dX12_chain_106 : decode cX12_chain 106 = .ok (.iload 7, 2) := by decide +kernel
theorem dX12_chain_108 : decode cX12_chain 108 = .ok (.ishl, 1) := by decide +kernel
theorem dX12_chain_109 : decode cX12_chain 109 = .ok (.goto 4, 3) := by decide +kernel
theorem dX12_chain_112 : decode cX12_chain 112 = .ok (.iconst 0, 1) := by decide +kernel
theorem dX12_chain_113 : decode cX12_chain 113 = .ok (.ior, 1) := by decide +kernel
theorem dX12_chain_114 : decode cX12_chain 114 = .ok (.istore 5, 2) := by decide +kernel
theorem dX12_chain_116 : decode cX12_chain 116 = .ok (.iinc 7 1, 3) := by decide +kernel
theorem dX12_chain_119 : decode cX12_chain 119 = .ok (.goto (-47), 3) := by decide +kernel
theorem dX12_chain_122 : decode cX12_chain 122 = .ok (.iinc 6 1, 3) := by decide +kernel
theorem dX12_chain_125 : decode cX12_chain 125 = .ok (.goto (-67), 3) := by decide +kernel
theorem dX12_chain_128 : decode cX12_chain 128 = .ok (.iload 5, 2) := by decide +kernel
theorem dX12_chain_130 : decode cX12_chain 130 = .ok (.istore_n 3, 1) := by decide +kernel
theorem dX12_chain_131 : decode cX12_chain 131 = .ok (.iinc 4 1, 3) := by decide +kernel
theorem dX12_chain_134 : decode cX12_chain 134 = .ok (.goto (-100), 3) := by decide +kernel
theorem dX12_chain_137 : decode cX12_chain 137 = .ok (.iconst (-1), 1) := by decide +kernel
theorem dX12_chain_138 : decode cX12_chain 138 = .ok (.ireturn, 1) := by decide +kernel
theorem dX11_chain_0 : decode cX11_chain 0 = .ok (.aload_n 0, 1) := by decide +kernel
theorem dX11_chain_1 : decode cX11_chain 1 = .ok (.iload_n 1, 1) := by decide +kernel
theorem dX11_chain_2 : decode cX11_chain 2 = .ok (.invokevirtual 101, 3) := by decide +kernel
theorem dX11_chain_5 : decode cX11_chain 5 = .ok (.aload_n 0, 1) := by decide +kernel
theorem dX11_chain_6 : decode cX11_chain 6 = .ok (.iload_n 2, 1) := by decide +kernel
theorem dX11_chain_7 : decode cX11_chain 7 = .ok (.invokevirtual 101, 3) := by decide +kernel
theorem dX11_chain_10 : decode cX11_chain 10 = .ok (.aload_n 0, 1) := by decide +kernel
theorem dX11_chain_11 : decode cX11_chain 11 = .ok (.getfield 10, 3) := by decide +kernel
theorem dX11_chain_14 : decode cX11_chain 14 = .ok (.iload_n 1, 1) := by decide +kernel
theorem dX11_chain_15 : decode cX11_chain 15 = .ok (.iload_n 2, 1) := by decide +kernel
theorem dX11_chain_16 : decode cX11_chain 16 = .ok (.invokevirtual 137, 3) := by decide +kernel
theorem dX11_chain_19 : decode cX11_chain 19 = .ok (.ireturn, 1) := by decide +kernel
def reB (t : Int → Int) (one : Int) : Nat → Int → Bool
  | 0, j => decide (j = one)
  | n + 1, j => reB t one n j || !(allB (fun a => !(reB t one n a && decide (t (99 + 7 * a + j) = 1))) 7)
theorem reB_1 {t : Int → Int} {one j : Int} {n : Nat} : reB t one (n + 1) j = true ↔ reB t one n j = true ∨ ∃ a : Int, 0 ≤ a ∧ a < 7 ∧ reB t one n a = true ∧ t (99 + 7 * a + j) = 1 := by
  show (reB t one n j || !(allB (fun a => !(reB t one n a && decide (t (99 + 7 * a + j) = 1))) 7)) = true ↔ _
  rw [Bool.or_eq_true, Bool.not_eq_true', ← Bool.not_eq_true, allB_iff]
  constructor
  · rintro (h | h)
    · exact Or.inl h
    · refine Or.inr (Classical.byContradiction fun q => h fun a x y => ?_)
      rw [Bool.not_eq_true', ← Bool.not_eq_true, Bool.and_eq_true, decide_eq_true_eq]
      exact fun z => q ⟨a, x, by omega, z.1, z.2⟩
  · rintro (h | ⟨a, x, y, z1, z2⟩)
    · exact Or.inl h
    · refine Or.inr fun h => ?_
      have := h a x (by omega)
      rw [Bool.not_eq_true', ← Bool.not_eq_true, Bool.and_eq_true, decide_eq_true_eq] at this
      exact this ⟨z1, z2⟩
def chainV (t : Int → Int) (one other : Int) : Int := firstB (fun n => reB t one n.toNat other) 7
def spChain (A : aM) (x y : Int) : Int × Int × aM := if ¬ (0 ≤ x ∧ x < A 0 0) ∨ ¬ (0 ≤ y ∧ y < A 0 0) then (1, 0, A) else (0, chainV (A 0) x y, A)
theorem hb_0 {h : Int} (hh : 0 ≤ h ∧ h < 7) : ¬ hb 0 h = 1 := (b_zero_iff (x := 0) (by omega)).mp rfl h hh.1 hh.2
theorem b_or_0 {x : Int} (hx : 0 ≤ x ∧ x < 128) : b_or x 0 = x := hb_ext (b_or_lt hx (by omega)) hx fun j a b => by
  rw [hb_or hx (by omega) ⟨a, b⟩]
  exact ⟨fun q => q.elim id fun z => absurd z (hb_0 ⟨a, b⟩), Or.inl⟩
theorem orN_hb {p : Int → Bool} : ∀ {n : Nat}, n ≤ 7 → (0 ≤ orN p n ∧ orN p n < 128) ∧ ∀ j : Int, 0 ≤ j → j < 7 → (hb (orN p n) j = 1 ↔ j < n ∧ p j = true)
  | 0, _ => ⟨by show (0 : Int) ≤ 0 ∧ (0 : Int) < 128; omega, fun j a b => ⟨fun q => absurd q (hb_0 ⟨a, b⟩), fun q => by have := q.1; omega⟩⟩
  | n + 1, h => by
    obtain ⟨h1, h2⟩ := orN_hb (p := p) (n := n) (by omega)
    have hs := b_shl1_lt (i := (n : Int)) ⟨by omega, by omega⟩
    unfold orN
    by_cases e : p n = true
    · rw [if_pos e]
      refine ⟨b_or_lt h1 hs, fun j a b => ?_⟩
      rw [hb_or h1 hs ⟨a, b⟩, h2 j a b, hb_shl1 ⟨by omega, by omega⟩ ⟨a, b⟩]
      constructor
      · rintro (q | q)
        · exact ⟨by omega, q.2⟩
        · exact ⟨by omega, q ▸ e⟩
      · intro q
        by_cases w : j = n
        · exact Or.inr w
        · exact Or.inl ⟨by omega, q.2⟩
    · rw [if_neg e]
      refine ⟨h1, fun j a b => ?_⟩
      rw [h2 j a b]
      constructor
      · exact fun q => ⟨by omega, q.2⟩
      · intro q
        by_cases w : j = n
        · exact absurd (w ▸ q.2) e
        · exact ⟨by omega, q.2⟩
theorem toC_iff {tr : Int → Int} {set i : Int} (h1 : 0 ≤ tr i ∧ tr i < 128) (h2 : 0 ≤ set ∧ set < 128) : toC tr set i = true ↔ ∃ a : Int, 0 ≤ a ∧ a < 7 ∧ hb set a = 1 ∧ hb (tr i) a = 1 := by
  unfold toC
  rw [decide_eq_true_eq]
  constructor
  · intro h
    refine Classical.byContradiction fun q => h ((b_zero_iff (b_and_lt h1)).mpr fun a x y z => q ⟨a, x, y, ?_⟩)
    rw [hb_and h1 h2 ⟨x, y⟩] at z
    exact ⟨z.2, z.1⟩
  · rintro ⟨a, x, y, z1, z2⟩ h
    exact (b_zero_iff (b_and_lt h1)).mp h a x y ((hb_and h1 h2 ⟨x, y⟩).mpr ⟨z2, z1⟩)
theorem RHs.reach {M : aM} {s one : Int} {t : Int → Int} (h : RHs M s t) (h1 : 0 ≤ one ∧ one < 7) : ∀ n : Nat, (0 ≤ reachC (M (s + 10)) one n ∧ reachC (M (s + 10)) one n < 128) ∧ ∀ j : Int, 0 ≤ j → j < 7 → (hb (reachC (M (s + 10)) one n) j = 1 ↔ reB t one n j = true)
  | 0 => ⟨b_shl1_lt h1, fun j a b => by
      show hb (b_shl 1 one) j = 1 ↔ decide (j = one) = true
      rw [hb_shl1 h1 ⟨a, b⟩, decide_eq_true_eq]⟩
  | n + 1 => by
    obtain ⟨r1, r2⟩ := RHs.reach h h1 n
    obtain ⟨o1, o2⟩ := orN_hb (p := toC (M (s + 10)) (reachC (M (s + 10)) one n)) (n := 7) (by omega)
    unfold reachC
    refine ⟨b_or_lt r1 o1, fun j a b => ?_⟩
    have hj := h.2.2.2.2.1 j a b
    rw [hb_or r1 o1 ⟨a, b⟩, o2 j a b, r2 j a b, reB_1, toC_iff hj.1 r1]
    constructor
    · rintro (q | ⟨-, c, x, y, z1, z2⟩)
      · exact Or.inl q
      · exact Or.inr ⟨c, x, y, (r2 c x y).mp z1, (hj.2 c x y).mp z2⟩
    · rintro (q | ⟨c, x, y, z1, z2⟩)
      · exact Or.inl q
      · exact Or.inr ⟨by omega, c, x, y, (r2 c x y).mpr z1, (hj.2 c x y).mpr z2⟩
theorem RHs.chain {M : aM} {s one other : Int} {t : Int → Int} (h : RHs M s t) (h1 : 0 ≤ one ∧ one < 7) (h2 : 0 ≤ other ∧ other < 7) : firstB (fun n => decide (isOfV (reachC (M (s + 10)) one n.toNat) other = 1)) 7 = chainV t one other := by
  refine firstB_congr fun n a b => ?_
  refine Bool.eq_iff_iff.mpr ?_
  rw [decide_eq_true_eq, isOf_iff h2, (h.reach h1 n.toNat).2 other h2.1 h2.2]
theorem s_Mchain {l : Launch} {E : aE} {N : Nat} {S : aS} {M : aM} (hfl : l.stackTraces = false) (p q : Int) (m : Int) (A : aM) (hS : lyM S m) (hR : RM M m A) (hA : TOK (A 0)) : aMt l E pX12_chain [(2, m), (0, p), (0, q)] N S M (aG N S (opM M m 0 (spChain A p q))) := by
  refine a_met hfl rfl (by decide +kernel) (Nat.le_of_ble_eq_true rfl) ?_
  refine x_aload_n (pc := 0) dX12_chain_0 rfl rfl ?_
  refine x_iconst (pc := 1) dX12_chain_1 (by decide) ?_
  refine x_putI (jj := 3) (pc := 2) dX12_chain_2 fX12_103 hS.1 rfl (by decide) rfl ?_
  refine x_memI (fun M1 hM1 => ?_)
  have R1 : RM M1 m A := by rw [hM1]; exact hR.up3
  have F1 : frM M M1 m := by rw [hM1]; exact frM.rf.up (by omega)
  have T1 : M1 m 3 = 0 := by rw [hM1]; exact up_s
  clear hM1
  have e0 : M1 (m + 1) 0 = A 0 0 := R1.1.1 0 (by omega) (by omega)
  have t0 := hA.1
  refine x_aload_n (pc := 5) dX12_chain_5 rfl rfl ?_
  refine x_iload_n (pc := 6) dX12_chain_6 rfl rfl ?_
  refine x_callV1 (pc := 7) dX12_chain_7 rfl kX12_123 (s_isHouse hfl m _ hS (by omega)) hS.1 rfl rfl (Nat.le_of_ble_eq_true rfl) (k_B (fun q_7 => ?_) (fun q_7 => ?_)) n_B
  · refine x_if_eq (tgt := 21) (pc := 10) dX12_chain_10 (by decide) (fun c => absurd c (by decide)) (fun _ => ?_)
    refine x_aload_n (pc := 13) dX12_chain_13 rfl rfl ?_
    refine x_iload_n (pc := 14) dX12_chain_14 rfl rfl ?_
    refine x_callV1 (pc := 15) dX12_chain_15 rfl kX12_123 (s_isHouse hfl m _ hS (by omega)) hS.1 rfl rfl (Nat.le_of_ble_eq_true rfl) (k_B (fun q_15 => ?_) (fun q_15 => ?_)) n_B
    · refine x_if_ne (tgt := 27) (pc := 18) dX12_chain_18 (by decide) (fun _ => ?_) (fun c => absurd c (by decide))
      refine x_iconst (pc := 27) dX12_chain_27 (by decide) ?_
      refine x_iload_n (pc := 28) dX12_chain_28 rfl rfl ?_
      refine x_ishl (pc := 29) dX12_chain_29 ?_
      refine x_istore_n (pc := 30) dX12_chain_30 rfl (by decide) rfl ?_
      refine x_iconst (pc := 31) dX12_chain_31 (by decide) ?_
      refine x_istore (pc := 32) dX12_chain_32 (by decide) rfl ?_
      have tT : ∀ a j : Int, 0 ≤ a → a < 7 → 0 ≤ j → j < 7 → A 0 (99 + 7 * a + j) = 1 → a < A 0 0 ∧ j < A 0 0 := fun a j x1 x2 x3 x4 e => by
        rcases hA.2.2.2.2.1 a j x1 x2 x3 x4 with w | w
        · omega
        · exact w.2
      have outer := a_loop2 (fun n r => 0 ≤ n ∧ n ≤ 7 ∧ (0 ≤ r ∧ r < 128) ∧ (∀ j : Int, 0 ≤ j → j < 7 → (hb r j = 1 ↔ reB (A 0) p n.toNat j = true)) ∧ ∀ k : Int, 0 ≤ k → k < n → reB (A 0) p k.toNat q = false) (fun n _ => (7 - n).toNat) (fun n r => aX l E pX12_chain (aG N S (opM M m 0 (spChain A p q))) 0 0 N S M1 34 [(0, (2, m)), (1, (0, p)), (2, (0, q)), (3, (0, r)), (4, (0, n))] []) (by
        intro n r hI ih
        have n0 := hI.1
        have n1 := hI.2.1
        refine x_iload (pc := 34) dX12_chain_34 rfl ?_
        refine x_bipush (pc := 36) dX12_chain_36 (by decide) ?_
        refine x_icmp_ge (tgt := 137) (pc := 38) dX12_chain_38 (by decide) (fun c_38 => ?_) (fun c_38 => ?_)
        · refine x_iconst (pc := 137) dX12_chain_137 (by decide) ?_
          refine x_ireturn (pc := 138) dX12_chain_138 rfl (by decide) ?_
          have e9 : spChain A p q = (0, -1, A) := by
            unfold spChain chainV
            rw [if_neg (by omega), firstB_none.mpr fun k k0 k1 => hI.2.2.2.2 k k0 (by omega)]
          rw [e9]
          exact ⟨_, rfl, rfl, rfl, rfl, T1, fun _ => rfl, R1, F1⟩
        · refine x_iload_n (pc := 41) dX12_chain_41 rfl rfl ?_
          refine x_iload_n (pc := 42) dX12_chain_42 rfl rfl ?_
          refine x_callS2 (pc := 43) dX12_chain_43 rfl kX12_136 (s_hasM hfl _ _) rfl (Nat.le_of_ble_eq_true rfl) (k_B (fun q_43 => ?_) (fun q_43 => ?_)) n_B
          · refine x_if_eq (tgt := 52) (pc := 46) dX12_chain_46 (by decide) (fun c => absurd c (by decide)) (fun _ => ?_)
            refine x_iload (pc := 49) dX12_chain_49 rfl ?_
            refine x_ireturn (pc := 51) dX12_chain_51 rfl (by decide) ?_
            have e9 : spChain A p q = (0, n, A) := by
              unfold spChain chainV
              rw [if_neg (by omega), firstB_some hI.1 (show n < (7 : Nat) by omega) ((hI.2.2.2.1 q (by omega) (by omega)).mp q_43) hI.2.2.2.2]
            rw [e9]
            exact ⟨_, rfl, rfl, rfl, rfl, T1, fun _ => rfl, R1, F1⟩
          · refine x_if_eq (tgt := 52) (pc := 46) dX12_chain_46 (by decide) (fun _ => ?_) (fun c => absurd c (by decide))
            refine x_iload_n (pc := 52) dX12_chain_52 rfl rfl ?_
            refine x_istore (pc := 53) dX12_chain_53 (by decide) rfl ?_
            refine x_iconst (pc := 55) dX12_chain_55 (by decide) ?_
            refine x_istore (pc := 56) dX12_chain_56 (by decide) rfl ?_
            have mid := a_loop2 (fun a x => 0 ≤ a ∧ a ≤ 7 ∧ (0 ≤ x ∧ x < 128) ∧ ∀ j : Int, 0 ≤ j → j < 7 → (hb x j = 1 ↔ hb r j = 1 ∨ (∃ c : Int, 0 ≤ c ∧ c < a ∧ hb r c = 1 ∧ A 0 (99 + 7 * c + j) = 1))) (fun a _ => (7 - a).toNat) (fun a x => aX l E pX12_chain (aG N S (opM M m 0 (spChain A p q))) 0 0 N S M1 58 [(0, (2, m)), (1, (0, p)), (2, (0, q)), (3, (0, r)), (4, (0, n)), (5, (0, x)), (6, (0, a))] []) (by
              intro a x kI ih2
              have k0 := kI.1
              have k1 := kI.2.1
              refine x_iload (pc := 58) dX12_chain_58 rfl ?_
              refine x_aload_n (pc := 60) dX12_chain_60 rfl rfl ?_
              refine x_getR (jj := 0) (pc := 61) dX12_chain_61 fX12_9 hS.1 rfl (by decide) rfl rM_0 ?_
              refine x_iconst (pc := 64) dX12_chain_64 (by decide) ?_
              refine x_ialoadV (pc := 65) dX12_chain_65 (sM_0 hS) (by omega) (by (repeat (first | rewrite [up_s] | rewrite [up_i (by omega)] | rewrite [up_a (by omega)] | rewrite [stM_a (by omega) (by omega)])); first | exact R1.1.1 _ (by omega) (by omega) | rfl) (fun g_65 => ?_)
              refine x_icmp_ge (tgt := 128) (pc := 66) dX12_chain_66 (by decide) (fun c_66 => ?_) (fun c_66 => ?_)
              · refine x_iload (pc := 128) dX12_chain_128 rfl ?_
                refine x_istore_n (pc := 130) dX12_chain_130 rfl (by decide) rfl ?_
                refine x_iinc (pc := 131) dX12_chain_131 rfl (by omega) (by decide) rfl ?_
                refine x_goto (tgt := 34) (pc := 134) dX12_chain_134 (by decide) ?_
                refine x_lo (lo' := [(0, (2, m)), (1, (0, p)), (2, (0, q)), (3, (0, x)), (4, (0, n + 1))]) ⟨rfl, rfl, rfl, rfl, rfl, trivial⟩ (ih (n + 1) x ⟨by omega, by omega, kI.2.2.1, fun j j0 j1 => ?_, fun k k0 k1 => ?_⟩ (by omega))
                · rw [show (n + 1).toNat = n.toNat + 1 by omega, reB_1, kI.2.2.2 j j0 j1, hI.2.2.2.1 j j0 j1]
                  constructor
                  · rintro (w | ⟨c, w1, w2, w3, w4⟩)
                    · exact Or.inl w
                    · exact Or.inr ⟨c, w1, by omega, (hI.2.2.2.1 c w1 (by omega)).mp w3, w4⟩
                  · rintro (w | ⟨c, w1, w2, w3, w4⟩)
                    · exact Or.inl w
                    · exact Or.inr ⟨c, w1, by have := tT c j w1 w2 j0 j1 w4; omega, (hI.2.2.2.1 c w1 w2).mpr w3, w4⟩
                · by_cases e : k = n
                  · subst e
                    rw [← Bool.not_eq_true, ← hI.2.2.2.1 q (by omega) (by omega)]; exact q_43
                  · exact hI.2.2.2.2 k k0 (by omega)
              · refine x_iconst (pc := 69) dX12_chain_69 (by decide) ?_
                refine x_istore (pc := 70) dX12_chain_70 (by decide) rfl ?_
                have inner := a_loop2 (fun b y => 0 ≤ b ∧ b ≤ 7 ∧ (0 ≤ y ∧ y < 128) ∧ ∀ j : Int, 0 ≤ j → j < 7 → (hb y j = 1 ↔ hb r j = 1 ∨ (∃ c : Int, 0 ≤ c ∧ c < a ∧ hb r c = 1 ∧ A 0 (99 + 7 * c + j) = 1) ∨ (j < b ∧ hb r a = 1 ∧ A 0 (99 + 7 * a + j) = 1))) (fun b _ => (7 - b).toNat) (fun b y => aX l E pX12_chain (aG N S (opM M m 0 (spChain A p q))) 0 0 N S M1 72 [(0, (2, m)), (1, (0, p)), (2, (0, q)), (3, (0, r)), (4, (0, n)), (5, (0, y)), (6, (0, a)), (7, (0, b))] []) (by
                  intro b y jI ih3
                  have j0 := jI.1
                  have j1 := jI.2.1
                  refine x_iload (pc := 72) dX12_chain_72 rfl ?_
                  refine x_aload_n (pc := 74) dX12_chain_74 rfl rfl ?_
                  refine x_getR (jj := 0) (pc := 75) dX12_chain_75 fX12_9 hS.1 rfl (by decide) rfl rM_0 ?_
                  refine x_iconst (pc := 78) dX12_chain_78 (by decide) ?_
                  refine x_ialoadV (pc := 79) dX12_chain_79 (sM_0 hS) (by omega) (by (repeat (first | rewrite [up_s] | rewrite [up_i (by omega)] | rewrite [up_a (by omega)] | rewrite [stM_a (by omega) (by omega)])); first | exact R1.1.1 _ (by omega) (by omega) | rfl) (fun g_79 => ?_)
                  refine x_icmp_ge (tgt := 122) (pc := 80) dX12_chain_80 (by decide) (fun c_80 => ?_) (fun c_80 => ?_)
                  · refine x_iinc (pc := 122) dX12_chain_122 rfl (by omega) (by decide) rfl ?_
                    refine x_goto (tgt := 58) (pc := 125) dX12_chain_125 (by decide) ?_
                    refine x_lo (lo' := [(0, (2, m)), (1, (0, p)), (2, (0, q)), (3, (0, r)), (4, (0, n)), (5, (0, y)), (6, (0, a + 1))]) ⟨rfl, rfl, rfl, rfl, rfl, rfl, rfl, trivial⟩ (ih2 (a + 1) y ⟨by omega, by omega, jI.2.2.1, fun j j0 j1 => ?_⟩ (by omega))
                    rw [jI.2.2.2 j j0 j1]
                    have tt := tT a j (by omega) (by omega) j0 j1
                    constructor
                    · rintro (w | ⟨c, w1, w2, w3⟩ | w)
                      · exact Or.inl w
                      · exact Or.inr ⟨c, w1, by omega, w3⟩
                      · exact Or.inr ⟨a, by omega, by omega, w.2⟩
                    · rintro (w | ⟨c, w1, w2, w3⟩)
                      · exact Or.inl w
                      · by_cases e : c = a
                        · subst e; exact Or.inr (Or.inr ⟨by have := tt w3.2; omega, w3⟩)
                        · exact Or.inr (Or.inl ⟨c, w1, by omega, w3⟩)
                  · refine x_iload_n (pc := 83) dX12_chain_83 rfl rfl ?_
                    refine x_iload (pc := 84) dX12_chain_84 rfl ?_
                    refine x_callS2 (pc := 86) dX12_chain_86 rfl kX12_136 (s_hasM hfl _ _) rfl (Nat.le_of_ble_eq_true rfl) (k_B (fun q_86 => ?_) (fun q_86 => ?_)) n_B
                    · refine x_if_eq (tgt := 122) (pc := 89) dX12_chain_89 (by decide) (fun c => absurd c (by decide)) (fun _ => ?_)
                      refine x_iload (pc := 92) dX12_chain_92 rfl ?_
                      refine x_aload_n (pc := 94) dX12_chain_94 rfl rfl ?_
                      refine x_iload (pc := 95) dX12_chain_95 rfl ?_
                      refine x_iload (pc := 97) dX12_chain_97 rfl ?_
                      refine x_callV2 (pc := 99) dX12_chain_99 rfl kX12_140 (s_trusts hfl m _ _ hS ⟨by omega, by omega⟩ ⟨by omega, by omega⟩) hS.1 rfl rfl (Nat.le_of_ble_eq_true rfl) (k_B (fun q_99 => ?_) (fun q_99 => ?_)) n_B
                      · refine x_if_eq (tgt := 112) (pc := 102) dX12_chain_102 (by decide) (fun c => absurd c (by decide)) (fun _ => ?_)
                        refine x_iconst (pc := 105) dX12_chain_105 (by decide) ?_
                        refine x_iload (pc := 106) dX12_chain_106 rfl ?_
                        refine x_ishl (pc := 108) dX12_chain_108 ?_
                        refine x_goto (tgt := 113) (pc := 109) dX12_chain_109 (by decide) ?_
                        refine x_ior (pc := 113) dX12_chain_113 ?_
                        refine x_istore (pc := 114) dX12_chain_114 (by decide) rfl ?_
                        refine x_iinc (pc := 116) dX12_chain_116 rfl (by omega) (by decide) rfl ?_
                        refine x_goto (tgt := 72) (pc := 119) dX12_chain_119 (by decide) ?_
                        refine x_lo (lo' := [(0, (2, m)), (1, (0, p)), (2, (0, q)), (3, (0, r)), (4, (0, n)), (5, (0, b_or y (b_shl 1 b))), (6, (0, a)), (7, (0, b + 1))]) ⟨rfl, rfl, rfl, rfl, rfl, rfl, rfl, rfl, trivial⟩ (ih3 (b + 1) (b_or y (b_shl 1 b)) ⟨by omega, by omega, b_or_lt jI.2.2.1 (b_shl1_lt ⟨by omega, by omega⟩), fun j j0 j1 => ?_⟩ (by omega))
                        rw [hb_or jI.2.2.1 (b_shl1_lt ⟨by omega, by omega⟩) ⟨j0, j1⟩, jI.2.2.2 j j0 j1, hb_shl1 ⟨by omega, by omega⟩ ⟨j0, j1⟩]
                        rw [R1.1.1 _ (by omega) (by omega)] at q_99
                        constructor
                        · rintro ((w | w | w) | w)
                          · exact Or.inl w
                          · exact Or.inr (Or.inl w)
                          · exact Or.inr (Or.inr ⟨by omega, w.2⟩)
                          · subst w; exact Or.inr (Or.inr ⟨by omega, q_86, q_99⟩)
                        · rintro (w | w | w)
                          · exact Or.inl (Or.inl w)
                          · exact Or.inl (Or.inr (Or.inl w))
                          · by_cases e : j = b
                            · exact Or.inr e
                            · exact Or.inl (Or.inr (Or.inr ⟨by omega, w.2⟩))
                      · refine x_if_eq (tgt := 112) (pc := 102) dX12_chain_102 (by decide) (fun _ => ?_) (fun c => absurd c (by decide))
                        refine x_iconst (pc := 112) dX12_chain_112 (by decide) ?_
                        refine x_ior (pc := 113) dX12_chain_113 ?_
                        refine x_istore (pc := 114) dX12_chain_114 (by decide) rfl ?_
                        refine x_iinc (pc := 116) dX12_chain_116 rfl (by omega) (by decide) rfl ?_
                        refine x_goto (tgt := 72) (pc := 119) dX12_chain_119 (by decide) ?_
                        refine x_lo (lo' := [(0, (2, m)), (1, (0, p)), (2, (0, q)), (3, (0, r)), (4, (0, n)), (5, (0, b_or y 0)), (6, (0, a)), (7, (0, b + 1))]) ⟨rfl, rfl, rfl, rfl, rfl, rfl, rfl, rfl, trivial⟩ (ih3 (b + 1) (b_or y 0) ⟨by omega, by omega, by rw [b_or_0 jI.2.2.1]; exact jI.2.2.1, fun j j0 j1 => ?_⟩ (by omega))
                        rw [R1.1.1 _ (by omega) (by omega)] at q_99
                        rw [b_or_0 jI.2.2.1, jI.2.2.2 j j0 j1]
                        constructor
                        · rintro (w | w | w)
                          · exact Or.inl w
                          · exact Or.inr (Or.inl w)
                          · exact Or.inr (Or.inr ⟨by omega, w.2⟩)
                        · rintro (w | w | w)
                          · exact Or.inl w
                          · exact Or.inr (Or.inl w)
                          · by_cases e : j = b
                            · subst e; exact absurd w.2.2 q_99
                            · exact Or.inr (Or.inr ⟨by omega, w.2⟩)
                    · refine x_if_eq (tgt := 122) (pc := 89) dX12_chain_89 (by decide) (fun _ => ?_) (fun c => absurd c (by decide))
                      refine x_iinc (pc := 122) dX12_chain_122 rfl (by omega) (by decide) rfl ?_
                      refine x_goto (tgt := 58) (pc := 125) dX12_chain_125 (by decide) ?_
                      refine x_lo (lo' := [(0, (2, m)), (1, (0, p)), (2, (0, q)), (3, (0, r)), (4, (0, n)), (5, (0, y)), (6, (0, a + 1))]) ⟨rfl, rfl, rfl, rfl, rfl, rfl, rfl, trivial⟩ (ih2 (a + 1) y ⟨by omega, by omega, jI.2.2.1, fun j j0 j1 => ?_⟩ (by omega))
                      rw [jI.2.2.2 j j0 j1]
                      have tt := tT a j (by omega) (by omega) j0 j1
                      constructor
                      · rintro (w | ⟨c, w1, w2, w3⟩ | w)
                        · exact Or.inl w
                        · exact Or.inr ⟨c, w1, by omega, w3⟩
                        · exact Or.inr ⟨a, by omega, by omega, w.2⟩
                      · rintro (w | ⟨c, w1, w2, w3⟩)
                        · exact Or.inl w
                        · by_cases e : c = a
                          · subst e; exact Or.inr (Or.inr ⟨by have := tt w3.2; omega, w3⟩)
                          · exact Or.inr (Or.inl ⟨c, w1, by omega, w3⟩))
                refine x_lo (lo' := [(0, (2, m)), (1, (0, p)), (2, (0, q)), (3, (0, r)), (4, (0, n)), (5, (0, x)), (6, (0, a)), (7, (0, 0))]) ⟨rfl, rfl, rfl, rfl, rfl, rfl, rfl, rfl, trivial⟩ (inner 0 x ⟨by omega, by omega, kI.2.2.1, fun j j0 j1 => ?_⟩)
                rw [kI.2.2.2 j j0 j1]
                constructor
                · rintro (w | w)
                  · exact Or.inl w
                  · exact Or.inr (Or.inl w)
                · rintro (w | w | w)
                  · exact Or.inl w
                  · exact Or.inr w
                  · have := w.1; omega)
            refine x_lo (lo' := [(0, (2, m)), (1, (0, p)), (2, (0, q)), (3, (0, r)), (4, (0, n)), (5, (0, r)), (6, (0, 0))]) ⟨rfl, rfl, rfl, rfl, rfl, rfl, rfl, trivial⟩ (mid 0 r ⟨by omega, by omega, hI.2.2.1, fun j j0 j1 => ⟨Or.inl, fun w => w.elim id fun w => ?_⟩⟩)
            obtain ⟨c, w1, w2, -⟩ := w
            omega)
      refine x_lo (lo' := [(0, (2, m)), (1, (0, p)), (2, (0, q)), (3, (0, b_shl 1 p)), (4, (0, 0))]) ⟨rfl, rfl, rfl, rfl, rfl, trivial⟩ (outer 0 _ ⟨by omega, by omega, b_shl1_lt ⟨by omega, by omega⟩, fun j j0 j1 => ?_, fun k k0 k1 => by omega⟩)
      rw [hb_shl1 ⟨by omega, by omega⟩ ⟨j0, j1⟩]
      show _ ↔ decide (j = p) = true
      rw [decide_eq_true_eq]
    · refine x_if_ne (tgt := 27) (pc := 18) dX12_chain_18 (by decide) (fun c => absurd c (by decide)) (fun _ => ?_)
      refine x_aload_n (pc := 21) dX12_chain_21 rfl rfl ?_
      refine x_iconst (pc := 22) dX12_chain_22 (by decide) ?_
      refine x_callV1 (pc := 23) dX12_chain_23 rfl kX12_116 (s_fails hfl m _ hS) hS.1 rfl rfl (Nat.le_of_ble_eq_true rfl) (k_G (fun v9 M9 hM9 => ?_)) n_G
      obtain ⟨rfl, rfl⟩ := hM9
      refine x_ireturn (pc := 26) dX12_chain_26 rfl (by decide) ?_
      have e9 : spChain A p q = (1, 0, A) := by
        unfold spChain
        (repeat' split) <;> first | rfl | (exfalso; omega)
      rw [e9]
      exact ⟨_, rfl, rfl, rfl, rfl, up_s, fun q => absurd q (show ¬ (1 : Int) = 0 by decide), R1.up3, F1.up (by omega)⟩
  · refine x_if_eq (tgt := 21) (pc := 10) dX12_chain_10 (by decide) (fun _ => ?_) (fun c => absurd c (by decide))
    refine x_aload_n (pc := 21) dX12_chain_21 rfl rfl ?_
    refine x_iconst (pc := 22) dX12_chain_22 (by decide) ?_
    refine x_callV1 (pc := 23) dX12_chain_23 rfl kX12_116 (s_fails hfl m _ hS) hS.1 rfl rfl (Nat.le_of_ble_eq_true rfl) (k_G (fun v9 M9 hM9 => ?_)) n_G
    obtain ⟨rfl, rfl⟩ := hM9
    refine x_ireturn (pc := 26) dX12_chain_26 rfl (by decide) ?_
    have e9 : spChain A p q = (1, 0, A) := by
      unfold spChain
      (repeat' split) <;> first | rfl | (exfalso; omega)
    rw [e9]
    exact ⟨_, rfl, rfl, rfl, rfl, up_s, fun q => absurd q (show ¬ (1 : Int) = 0 by decide), R1.up3, F1.up (by omega)⟩
theorem s_Cchain {l : Launch} {E : aE} {N : Nat} {S : aS} {M : aM} (hfl : l.stackTraces = false) (p q : Int) (hC : lyC S) (A : aM) (hR : RC M N S A) (hA : TOK (A 0)) : aMt l E pX11_chain [(2, 0), (0, p), (0, q)] N S M (opC M N S 0 (spChain A p q) (fun _ => 2)) := by
  refine a_met hfl rfl (by decide +kernel) (Nat.le_of_ble_eq_true rfl) ?_
  have c0 : M 1 1 = A 0 0 := hR.1.1.1
  have t0 := hA.1
  have t9 := hA.2.2.2.2.2.2.2.2.2.2.2.2.2.2.2.2.2.1
  refine x_aload_n (pc := 0) dX11_chain_0 rfl rfl ?_
  refine x_iload_n (pc := 1) dX11_chain_1 rfl rfl ?_
  refine x_callV1 (pc := 2) dX11_chain_2 rfl kX11_101 (s_needHouse hfl _ hC) (sC_0 hC) rfl rfl (Nat.le_of_ble_eq_true rfl) (k_N (fun h_2 => ?_)) (n_N (fun h_2 => (by have e9 : spChain A p q = (1, 0, A) := (by unfold spChain; (repeat' split) <;> first | rfl | (exfalso; omega)); rw [e9]; exact ⟨rfl, rfl, fun _ _ _ _ => rfl, hR, Or.inr ⟨show ¬ (1 : Int) = 0 by decide, rfl⟩⟩)))
  refine x_aload_n (pc := 5) dX11_chain_5 rfl rfl ?_
  refine x_iload_n (pc := 6) dX11_chain_6 rfl rfl ?_
  refine x_callV1 (pc := 7) dX11_chain_7 rfl kX11_101 (s_needHouse hfl _ hC) (sC_0 hC) rfl rfl (Nat.le_of_ble_eq_true rfl) (k_N (fun h_7 => ?_)) (n_N (fun h_7 => (by have e9 : spChain A p q = (1, 0, A) := (by unfold spChain; (repeat' split) <;> first | rfl | (exfalso; omega)); rw [e9]; exact ⟨rfl, rfl, fun _ _ _ _ => rfl, hR, Or.inr ⟨show ¬ (1 : Int) = 0 by decide, rfl⟩⟩)))
  refine x_aload_n (pc := 10) dX11_chain_10 rfl rfl ?_
  refine x_getR (jj := 0) (pc := 11) dX11_chain_11 fX11_10 (sC_0 hC) rfl (by decide) rfl rC_0_0 ?_
  refine x_iload_n (pc := 14) dX11_chain_14 rfl rfl ?_
  refine x_iload_n (pc := 15) dX11_chain_15 rfl rfl ?_
  refine x_callV2 (pc := 16) dX11_chain_16 rfl kX11_137 (s_stepsBetween hfl 1 _ _ hC.2.1) (hC.2.1).2.1 rfl rfl (Nat.le_of_ble_eq_true rfl) (k_R ?_) n_R
  refine x_ireturn (pc := 19) dX11_chain_19 rfl (by decide) ?_
  have e9 : spChain A p q = (0, chainV (A 0) p q, A) := by
    unfold spChain
    (repeat' split) <;> first | rfl | (exfalso; omega)
  rw [e9]
  rw [hR.1.1.chain (by omega) (by omega)]
  exact ⟨rfl, rfl, fun _ _ _ _ => rfl, hR, Or.inl ⟨rfl, rfl⟩⟩
