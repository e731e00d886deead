/-! sellers: the class -/
theorem sackF_0 {c w : Int → Int} : ∀ n : Nat, sackF c w n 0 = 0
  | 0 => rfl
  | n + 1 => if_pos rfl
theorem sackF_1 {c w : Int → Int} {n : Nat} {x : Int} (h : x ≠ 0) : sackF c w (n + 1) x = w (firstG c x) + sackF c w n (b_xor x (firstG c x)) := if_neg h
theorem sackF_r {c w : Int → Int} (hw : ∀ g, 0 ≤ w g ∧ w g ≤ 511) : ∀ (n : Nat) (x : Int), 0 ≤ sackF c w n x ∧ sackF c w n x ≤ 511 * n
  | 0, x => by show 0 ≤ (0 : Int) ∧ (0 : Int) ≤ 511 * ((0 : Nat) : Int); omega
  | n + 1, x => by
    have ih := sackF_r (c := c) hw n (b_xor x (firstG c x))
    have h2 := hw (firstG c x)
    by_cases e : x = 0
    · rw [e, sackF_0]; omega
    · rw [sackF_1 e]; omega
theorem m512 (t : Int → Int) (g : Int) : 0 ≤ allV t g % 512 ∧ allV t g % 512 ≤ 511 := by omega
theorem gainT_r {t : Int → Int} (hK : TQ t) {s k : Int} (hs : 0 < s ∧ s < 128) (hk : 0 ≤ k ∧ k ≤ 20) : (totE (costV t) s = -1 ∧ gainT t s k = -1000000) ∨ (totE (costV t) s ≠ -1 ∧ gainT t s k = totV (costV t) s - k * sackF (costV t) (fun g => allV t g % 512) 7 s ∧ -71540 ≤ gainT t s k ∧ gainT t s k ≤ 1634094 ∧ 0 ≤ k * sackF (costV t) (fun g => allV t g % 512) 7 s ∧ k * sackF (costV t) (fun g => allV t g % 512) 7 s ≤ 71540) := by
  unfold gainT
  by_cases e : totE (costV t) s = -1
  · rw [if_pos e]; exact Or.inl ⟨e, rfl⟩
  · rw [if_neg e]
    have h1 := sackF_r (c := costV t) (m512 t) 7 s
    have h2 := totV_or (c := costV t) s
    have h3 := totE_lt (costs_t hK) (s := s) ⟨by omega, hs.2⟩
    have h4 : k * sackF (costV t) (fun g => allV t g % 512) 7 s ≤ 20 * 3577 := Int.le_trans (Int.mul_le_mul_of_nonneg_left (show _ ≤ 3577 by omega) hk.1) (Int.mul_le_mul_of_nonneg_right hk.2 (by omega))
    have h5 : 0 ≤ k * sackF (costV t) (fun g => allV t g % 512) 7 s := Int.mul_nonneg hk.1 h1.1
    exact Or.inr ⟨e, rfl, by omega, by omega, h5, by omega⟩
/-- a tariff but for its steps -/
def RTs (M : aM) (u : Int) (t : Int → Int) : Prop := M u 0 = t 219 ∧ M u 4 = t 233 ∧ (∀ k, 0 ≤ k → k < t 233 → M (u + 3) k = t (234 + k) ∧ M (u + 4) k = t (238 + k)) ∧ M u 7 = t 242 ∧ M u 8 = t 243 ∧ M u 9 = t 244 ∧ (∀ i, 0 ≤ i → i < 6 → M (u + 5) i = t (245 + i)) ∧ M u 11 = t 251 ∧ M u 12 = t 252
theorem RTar.s {M : aM} {u : Int} {t : Int → Int} (h : RTar M u t) : RTs M u t := ⟨h.1, h.2.2.2⟩
theorem RTs.cg {M M' : aM} {u : Int} {t : Int → Int} (h : RTs M u t) (e : ∀ a i, u ≤ a → a < u + 6 → a ≠ u + 1 → a ≠ u + 2 → ¬ (a = u ∧ i = 1) → M' a i = M a i) : RTs M' u t := by
  obtain ⟨h1, h2, h3, h4, h5, h6, h7, h8, h9⟩ := h
  refine ⟨?_, ?_, fun k a b => ⟨?_, ?_⟩, ?_, ?_, ?_, fun i a b => ?_, ?_, ?_⟩
  · rw [e _ _ (by omega) (by omega) (by omega) (by omega) (by omega)]; exact h1
  · rw [e _ _ (by omega) (by omega) (by omega) (by omega) (by omega)]; exact h2
  · rw [e _ _ (by omega) (by omega) (by omega) (by omega) (by omega)]; exact (h3 k a b).1
  · rw [e _ _ (by omega) (by omega) (by omega) (by omega) (by omega)]; exact (h3 k a b).2
  · rw [e _ _ (by omega) (by omega) (by omega) (by omega) (by omega)]; exact h4
  · rw [e _ _ (by omega) (by omega) (by omega) (by omega) (by omega)]; exact h5
  · rw [e _ _ (by omega) (by omega) (by omega) (by omega) (by omega)]; exact h6
  · rw [e _ _ (by omega) (by omega) (by omega) (by omega) (by omega)]; exact h7 i a b
  · rw [e _ _ (by omega) (by omega) (by omega) (by omega) (by omega)]; exact h8
  · rw [e _ _ (by omega) (by omega) (by omega) (by omega) (by omega)]; exact h9
theorem stepT_o {t : Int → Int} {p n r j : Int} (h : j ≠ 220 ∧ j ≠ 221 ∧ j ≠ 222 ∧ j ≠ 227 ∧ j ≠ 228) : stepT t p n r j = t j := by
  unfold stepT
  rw [if_neg h.1, if_neg h.2.1, if_neg h.2.2.1, if_neg h.2.2.2.1, if_neg h.2.2.2.2]
theorem RTs.st {M : aM} {u p n r : Int} {t : Int → Int} (h : RTs M u t) (h1 : M u 1 = if n = 0 then 1 else 2) (h2 : M (u + 1) 0 = 1 ∧ M (u + 2) 0 = p) (h3 : n ≠ 0 → M (u + 1) 1 = n ∧ M (u + 2) 1 = r) : RTar M u (stepT t p n r) := by
  obtain ⟨g1, g2, g3, g4, g5, g6, g7, g8, g9⟩ := h
  have e : stepT t p n r 220 = if n = 0 then 1 else 2 := rfl
  refine ⟨g1, h1.trans e.symm, fun k a b => ?_, g2, fun k a b => ?_, g4, g5, g6, fun i a b => ?_, g8, g9⟩
  · rw [e] at b
    by_cases hn : n = 0
    · rw [if_pos hn] at b
      rw [show k = 0 by omega]; exact h2
    · rw [if_neg hn] at b
      by_cases k0 : k = 0
      · rw [k0]; exact h2
      · rw [show k = 1 by omega]; exact h3 hn
  · rw [stepT_o (by omega), stepT_o (by omega)]
    exact g3 k a (by rw [stepT_o (by omega)] at b; exact b)
  · rw [stepT_o (by omega)]; exact g7 i a b
theorem stepT_tq {t : Int → Int} (hK : TQ t) {p n r : Int} (hp : 1 ≤ p ∧ p ≤ 99) (hn : n = 0 ∨ (1 ≤ n ∧ n ≤ 60 ∧ 1 ≤ r ∧ r ≤ 99)) : TQ (stepT t p n r) := by
  obtain ⟨⟨k1, k2, k3, k4, k5⟩, k6, k7, k8, k9, k10, k11⟩ := hK
  have e : stepT t p n r 220 = if n = 0 then 1 else 2 := rfl
  refine ⟨⟨k1, ?_, fun k a b => ?_, k4, fun k a b => ?_⟩, fun h a b => ?_, fun i a b => ?_, k8, k9, k10, fun i a b => ?_⟩
  · rw [e]; split <;> omega
  · rw [e] at b
    by_cases k0 : k = 0
    · rw [k0]
      show (1 : Int) ≤ 1 ∧ (1 : Int) ≤ 60 ∧ 1 ≤ p ∧ p ≤ 99
      omega
    · by_cases n0 : n = 0
      · rw [if_pos n0] at b; omega
      · rw [if_neg n0] at b
        rw [show k = 1 by omega]
        show 1 ≤ n ∧ n ≤ 60 ∧ 1 ≤ r ∧ r ≤ 99
        omega
  · rw [stepT_o (by omega), stepT_o (by omega)]
    exact k5 k a (by rw [stepT_o (by omega)] at b; exact b)
  · rw [stepT_o (by omega)]; exact k6 h a b
  · rw [stepT_o (by omega)]; exact k7 i a b
  · rw [stepT_o (by omega)]; exact k11 i a b
theorem stepT_tb {t : Int → Int} (hB : TB t) {p n r : Int} : TB (stepT t p n r) := ⟨fun a b x y u v => by rw [stepT_o (by omega), stepT_o (by omega)]; exact hB.1 a b x y u v, fun a x y => by rw [stepT_o (by omega)]; exact hB.2 a x y⟩
theorem lyC.se {S : aS} (hC : lyC S) : lyG S 89 83 rC_94 rC_89 rC_98 := ⟨sC_98 hC, ⟨rC_98_0, rC_98_1, rC_98_2, rC_98_3, rC_98_4, rC_98_5⟩, sC_99 hC, sC_100 hC, sC_101 hC, sC_102 hC, sC_103 hC, sC_94 hC, ⟨rC_94_0, rC_94_1, rC_94_2, rC_94_3, rC_94_4, rC_94_5⟩, sC_95 hC, sC_96 hC, sC_97 hC, hC.2.1, sC_89 hC, ⟨rC_89_0, rC_89_1, rC_89_2, rC_89_3, rC_89_4⟩, sC_90 hC, sC_91 hC, sC_92 hC, sC_93 hC, hC.2.2.2.1⟩
def spSeller (A : aM) (s p k x : Int) : Int × Int × aM := if ¬ (0 < s ∧ s < b_shl 1 (A 0 0)) ∨ ¬ (sumN (hb s) 7 ≤ 4) ∨ ¬ (2 ≤ p ∧ p ≤ 20) ∨ ¬ (0 ≤ k ∧ k ≤ 20) ∨ ¬ (0 ≤ x ∧ x ≤ 3) then (1, 0, A) else (0, if x = 0 then (selV (A 0) s p k).1 else if x = 1 then (selV (A 0) s p k).2.1 else if x = 2 then (selV (A 0) s p k).2.2 else plainG (A 0) s p k, A)
theorem dX1_sacksOf_0 : decode cX1_sacksOf 0 = .ok (.iconst 0, 1) := by decide +kernel
theorem dX1_sacksOf_1 : decode cX1_sacksOf 1 = .ok (.istore_n 2, 1) := by decide +kernel
theorem dX1_sacksOf_2 : decode cX1_sacksOf 2 = .ok (.iload_n 1, 1) := by decide +kernel
theorem dX1_sacksOf_3 : decode cX1_sacksOf 3 = .ok (.istore_n 3, 1) := by decide +kernel
theorem dX1_sacksOf_4 : decode cX1_sacksOf 4 = .ok (.iconst 0, 1) := by decide +kernel
theorem dX1_sacksOf_5 : decode cX1_sacksOf 5 = .ok (.istore 4, 2) := by decide +kernel
theorem dX1_sacksOf_7 : decode cX1_sacksOf 7 = .ok (.iload 4, 2) := by decide +kernel
theorem dX1_sacksOf_9 : decode cX1_sacksOf 9 = .ok (.bipush 7, 2) := by decide +kernel
theorem dX1_sacksOf_11 : decode cX1_sacksOf 11 = .ok (.if_icmp .ge 38, 3) := by decide +kernel
theorem dX1_sacksOf_14 : decode cX1_sacksOf 14 = .ok (.iload_n 3, 1) := by decide +kernel
theorem dX1_sacksOf_15 : decode cX1_sacksOf 15 = .ok (.ifCond .eq 34, 3) := by decide +kernel
theorem dX1_sacksOf_18 : decode cX1_sacksOf 18 = .ok (.iload_n 2, 1) := by decide +kernel
theorem dX1_sacksOf_19 : decode cX1_sacksOf 19 = .ok (.aload_n 0, 1) := by decide +kernel
theorem dX1_sacksOf_20 : decode cX1_sacksOf 20 = .ok (.getfield 27, 3) := by decide +kernel
theorem dX1_sacksOf_23 : decode cX1_sacksOf 23 = .ok (.aload_n 0, 1) := by decide +kernel
theorem dX1_sacksOf_24 : decode cX1_sacksOf 24 = .ok (.getfield 18, 3) := by decide +kernel
theorem dX1_sacksOf_27 : decode cX1_sacksOf 27 = .ok (.iload_n 3, 1) := by decide +kernel
theorem dX1_sacksOf_28 : decode cX1_sacksOf 28 = .ok (.iaload, 1) := by decide +kernel
theorem dX1_sacksOf_29 : decode cX1_sacksOf 29 = .ok (.invokevirtual 58, 3) := by decide +kernel
theorem dX1_sacksOf_32 : decode cX1_sacksOf 32 = .ok (.iadd, 1) := by decide +kernel
theorem dX1_sacksOf_33 : decode cX1_sacksOf 33 = .ok (.istore_n 2, 1) := by decide +kernel
theorem dX1_sacksOf_34 : decode cX1_sacksOf 34 = .ok (.iload_n 3, 1) := by decide +kernel
theorem dX1_sacksOf_35 : decode cX1_sacksOf 35 = .ok (.aload_n 0, 1) := by decide +kernel
theorem dX1_sacksOf_36 : decode cX1_sacksOf 36 = .ok (.getfield 18, 3) := by decide +kernel
theorem dX1_sacksOf_39 : decode cX1_sacksOf 39 = .ok (.iload_n 3, 1) := by decide +kernel
theorem dX1_sacksOf_40 : decode cX1_sacksOf 40 = .ok (.iaload, 1) := by decide +kernel
theorem dX1_sacksOf_41 : decode cX1_sacksOf 41 = .ok (.ixor, 1) := by decide +kernel
theorem dX1_sacksOf_42 : decode cX1_sacksOf 42 = .ok (.istore_n 3, 1) := by decide +kernel
theorem dX1_sacksOf_43 : decode cX1_sacksOf 43 = .ok (.iinc 4 1, 3) := by decide +kernel
theorem dX1_sacksOf_46 : decode cX1_sacksOf 46 = .ok (.goto (-39), 3) := by decide +kernel
theorem dX1_sacksOf_49 : decode cX1_sacksOf 49 = .ok (.iload_n 2, 1) := by decide +kernel
theorem dX1_sacksOf_50 : decode cX1_sacksOf 50 = .ok (.ireturn, 1) := by decide +kernel
theorem dX8_addStep_0 : decode cX8_addStep 0 = .ok (.aload_n 0, 1) := by decide +kernel
theorem dX8_addStep_1 : decode cX8_addStep 1 = .ok (.getfield 35, 3) := by decide +kernel
theorem dX8_addStep_4 : decode cX8_addStep 4 = .ok (.bipush 6, 2) := by decide +kernel
theorem dX8_addStep_6 : decode cX8_addStep 6 = .ok (.if_icmp .ge 33, 3) := by decide +kernel
theorem dX8_addStep_9 : decode cX8_addStep 9 = .ok (.aload_n 0, 1) := by decide +kernel
theorem dX8_addStep_10 : decode cX8_addStep 10 = .ok (.getfield 11, 3) := by decide +kernel
theorem dX8_addStep_13 : decode cX8_addStep 13 = .ok (.aload_n 0, 1) := by decide +kernel
theorem dX8_addStep_14 : decode cX8_addStep 14 = .ok (.getfield 35, 3) := by decide +kernel
theorem dX8_addStep_17 : decode cX8_addStep 17 = .ok (.iload_n 1, 1) := by decide +kernel
theorem dX8_addStep_18 : decode cX8_addStep 18 = .ok (.iastore, 1) := by decide +kernel
theorem dX8_addStep_19 : decode cX8_addStep 19 = .ok (.aload_n 0, 1) := by decide +kernel
theorem dX8_addStep_20 : decode cX8_addStep 20 = .ok (.getfield 15, 3) := by decide +kernel
theorem dX8_addStep_23 : decode cX8_addStep 23 = .ok (.aload_n 0, 1) := by decide +kernel
theorem dX8_addStep_24 : decode cX8_addStep 24 = .ok (.getfield 35, 3) := by decide +kernel
theorem dX8_addStep_27 : decode cX8_addStep 27 = .ok (.iload_n 2, 1) := by decide +kernel
theorem dX8_addStep_28 : decode cX8_addStep 28 = .ok (.iastore, 1) := by decide +kernel
theorem dX8_addStep_29 : decode cX8_addStep 29 = .ok (.aload_n 0, 1) := by decide +kernel
theorem dX8_addStep_30 : decode cX8_addStep 30 = .ok (.dup, 1) := by decide +kernel
theorem dX8_addStep_31 : decode cX8_addStep 31 = .ok (.getfield 35, 3) := by decide +kernel
theorem dX8_addStep_34 : decode cX8_addStep 34 = .ok (.iconst 1, 1) := by decide +kernel
theorem dX8_addStep_35 : decode cX8_addStep 35 = .ok (.iadd, 1) := by decide +kernel
theorem dX8_addStep_36 : decode cX8_addStep 36 = .ok (.putfield 35, 3) := by decide +kernel
theorem dX8_addStep_39 : decode cX8_addStep 39 = .ok (.return_, 1) := by decide +kernel
theorem dX6_gain_0 : decode cX6_gain 0 = .ok (.aload_n 0, 1) := by decide +kernel
theorem dX6_gain_1 : decode cX6_gain 1 = .ok (.getfield 27, 3) := by decide +kernel
theorem dX6_gain_4 : decode cX6_gain 4 = .ok (.invokevirtual 93, 3) := by decide +kernel
theorem dX6_gain_7 : decode cX6_gain 7 = .ok (.aload_n 0, 1) := by decide +kernel
theorem dX6_gain_8 : decode cX6_gain 8 = .ok (.getfield 36, 3) := by decide +kernel
theorem dX6_gain_11 : decode cX6_gain 11 = .ok (.invokevirtual 96, 3) := by decide +kernel
theorem dX6_gain_14 : decode cX6_gain 14 = .ok (.aload_n 0, 1) := by decide +kernel
theorem dX6_gain_15 : decode cX6_gain 15 = .ok (.getfield 45, 3) := by decide +kernel
theorem dX6_gain_18 : decode cX6_gain 18 = .ok (.aload_n 0, 1) := by decide +kernel
theorem dX6_gain_19 : decode cX6_gain 19 = .ok (.getfield 49, 3) := by decide +kernel
theorem dX6_gain_22 : decode cX6_gain 22 = .ok (.invokevirtual 99, 3) := by decide +kernel
theorem dX6_gain_25 : decode cX6_gain 25 = .ok (.ifCond .ne 6, 3) := by decide +kernel
theorem dX6_gain_28 : decode cX6_gain 28 = .ok (.ldc 71, 2) := by decide +kernel
theorem dX6_gain_30 : decode cX6_gain 30 = .ok (.ireturn, 1) := by decide +kernel
theorem dX6_gain_31 : decode cX6_gain 31 = .ok (.aload_n 0, 1) := by decide +kernel
theorem dX6_gain_32 : decode cX6_gain 32 = .ok (.getfield 45, 3) := by decide +kernel
theorem dX6_gain_35 : decode cX6_gain 35 = .ok (.getfield 103, 3) := by decide +kernel
theorem dX6_gain_38 : decode cX6_gain 38 = .ok (.aload_n 0, 1) := by decide +kernel
theorem dX6_gain_39 : decode cX6_gain 39 = .ok (.getfield 49, 3) := by decide +kernel
theorem dX6_gain_42 : decode cX6_gain 42 = .ok (.iaload, 1) := by decide +kernel
theorem dX6_gain_43 : decode cX6_gain 43 = .ok (.aload_n 0, 1) := by decide +kernel
theorem dX6_gain_44 : decode cX6_gain 44 = .ok (.getfield 56, 3) := by decide +kernel
theorem dX6_gain_47 : decode cX6_gain 47 = .ok (.aload_n 0, 1) := by decide +kernel
theorem dX6_gain_48 : decode cX6_gain 48 = .ok (.getfield 45, 3) := by decide +kernel
theorem dX6_gain_51 : decode cX6_gain 51 = .ok (.aload_n 0, 1) := by decide +kernel
theorem dX6_gain_52 : decode cX6_gain 52 = .ok (.getfield 49, 3) := by decide +kernel
theorem dX6_gain_55 : decode cX6_gain 55 = .ok (.invokevirtual 107, 3) := by decide +kernel
theorem dX6_gain_58 : decode cX6_gain 58 = .ok (.imul, 1) := by decide +kernel
theorem dX6_gain_59 : decode cX6_gain 59 = .ok (.isub, 1) := by decide +kernel
theorem dX6_gain_60 : decode cX6_gain 60 = .ok (.ireturn, 1) := by decide +kernel
theorem dX6_keepIfMore_0 : decode cX6_keepIfMore 0 = .ok (.iload_n 3, 1) := by decide +kernel
theorem dX6_keepIfMore_1 : decode cX6_keepIfMore 1 = .ok (.aload_n 0, 1) := by decide +kernel
theorem dX6_keepIfMore_2 : decode cX6_keepIfMore 2 = .ok (.getfield 72, 3) := by decide +kernel
theorem dX6_keepIfMore_5 : decode cX6_keepIfMore 5 = .ok (.if_icmp .le 18, 3) := by decide +kernel
theorem dX6_keepIfMore_8 : decode cX6_keepIfMore 8 = .ok (.aload_n 0, 1) := by decide +kernel
theorem dX6_keepIfMore_9 : decode cX6_keepIfMore 9 = .ok (.iload_n 1, 1) := by decide +kernel
theorem dX6_keepIfMore_10 : decode cX6_keepIfMore 10 = .ok (.putfield 65, 3) := by decide +kernel
theorem dX6_keepIfMore_13 : decode cX6_keepIfMore 13 = .ok (.aload_n 0, 1) := by decide +kernel
theorem dX6_keepIfMore_14 : decode cX6_keepIfMore 14 = .ok (.iload_n 2, 1) := by decide +kernel
theorem dX6_keepIfMore_15 : decode cX6_keepIfMore 15 = .ok (.putfield 68, 3) := by decide +kernel
theorem dX6_keepIfMore_18 : decode cX6_keepIfMore 18 = .ok (.aload_n 0, 1) := by decide +kernel
theorem dX6_keepIfMore_19 : decode cX6_keepIfMore 19 = .ok (.iload_n 3, 1) := by decide +kernel
theorem dX6_keepIfMore_20 : decode cX6_keepIfMore 20 = .ok (.putfield 72, 3) := by decide +kernel
theorem dX6_keepIfMore_23 : decode cX6_keepIfMore 23 = .ok (.return_, 1) := by decide +kernel
theorem dX6_seek_0 : decode cX6_seek 0 = .ok (.aload_n 0, 1) := by decide +kernel
theorem dX6_seek_1 : decode cX6_seek 1 = .ok (.getfield 49, 3) := by decide +kernel
theorem dX6_seek_4 : decode cX6_seek 4 = .ok (.iload_n 1, 1) := by decide +kernel
theorem dX6_seek_5 : decode cX6_seek 5 = .ok (.if_icmp .ne 20, 3) := by decide +kernel
theorem dX6_seek_8 : decode cX6_seek 8 = .ok (.aload_n 0, 1) := by decide +kernel
theorem dX6_seek_9 : decode cX6_seek 9 = .ok (.getfield 53, 3) := by decide +kernel
theorem dX6_seek_12 : decode cX6_seek 12 = .ok (.iload_n 2, 1) := by decide +kernel
theorem dX6_seek_13 : decode cX6_seek 13 = .ok (.if_icmp .ne 12, 3) := by decide +kernel
theorem dX6_seek_16 : decode cX6_seek 16 = .ok (.aload_n 0, 1) := by decide +kernel
theorem dX6_seek_17 : decode cX6_seek 17 = .ok (.getfield 56, 3) := by decide +kernel
theorem dX6_seek_20 : decode cX6_seek 20 = .ok (.iload_n 3, 1) := by decide +kernel
theorem dX6_seek_21 : decode cX6_seek 21 = .ok (.if_icmp .ne 4, 3) := by decide +kernel
theorem dX6_seek_24 : decode cX6_seek 24 = .ok (.return_, 1) := by decide +kernel
theorem dX6_seek_25 : decode cX6_seek 25 = .ok (.aload_n 0, 1) := by decide +kernel
theorem dX6_seek_26 : decode cX6_seek 26 = .ok (.iload_n 1, 1) := by decide +kernel
theorem dX6_seek_27 : decode cX6_seek 27 = .ok (.putfield 49, 3) := by decide +kernel
theorem dX6_seek_30 : decode cX6_seek 30 = .ok (.aload_n 0, 1) := by decide +kernel
theorem dX6_seek_31 : decode cX6_seek 31 = .ok (.iload_n 2, 1) := by decide +kernel
theorem dX6_seek_32 : decode cX6_seek 32 = .ok (.putfield 53, 3) := by decide +kernel
theorem dX6_seek_35 : decode cX6_seek 35 = .ok (.aload_n 0, 1) := by decide +kernel
theorem dX6_seek_36 : decode cX6_seek 36 = .ok (.iload_n 3, 1) := by decide +kernel
theorem dX6_seek_37 : decode cX6_seek 37 = .ok (.putfield 56, 3) := by decide +kernel
theorem dX6_seek_40 : decode cX6_seek 40 = .ok (.aload_n 0, 1) := by decide +kernel
theorem dX6_seek_41 : decode cX6_seek 41 = .ok (.getfield 12, 3) := by decide +kernel
theorem dX6_seek_44 : decode cX6_seek 44 = .ok (.aload_n 0, 1) := by decide +kernel
theorem dX6_seek_45 : decode cX6_seek 45 = .ok (.getfield 18, 3) := by decide +kernel
theorem dX6_seek_48 : decode cX6_seek 48 = .ok (.getfield 59, 3) := by decide +kernel
theorem dX6_seek_51 : decode cX6_seek 51 = .ok (.invokevirtual 62, 3) := by decide +kernel
theorem dX6_seek_54 : decode cX6_seek 54 = .ok (.aload_n 0, 1) := by decide +kernel
theorem dX6_seek_55 : decode cX6_seek 55 = .ok (.iconst (-1), 1) := by decide +kernel
theorem dX6_seek_56 : decode cX6_seek 56 = .ok (.putfield 65, 3) := by decide +kernel
theorem dX6_seek_59 : decode cX6_seek 59 = .ok (.aload_n 0, 1) := by decide +kernel
theorem dX6_seek_60 : decode cX6_seek 60 = .ok (.iconst (-1), 1) := by decide +kernel
theorem dX6_seek_61 : decode cX6_seek 61 = .ok (.putfield 68, 3) := by decide +kernel
theorem dX6_seek_64 : decode cX6_seek 64 = .ok (.aload_n 0, 1) := by decide +kernel
theorem dX6_seek_65 : decode cX6_seek 65 = .ok (.ldc 71, 2) := by decide +kernel
theorem dX6_seek_67 : decode cX6_seek 67 = .ok (.putfield 72, 3) := by decide +kernel
theorem dX6_seek_70 : decode cX6_seek 70 = .ok (.aload_n 0, 1) := by decide +kernel
theorem dX6_seek_71 : decode cX6_seek 71 = .ok (.getfield 12, 3) := by decide +kernel
theorem dX6_seek_74 : decode cX6_seek 74 = .ok (.iconst 0, 1) := by decide +kernel
theorem dX6_seek_75 : decode cX6_seek 75 = .ok (.putfield 75, 3) := by decide +kernel
theorem dX6_seek_78 : decode cX6_seek 78 = .ok (.aload_n 0, 1) := by decide +kernel
theorem dX6_seek_79 : decode cX6_seek 79 = .ok (.getfield 12, 3) := by decide +kernel
theorem dX6_seek_82 : decode cX6_seek 82 = .ok (.iconst 1, 1) := by decide +kernel
theorem dX6_seek_83 : decode cX6_seek 83 = .ok (.iload_n 2, 1) := by decide +kernel
theorem dX6_seek_84 : decode cX6_seek 84 = .ok (.invokevirtual 78, 3) := by decide +kernel
theorem dX6_seek_87 : decode cX6_seek 87 = .ok (.aload_n 0, 1) := by decide +kernel
theorem dX6_seek_88 : decode cX6_seek 88 = .ok (.aload_n 0, 1) := by decide +kernel
theorem dX6_seek_89 : decode cX6_seek 89 = .ok (.invokevirtual 82, 3) := by decide +kernel
theorem dX6_seek_92 : decode cX6_seek 92 = .ok (.putfield 86, 3) := by decide +kernel
theorem dX6_seek_95 : decode cX6_seek 95 = .ok (.iconst 2, 1) := by decide +kernel
theorem dX6_seek_96 : decode cX6_seek 96 = .ok (.istore 4, 2) := by decide +kernel
theorem dX6_seek_98 : decode cX6_seek 98 = .ok (.iload 4, 2) := by decide +kernel
theorem dX6_seek_100 : decode cX6_seek 100 = .ok (.bipush 12, 2) := by decide +kernel
theorem dX6_seek_102 : decode cX6_seek 102 = .ok (.if_icmp .gt 77, 3) := by decide +kernel
theorem dX6_seek_105 : decode cX6_seek 105 = .ok (.aload_n 0, 1) := by decide +kernel
theorem dX6_seek_106 : decode cX6_seek 106 = .ok (.getfield 72, 3) := by decide +kernel
theorem dX6_seek_109 : decode cX6_seek 109 = .ok (.aload_n 0, 1) := by decide +kernel
theorem dX6_seek_110 : decode cX6_seek 110 = .ok (.getfield 86, 3) := by decide +kernel
theorem dX6_seek_113 : decode cX6_seek 113 = .ok (.if_icmp .ge 66, 3) := by decide +kernel
theorem dX6_seek_116 : decode cX6_seek 116 = .ok (.iconst 1, 1) := by decide +kernel
theorem dX6_seek_117 : decode cX6_seek 117 = .ok (.istore 5, 2) := by decide +kernel
theorem dX6_seek_119 : decode cX6_seek 119 = .ok (.iload 5, 2) := by decide +kernel
theorem dX6_seek_121 : decode cX6_seek 121 = .ok (.iload_n 2, 1) := by decide +kernel
theorem dX6_seek_122 : decode cX6_seek 122 = .ok (.if_icmp .ge 51, 3) := by decide +kernel
theorem dX6_seek_125 : decode cX6_seek 125 = .ok (.aload_n 0, 1) := by decide +kernel
theorem dX6_seek_126 : decode cX6_seek 126 = .ok (.getfield 72, 3) := by decide +kernel
theorem dX6_seek_129 : decode cX6_seek 129 = .ok (.aload_n 0, 1) := by decide +kernel
theorem dX6_seek_130 : decode cX6_seek 130 = .ok (.getfield 86, 3) := by decide +kernel
theorem dX6_seek_133 : decode cX6_seek 133 = .ok (.if_icmp .ge 40, 3) := by decide +kernel
theorem dX6_seek_136 : decode cX6_seek 136 = .ok (.aload_n 0, 1) := by decide +kernel
theorem dX6_seek_137 : decode cX6_seek 137 = .ok (.getfield 12, 3) := by decide +kernel
theorem dX6_seek_140 : decode cX6_seek 140 = .ok (.iconst 1, 1) := by decide +kernel
theorem dX6_seek_141 : decode cX6_seek 141 = .ok (.putfield 75, 3) := by decide +kernel
theorem dX6_seek_144 : decode cX6_seek 144 = .ok (.aload_n 0, 1) := by decide +kernel
theorem dX6_seek_145 : decode cX6_seek 145 = .ok (.getfield 12, 3) := by decide +kernel
theorem dX6_seek_148 : decode cX6_seek 148 = .ok (.iload 4, 2) := by decide +kernel
theorem dX6_seek_150 : decode cX6_seek 150 = .ok (.iload 5, 2) := by decide +kernel
theorem dX6_seek_152 : decode cX6_seek 152 = .ok (.invokevirtual 78, 3) := by decide +kernel
theorem dX6_seek_155 : decode cX6_seek 155 = .ok (.aload_n 0, 1) := by decide +kernel
theorem dX6_seek_156 : decode cX6_seek 156 = .ok (.iload 4, 2) := by decide +kernel
theorem dX6_seek_158 : decode cX6_seek 158 = .ok (.iload 5, 2) := by decide +kernel
theorem dX6_seek_160 : decode cX6_seek 160 = .ok (.aload_n 0, 1) := by decide +kernel
theorem dX6_seek_161 : decode cX6_seek 161 = .ok (.invokevirtual 82, 3) := by decide +kernel
theorem dX6_seek_164 : decode cX6_seek 164 = .ok (.invokevirtual 89, 3) := by decide +kernel
theorem dX6_seek_167 : decode cX6_seek 167 = .ok (.iinc 5 1, 3) := by decide +kernel
theorem dX6_seek_170 : decode cX6_seek 170 = .ok (.goto (-51), 3) := by decide +kernel
theorem dX6_seek_173 : decode cX6_seek 173 = .ok (.iinc 4 1, 3) := by decide +kernel
theorem dX6_seek_176 : decode cX6_seek 176 = .ok (.goto (-78), 3) := by decide +kernel
theorem dX6_seek_179 : decode cX6_seek 179 = .ok (.return_, 1) := by decide +kernel
theorem dX11_seller_0 : decode cX11_seller 0 = .ok (.aload_n 0, 1) := by decide +kernel
theorem dX11_seller_1 : decode cX11_seller 1 = .ok (.iload_n 1, 1) := by decide +kernel
theorem dX11_seller_2 : decode cX11_seller 2 = .ok (.invokevirtual 131, 3) := by decide +kernel
theorem dX11_seller_5 : decode cX11_seller 5 = .ok (.aload_n 0, 1) := by decide +kernel
theorem dX11_seller_6 : decode cX11_seller 6 = .ok (.iload_n 1, 1) := by decide +kernel
theorem dX11_seller_7 : decode cX11_seller 7 = .ok (.invokestatic 296, 3) := by decide +kernel
theorem dX11_seller_10 : decode cX11_seller 10 = .ok (.iconst 1, 1) := by decide +kernel
theorem dX11_seller_11 : decode cX11_seller 11 = .ok (.iconst 4, 1) := by decide +kernel
theorem dX11_seller_12 : decode cX11_seller 12 = .ok (.invokevirtual 175, 3) := by decide +kernel
theorem dX11_seller_15 : decode cX11_seller 15 = .ok (.aload_n 0, 1) := by decide +kernel
theorem dX11_seller_16 : decode cX11_seller 16 = .ok (.iload_n 2, 1) := by decide +kernel
theorem dX11_seller_17 : decode cX11_seller 17 = .ok (.iconst 2, 1) := by decide +kernel
theorem dX11_seller_18 : decode cX11_seller 18 = .ok (.bipush 20, 2) := by decide +kernel
theorem dX11_seller_20 : decode cX11_seller 20 = .ok (.invokevirtual 175, 3) := by decide +kernel
theorem dX11_seller_23 : decode cX11_seller 23 = .ok (.aload_n 0, 1) := by decide +kernel
theorem dX11_seller_24 : decode cX11_seller 24 = .ok (.iload_n 3, 1) := by decide +kernel
theorem dX11_seller_25 : decode cX11_seller 25 = .ok (.iconst 0, 1) := by decide +kernel
theorem dX11_seller_26 : decode cX11_seller 26 = .ok (.bipush 20, 2) := by decide +kernel
theorem dX11_seller_28 : decode cX11_seller 28 = .ok (.invokevirtual 175, 3) := by decide +kernel
theorem dX11_seller_31 : decode cX11_seller 31 = .ok (.aload_n 0, 1) := by decide +kernel
theorem dX11_seller_32 : decode cX11_seller 32 = .ok (.iload 4, 2) := by decide +kernel
theorem dX11_seller_34 : decode cX11_seller 34 = .ok (.iconst 0, 1) := by decide +kernel
theorem dX11_seller_35 : decode cX11_seller 35 = .ok (.iconst 3, 1) := by decide +kernel
theorem dX11_seller_36 : decode cX11_seller 36 = .ok (.invokevirtual 175, 3) := by decide +kernel
theorem dX11_seller_39 : decode cX11_seller 39 = .ok (.aload_n 0, 1) := by decide +kernel
theorem dX11_seller_40 : decode cX11_seller 40 = .ok (.getfield 79, 3) := by decide +kernel
theorem dX11_seller_43 : decode cX11_seller 43 = .ok (.iload_n 1, 1) := by decide +kernel
theorem dX11_seller_44 : decode cX11_seller 44 = .ok (.iload_n 2, 1) := by decide +kernel
theorem dX11_seller_45 : decode cX11_seller 45 = .ok (.iload_n 3, 1) := by decide +kernel
theorem dX11_seller_46 : decode cX11_seller 46 = .ok (.invokevirtual 311, 3) := by decide +kernel
theorem dX11_seller_49 : decode cX11_seller 49 = .ok (.iload 4, 2) := by decide +kernel
theorem dX11_seller_51 : decode cX11_seller 51 = .ok (.ifCond .ne 11, 3) := by decide +kernel
theorem dX11_seller_54 : decode cX11_seller 54 = .ok (.aload_n 0, 1) := by decide +kernel
theorem dX11_seller_55 : decode cX11_seller 55 = .ok (.getfield 79, 3) := by decide +kernel
theorem dX11_seller_58 : decode cX11_seller 58 = .ok (.getfield 314, 3) := by decide +kernel
theorem dX11_seller_61 : decode cX11_seller 61 = .ok (.ireturn, 1) := by decide +kernel
theorem dX11_seller_62 : decode cX11_seller 62 = .ok (.iload 4, 2) := by decide +kernel
theorem dX11_seller_64 : decode cX11_seller 64 = .ok (.iconst 1, 1) := by decide +kernel
theorem dX11_seller_65 : decode cX11_seller 65 = .ok (.if_icmp .ne 11, 3) := by decide +kernel
theorem dX11_seller_68 : decode cX11_seller 68 = .ok (.aload_n 0, 1) := by decide +kernel
theorem dX11_seller_69 : decode cX11_seller 69 = .ok (.getfield 79, 3) := by decide +kernel
theorem dX11_seller_72 : decode cX11_seller 72 = .ok (.getfield 317, 3) := by decide +kernel
theorem dX11_seller_75 : decode cX11_seller 75 = .ok (.ireturn, 1) := by decide +kernel
theorem dX11_seller_76 : decode cX11_seller 76 = .ok (.iload 4, 2) := by decide +kernel
theorem dX11_seller_78 : decode cX11_seller 78 = .ok (.iconst 2, 1) := by decide +kernel
theorem dX11_seller_79 : decode cX11_seller 79 = .ok (.if_icmp .ne 13, 3) := by decide +kernel
theorem dX11_seller_82 : decode cX11_seller 82 = .ok (.aload_n 0, 1) := by decide +kernel
theorem dX11_seller_83 : decode cX11_seller 83 = .ok (.getfield 79, 3) := by decide +kernel
theorem dX11_seller_86 : decode cX11_seller 86 = .ok (.getfield 320, 3) := by decide +kernel
theorem dX11_seller_89 : decode cX11_seller 89 = .ok (.goto 10, 3) := by decide +kernel
theorem dX11_seller_92 : decode cX11_seller 92 = .ok (.aload_n 0, 1) := by decide +kernel
theorem dX11_seller_93 : decode cX11_seller 93 = .ok (.getfield 79, 3) := by decide +kernel
theorem dX11_seller_96 : decode cX11_seller 96 = .ok (.getfield 323, 3) := by decide +kernel
theorem dX11_seller_99 : decode cX11_seller 99 = .ok (.ireturn, 1) := by decide +kernel
theorem s_sacksOfG {l : Launch} {E : aE} {N : Nat} {S : aS} {M : aM} (hfl : l.stackTraces = false) (b u : Int) (r rb rg t : Int → Int) (hG : lyG S b u r rb rg) (hK : TQ t) (s : Int) (hs : 0 < s ∧ s < 128) (ht : totE (costV t) s ≠ -1) (hA : GA M b t s) : aMt l E pX1_sacksOf [(2, b + 9), (0, s)] N S M (aR (0, (sackF (costV t) (fun g => allV t g % 512) 7 s)) N S M) := by
  refine a_met hfl rfl (by decide +kernel) (Nat.le_of_ble_eq_true rfl) ?_
  have hc := costs_t hK
  have loop := a_loop3 (fun i x n => (0 ≤ i ∧ i ≤ 7) ∧ (0 ≤ x ∧ x < 128) ∧ b_and x (b_xor s (-1)) = 0 ∧ totE (costV t) x ≠ -1 ∧ sumN (hb x) 7 ≤ 7 - i ∧ (0 ≤ n ∧ n ≤ 511 * i) ∧ n + (sackF (costV t) (fun g => allV t g % 512) (7 - i).toNat x) = (sackF (costV t) (fun g => allV t g % 512) 7 s)) (fun i x n => (7 - i).toNat) (fun i x n => aX l E pX1_sacksOf (aR (0, (sackF (costV t) (fun g => allV t g % 512) 7 s)) N S M) 0 0 N S M 7 [(0, (2, b + 9)), (2, (0, n)), (3, (0, x)), (4, (0, i))] []) (by
    intro i x n hI ih
    obtain ⟨h1, h2, h3, h4, h5, h6, h7⟩ := hI
    refine x_iload (pc := 7) dX1_sacksOf_7 rfl ?_
    refine x_bipush (pc := 9) dX1_sacksOf_9 (by decide) ?_
    refine x_icmp_ge (tgt := 49) (pc := 11) dX1_sacksOf_11 (by decide) (fun c_11 => ?_) (fun c_11 => ?_)
    · refine x_iload_n (pc := 49) dX1_sacksOf_49 rfl rfl ?_
      refine x_ireturn (pc := 50) dX1_sacksOf_50 rfl (by decide) ?_
      refine ⟨?_, rfl, rfl, rfl⟩
      have e0 : x = 0 := by
        by_cases e : x = 0
        · exact e
        · have := size_pos (s := x) (by omega)
          omega
      subst e0
      rw [sackF_0] at h7
      rw [← h7, Int.add_zero]
    · refine x_iload_n (pc := 14) dX1_sacksOf_14 rfl rfl ?_
      refine x_if_eq (tgt := 49) (pc := 15) dX1_sacksOf_15 (by decide) (fun c_15 => ?_) (fun c_15 => ?_)
      · refine x_iload_n (pc := 49) dX1_sacksOf_49 rfl rfl ?_
        refine x_ireturn (pc := 50) dX1_sacksOf_50 rfl (by decide) ?_
        refine ⟨?_, rfl, rfl, rfl⟩
        have e0 : x = 0 := by omega
        subst e0
        rw [sackF_0] at h7
        rw [← h7, Int.add_zero]
      · obtain ⟨p1, p2, p3, p4, p5, p6, p7, p8⟩ := first_ok hc (s := x) (by omega) h4
        have hsz := size_xor p1 ⟨by omega, h2.2⟩ p2
        have hx2 := b_xor_lt h2 (y := firstG (costV t) x) (by omega)
        have hxs := (low_ne ⟨by omega, h2.2⟩ p1 p3 p2).2.1
        have hfx : M (b + 12) x = firstG (costV t) x := (hA x (by omega) (sub_le h2 (by omega) h3) h3).1.2.2.2 h4
        have hfs := sub_tr (x := firstG (costV t) x) (y := x) (s := s) (by omega) h2 (by omega) p2 h3
        have hga := hA (firstG (costV t) x) p1.1 (sub_le (by omega) (by omega) hfs) hfs
        have h9 := m512 t (firstG (costV t) x)
        refine x_iload_n (pc := 18) dX1_sacksOf_18 rfl rfl ?_
        refine x_aload_n (pc := 19) dX1_sacksOf_19 rfl rfl ?_
        refine x_getR (jj := 0) (pc := 20) dX1_sacksOf_20 fX1_27 hG.1 rfl (by decide) rfl hG.2.1.1 ?_
        refine x_aload_n (pc := 23) dX1_sacksOf_23 rfl rfl ?_
        refine x_getR (jj := 3) (pc := 24) dX1_sacksOf_24 fX1_18 hG.1 rfl (by decide) rfl hG.2.1.2.2.2.1 ?_
        refine x_iload_n (pc := 27) dX1_sacksOf_27 rfl rfl ?_
        refine x_ialoadV (pc := 28) dX1_sacksOf_28 hG.2.2.2.2.1 (by omega) (by (repeat (first | rewrite [up_s] | rewrite [up_i (by omega)] | rewrite [up_a (by omega)])); first | exact hfx | rfl) (fun g_28 => ?_)
        refine x_callV1 (pc := 29) dX1_sacksOf_29 rfl kX1_58 (s_sacksOfC hfl b u r rb t hG.2.2.2.2.2.2.2 hK (firstG (costV t) x) ⟨by omega, by omega⟩ (hga.2 p4) (all_of_cost p4)) hG.2.2.2.2.2.2.2.1 rfl rfl (Nat.le_of_ble_eq_true rfl) (k_R ?_) n_R
        refine x_iadd (pc := 32) dX1_sacksOf_32 (by omega) ?_
        refine x_istore_n (pc := 33) dX1_sacksOf_33 rfl (by decide) rfl ?_
        refine x_iload_n (pc := 34) dX1_sacksOf_34 rfl rfl ?_
        refine x_aload_n (pc := 35) dX1_sacksOf_35 rfl rfl ?_
        refine x_getR (jj := 3) (pc := 36) dX1_sacksOf_36 fX1_18 hG.1 rfl (by decide) rfl hG.2.1.2.2.2.1 ?_
        refine x_iload_n (pc := 39) dX1_sacksOf_39 rfl rfl ?_
        refine x_ialoadV (pc := 40) dX1_sacksOf_40 hG.2.2.2.2.1 (by omega) (by (repeat (first | rewrite [up_s] | rewrite [up_i (by omega)] | rewrite [up_a (by omega)])); first | exact hfx | rfl) (fun g_40 => ?_)
        refine x_ixor (pc := 41) dX1_sacksOf_41 ?_
        refine x_istore_n (pc := 42) dX1_sacksOf_42 rfl (by decide) rfl ?_
        refine x_iinc (pc := 43) dX1_sacksOf_43 rfl (by omega) (by decide) rfl ?_
        refine x_goto (tgt := 7) (pc := 46) dX1_sacksOf_46 (by decide) ?_
        refine x_lo (lo' := [(0, (2, b + 9)), (2, (0, n + allV t (firstG (costV t) x) % 512)), (3, (0, b_xor x (firstG (costV t) x))), (4, (0, i + 1))]) ⟨rfl, rfl, rfl, rfl, trivial⟩ (ih (i + 1) _ _ ⟨by omega, hx2, sub_tr hx2 h2 (by omega) hxs h3, p5, by omega, by omega, ?_⟩ (by omega))
        rw [show (7 - i).toNat = (7 - (i + 1)).toNat + 1 by omega, sackF_1 (by omega)] at h7
        omega)
  refine x_iconst (pc := 0) dX1_sacksOf_0 (by decide) ?_
  refine x_istore_n (pc := 1) dX1_sacksOf_1 rfl (by decide) rfl ?_
  refine x_iload_n (pc := 2) dX1_sacksOf_2 rfl rfl ?_
  refine x_istore_n (pc := 3) dX1_sacksOf_3 rfl (by decide) rfl ?_
  refine x_iconst (pc := 4) dX1_sacksOf_4 (by decide) ?_
  refine x_istore (pc := 5) dX1_sacksOf_5 (by decide) rfl ?_
  refine x_lo (lo' := [(0, (2, b + 9)), (2, (0, 0)), (3, (0, s)), (4, (0, 0))]) ⟨rfl, rfl, rfl, rfl, trivial⟩ (loop (0) (s) (0) ⟨by omega, by omega, sub_rf (by omega), ht, (size_r (by omega)).2, by omega, Int.zero_add _⟩)
theorem s_addStep {l : Launch} {E : aE} {N : Nat} {S : aS} {M : aM} (hfl : l.stackTraces = false) (u a p n0 : Int) (hS : lyT S u) (h1 : M u 1 = n0) (hn : 0 ≤ n0 ∧ n0 < 6) : aMt l E pX8_addStep [(2, u), (0, a), (0, p)] N S M (aU N S (fun M' => M' = up (up (up M (u + 1) n0 a) (u + 2) n0 p) u 1 (n0 + 1))) := by
  refine a_met hfl rfl (by decide +kernel) (Nat.le_of_ble_eq_true rfl) ?_
  refine x_aload_n (pc := 0) dX8_addStep_0 rfl rfl ?_
  refine x_getIV (jj := 1) (pc := 1) dX8_addStep_1 fX8_35 (hS).1 rfl (by decide) rfl (by (repeat (first | rewrite [up_s] | rewrite [up_i (by omega)] | rewrite [up_a (by omega)])); first | exact h1 | rfl) ?_
  refine x_bipush (pc := 4) dX8_addStep_4 (by decide) ?_
  refine x_icmp_ge (tgt := 39) (pc := 6) dX8_addStep_6 (by decide) (fun c_6 => ?_) (fun c_6 => ?_)
  · refine x_return (pc := 39) dX8_addStep_39 rfl (by decide) ?_
    exfalso; omega
  · refine x_aload_n (pc := 9) dX8_addStep_9 rfl rfl ?_
    refine x_getR (jj := 2) (pc := 10) dX8_addStep_10 fX8_11 (hS).1 rfl (by decide) rfl rT_2 ?_
    refine x_aload_n (pc := 13) dX8_addStep_13 rfl rfl ?_
    refine x_getIV (jj := 1) (pc := 14) dX8_addStep_14 fX8_35 (hS).1 rfl (by decide) rfl (by (repeat (first | rewrite [up_s] | rewrite [up_i (by omega)] | rewrite [up_a (by omega)])); first | exact h1 | rfl) ?_
    refine x_iload_n (pc := 17) dX8_addStep_17 rfl rfl ?_
    refine x_iastore (pc := 18) dX8_addStep_18 (hS).2.1 (by omega) ?_
    refine x_aload_n (pc := 19) dX8_addStep_19 rfl rfl ?_
    refine x_getR (jj := 3) (pc := 20) dX8_addStep_20 fX8_15 (hS).1 rfl (by decide) rfl rT_3 ?_
    refine x_aload_n (pc := 23) dX8_addStep_23 rfl rfl ?_
    refine x_getIV (jj := 1) (pc := 24) dX8_addStep_24 fX8_35 (hS).1 rfl (by decide) rfl (by (repeat (first | rewrite [up_s] | rewrite [up_i (by omega)] | rewrite [up_a (by omega)])); first | exact h1 | rfl) ?_
    refine x_iload_n (pc := 27) dX8_addStep_27 rfl rfl ?_
    refine x_iastore (pc := 28) dX8_addStep_28 (hS).2.2.1 (by omega) ?_
    refine x_aload_n (pc := 29) dX8_addStep_29 rfl rfl ?_
    refine x_dup (pc := 30) dX8_addStep_30 rfl ?_
    refine x_getIV (jj := 1) (pc := 31) dX8_addStep_31 fX8_35 (hS).1 rfl (by decide) rfl (by (repeat (first | rewrite [up_s] | rewrite [up_i (by omega)] | rewrite [up_a (by omega)])); first | exact h1 | rfl) ?_
    refine x_iconst (pc := 34) dX8_addStep_34 (by decide) ?_
    refine x_iadd (pc := 35) dX8_addStep_35 (by omega) ?_
    refine x_putI (jj := 1) (pc := 36) dX8_addStep_36 fX8_35 (hS).1 rfl (by decide) rfl ?_
    refine x_return (pc := 39) dX8_addStep_39 rfl (by decide) ?_
    exact ⟨rfl, rfl, rfl, rfl⟩
theorem s_X3forgetS {l : Launch} {E : aE} {N : Nat} {S : aS} {M : aM} (hfl : l.stackTraces = false) (hC : lyC S) : aMt l E pX3_forgetAll [(2, 94)] N S M (aU N S (fun M' => M' = flM M 95 (-1) 128)) := by
  refine a_met hfl rfl (by decide +kernel) (Nat.le_of_ble_eq_true rfl) ?_
  refine x_aload_n (pc := 0) dX3_forgetAll_0 rfl rfl ?_
  refine x_getR (jj := 3) (pc := 1) dX3_forgetAll_1 fX3_9 (sC_94 hC) rfl (by decide) rfl rC_94_3 ?_
  refine x_iconst (pc := 4) dX3_forgetAll_4 (by decide) ?_
  refine x_callS2 (pc := 5) dX3_forgetAll_5 rfl kX3_33 (s_fill hfl 95 (-1) 128 rN (sC_95 hC) (by omega)) rfl (Nat.le_of_ble_eq_true rfl) (k_U (fun M9 hM9 => ?_)) n_U
  refine x_return (pc := 8) dX3_forgetAll_8 rfl (by decide) ?_
  exact ⟨rfl, rfl, rfl, hM9⟩
theorem s_gainC {l : Launch} {E : aE} {N : Nat} {S : aS} {M : aM} (hfl : l.stackTraces = false) (t : Int → Int) (s k : Int) (hC : lyC S) (hT : RTar M 83 t) (hK : TQ t) (hB : TB t) (hH : RHs M 1 t) (hs : 0 < s ∧ s < 128) (hk : 0 ≤ k ∧ k ≤ 20) (h5 : M 82 5 = s) (h7 : M 82 7 = k) (hz : M 90 0 = 0 ∧ M 91 0 = 0 ∧ M 93 0 = 0 ∧ M 100 0 = 0 ∧ M 102 0 = 0) (ho : ∀ x, 0 ≤ x → x < 128 → M 103 x = onesV x) : aMt l E pX6_gain [(2, 82)] N S M (aG N S (fun v M' => v = (0, gainT t s k) ∧ frB M M' 89 103 ∧ (M' 90 0 = 0 ∧ M' 91 0 = 0 ∧ M' 93 0 = 0 ∧ M' 100 0 = 0 ∧ M' 102 0 = 0))) := by
  refine a_met hfl rfl (by decide +kernel) (Nat.le_of_ble_eq_true rfl) ?_
  refine x_aload_n (pc := 0) dX6_gain_0 rfl rfl ?_
  refine x_getR (jj := 2) (pc := 1) dX6_gain_1 fX6_27 (sC_82 hC) rfl (by decide) rfl rC_82_2 ?_
  refine x_callV0 (pc := 4) dX6_gain_4 rfl kX6_93 (s_X4forget hfl 89 0 rC_89 (sC_89 hC)) (sC_89 hC) rfl rfl (Nat.le_of_ble_eq_true rfl) (k_U (fun M1 hM9 => ?_)) n_U
  subst hM9
  refine x_aload_n (pc := 7) dX6_gain_7 rfl rfl ?_
  refine x_getR (jj := 3) (pc := 8) dX6_gain_8 fX6_36 (sC_82 hC) rfl (by decide) rfl rC_82_3 ?_
  refine x_callV0 (pc := 11) dX6_gain_11 rfl kX6_96 (s_X3forgetS hfl hC) (sC_94 hC) rfl rfl (Nat.le_of_ble_eq_true rfl) (k_U (fun M2 hM2 => ?_)) n_U
  have f2 : ∀ a i, a ≠ 95 → ¬ (a = 89 ∧ i = 5) → M2 a i = M a i := fun a i x y => by rw [hM2, flM_a x, up_w y]
  have f95 : ∀ i, 0 ≤ i → i < 128 → M2 95 i = -1 := fun i x y => by rw [hM2]; exact flM_s ⟨x, y⟩
  have f89 : M2 89 5 = 0 := by rw [hM2, flM_a (by omega)]; exact up_s
  clear hM2
  have e5 : M2 82 5 = s := (f2 _ _ (by omega) (by omega)).trans h5
  refine x_aload_n (pc := 14) dX6_gain_14 rfl rfl ?_
  refine x_getR (jj := 4) (pc := 15) dX6_gain_15 fX6_45 (sC_82 hC) rfl (by decide) rfl rC_82_4 ?_
  refine x_aload_n (pc := 18) dX6_gain_18 rfl rfl ?_
  refine x_getIV (jj := 5) (pc := 19) dX6_gain_19 fX6_49 (sC_82 hC) rfl (by decide) rfl (by (repeat (first | rewrite [up_s] | rewrite [up_i (by omega)] | rewrite [up_a (by omega)])); first | exact e5 | exact e5b | exact e7b | exact hgs.1.2.1.trans het | rfl) ?_
  refine x_callV1 (pc := 22) dX6_gain_22 rfl kX6_99 (s_reckon hfl 89 83 rC_94 rC_89 rC_98 t hC.se (by omega) hK hB (hH.cg fun a x y i => f2 a i (by omega) (by omega)) (hT.cg fun a x y i => f2 a i (by omega) (by omega)) ⟨by omega, fun q a b => by omega, (f2 _ _ (by omega) (by omega)).trans hz.1, (f2 _ _ (by omega) (by omega)).trans hz.2.1, (f2 _ _ (by omega) (by omega)).trans hz.2.2.1⟩ (fun x a b => Or.inl (f95 x a b)) ⟨fun x a b => (f2 _ _ (by omega) (by omega)).trans (ho x a b), (f2 _ _ (by omega) (by omega)).trans hz.2.2.2.1, (f2 _ _ (by omega) (by omega)).trans hz.2.2.2.2⟩ s hs) (sC_98 hC) rfl rfl (Nat.le_of_ble_eq_true rfl) (k_G (fun v9 M9 hM9 => ?_)) n_G
  obtain ⟨rfl, f9, p9, w9, z9, g9⟩ := hM9
  have hgr := gainT_r hK hs hk
  have F9 : frB M M9 89 103 := fun a i x => (f9 a i (by omega)).trans (f2 a i (by omega) (by omega))
  have Z9 : M9 90 0 = 0 ∧ M9 91 0 = 0 ∧ M9 93 0 = 0 ∧ M9 100 0 = 0 ∧ M9 102 0 = 0 := ⟨p9.2.2.1, p9.2.2.2.1, p9.2.2.2.2, z9.2.1, z9.2.2⟩
  refine x_if_ne (tgt := 31) (pc := 25) dX6_gain_25 (by decide) (fun c_25 => ?_) (fun c_25 => ?_)
  · have ht : totE (costV t) s ≠ -1 := fun q => by rw [if_pos q] at c_25; exact c_25 rfl
    have hgs := g9 s hs.1 (Int.le_refl s) (sub_rf (by omega))
    have hto := totV_or (c := costV t) s
    have het : encT (totE (costV t) s) = totV (costV t) s := by omega
    have hlt := totE_lt (costs_t hK) (s := s) (by omega)
    have e5b : M9 82 5 = s := (F9 82 5 (by omega)).trans h5
    have e7b : M9 82 7 = k := (F9 82 7 (by omega)).trans h7
    refine x_aload_n (pc := 31) dX6_gain_31 rfl rfl ?_
    refine x_getR (jj := 4) (pc := 32) dX6_gain_32 fX6_45 (sC_82 hC) rfl (by decide) rfl rC_82_4 ?_
    refine x_getR (jj := 2) (pc := 35) dX6_gain_35 fX6_103 (sC_98 hC) rfl (by decide) rfl rC_98_2 ?_
    refine x_aload_n (pc := 38) dX6_gain_38 rfl rfl ?_
    refine x_getIV (jj := 5) (pc := 39) dX6_gain_39 fX6_49 (sC_82 hC) rfl (by decide) rfl (by (repeat (first | rewrite [up_s] | rewrite [up_i (by omega)] | rewrite [up_a (by omega)])); first | exact e5 | exact e5b | exact e7b | exact hgs.1.2.1.trans het | rfl) ?_
    refine x_ialoadV (pc := 42) dX6_gain_42 (sC_100 hC) (by omega) (by (repeat (first | rewrite [up_s] | rewrite [up_i (by omega)] | rewrite [up_a (by omega)])); first | exact e5 | exact e5b | exact e7b | exact hgs.1.2.1.trans het | rfl) (fun g_42 => ?_)
    refine x_aload_n (pc := 43) dX6_gain_43 rfl rfl ?_
    refine x_getIV (jj := 7) (pc := 44) dX6_gain_44 fX6_56 (sC_82 hC) rfl (by decide) rfl (by (repeat (first | rewrite [up_s] | rewrite [up_i (by omega)] | rewrite [up_a (by omega)])); first | exact e5 | exact e5b | exact e7b | exact hgs.1.2.1.trans het | rfl) ?_
    refine x_aload_n (pc := 47) dX6_gain_47 rfl rfl ?_
    refine x_getR (jj := 4) (pc := 48) dX6_gain_48 fX6_45 (sC_82 hC) rfl (by decide) rfl rC_82_4 ?_
    refine x_aload_n (pc := 51) dX6_gain_51 rfl rfl ?_
    refine x_getIV (jj := 5) (pc := 52) dX6_gain_52 fX6_49 (sC_82 hC) rfl (by decide) rfl (by (repeat (first | rewrite [up_s] | rewrite [up_i (by omega)] | rewrite [up_a (by omega)])); first | exact e5 | exact e5b | exact e7b | exact hgs.1.2.1.trans het | rfl) ?_
    refine x_callV1 (pc := 55) dX6_gain_55 rfl kX6_107 (s_sacksOfG hfl 89 83 rC_94 rC_89 rC_98 t hC.se hK s hs ht g9) (sC_98 hC) rfl rfl (Nat.le_of_ble_eq_true rfl) (k_R ?_) n_R
    refine x_imul (pc := 58) dX6_gain_58 (by omega) ?_
    refine x_isub (pc := 59) dX6_gain_59 (by omega) ?_
    refine x_ireturn (pc := 60) dX6_gain_60 rfl (by decide) ?_
    refine ⟨_, rfl, rfl, rfl, ?_, F9, Z9⟩
    unfold gainT
    rw [if_neg ht]
  · refine x_ldc (n := -1000000) (pc := 28) cX6_71 (by decide) dX6_gain_28 ?_
    refine x_ireturn (pc := 30) dX6_gain_30 rfl (by decide) ?_
    have ht : totE (costV t) s = -1 := by
      by_cases q : totE (costV t) s = -1
      · exact q
      · rw [if_neg q] at c_25; omega
    refine ⟨_, rfl, rfl, rfl, ?_, F9, Z9⟩
    unfold gainT
    rw [if_pos ht]
theorem s_keepIfMore {l : Launch} {E : aE} {N : Nat} {S : aS} {M : aM} (hfl : l.stackTraces = false) (n r v : Int) (hC : lyC S) : aMt l E pX6_keepIfMore [(2, 82), (0, n), (0, r), (0, v)] N S M (aU N S (fun M' => (∀ a i, ¬ (a = 82 ∧ 8 ≤ i ∧ i ≤ 10) → M' a i = M a i) ∧ (M' 82 8, M' 82 9, M' 82 10) = upG (M 82 8, M 82 9, M 82 10) n r v)) := by
  refine a_met hfl rfl (by decide +kernel) (Nat.le_of_ble_eq_true rfl) ?_
  refine x_iload_n (pc := 0) dX6_keepIfMore_0 rfl rfl ?_
  refine x_aload_n (pc := 1) dX6_keepIfMore_1 rfl rfl ?_
  refine x_getIV (jj := 10) (pc := 2) dX6_keepIfMore_2 fX6_72 (sC_82 hC) rfl (by decide) rfl (by (repeat (first | rewrite [up_s] | rewrite [up_i (by omega)] | rewrite [up_a (by omega)])); rfl) ?_
  refine x_icmp_le (tgt := 23) (pc := 5) dX6_keepIfMore_5 (by decide) (fun c_5 => ?_) (fun c_5 => ?_)
  · refine x_return (pc := 23) dX6_keepIfMore_23 rfl (by decide) ?_
    refine ⟨rfl, rfl, rfl, fun a i q => rfl, ?_⟩
    unfold upG
    rw [if_neg (show ¬ M 82 10 < v by omega)]
  · refine x_aload_n (pc := 8) dX6_keepIfMore_8 rfl rfl ?_
    refine x_iload_n (pc := 9) dX6_keepIfMore_9 rfl rfl ?_
    refine x_putI (jj := 8) (pc := 10) dX6_keepIfMore_10 fX6_65 (sC_82 hC) rfl (by decide) rfl ?_
    refine x_aload_n (pc := 13) dX6_keepIfMore_13 rfl rfl ?_
    refine x_iload_n (pc := 14) dX6_keepIfMore_14 rfl rfl ?_
    refine x_putI (jj := 9) (pc := 15) dX6_keepIfMore_15 fX6_68 (sC_82 hC) rfl (by decide) rfl ?_
    refine x_aload_n (pc := 18) dX6_keepIfMore_18 rfl rfl ?_
    refine x_iload_n (pc := 19) dX6_keepIfMore_19 rfl rfl ?_
    refine x_putI (jj := 10) (pc := 20) dX6_keepIfMore_20 fX6_72 (sC_82 hC) rfl (by decide) rfl ?_
    refine x_return (pc := 23) dX6_keepIfMore_23 rfl (by decide) ?_
    refine ⟨rfl, rfl, rfl, fun a i q => ?_, ?_⟩
    · rw [up_w (by omega), up_w (by omega), up_w (by omega)]
    · unfold upG
      rw [if_pos (show M 82 10 < v by omega), up_s, up_i (by omega), up_i (by omega), up_s, up_i (by omega), up_s]
