/-! the class's seller: seek -/
def SI (M0 M1 : aM) (t : Int → Int) (s p k : Int) : Prop := frB M0 M1 82 103 ∧ RTs M1 83 t ∧ (M1 82 5 = s ∧ M1 82 6 = p ∧ M1 82 7 = k) ∧ (M1 90 0 = 0 ∧ M1 91 0 = 0 ∧ M1 93 0 = 0 ∧ M1 100 0 = 0 ∧ M1 102 0 = 0)
theorem SI.rt {M0 M1 : aM} {t : Int → Int} {s p k : Int} (h : SI M0 M1 t s p k) : RTs M1 83 t := h.2.1
theorem SI.s5 {M0 M1 : aM} {t : Int → Int} {s p k : Int} (h : SI M0 M1 t s p k) : M1 82 5 = s := h.2.2.1.1
theorem SI.s7 {M0 M1 : aM} {t : Int → Int} {s p k : Int} (h : SI M0 M1 t s p k) : M1 82 7 = k := h.2.2.1.2.2
/-- steps written -/
theorem SI.stp {M0 M1 M2 : aM} {t : Int → Int} {s p k : Int} (h : SI M0 M1 t s p k) (f : ∀ a i, a ≠ 84 → a ≠ 85 → ¬ (a = 83 ∧ i = 1) → M2 a i = M1 a i) : SI M0 M2 t s p k := by
  obtain ⟨h1, h2, ⟨h3, h4, h5⟩, h6, h7, h8, h9, h10⟩ := h
  exact ⟨fun a i q => (f a i (by omega) (by omega) (by omega)).trans (h1 a i q), h2.cg fun a i x y z w v => f a i (by omega) (by omega) v, ⟨(f _ _ (by omega) (by omega) (by omega)).trans h3, (f _ _ (by omega) (by omega) (by omega)).trans h4, (f _ _ (by omega) (by omega) (by omega)).trans h5⟩, (f _ _ (by omega) (by omega) (by omega)).trans h6, (f _ _ (by omega) (by omega) (by omega)).trans h7, (f _ _ (by omega) (by omega) (by omega)).trans h8, (f _ _ (by omega) (by omega) (by omega)).trans h9, (f _ _ (by omega) (by omega) (by omega)).trans h10⟩
/-- a gain reckoned -/
theorem SI.gn {M0 M1 M2 : aM} {t : Int → Int} {s p k : Int} (h : SI M0 M1 t s p k) (f : frB M1 M2 89 103) (z : M2 90 0 = 0 ∧ M2 91 0 = 0 ∧ M2 93 0 = 0 ∧ M2 100 0 = 0 ∧ M2 102 0 = 0) : SI M0 M2 t s p k :=
  ⟨fun a i q => (f a i (by omega)).trans (h.1 a i q), h.2.1.cg fun a i x y _ _ _ => f a i (by omega), ⟨(f _ _ (by omega)).trans h.2.2.1.1, (f _ _ (by omega)).trans h.2.2.1.2.1, (f _ _ (by omega)).trans h.2.2.1.2.2⟩, z⟩
theorem SI.kp {M0 M1 M2 : aM} {t : Int → Int} {s p k : Int} (h : SI M0 M1 t s p k) (f : ∀ a i, ¬ (a = 82 ∧ 8 ≤ i ∧ i ≤ 10) → M2 a i = M1 a i) : SI M0 M2 t s p k := by
  obtain ⟨h1, h2, ⟨h3, h4, h5⟩, h6, h7, h8, h9, h10⟩ := h
  exact ⟨fun a i q => (f a i (by omega)).trans (h1 a i q), h2.cg fun a i x y _ _ _ => f a i (by omega), ⟨(f _ _ (by omega)).trans h3, (f _ _ (by omega)).trans h4, (f _ _ (by omega)).trans h5⟩, (f _ _ (by omega)).trans h6, (f _ _ (by omega)).trans h7, (f _ _ (by omega)).trans h8, (f _ _ (by omega)).trans h9, (f _ _ (by omega)).trans h10⟩
theorem SI.kq {M0 M1 M2 : aM} {t : Int → Int} {s p k : Int} (h : SI M0 M1 t s p k) (f : ∀ a i, ¬ (a = 82 ∧ 8 ≤ i) → M2 a i = M1 a i) : SI M0 M2 t s p k := by
  obtain ⟨h1, h2, ⟨h3, h4, h5⟩, h6, h7, h8, h9, h10⟩ := h
  exact ⟨fun a i q => (f a i (by omega)).trans (h1 a i q), h2.cg fun a i x y _ _ _ => f a i (by omega), ⟨(f _ _ (by omega)).trans h3, (f _ _ (by omega)).trans h4, (f _ _ (by omega)).trans h5⟩, (f _ _ (by omega)).trans h6, (f _ _ (by omega)).trans h7, (f _ _ (by omega)).trans h8, (f _ _ (by omega)).trans h9, (f _ _ (by omega)).trans h10⟩
theorem RHs.sp {M : aM} {t : Int → Int} {p n r : Int} (h : RHs M 1 t) : RHs M 1 (stepT t p n r) := h.ct fun j a b => stepT_o (by omega)
theorem RHs.si {M0 M1 : aM} {t : Int → Int} {s p k : Int} (h : RHs M0 1 t) (e : SI M0 M1 t s p k) : RHs M1 1 t := h.cg fun a x y i => e.1 a i (by omega)
theorem fld11 {M1 : aM} {x : Int × Int × Int} (h : (M1 82 8, M1 82 9, M1 82 10) = x) : M1 82 8 = x.1 ∧ M1 82 9 = x.2.1 ∧ M1 82 10 = x.2.2 := by rw [← h]; exact ⟨rfl, rfl, rfl⟩
theorem RC.sl {M M' A : aM} {N : Nat} {S : aS} (h : RC M N S A) (g : frB M M' 82 103) (z : M' 90 0 = 0 ∧ M' 91 0 = 0 ∧ M' 93 0 = 0 ∧ M' 100 0 = 0 ∧ M' 102 0 = 0) (hE : RSe M' (A 0)) : RC M' N S A := by
  obtain ⟨h1, h2, h3, h4, h5, h6, h7, ⟨k1, k2, k3, k4, k5, k6, k7, k8⟩, h9⟩ := h
  exact ⟨⟨h1.1.cg fun a x y i => g a i (by omega), h1.2.cg fun a x y i => g a i (by omega)⟩, h2.cg (fun i => g 0 i (by omega)), h3.cg (fun i => g 17 i (by omega)) (fun i => g 18 i (by omega)), h4.cg (fun i => g 105 i (by omega)) (fun i => g 106 i (by omega)) (fun i => g 107 i (by omega)), h5.cg (fun i => g 16 i (by omega)) (fun a x i => g a i (by omega)), h6.cg fun a x y i => g a i (by omega), h7.cg fun i => g 31 i (by omega), ⟨fun s a b => ⟨(g 39 s (by omega)).trans (k1 s a b).1, (g 103 s (by omega)).trans (k1 s a b).2⟩, z.1, z.2.1, z.2.2.1, (g 36 0 (by omega)).trans k5, (g 38 0 (by omega)).trans k6, z.2.2.2.1, z.2.2.2.2⟩, hE⟩
theorem s_seek {l : Launch} {E : aE} {N : Nat} {S : aS} {M : aM} (hfl : l.stackTraces = false) (t : Int → Int) (s p k : Int) (hC : lyC S) (hT : RTar M 2 t) (hK : TQ t) (hB : TB t) (hH : RHs M 1 t) (hs : 0 < s ∧ s < 128) (hp : 2 ≤ p ∧ p ≤ 20) (hk : 0 ≤ k ∧ k ≤ 20) (hz : M 90 0 = 0 ∧ M 91 0 = 0 ∧ M 93 0 = 0 ∧ M 100 0 = 0 ∧ M 102 0 = 0) (ho : ∀ x, 0 ≤ x → x < 128 → M 103 x = onesV x) (hE : RSe M t) : aMt l E pX6_seek [(2, 82), (0, s), (0, p), (0, k)] N S M (aU N S (fun M' => frB M M' 82 103 ∧ (M' 90 0 = 0 ∧ M' 91 0 = 0 ∧ M' 93 0 = 0 ∧ M' 100 0 = 0 ∧ M' 102 0 = 0) ∧ (M' 82 5 = s ∧ M' 82 6 = p ∧ M' 82 7 = k) ∧ (M' 82 8, M' 82 9, M' 82 10) = selV t s p k ∧ M' 82 11 = plainG t s p k)) := by
  refine a_met hfl rfl (by decide +kernel) (Nat.le_of_ble_eq_true rfl) ?_
  have hG : ∀ n r, 2 ≤ n → n ≤ 12 → 1 ≤ r → r < p → gainT (stepT t p n r) s k ≤ plainG t s p k := fun n r a b c d => gain_le hK hp ⟨a, b⟩ ⟨c, d⟩ hs hk.1
  have lpA := a_loop2 (fun i M1 => i ≤ 11 ∧ SI M M1 t s p k ∧ (M1 82 8, M1 82 9, M1 82 10) = selN t s p k i ∧ M1 82 11 = plainG t s p k ∧ M1 84 0 = 1 ∧ M1 85 0 = p) (fun i M1 => 11 - i) (fun i M1 => aX l E pX6_seek (aU N S (fun M' => frB M M' 82 103 ∧ (M' 90 0 = 0 ∧ M' 91 0 = 0 ∧ M' 93 0 = 0 ∧ M' 100 0 = 0 ∧ M' 102 0 = 0) ∧ (M' 82 5 = s ∧ M' 82 6 = p ∧ M' 82 7 = k) ∧ (M' 82 8, M' 82 9, M' 82 10) = selV t s p k ∧ M' 82 11 = plainG t s p k)) 0 0 N S M1 98 [(0, (2, 82)), (1, (0, s)), (2, (0, p)), (3, (0, k)), (4, (0, (i : Int) + 2))] []) (by
    intro i M1 hI ih
    obtain ⟨j1, j2, j3, j4, j5⟩ := hI
    refine x_iload (pc := 98) dX6_seek_98 rfl ?_
    refine x_bipush (pc := 100) dX6_seek_100 (by decide) ?_
    refine x_icmp_gt (tgt := 179) (pc := 102) dX6_seek_102 (by decide) (fun c_102 => ?_) (fun c_102 => ?_)
    · refine x_return (pc := 179) dX6_seek_179 rfl (by decide) ?_
      have ei : i = 11 := by omega
      subst ei
      exact ⟨rfl, rfl, rfl, j2.1, j2.2.2.2, j2.2.2.1, j3, j4⟩
    · refine x_aload_n (pc := 105) dX6_seek_105 rfl rfl ?_
      refine x_getIV (jj := 10) (pc := 106) dX6_seek_106 fX6_72 (sC_82 hC) rfl (by decide) rfl (by (repeat (first | rewrite [up_s] | rewrite [up_i (by omega)] | rewrite [up_a (by omega)])); rfl) ?_
      refine x_aload_n (pc := 109) dX6_seek_109 rfl rfl ?_
      refine x_getIV (jj := 11) (pc := 110) dX6_seek_110 fX6_86 (sC_82 hC) rfl (by decide) rfl (by (repeat (first | rewrite [up_s] | rewrite [up_i (by omega)] | rewrite [up_a (by omega)])); rfl) ?_
      refine x_icmp_ge (tgt := 179) (pc := 113) dX6_seek_113 (by decide) (fun c_113 => ?_) (fun c_113 => ?_)
      · refine x_return (pc := 179) dX6_seek_179 rfl (by decide) ?_
        have g9 : plainG t s p k ≤ (selN t s p k i).2.2 := by
          have := (fld11 j3).2.2
          omega
        exact ⟨rfl, rfl, rfl, j2.1, j2.2.2.2, j2.2.2.1, j3.trans (selN_end (by omega) hG j1 g9).symm, j4⟩
      · refine x_iconst (pc := 116) dX6_seek_116 (by decide) ?_
        refine x_istore (pc := 117) dX6_seek_117 (by decide) rfl ?_
        have lpB := a_loop2 (fun j M2 => j ≤ (p - 1).toNat ∧ SI M M2 t s p k ∧ (M2 82 8, M2 82 9, M2 82 10) = selR t s p k ((i : Int) + 2) j (selN t s p k i) ∧ M2 82 11 = plainG t s p k ∧ M2 84 0 = 1 ∧ M2 85 0 = p) (fun j M2 => (p - 1).toNat - j) (fun j M2 => aX l E pX6_seek (aU N S (fun M' => frB M M' 82 103 ∧ (M' 90 0 = 0 ∧ M' 91 0 = 0 ∧ M' 93 0 = 0 ∧ M' 100 0 = 0 ∧ M' 102 0 = 0) ∧ (M' 82 5 = s ∧ M' 82 6 = p ∧ M' 82 7 = k) ∧ (M' 82 8, M' 82 9, M' 82 10) = selV t s p k ∧ M' 82 11 = plainG t s p k)) 0 0 N S M2 119 [(0, (2, 82)), (1, (0, s)), (2, (0, p)), (3, (0, k)), (4, (0, (i : Int) + 2)), (5, (0, (j : Int) + 1))] []) (by
          intro j M2 hJ ih2
          obtain ⟨k1, k2, k3, k4, k5⟩ := hJ
          refine x_iload (pc := 119) dX6_seek_119 rfl ?_
          refine x_iload_n (pc := 121) dX6_seek_121 rfl rfl ?_
          refine x_icmp_ge (tgt := 173) (pc := 122) dX6_seek_122 (by decide) (fun c_122 => ?_) (fun c_122 => ?_)
          · refine x_iinc (pc := 173) dX6_seek_173 rfl (by omega) (by decide) rfl ?_
            refine x_goto (tgt := 98) (pc := 176) dX6_seek_176 (by decide) ?_
            have ej : j = (p - 1).toNat := by omega
            subst ej
            exact x_lo (lo' := [(0, (2, 82)), (1, (0, s)), (2, (0, p)), (3, (0, k)), (4, (0, ((i + 1 : Nat) : Int) + 2))]) ⟨rfl, rfl, rfl, rfl, rfl, trivial⟩ (ih (i + 1) M2 ⟨by omega, k2, k3, k4, k5⟩ (by omega))
          · refine x_aload_n (pc := 125) dX6_seek_125 rfl rfl ?_
            refine x_getIV (jj := 10) (pc := 126) dX6_seek_126 fX6_72 (sC_82 hC) rfl (by decide) rfl (by (repeat (first | rewrite [up_s] | rewrite [up_i (by omega)] | rewrite [up_a (by omega)])); rfl) ?_
            refine x_aload_n (pc := 129) dX6_seek_129 rfl rfl ?_
            refine x_getIV (jj := 11) (pc := 130) dX6_seek_130 fX6_86 (sC_82 hC) rfl (by decide) rfl (by (repeat (first | rewrite [up_s] | rewrite [up_i (by omega)] | rewrite [up_a (by omega)])); rfl) ?_
            refine x_icmp_ge (tgt := 173) (pc := 133) dX6_seek_133 (by decide) (fun c_133 => ?_) (fun c_133 => ?_)
            · refine x_iinc (pc := 173) dX6_seek_173 rfl (by omega) (by decide) rfl ?_
              refine x_goto (tgt := 98) (pc := 176) dX6_seek_176 (by decide) ?_
              have g9 : plainG t s p k ≤ (selR t s p k ((i : Int) + 2) j (selN t s p k i)).2.2 := by
                have := (fld11 k3).2.2
                omega
              have e9 := selR_end (G := plainG t s p k) (fun r a b => hG ((i : Int) + 2) r (by omega) (by omega) a b) k1 (by omega) g9
              exact x_lo (lo' := [(0, (2, 82)), (1, (0, s)), (2, (0, p)), (3, (0, k)), (4, (0, ((i + 1 : Nat) : Int) + 2))]) ⟨rfl, rfl, rfl, rfl, rfl, trivial⟩ (ih (i + 1) M2 ⟨by omega, k2, k3.trans e9.symm, k4, k5⟩ (by omega))
            · refine x_aload_n (pc := 136) dX6_seek_136 rfl rfl ?_
              refine x_getR (jj := 1) (pc := 137) dX6_seek_137 fX6_12 (sC_82 hC) rfl (by decide) rfl rC_82_1 ?_
              refine x_iconst (pc := 140) dX6_seek_140 (by decide) ?_
              refine x_putI (jj := 1) (pc := 141) dX6_seek_141 fX6_75 (hC.2.2.2.1).1 rfl (by decide) rfl ?_
              refine x_aload_n (pc := 144) dX6_seek_144 rfl rfl ?_
              refine x_getR (jj := 1) (pc := 145) dX6_seek_145 fX6_12 (sC_82 hC) rfl (by decide) rfl rC_82_1 ?_
              refine x_iload (pc := 148) dX6_seek_148 rfl ?_
              refine x_iload (pc := 150) dX6_seek_150 rfl ?_
              refine x_callV2 (pc := 152) dX6_seek_152 rfl kX6_78 (s_addStep hfl 83 ((i : Int) + 2) ((j : Int) + 1) 1 hC.2.2.2.1 up_s (by decide)) (hC.2.2.2.1).1 rfl rfl (Nat.le_of_ble_eq_true rfl) (k_U (fun M6 hM6 => ?_)) n_U
              have f6 : ∀ a i, a ≠ 84 → a ≠ 85 → ¬ (a = 83 ∧ i = 1) → M6 a i = M2 a i := fun a i x y z => by
                rw [hM6, up_w z, up_a (by omega), up_a (by omega), up_w z]
              have q1 : M6 83 1 = 2 := by rw [hM6]; exact up_s
              have q2 : M6 84 0 = 1 := by rw [hM6, up_a (by omega), up_a (by omega), up_i (by omega), up_a (by omega)]; exact k5.1
              have q3 : M6 85 0 = p := by rw [hM6, up_a (by omega), up_i (by omega), up_a (by omega), up_a (by omega)]; exact k5.2
              have q4 : M6 84 1 = (i : Int) + 2 := by rw [hM6, up_a (by omega), up_a (by omega)]; exact up_s
              have q5 : M6 85 1 = (j : Int) + 1 := by rw [hM6, up_a (by omega)]; exact up_s
              clear hM6
              have S6 : SI M M6 t s p k := k2.stp f6
              have T6 : RTar M6 83 (stepT t p ((i : Int) + 2) ((j : Int) + 1)) := S6.rt.st (by rw [if_neg (by omega)]; exact q1) ⟨q2, q3⟩ fun _ => ⟨q4, q5⟩
              have K6 : TQ (stepT t p ((i : Int) + 2) ((j : Int) + 1)) := stepT_tq hK (by omega) (Or.inr (by omega))
              refine x_aload_n (pc := 155) dX6_seek_155 rfl rfl ?_
              refine x_iload (pc := 156) dX6_seek_156 rfl ?_
              refine x_iload (pc := 158) dX6_seek_158 rfl ?_
              refine x_aload_n (pc := 160) dX6_seek_160 rfl rfl ?_
              refine x_callV0 (pc := 161) dX6_seek_161 rfl kX6_82 (s_gainC hfl (stepT t p ((i : Int) + 2) ((j : Int) + 1)) s k hC T6 K6 (stepT_tb hB) (hH.si S6).sp hs hk S6.s5 S6.s7 S6.2.2.2 (fun x a b => (S6.1 103 x (by omega)).trans (ho x a b))) (sC_82 hC) rfl rfl (Nat.le_of_ble_eq_true rfl) (k_G (fun v7 M7 hM7 => ?_)) n_G
              obtain ⟨rfl, f7, z7⟩ := hM7
              have S7 : SI M M7 t s p k := S6.gn f7 z7
              refine x_callV3 (pc := 164) dX6_seek_164 rfl kX6_89 (s_keepIfMore hfl ((i : Int) + 2) ((j : Int) + 1) (gainT (stepT t p ((i : Int) + 2) ((j : Int) + 1)) s k) hC) (sC_82 hC) rfl rfl (Nat.le_of_ble_eq_true rfl) (k_U (fun M8 hM8 => ?_)) n_U
              obtain ⟨f8, u8⟩ := hM8
              have S8 : SI M M8 t s p k := S7.kp f8
              have e8 : (M7 82 8, M7 82 9, M7 82 10) = (M2 82 8, M2 82 9, M2 82 10) := by
                rw [f7 82 8 (by omega), f7 82 9 (by omega), f7 82 10 (by omega), f6 82 8 (by omega) (by omega) (by omega), f6 82 9 (by omega) (by omega) (by omega), f6 82 10 (by omega) (by omega) (by omega)]
              have p8 : M8 82 11 = plainG t s p k := by
                rw [f8 82 11 (by omega), f7 82 11 (by omega), f6 82 11 (by omega) (by omega) (by omega)]; exact k4
              have a8 : M8 84 0 = 1 ∧ M8 85 0 = p := ⟨by rw [f8 84 0 (by omega), f7 84 0 (by omega)]; exact q2, by rw [f8 85 0 (by omega), f7 85 0 (by omega)]; exact q3⟩
              refine x_iinc (pc := 167) dX6_seek_167 rfl (by omega) (by decide) rfl ?_
              refine x_goto (tgt := 119) (pc := 170) dX6_seek_170 (by decide) ?_
              exact x_lo (lo' := [(0, (2, 82)), (1, (0, s)), (2, (0, p)), (3, (0, k)), (4, (0, ((i : Nat) : Int) + 2)), (5, (0, ((j + 1 : Nat) : Int) + 1))]) ⟨rfl, rfl, rfl, rfl, rfl, rfl, trivial⟩ (ih2 (j + 1) M8 ⟨by omega, S8, by rw [u8, e8, k3]; rfl, p8, a8⟩ (by omega)))
        exact x_lo (lo' := [(0, (2, 82)), (1, (0, s)), (2, (0, p)), (3, (0, k)), (4, (0, ((i : Nat) : Int) + 2)), (5, (0, ((0 : Nat) : Int) + 1))]) ⟨rfl, rfl, rfl, rfl, rfl, rfl, trivial⟩ (lpB 0 M1 ⟨by omega, j2, j3, j4, j5⟩))
  have rest : aX l E pX6_seek (aU N S (fun M' => frB M M' 82 103 ∧ (M' 90 0 = 0 ∧ M' 91 0 = 0 ∧ M' 93 0 = 0 ∧ M' 100 0 = 0 ∧ M' 102 0 = 0) ∧ (M' 82 5 = s ∧ M' 82 6 = p ∧ M' 82 7 = k) ∧ (M' 82 8, M' 82 9, M' 82 10) = selV t s p k ∧ M' 82 11 = plainG t s p k)) 0 0 N S M 25 [(0, (2, 82)), (1, (0, s)), (2, (0, p)), (3, (0, k))] [] := by
    refine x_aload_n (pc := 25) dX6_seek_25 rfl rfl ?_
    refine x_iload_n (pc := 26) dX6_seek_26 rfl rfl ?_
    refine x_putI (jj := 5) (pc := 27) dX6_seek_27 fX6_49 (sC_82 hC) rfl (by decide) rfl ?_
    refine x_aload_n (pc := 30) dX6_seek_30 rfl rfl ?_
    refine x_iload_n (pc := 31) dX6_seek_31 rfl rfl ?_
    refine x_putI (jj := 6) (pc := 32) dX6_seek_32 fX6_53 (sC_82 hC) rfl (by decide) rfl ?_
    refine x_aload_n (pc := 35) dX6_seek_35 rfl rfl ?_
    refine x_iload_n (pc := 36) dX6_seek_36 rfl rfl ?_
    refine x_putI (jj := 7) (pc := 37) dX6_seek_37 fX6_56 (sC_82 hC) rfl (by decide) rfl ?_
    refine x_aload_n (pc := 40) dX6_seek_40 rfl rfl ?_
    refine x_getR (jj := 1) (pc := 41) dX6_seek_41 fX6_12 (sC_82 hC) rfl (by decide) rfl rC_82_1 ?_
    refine x_aload_n (pc := 44) dX6_seek_44 rfl rfl ?_
    refine x_getR (jj := 0) (pc := 45) dX6_seek_45 fX6_18 (sC_82 hC) rfl (by decide) rfl rC_82_0 ?_
    refine x_getR (jj := 0) (pc := 48) dX6_seek_48 fX6_59 (hC.2.1).2.1 rfl (by decide) rfl rS_0 ?_
    refine x_callV1 (pc := 51) dX6_seek_51 rfl kX6_62 (s_X8copy hfl 83 2 hC.2.2.2.1 hC.2.1.1 (by omega) (by have := hK.1.1; rw [up_a (by omega), up_a (by omega), up_a (by omega), hT.1]; exact this)) (hC.2.2.2.1).1 rfl rfl (Nat.le_of_ble_eq_true rfl) (k_U (fun M9 hM9 => ?_)) n_U
    obtain ⟨f9, t9⟩ := hM9
    have T9 := t9 t hK.1.2.1.2 hK.1.2.2.2.1.2 (hT.cg fun a x y i => by rw [up_a (by omega), up_a (by omega), up_a (by omega)])
    clear t9
    refine x_aload_n (pc := 54) dX6_seek_54 rfl rfl ?_
    refine x_iconst (pc := 55) dX6_seek_55 (by decide) ?_
    refine x_putI (jj := 8) (pc := 56) dX6_seek_56 fX6_65 (sC_82 hC) rfl (by decide) rfl ?_
    refine x_aload_n (pc := 59) dX6_seek_59 rfl rfl ?_
    refine x_iconst (pc := 60) dX6_seek_60 (by decide) ?_
    refine x_putI (jj := 9) (pc := 61) dX6_seek_61 fX6_68 (sC_82 hC) rfl (by decide) rfl ?_
    refine x_aload_n (pc := 64) dX6_seek_64 rfl rfl ?_
    refine x_ldc (n := -1000000) (pc := 65) cX6_71 (by decide) dX6_seek_65 ?_
    refine x_putI (jj := 10) (pc := 67) dX6_seek_67 fX6_72 (sC_82 hC) rfl (by decide) rfl ?_
    refine x_aload_n (pc := 70) dX6_seek_70 rfl rfl ?_
    refine x_getR (jj := 1) (pc := 71) dX6_seek_71 fX6_12 (sC_82 hC) rfl (by decide) rfl rC_82_1 ?_
    refine x_iconst (pc := 74) dX6_seek_74 (by decide) ?_
    refine x_putI (jj := 1) (pc := 75) dX6_seek_75 fX6_75 (hC.2.2.2.1).1 rfl (by decide) rfl ?_
    refine x_aload_n (pc := 78) dX6_seek_78 rfl rfl ?_
    refine x_getR (jj := 1) (pc := 79) dX6_seek_79 fX6_12 (sC_82 hC) rfl (by decide) rfl rC_82_1 ?_
    refine x_iconst (pc := 82) dX6_seek_82 (by decide) ?_
    refine x_iload_n (pc := 83) dX6_seek_83 rfl rfl ?_
    refine x_callV2 (pc := 84) dX6_seek_84 rfl kX6_78 (s_addStep hfl 83 1 p 0 hC.2.2.2.1 up_s (by decide)) (hC.2.2.2.1).1 rfl rfl (Nat.le_of_ble_eq_true rfl) (k_U (fun M5 hM5 => ?_)) n_U
    have SI0 : SI M (up (up (up M9 82 8 (-1)) 82 9 (-1)) 82 10 (-1000000)) t s p k := by
      have g9 : ∀ a i, ¬ (83 ≤ a ∧ a < 89) → M9 a i = up (up (up M 82 5 s) 82 6 p) 82 7 k a i := fun a i q => f9 a (by omega) i
      refine ⟨fun a i q => ?_, T9.s.cg fun a i x y _ _ _ => ?_, ⟨?_, ?_, ?_⟩, ?_⟩
      · rw [up_a (by omega), up_a (by omega), up_a (by omega), g9 a i (by omega), up_a (by omega), up_a (by omega), up_a (by omega)]
      · rw [up_a (by omega), up_a (by omega), up_a (by omega)]
      · rw [up_i (by omega), up_i (by omega), up_i (by omega), g9 _ _ (by omega), up_i (by omega), up_i (by omega)]; exact up_s
      · rw [up_i (by omega), up_i (by omega), up_i (by omega), g9 _ _ (by omega), up_i (by omega)]; exact up_s
      · rw [up_i (by omega), up_i (by omega), up_i (by omega), g9 _ _ (by omega)]; exact up_s
      · have hq : ∀ a, 90 ≤ a → up (up (up M9 82 8 (-1)) 82 9 (-1)) 82 10 (-1000000) a 0 = M a 0 := fun a q => by
          rw [up_a (by omega), up_a (by omega), up_a (by omega), g9 a 0 (by omega), up_a (by omega), up_a (by omega), up_a (by omega)]
        rw [hq _ (by omega), hq _ (by omega), hq _ (by omega), hq _ (by omega), hq _ (by omega)]; exact hz
    have f5 : ∀ a i, a ≠ 84 → a ≠ 85 → ¬ (a = 83 ∧ i = 1) → M5 a i = (up (up (up M9 82 8 (-1)) 82 9 (-1)) 82 10 (-1000000)) a i := fun a i x y z => by
      rw [hM5, up_w z, up_a (by omega), up_a (by omega), up_w z]
    have g1 : M5 83 1 = 1 := by rw [hM5]; exact up_s
    have g2 : M5 84 0 = 1 := by rw [hM5, up_a (by omega), up_a (by omega)]; exact up_s
    have g3 : M5 85 0 = p := by rw [hM5, up_a (by omega)]; exact up_s
    clear hM5
    have S6 : SI M M5 t s p k := SI0.stp f5
    have T6 : RTar M5 83 (stepT t p 0 0) := S6.rt.st (by rw [if_pos rfl]; exact g1) ⟨g2, g3⟩ fun q => absurd rfl q
    have K6 : TQ (stepT t p 0 0) := stepT_tq hK (by omega) (Or.inl rfl)
    refine x_aload_n (pc := 87) dX6_seek_87 rfl rfl ?_
    refine x_aload_n (pc := 88) dX6_seek_88 rfl rfl ?_
    refine x_callV0 (pc := 89) dX6_seek_89 rfl kX6_82 (s_gainC hfl (stepT t p 0 0) s k hC T6 K6 (stepT_tb hB) (hH.si S6).sp hs hk S6.s5 S6.s7 S6.2.2.2 (fun x a b => (S6.1 103 x (by omega)).trans (ho x a b))) (sC_82 hC) rfl rfl (Nat.le_of_ble_eq_true rfl) (k_G (fun v7 M7 hM7 => ?_)) n_G
    obtain ⟨rfl, f7, z7⟩ := hM7
    have S7 : SI M M7 t s p k := S6.gn f7 z7
    refine x_putI (jj := 11) (pc := 92) dX6_seek_92 fX6_86 (sC_82 hC) rfl (by decide) rfl ?_
    refine x_iconst (pc := 95) dX6_seek_95 (by decide) ?_
    refine x_istore (pc := 96) dX6_seek_96 (by decide) rfl ?_
    have S8 : SI M (up M7 82 11 (gainT (stepT t p 0 0) s k)) t s p k := S7.kq fun a x q => up_w (by omega)
    exact x_lo (lo' := [(0, (2, 82)), (1, (0, s)), (2, (0, p)), (3, (0, k)), (4, (0, ((0 : Nat) : Int) + 2))]) ⟨rfl, rfl, rfl, rfl, rfl, trivial⟩ (lpA 0 _ ⟨by omega, S8, by rw [up_i (by omega), up_i (by omega), up_i (by omega), f7 82 8 (by omega), f7 82 9 (by omega), f7 82 10 (by omega), f5 82 8 (by omega) (by omega) (by omega), f5 82 9 (by omega) (by omega) (by omega), f5 82 10 (by omega) (by omega) (by omega), up_i (by omega), up_i (by omega), up_s, up_i (by omega), up_s, up_s]; rfl, up_s, by rw [up_a (by omega), f7 84 0 (by omega)]; exact g2, by rw [up_a (by omega), f7 85 0 (by omega)]; exact g3⟩)
  refine x_aload_n (pc := 0) dX6_seek_0 rfl rfl ?_
  refine x_getIV (jj := 5) (pc := 1) dX6_seek_1 fX6_49 (sC_82 hC) rfl (by decide) rfl (by (repeat (first | rewrite [up_s] | rewrite [up_i (by omega)] | rewrite [up_a (by omega)])); rfl) ?_
  refine x_iload_n (pc := 4) dX6_seek_4 rfl rfl ?_
  refine x_icmp_ne (tgt := 25) (pc := 5) dX6_seek_5 (by decide) (fun c_5 => ?_) (fun c_5 => ?_)
  · exact rest
  · refine x_aload_n (pc := 8) dX6_seek_8 rfl rfl ?_
    refine x_getIV (jj := 6) (pc := 9) dX6_seek_9 fX6_53 (sC_82 hC) rfl (by decide) rfl (by (repeat (first | rewrite [up_s] | rewrite [up_i (by omega)] | rewrite [up_a (by omega)])); rfl) ?_
    refine x_iload_n (pc := 12) dX6_seek_12 rfl rfl ?_
    refine x_icmp_ne (tgt := 25) (pc := 13) dX6_seek_13 (by decide) (fun c_13 => ?_) (fun c_13 => ?_)
    · exact rest
    · refine x_aload_n (pc := 16) dX6_seek_16 rfl rfl ?_
      refine x_getIV (jj := 7) (pc := 17) dX6_seek_17 fX6_56 (sC_82 hC) rfl (by decide) rfl (by (repeat (first | rewrite [up_s] | rewrite [up_i (by omega)] | rewrite [up_a (by omega)])); rfl) ?_
      refine x_iload_n (pc := 20) dX6_seek_20 rfl rfl ?_
      refine x_icmp_ne (tgt := 25) (pc := 21) dX6_seek_21 (by decide) (fun c_21 => ?_) (fun c_21 => ?_)
      · exact rest
      · refine x_return (pc := 24) dX6_seek_24 rfl (by decide) ?_
        have hm : M 82 5 = s := by omega
        rcases hE with h0 | ⟨-, h1, h2⟩
        · omega
        rw [show M 82 5 = s by omega, show M 82 6 = p by omega, show M 82 7 = k by omega] at h1 h2
        exact ⟨rfl, rfl, rfl, fun _ _ _ => rfl, hz, ⟨by omega, by omega, by omega⟩, h1.symm, h2.symm⟩
theorem s_Cseller {l : Launch} {E : aE} {N : Nat} {S : aS} {M : aM} (hfl : l.stackTraces = false) (s p k x : Int) (hC : lyC S) (A : aM) (hR : RC M N S A) (hA : TOK (A 0)) (hB : TB (A 0)) : aMt l E pX11_seller [(2, 0), (0, s), (0, p), (0, k), (0, x)] N S M (opC M N S 0 (spSeller A s p k x) (fun _ => 0)) := by
  refine a_met hfl rfl (by decide +kernel) (Nat.le_of_ble_eq_true rfl) ?_
  have c0 : M 1 1 = A 0 0 := hR.1.1.1
  have t0 := hA.1
  have t9 := hA.2.2.2.2.2.2.2.2.2.2.2.2.2.2.2.2.2.1
  refine x_aload_n (pc := 0) dX11_seller_0 rfl rfl ?_
  refine x_iload_n (pc := 1) dX11_seller_1 rfl rfl ?_
  refine x_callV1 (pc := 2) dX11_seller_2 rfl kX11_131 (s_needSet hfl _ hC (by omega)) (sC_0 hC) rfl rfl (Nat.le_of_ble_eq_true rfl) (k_N (fun h_2 => ?_)) (n_N (fun h_2 => (by rw [c0] at h_2; have e9 : spSeller A s p k x = (1, 0, A) := (by unfold spSeller; rw [if_pos (by omega)]); rw [e9]; exact ⟨rfl, rfl, fun _ _ _ _ => rfl, hR, Or.inr ⟨show ¬ (1 : Int) = 0 by decide, rfl⟩⟩)))
  rw [c0] at h_2
  have hsl := isSet_lt hA h_2
  have hsz := size_pos (s := s) hsl
  refine x_aload_n (pc := 5) dX11_seller_5 rfl rfl ?_
  refine x_iload_n (pc := 6) dX11_seller_6 rfl rfl ?_
  refine x_callS1 (pc := 7) dX11_seller_7 rfl kX11_296 (s_bitCount hfl s ⟨by omega, hsl.2⟩) rfl (Nat.le_of_ble_eq_true rfl) (k_R ?_) n_R
  refine x_iconst (pc := 10) dX11_seller_10 (by decide) ?_
  refine x_iconst (pc := 11) dX11_seller_11 (by decide) ?_
  refine x_callV3 (pc := 12) dX11_seller_12 rfl kX11_175 (s_needWithin hfl _ _ _) (sC_0 hC) rfl rfl (Nat.le_of_ble_eq_true rfl) (k_N (fun h_12 => ?_)) (n_N (fun h_12 => (by have e9 : spSeller A s p k x = (1, 0, A) := (by unfold spSeller; rw [if_pos (by omega)]); rw [e9]; exact ⟨rfl, rfl, fun _ _ _ _ => rfl, hR, Or.inr ⟨show ¬ (1 : Int) = 0 by decide, rfl⟩⟩)))
  refine x_aload_n (pc := 15) dX11_seller_15 rfl rfl ?_
  refine x_iload_n (pc := 16) dX11_seller_16 rfl rfl ?_
  refine x_iconst (pc := 17) dX11_seller_17 (by decide) ?_
  refine x_bipush (pc := 18) dX11_seller_18 (by decide) ?_
  refine x_callV3 (pc := 20) dX11_seller_20 rfl kX11_175 (s_needWithin hfl _ _ _) (sC_0 hC) rfl rfl (Nat.le_of_ble_eq_true rfl) (k_N (fun h_20 => ?_)) (n_N (fun h_20 => (by have e9 : spSeller A s p k x = (1, 0, A) := (by unfold spSeller; rw [if_pos (by omega)]); rw [e9]; exact ⟨rfl, rfl, fun _ _ _ _ => rfl, hR, Or.inr ⟨show ¬ (1 : Int) = 0 by decide, rfl⟩⟩)))
  refine x_aload_n (pc := 23) dX11_seller_23 rfl rfl ?_
  refine x_iload_n (pc := 24) dX11_seller_24 rfl rfl ?_
  refine x_iconst (pc := 25) dX11_seller_25 (by decide) ?_
  refine x_bipush (pc := 26) dX11_seller_26 (by decide) ?_
  refine x_callV3 (pc := 28) dX11_seller_28 rfl kX11_175 (s_needWithin hfl _ _ _) (sC_0 hC) rfl rfl (Nat.le_of_ble_eq_true rfl) (k_N (fun h_28 => ?_)) (n_N (fun h_28 => (by have e9 : spSeller A s p k x = (1, 0, A) := (by unfold spSeller; rw [if_pos (by omega)]); rw [e9]; exact ⟨rfl, rfl, fun _ _ _ _ => rfl, hR, Or.inr ⟨show ¬ (1 : Int) = 0 by decide, rfl⟩⟩)))
  refine x_aload_n (pc := 31) dX11_seller_31 rfl rfl ?_
  refine x_iload (pc := 32) dX11_seller_32 rfl ?_
  refine x_iconst (pc := 34) dX11_seller_34 (by decide) ?_
  refine x_iconst (pc := 35) dX11_seller_35 (by decide) ?_
  refine x_callV3 (pc := 36) dX11_seller_36 rfl kX11_175 (s_needWithin hfl _ _ _) (sC_0 hC) rfl rfl (Nat.le_of_ble_eq_true rfl) (k_N (fun h_36 => ?_)) (n_N (fun h_36 => (by have e9 : spSeller A s p k x = (1, 0, A) := (by unfold spSeller; rw [if_pos (by omega)]); rw [e9]; exact ⟨rfl, rfl, fun _ _ _ _ => rfl, hR, Or.inr ⟨show ¬ (1 : Int) = 0 by decide, rfl⟩⟩)))
  refine x_aload_n (pc := 39) dX11_seller_39 rfl rfl ?_
  refine x_getR (jj := 8) (pc := 40) dX11_seller_40 fX11_79 (sC_0 hC) rfl (by decide) rfl rC_0_8 ?_
  refine x_iload_n (pc := 43) dX11_seller_43 rfl rfl ?_
  refine x_iload_n (pc := 44) dX11_seller_44 rfl rfl ?_
  refine x_iload_n (pc := 45) dX11_seller_45 rfl rfl ?_
  refine x_callV3 (pc := 46) dX11_seller_46 rfl kX11_311 (s_seek hfl (A 0) s p k hC hR.1.2 hA.tq hB hR.1.1 hsl h_20 h_28 ⟨hR.2.2.2.2.2.2.2.1.2.1, hR.2.2.2.2.2.2.2.1.2.2.1, hR.2.2.2.2.2.2.2.1.2.2.2.1, hR.2.2.2.2.2.2.2.1.2.2.2.2.2.2.1, hR.2.2.2.2.2.2.2.1.2.2.2.2.2.2.2⟩ (fun x a b => (hR.2.2.2.2.2.2.2.1.1 x a b).2) hR.2.2.2.2.2.2.2.2) (sC_82 hC) rfl rfl (Nat.le_of_ble_eq_true rfl) (k_U (fun M9 hM9 => ?_)) n_U
  obtain ⟨f9, z9, ⟨d1, d2, d3⟩, d4, d5⟩ := hM9
  have hR9 : RC M9 N S A := hR.sl f9 z9 (Or.inr (by rw [d1, d2, d3]; exact ⟨hsl, d4.symm, d5.symm⟩))
  have FC9 : frC M M9 := fun a j x y => f9 a j (by omega)
  obtain ⟨e1, e2, e3⟩ := fld11 d4
  refine x_iload (pc := 49) dX11_seller_49 rfl ?_
  refine x_if_ne (tgt := 62) (pc := 51) dX11_seller_51 (by decide) (fun c_51 => ?_) (fun c_51 => ?_)
  · refine x_iload (pc := 62) dX11_seller_62 rfl ?_
    refine x_iconst (pc := 64) dX11_seller_64 (by decide) ?_
    refine x_icmp_ne (tgt := 76) (pc := 65) dX11_seller_65 (by decide) (fun c_65 => ?_) (fun c_65 => ?_)
    · refine x_iload (pc := 76) dX11_seller_76 rfl ?_
      refine x_iconst (pc := 78) dX11_seller_78 (by decide) ?_
      refine x_icmp_ne (tgt := 92) (pc := 79) dX11_seller_79 (by decide) (fun c_79 => ?_) (fun c_79 => ?_)
      · refine x_aload_n (pc := 92) dX11_seller_92 rfl rfl ?_
        refine x_getR (jj := 8) (pc := 93) dX11_seller_93 fX11_79 (sC_0 hC) rfl (by decide) rfl rC_0_8 ?_
        refine x_getIV (jj := 11) (pc := 96) dX11_seller_96 fX11_323 (sC_82 hC) rfl (by decide) rfl (by (repeat (first | rewrite [up_s] | rewrite [up_i (by omega)] | rewrite [up_a (by omega)])); first | exact e1 | exact e2 | exact e3 | exact d5 | rfl) ?_
        refine x_ireturn (pc := 99) dX11_seller_99 rfl (by decide) ?_
        have e9 : spSeller A s p k x = (0, plainG (A 0) s p k, A) := by
          unfold spSeller
          rw [if_neg (by omega), if_neg (show ¬ x = 0 by omega), if_neg (show ¬ x = 1 by omega), if_neg (show ¬ x = 2 by omega)]
        rw [e9]
        exact ⟨rfl, rfl, FC9, hR9, Or.inl ⟨rfl, rfl⟩⟩
      · refine x_aload_n (pc := 82) dX11_seller_82 rfl rfl ?_
        refine x_getR (jj := 8) (pc := 83) dX11_seller_83 fX11_79 (sC_0 hC) rfl (by decide) rfl rC_0_8 ?_
        refine x_getIV (jj := 10) (pc := 86) dX11_seller_86 fX11_320 (sC_82 hC) rfl (by decide) rfl (by (repeat (first | rewrite [up_s] | rewrite [up_i (by omega)] | rewrite [up_a (by omega)])); first | exact e1 | exact e2 | exact e3 | exact d5 | rfl) ?_
        refine x_goto (tgt := 99) (pc := 89) dX11_seller_89 (by decide) ?_
        refine x_ireturn (pc := 99) dX11_seller_99 rfl (by decide) ?_
        have e9 : spSeller A s p k x = (0, (selV (A 0) s p k).2.2, A) := by
          unfold spSeller
          rw [if_neg (by omega), if_neg (show ¬ x = 0 by omega), if_neg (show ¬ x = 1 by omega), if_pos (show x = 2 by omega)]
        rw [e9]
        exact ⟨rfl, rfl, FC9, hR9, Or.inl ⟨rfl, rfl⟩⟩
    · refine x_aload_n (pc := 68) dX11_seller_68 rfl rfl ?_
      refine x_getR (jj := 8) (pc := 69) dX11_seller_69 fX11_79 (sC_0 hC) rfl (by decide) rfl rC_0_8 ?_
      refine x_getIV (jj := 9) (pc := 72) dX11_seller_72 fX11_317 (sC_82 hC) rfl (by decide) rfl (by (repeat (first | rewrite [up_s] | rewrite [up_i (by omega)] | rewrite [up_a (by omega)])); first | exact e1 | exact e2 | exact e3 | exact d5 | rfl) ?_
      refine x_ireturn (pc := 75) dX11_seller_75 rfl (by decide) ?_
      have e9 : spSeller A s p k x = (0, (selV (A 0) s p k).2.1, A) := by
        unfold spSeller
        rw [if_neg (by omega), if_neg (show ¬ x = 0 by omega), if_pos (show x = 1 by omega)]
      rw [e9]
      exact ⟨rfl, rfl, FC9, hR9, Or.inl ⟨rfl, rfl⟩⟩
  · refine x_aload_n (pc := 54) dX11_seller_54 rfl rfl ?_
    refine x_getR (jj := 8) (pc := 55) dX11_seller_55 fX11_79 (sC_0 hC) rfl (by decide) rfl rC_0_8 ?_
    refine x_getIV (jj := 8) (pc := 58) dX11_seller_58 fX11_314 (sC_82 hC) rfl (by decide) rfl (by (repeat (first | rewrite [up_s] | rewrite [up_i (by omega)] | rewrite [up_a (by omega)])); first | exact e1 | exact e2 | exact e3 | exact d5 | rfl) ?_
    refine x_ireturn (pc := 61) dX11_seller_61 rfl (by decide) ?_
    have e9 : spSeller A s p k x = (0, (selV (A 0) s p k).1, A) := by
      unfold spSeller
      rw [if_neg (by omega), if_pos (show x = 0 by omega)]
    rw [e9]
    exact ⟨rfl, rfl, FC9, hR9, Or.inl ⟨rfl, rfl⟩⟩
