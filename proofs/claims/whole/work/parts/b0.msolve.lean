/-! the reference: solve, can, share, row -/
theorem s_solve {l : Launch} {E : aE} {N : Nat} {S : aS} {M : aM} (hfl : l.stackTraces = false) (m : Int) {w h q9 : Nat} {F : Nat → Nat → Int} {st : sx} {nm : Nat → Int} {Zs : Nat → Nat → Int} {fx : Nat → Bool} (hS : lyM S m) (hR : RTm M m w h F st nm q9 Zs fx) (hP : PBx w h F 1048576) (hw : w ≤ 5) (hh : h ≤ 31) (hq : q9 ≤ 6) (hZ : ∀ q, q < q9 → bdV w (Zs q)) (hO : OKx w h F st) (hnm : ∀ a b : Nat, a < w + h → b < w + h → (nm a < nm b ↔ a < b)) (hq1 : 1 ≤ q9) : aMt l E pX12_solve [(2, m)] N S M (aG N S (fun v M' => v = (1, ta w F (slS w h F Zs st fx q9).1 (Zs (q9 - 1)) w) ∧ RTm M' m w h F (slS w h F Zs st fx q9).1 nm q9 Zs (slS w h F Zs st fx q9).2 ∧ frT M M' m)) := by
  refine a_met hfl rfl (by decide +kernel) (Nat.le_of_ble_eq_true rfl) ?_
  have lpA := a_loop2 (α := Nat) (β := aM) (fun q M1 => q ≤ q9 ∧ RTm M1 m w h F (slS w h F Zs st fx q).1 nm q9 Zs (slS w h F Zs st fx q).2 ∧ frT M M1 m) (fun q M1 => q9 - q) (fun q M1 => aX l E pX12_solve (aG N S (fun v M' => v = (1, ta w F (slS w h F Zs st fx q9).1 (Zs (q9 - 1)) w) ∧ RTm M' m w h F (slS w h F Zs st fx q9).1 nm q9 Zs (slS w h F Zs st fx q9).2 ∧ frT M M' m)) 0 0 N S M1 2 [(0, (2, m)), (1, (0, (q : Int)))] []) (by
    intro q M1 hI ih
    obtain ⟨k1, k2, k3⟩ := hI
    have hOk := slS_ok (Zs := Zs) (fx := fx) hP hw hh hO q
    refine x_iload_n (pc := 2) dX12_solve_2 rfl rfl ?_
    refine x_aload_n (pc := 3) dX12_solve_3 rfl rfl ?_
    refine x_getIV (jj := 44) (pc := 4) dX12_solve_4 fX12_367 hS.1 rfl (by decide) rfl (by (repeat (first | rewrite [up_s] | rewrite [up_i (by omega)] | rewrite [up_a (by omega)] | rewrite [stM_a (by omega) (by omega)])); first | exact k2.1.1 | exact k2.1.2.1 | exact k2.1.2.2.1 | exact hres | rfl) ?_
    refine x_icmp_ge (tgt := 103) (pc := 7) dX12_solve_7 (by decide) (fun c_7 => ?_) (fun c_7 => ?_)
    · have eq9 : q = q9 := by omega
      subst eq9
      have hres : M1 (m + 20) (6 * ((h : Int) + (q : Int) - 1) + 5) = ta w F (slS w h F Zs st fx q).1 (Zs (q - 1)) w := by
        have z := k2.k (r := h + (q - 1)) (by omega)
        rw [UM_Z] at z
        rw [← z]
        exact congrArg _ (by omega)
      refine x_aload_n (pc := 103) dX12_solve_103 rfl rfl ?_
      refine x_getR (jj := 37) (pc := 104) dX12_solve_104 fX12_73 hS.1 rfl (by decide) rfl rM_37 ?_
      refine x_bipush (pc := 107) dX12_solve_107 (by decide) ?_
      refine x_aload_n (pc := 109) dX12_solve_109 rfl rfl ?_
      refine x_getIV (jj := 43) (pc := 110) dX12_solve_110 fX12_361 hS.1 rfl (by decide) rfl (by (repeat (first | rewrite [up_s] | rewrite [up_i (by omega)] | rewrite [up_a (by omega)] | rewrite [stM_a (by omega) (by omega)])); first | exact k2.1.1 | exact k2.1.2.1 | exact k2.1.2.2.1 | exact hres | rfl) ?_
      refine x_aload_n (pc := 113) dX12_solve_113 rfl rfl ?_
      refine x_getIV (jj := 44) (pc := 114) dX12_solve_114 fX12_367 hS.1 rfl (by decide) rfl (by (repeat (first | rewrite [up_s] | rewrite [up_i (by omega)] | rewrite [up_a (by omega)] | rewrite [stM_a (by omega) (by omega)])); first | exact k2.1.1 | exact k2.1.2.1 | exact k2.1.2.2.1 | exact hres | rfl) ?_
      refine x_iadd (pc := 117) dX12_solve_117 (by omega) ?_
      refine x_iconst (pc := 118) dX12_solve_118 (by decide) ?_
      refine x_isub (pc := 119) dX12_solve_119 (by omega) ?_
      refine x_imul (pc := 120) dX12_solve_120 (by omega) ?_
      refine x_iconst (pc := 121) dX12_solve_121 (by decide) ?_
      refine x_iadd (pc := 122) dX12_solve_122 (by omega) ?_
      refine x_laloadV (pc := 123) dX12_solve_123 (sM_37 hS) (by omega) (by (repeat (first | rewrite [up_s] | rewrite [up_i (by omega)] | rewrite [up_a (by omega)] | rewrite [stM_a (by omega) (by omega)])); first | exact k2.1.1 | exact k2.1.2.1 | exact k2.1.2.2.1 | exact hres | rfl) (fun g_123 => ?_)
      refine x_lreturn (pc := 124) dX12_solve_124 rfl (by decide) ?_
      exact ⟨_, rfl, rfl, rfl, rfl, k2, k3⟩
    · refine x_aload_n (pc := 10) dX12_solve_10 rfl rfl ?_
      refine x_iload_n (pc := 11) dX12_solve_11 rfl rfl ?_
      refine x_callV1 (pc := 12) dX12_solve_12 rfl kX12_374 (s_comesIn hfl m hS k2 hP hw hh hq hZ hOk hnm q (by omega)) hS.1 rfl rfl (Nat.le_of_ble_eq_true rfl) (k_R ?_) n_R
      obtain ⟨n, n1, n2, n3, n4, n5⟩ := sx_end (Z := Zs q) (fx := (slS w h F Zs st fx q).2) hP hw hh hOk
      have lpB := a_loop2 (α := Nat) (β := aM) (fun k M2 => k ≤ n ∧ RTm M2 m w h F (sxR w h F (Zs q) (slS w h F Zs st fx q).2 (slS w h F Zs st fx q).1 k) nm q9 Zs (slS w h F Zs st fx q).2 ∧ frT M M2 m) (fun k M2 => n - k) (fun k M2 => aX l E pX12_solve (aG N S (fun v M' => v = (1, ta w F (slS w h F Zs st fx q9).1 (Zs (q9 - 1)) w) ∧ RTm M' m w h F (slS w h F Zs st fx q9).1 nm q9 Zs (slS w h F Zs st fx q9).2 ∧ frT M M' m)) 0 0 N S M2 16 [(0, (2, m)), (1, (0, (q : Int))), (2, (0, sxE w F (Zs q) (slS w h F Zs st fx q).2 (sxR w h F (Zs q) (slS w h F Zs st fx q).2 (slS w h F Zs st fx q).1 k)))] []) (by
        intro k M2 hJ ih2
        obtain ⟨j1, j2, j3⟩ := hJ
        have hOr : OKx w h F (sxR w h F (Zs q) (slS w h F Zs st fx q).2 (slS w h F Zs st fx q).1 k) := by
          by_cases z : k < n
          · exact (n5 k z).2
          · rw [show k = n by omega, ← n2]; exact n3
        refine x_iload_n (pc := 16) dX12_solve_16 rfl rfl ?_
        refine x_iconst (pc := 17) dX12_solve_17 (by decide) ?_
        refine x_icmp_eq (tgt := 40) (pc := 18) dX12_solve_18 (by decide) (fun c_18 => ?_) (fun c_18 => ?_)
        · refine x_iconst (pc := 40) dX12_solve_40 (by decide) ?_
          refine x_istore_n (pc := 41) dX12_solve_41 rfl (by decide) rfl ?_
          have ek : k = n := by
            refine Classical.byContradiction fun z => ?_
            exact (n5 k (by omega)).1 (by assumption)
          subst ek
          have lpC := a_loop2 (α := Nat) (β := aM) (fun j M3 => j ≤ w ∧ (∀ a x : Int, a ≠ m + 24 → M3 a x = M2 a x) ∧ ∀ i : Nat, i < w → M3 (m + 24) i = if i < j then (if (fxN w F (sxD w h F (Zs q) (slS w h F Zs st fx q).2 (slS w h F Zs st fx q).1) (Zs q) (slS w h F Zs st fx q).2) i = true then 1 else 0) else (if (slS w h F Zs st fx q).2 i = true then 1 else 0)) (fun j M3 => w - j) (fun j M3 => aX l E pX12_solve (aG N S (fun v M' => v = (1, ta w F (slS w h F Zs st fx q9).1 (Zs (q9 - 1)) w) ∧ RTm M' m w h F (slS w h F Zs st fx q9).1 nm q9 Zs (slS w h F Zs st fx q9).2 ∧ frT M M' m)) 0 0 N S M3 42 [(0, (2, m)), (1, (0, (q : Int))), (3, (0, (j : Int)))] []) (by
            intro j M3 hK ih3
            obtain ⟨l1, l2, l3⟩ := hK
            refine x_iload_n (pc := 42) dX12_solve_42 rfl rfl ?_
            refine x_aload_n (pc := 43) dX12_solve_43 rfl rfl ?_
            refine x_getIV (jj := 42) (pc := 44) dX12_solve_44 fX12_358 hS.1 rfl (by decide) rfl (by (repeat (first | rewrite [up_s] | rewrite [up_i (by omega)] | rewrite [up_a (by omega)] | rewrite [stM_a (by omega) (by omega)])); first | exact (l2 _ _ (by omega)).trans j2.1.1 | exact (l2 _ _ (by omega)).trans j2.1.2.1 | exact (l3 j (by omega)).trans (if_neg (by omega)) | exact hT9 | rfl) ?_
            refine x_icmp_ge (tgt := 97) (pc := 47) dX12_solve_47 (by decide) (fun c_47 => ?_) (fun c_47 => ?_)
            · refine x_iinc (pc := 97) dX12_solve_97 rfl (by omega) (by decide) rfl ?_
              refine x_goto (tgt := 2) (pc := 100) dX12_solve_100 (by decide) ?_
              have RT3 : RTm M3 m w h F (slS w h F Zs st fx (q + 1)).1 nm q9 Zs (slS w h F Zs st fx (q + 1)).2 := by
                show RTm M3 m w h F (sxD w h F (Zs q) (slS w h F Zs st fx q).2 (slS w h F Zs st fx q).1) nm q9 Zs (fxN w F (sxD w h F (Zs q) (slS w h F Zs st fx q).2 (slS w h F Zs st fx q).1) (Zs q) (slS w h F Zs st fx q).2)
                rw [n2]
                refine ⟨⟨(l2 _ _ (by omega)).trans j2.1.1, (l2 _ _ (by omega)).trans j2.1.2.1, (l2 _ _ (by omega)).trans j2.1.2.2.1, (l2 _ _ (by omega)).trans j2.1.2.2.2⟩, fun r c a b => (l2 _ _ (by omega)).trans (j2.2.1 r c a b), fun i a => (l2 _ _ (by omega)).trans (j2.2.2.1 i a), fun i a => (l2 _ _ (by omega)).trans (j2.2.2.2.1 i a), fun i a => ?_⟩
                rw [l3 i a, if_pos (by omega), n2]
              exact x_lo (lo' := [(0, (2, m)), (1, (0, ((q + 1 : Nat) : Int)))]) ⟨rfl, rfl, trivial⟩ (ih (q + 1) M3 ⟨by omega, RT3, fun a x y z => (l2 a x (by omega)).trans (j3 a x y z)⟩ (by omega))
            · refine x_aload_n (pc := 50) dX12_solve_50 rfl rfl ?_
              refine x_getR (jj := 41) (pc := 51) dX12_solve_51 fX12_85 hS.1 rfl (by decide) rfl rM_41 ?_
              refine x_iload_n (pc := 54) dX12_solve_54 rfl rfl ?_
              refine x_aload_n (pc := 55) dX12_solve_55 rfl rfl ?_
              refine x_getR (jj := 41) (pc := 56) dX12_solve_56 fX12_85 hS.1 rfl (by decide) rfl rM_41 ?_
              refine x_iload_n (pc := 59) dX12_solve_59 rfl rfl ?_
              refine x_zaloadV (pc := 60) dX12_solve_60 (sM_41 hS) (by omega) (by (repeat (first | rewrite [up_s] | rewrite [up_i (by omega)] | rewrite [up_a (by omega)] | rewrite [stM_a (by omega) (by omega)])); first | exact (l2 _ _ (by omega)).trans j2.1.1 | exact (l2 _ _ (by omega)).trans j2.1.2.1 | exact (l3 j (by omega)).trans (if_neg (by omega)) | exact hT9 | rfl) ?_
              refine x_if_ne (tgt := 85) (pc := 61) dX12_solve_61 (by decide) (fun c_61 => ?_) (fun c_61 => ?_)
              · refine x_iconst (pc := 85) dX12_solve_85 (by decide) ?_
                refine x_goto (tgt := 90) (pc := 86) dX12_solve_86 (by decide) ?_
                refine x_zastore (pc := 90) dX12_solve_90 (sM_41 hS) (by omega) (by omega) ?_
                refine x_iinc (pc := 91) dX12_solve_91 rfl (by omega) (by decide) rfl ?_
                refine x_goto (tgt := 42) (pc := 94) dX12_solve_94 (by decide) ?_
                have hfn : (fxN w F (sxD w h F (Zs q) (slS w h F Zs st fx q).2 (slS w h F Zs st fx q).1) (Zs q) (slS w h F Zs st fx q).2) j = true := by
                  unfold fxN
                  have : (slS w h F Zs st fx q).2 j = true := by
                    cases hq : (slS w h F Zs st fx q).2 j
                    · rw [hq] at c_61; exact absurd rfl c_61
                    · rfl
                  rw [this]; rfl
                refine x_lo (lo' := [(0, (2, m)), (1, (0, (q : Int))), (3, (0, ((j + 1 : Nat) : Int)))]) ⟨rfl, rfl, rfl, trivial⟩ (ih3 (j + 1) _ ⟨by omega, fun a x z => (up_a z).trans (l2 a x z), fun i hi => ?_⟩ (by omega))
                by_cases e : i = j
                · subst e; rw [up_s, if_pos (show i < i + 1 by omega), hfn]; rfl
                · rw [up_i (by omega), l3 i hi]
                  by_cases e2 : i < j
                  · rw [if_pos e2, if_pos (show i < j + 1 by omega)]
                  · rw [if_neg e2, if_neg (show ¬ i < j + 1 by omega)]
              · have hT9 : M3 (m + 20) (6 * ((h : Int) + (q : Int)) + (j : Int)) = ta w F (sxD w h F (Zs q) (slS w h F Zs st fx q).2 (slS w h F Zs st fx q).1) (Zs q) j := by
                  have z := j2.c hw (r := h + q) (c := j) (by omega) (by omega)
                  rw [UM_Z] at z
                  rw [l2 _ _ (by omega), n2, ← z]
                  exact congrArg _ (by omega)
                refine x_aload_n (pc := 64) dX12_solve_64 rfl rfl ?_
                refine x_getR (jj := 37) (pc := 65) dX12_solve_65 fX12_73 hS.1 rfl (by decide) rfl rM_37 ?_
                refine x_bipush (pc := 68) dX12_solve_68 (by decide) ?_
                refine x_aload_n (pc := 70) dX12_solve_70 rfl rfl ?_
                refine x_getIV (jj := 43) (pc := 71) dX12_solve_71 fX12_361 hS.1 rfl (by decide) rfl (by (repeat (first | rewrite [up_s] | rewrite [up_i (by omega)] | rewrite [up_a (by omega)] | rewrite [stM_a (by omega) (by omega)])); first | exact (l2 _ _ (by omega)).trans j2.1.1 | exact (l2 _ _ (by omega)).trans j2.1.2.1 | exact (l3 j (by omega)).trans (if_neg (by omega)) | exact hT9 | rfl) ?_
                refine x_iload_n (pc := 74) dX12_solve_74 rfl rfl ?_
                refine x_iadd (pc := 75) dX12_solve_75 (by omega) ?_
                refine x_imul (pc := 76) dX12_solve_76 (by omega) ?_
                refine x_iload_n (pc := 77) dX12_solve_77 rfl rfl ?_
                refine x_iadd (pc := 78) dX12_solve_78 (by omega) ?_
                refine x_laloadV (pc := 79) dX12_solve_79 (sM_37 hS) (by omega) (by (repeat (first | rewrite [up_s] | rewrite [up_i (by omega)] | rewrite [up_a (by omega)] | rewrite [stM_a (by omega) (by omega)])); first | exact (l2 _ _ (by omega)).trans j2.1.1 | exact (l2 _ _ (by omega)).trans j2.1.2.1 | exact (l3 j (by omega)).trans (if_neg (by omega)) | exact hT9 | rfl) (fun g_79 => ?_)
                refine x_lconst0 (pc := 80) dX12_solve_80 ?_
                refine x_lle (tgt := 89) (pc := 81) dX12_solve_81 dX12_solve_82 (by decide) (fun c_81 => ?_) (fun c_81 => ?_)
                · refine x_iconst (pc := 89) dX12_solve_89 (by decide) ?_
                  refine x_zastore (pc := 90) dX12_solve_90 (sM_41 hS) (by omega) (by omega) ?_
                  refine x_iinc (pc := 91) dX12_solve_91 rfl (by omega) (by decide) rfl ?_
                  refine x_goto (tgt := 42) (pc := 94) dX12_solve_94 (by decide) ?_
                  have hfn : (fxN w F (sxD w h F (Zs q) (slS w h F Zs st fx q).2 (slS w h F Zs st fx q).1) (Zs q) (slS w h F Zs st fx q).2) j = false := by
                    unfold fxN
                    have hf : (slS w h F Zs st fx q).2 j = false := by
                      cases hq : (slS w h F Zs st fx q).2 j
                      · rfl
                      · rw [hq] at c_61; exact absurd c_61 (by decide)
                    rw [hf, Bool.false_or]
                    exact decide_eq_false (by omega)
                  refine x_lo (lo' := [(0, (2, m)), (1, (0, (q : Int))), (3, (0, ((j + 1 : Nat) : Int)))]) ⟨rfl, rfl, rfl, trivial⟩ (ih3 (j + 1) _ ⟨by omega, fun a x z => (up_a z).trans (l2 a x z), fun i hi => ?_⟩ (by omega))
                  by_cases e : i = j
                  · subst e; rw [up_s, if_pos (show i < i + 1 by omega), hfn]; rfl
                  · rw [up_i (by omega), l3 i hi]
                    by_cases e2 : i < j
                    · rw [if_pos e2, if_pos (show i < j + 1 by omega)]
                    · rw [if_neg e2, if_neg (show ¬ i < j + 1 by omega)]
                · refine x_iconst (pc := 85) dX12_solve_85 (by decide) ?_
                  refine x_goto (tgt := 90) (pc := 86) dX12_solve_86 (by decide) ?_
                  refine x_zastore (pc := 90) dX12_solve_90 (sM_41 hS) (by omega) (by omega) ?_
                  refine x_iinc (pc := 91) dX12_solve_91 rfl (by omega) (by decide) rfl ?_
                  refine x_goto (tgt := 42) (pc := 94) dX12_solve_94 (by decide) ?_
                  have hfn : (fxN w F (sxD w h F (Zs q) (slS w h F Zs st fx q).2 (slS w h F Zs st fx q).1) (Zs q) (slS w h F Zs st fx q).2) j = true := by
                    unfold fxN
                    have hf : (slS w h F Zs st fx q).2 j = false := by
                      cases hq : (slS w h F Zs st fx q).2 j
                      · rfl
                      · rw [hq] at c_61; exact absurd c_61 (by decide)
                    rw [hf, Bool.false_or]
                    exact decide_eq_true (by omega)
                  refine x_lo (lo' := [(0, (2, m)), (1, (0, (q : Int))), (3, (0, ((j + 1 : Nat) : Int)))]) ⟨rfl, rfl, rfl, trivial⟩ (ih3 (j + 1) _ ⟨by omega, fun a x z => (up_a z).trans (l2 a x z), fun i hi => ?_⟩ (by omega))
                  by_cases e : i = j
                  · subst e; rw [up_s, if_pos (show i < i + 1 by omega), hfn]; rfl
                  · rw [up_i (by omega), l3 i hi]
                    by_cases e2 : i < j
                    · rw [if_pos e2, if_pos (show i < j + 1 by omega)]
                    · rw [if_neg e2, if_neg (show ¬ i < j + 1 by omega)])
          exact x_lo (lo' := [(0, (2, m)), (1, (0, (q : Int))), (3, (0, ((0 : Nat) : Int)))]) ⟨rfl, rfl, rfl, trivial⟩ (lpC 0 M2 ⟨by omega, fun _ _ _ => rfl, fun i hi => by rw [if_neg (by omega)]; exact j2.2.2.2.2 i hi⟩)
        · have ek : k < n := by
            refine Nat.lt_of_le_of_ne j1 fun z => ?_
            rw [z] at c_18
            exact c_18 n4
          have hg := sx_go (Z := Zs q) (fx := (slS w h F Zs st fx q).2) hP hOr c_18
          obtain ⟨j, hj⟩ : ∃ j : Nat, j = (sxE w F (Zs q) (slS w h F Zs st fx q).2 (sxR w h F (Zs q) (slS w h F Zs st fx q).2 (slS w h F Zs st fx q).1 k)).toNat := ⟨_, rfl⟩
          rw [← hj] at hg
          obtain ⟨r, hr⟩ : ∃ r : Nat, r = (sxL w h F (sxR w h F (Zs q) (slS w h F Zs st fx q).2 (slS w h F Zs st fx q).1 k) j).toNat := ⟨_, rfl⟩
          rw [← hr] at hg
          obtain ⟨y1, y2, y3, y4, y5, y6, y7, y8, y9, y10, y11⟩ := hg
          rewrite [y1]
          refine x_aload_n (pc := 21) dX12_solve_21 rfl rfl ?_
          refine x_aload_n (pc := 22) dX12_solve_22 rfl rfl ?_
          refine x_iload_n (pc := 23) dX12_solve_23 rfl rfl ?_
          refine x_callV1 (pc := 24) dX12_solve_24 rfl kX12_377 (s_goesOut hfl m hS j2 hP hw hh hq hZ hOr hnm j y3) hS.1 rfl rfl (Nat.le_of_ble_eq_true rfl) (k_R ?_) n_R
          rewrite [y2]
          refine x_iload_n (pc := 27) dX12_solve_27 rfl rfl ?_
          refine x_callV2 (pc := 28) dX12_solve_28 rfl kX12_380 (s_turns hfl m hS j2 hP hw hh hq hZ hOr hnm r j y4 y3 y10 y6) hS.1 rfl rfl (Nat.le_of_ble_eq_true rfl) (k_U (fun M9 hM9 => ?_)) n_U
          obtain ⟨f1, f2⟩ := hM9
          have RT9 : RTm M9 m w h F (sxR w h F (Zs q) (slS w h F Zs st fx q).2 (slS w h F Zs st fx q).1 (k + 1)) nm q9 Zs (slS w h F Zs st fx q).2 := by
            show RTm M9 m w h F (sxN w h F (Zs q) (slS w h F Zs st fx q).2 (sxR w h F (Zs q) (slS w h F Zs st fx q).2 (slS w h F Zs st fx q).1 k)) nm q9 Zs (slS w h F Zs st fx q).2
            rw [y5]
            exact f1
          have hO9 : OKx w h F (sxR w h F (Zs q) (slS w h F Zs st fx q).2 (slS w h F Zs st fx q).1 (k + 1)) := by
            show OKx w h F (sxN w h F (Zs q) (slS w h F Zs st fx q).2 (sxR w h F (Zs q) (slS w h F Zs st fx q).2 (slS w h F Zs st fx q).1 k))
            rw [y5]
            exact y6
          refine x_aload_n (pc := 31) dX12_solve_31 rfl rfl ?_
          refine x_iload_n (pc := 32) dX12_solve_32 rfl rfl ?_
          refine x_callV1 (pc := 33) dX12_solve_33 rfl kX12_374 (s_comesIn hfl m hS RT9 hP hw hh hq hZ hO9 hnm q (by omega)) hS.1 rfl rfl (Nat.le_of_ble_eq_true rfl) (k_R ?_) n_R
          refine x_istore_n (pc := 36) dX12_solve_36 rfl (by decide) rfl ?_
          refine x_goto (tgt := 16) (pc := 37) dX12_solve_37 (by decide) ?_
          exact x_lo (lo' := [(0, (2, m)), (1, (0, (q : Int))), (2, (0, sxE w F (Zs q) (slS w h F Zs st fx q).2 (sxR w h F (Zs q) (slS w h F Zs st fx q).2 (slS w h F Zs st fx q).1 (k + 1))))]) ⟨rfl, rfl, rfl, trivial⟩ (ih2 (k + 1) M9 ⟨by omega, RT9, j3.tr f2⟩ (by omega)))
      refine x_istore_n (pc := 15) dX12_solve_15 rfl (by decide) rfl ?_
      exact x_lo (lo' := [(0, (2, m)), (1, (0, (q : Int))), (2, (0, sxE w F (Zs q) (slS w h F Zs st fx q).2 (sxR w h F (Zs q) (slS w h F Zs st fx q).2 (slS w h F Zs st fx q).1 0)))]) ⟨rfl, rfl, rfl, trivial⟩ (lpB 0 M1 ⟨by omega, k2, k3⟩))
  refine x_iconst (pc := 0) dX12_solve_0 (by decide) ?_
  refine x_istore_n (pc := 1) dX12_solve_1 rfl (by decide) rfl ?_
  exact x_lo (lo' := [(0, (2, m)), (1, (0, ((0 : Nat) : Int)))]) ⟨rfl, rfl, trivial⟩ (lpA 0 M ⟨by omega, hR, frT.rf⟩)
theorem s_columnOf {l : Launch} {E : aE} {N : Nat} {S : aS} {M : aM} (hfl : l.stackTraces = false) (m : Int) (hS : lyM S m) (c9 : Nat) (y : Int) (hc : c9 < 5) (hy : M (m + 21) c9 = y) (hyn : ∀ i : Nat, i < c9 → M (m + 21) i ≠ y) : aMt l E pX12_columnOf [(2, m), (0, y)] N S M (aR (0, (c9 : Int)) N S M) := by
  refine a_met hfl rfl (by decide +kernel) (Nat.le_of_ble_eq_true rfl) ?_
  have loop := a_loop1 (fun i => i ≤ c9) (fun i => c9 - i) (fun i => aX l E pX12_columnOf (aR (0, (c9 : Int)) N S M) 0 0 N S M 2 [(0, (2, m)), (1, (0, y)), (2, (0, (i : Int)))] []) (by
    intro i hI ih
    refine x_aload_n (pc := 2) dX12_columnOf_2 rfl rfl ?_
    refine x_getR (jj := 38) (pc := 3) dX12_columnOf_3 fX12_76 hS.1 rfl (by decide) rfl rM_38 ?_
    refine x_iload_n (pc := 6) dX12_columnOf_6 rfl rfl ?_
    refine x_ialoadV (pc := 7) dX12_columnOf_7 (sM_38 hS) (by omega) (by (repeat (first | rewrite [up_s] | rewrite [up_i (by omega)] | rewrite [up_a (by omega)] | rewrite [stM_a (by omega) (by omega)])); rfl) (fun g_7 => ?_)
    refine x_iload_n (pc := 8) dX12_columnOf_8 rfl rfl ?_
    refine x_icmp_eq (tgt := 18) (pc := 9) dX12_columnOf_9 (by decide) (fun c_9 => ?_) (fun c_9 => ?_)
    · refine x_iload_n (pc := 18) dX12_columnOf_18 rfl rfl ?_
      refine x_ireturn (pc := 19) dX12_columnOf_19 rfl (by decide) ?_
      have e : i = c9 := by
        refine Classical.byContradiction fun q => ?_
        exact hyn i (by omega) (by assumption)
      subst e
      exact ⟨rfl, rfl, rfl, rfl⟩
    · refine x_iinc (pc := 12) dX12_columnOf_12 rfl (by omega) (by decide) rfl ?_
      refine x_goto (tgt := 2) (pc := 15) dX12_columnOf_15 (by decide) ?_
      have hij : i < c9 := by
        refine Nat.lt_of_le_of_ne hI fun q => ?_
        subst q
        exact absurd hy (by assumption)
      exact x_lo (lo' := [(0, (2, m)), (1, (0, y)), (2, (0, ((i + 1 : Nat) : Int)))]) ⟨rfl, rfl, rfl, trivial⟩ (ih (i + 1) (by omega) (by omega)))
  refine x_iconst (pc := 0) dX12_columnOf_0 (by decide) ?_
  refine x_istore_n (pc := 1) dX12_columnOf_1 rfl (by decide) rfl ?_
  exact x_lo (lo' := [(0, (2, m)), (1, (0, y)), (2, (0, ((0 : Nat) : Int)))]) ⟨rfl, rfl, rfl, trivial⟩ (loop 0 (by omega))
def ZA (s : Int) : Nat → Nat → Int := fun _ => zA (wN s)
def ZS (s most : Int) (v : Nat) : Nat → Nat → Int := fun q => if q = 0 then zA (wN s) else sgV most v
def ZR (s : Int) : Nat → Nat → Int := fun q => if q = 0 then zA (wN s) else sgV 0 (q - 1)
theorem frT.m {M M' : aM} {m : Int} (h : frT M M' m) : frM M M' m := fun a i q => h a i (by omega) (by omega)
theorem RM.frT {M M' A : aM} {m : Int} (h : RM M m A) (f : frT M M' m) : RM M' m A := h.ft fun a i x y => f a i (by omega) y
theorem slR (c : Int → Int) (s : Int) : ∀ n, slS (wN s) (hN c s) (FV c s) (ZR s) (st0 (wN s)) (fun _ => false) (n + 1) = ((rwS c s n).1, fxN (wN s) (FV c s) (rwS c s n).1 (rwS c s n).2.1 (rwS c s n).2.2)
  | 0 => rfl
  | n + 1 => by
    have ih := slR c s n
    have e : slS (wN s) (hN c s) (FV c s) (ZR s) (st0 (wN s)) (fun _ => false) (n + 1 + 1) = (sxD (wN s) (hN c s) (FV c s) (ZR s (n + 1)) (slS (wN s) (hN c s) (FV c s) (ZR s) (st0 (wN s)) (fun _ => false) (n + 1)).2 (slS (wN s) (hN c s) (FV c s) (ZR s) (st0 (wN s)) (fun _ => false) (n + 1)).1, fxN (wN s) (FV c s) (sxD (wN s) (hN c s) (FV c s) (ZR s (n + 1)) (slS (wN s) (hN c s) (FV c s) (ZR s) (st0 (wN s)) (fun _ => false) (n + 1)).2 (slS (wN s) (hN c s) (FV c s) (ZR s) (st0 (wN s)) (fun _ => false) (n + 1)).1) (ZR s (n + 1)) (slS (wN s) (hN c s) (FV c s) (ZR s) (st0 (wN s)) (fun _ => false) (n + 1)).2) := rfl
    rw [e, ih]
    rfl
theorem frU_0 {p q : Int} (hp : 0 ≤ p) (hq : 0 < q) : frU p q = 0 ↔ p = 0 := by
  have hg := gcdV_pos (a := p) hq
  have h2 : ((Nat.gcd p.toNat q.toNat : Nat) : Int) ∣ ((p.toNat : Nat) : Int) := Int.ofNat_dvd.mpr (Nat.gcd_dvd_left p.toNat q.toNat)
  have e : ((p.toNat : Nat) : Int) = p := by omega
  rw [e] at h2
  obtain ⟨k, hk⟩ := h2
  have hk : p = gcdV p q * k := hk
  have z : frU p q = k := Int.ediv_eq_of_eq_mul_right (by omega) hk
  rw [z]
  constructor
  · intro h
    rw [h, Int.mul_zero] at hk
    exact hk
  · intro h
    have h3 : gcdV p q * k = 0 := hk.symm.trans h
    rcases Int.mul_eq_zero.mp h3 with q1 | q1
    · omega
    · exact q1
theorem s_Mcan {l : Launch} {E : aE} {N : Nat} {S : aS} {M : aM} (hfl : l.stackTraces = false) (s : Int) (m : Int) (A : aM) (hS : lyM S m) (hR : RM M m A) (hA : TOK (A 0)) : aMt l E pX12_can [(2, m), (0, s)] N S M (aG N S (opM M m 0 (spCan A s))) := by
  refine a_met hfl rfl (by decide +kernel) (Nat.le_of_ble_eq_true rfl) ?_
  refine x_aload_n (pc := 0) dX12_can_0 rfl rfl ?_
  refine x_iconst (pc := 1) dX12_can_1 (by decide) ?_
  refine x_putI (jj := 3) (pc := 2) dX12_can_2 fX12_103 hS.1 rfl (by decide) rfl ?_
  refine x_memI (fun M1 hM1 => ?_)
  have R1 : RM M1 m A := by rw [hM1]; exact hR.up3
  have F1 : frM M M1 m := by rw [hM1]; exact frM.rf.up (by omega)
  have T1 : M1 m 3 = 0 := by rw [hM1]; exact up_s
  clear hM1
  have e0 : M1 (m + 1) 0 = A 0 0 := R1.1.1 0 (by omega) (by omega)
  have t0 := hA.1
  refine x_aload_n (pc := 5) dX12_can_5 rfl rfl ?_
  refine x_iload_n (pc := 6) dX12_can_6 rfl rfl ?_
  refine x_callV1 (pc := 7) dX12_can_7 rfl kX12_383 (s_isFew hfl m s hS (by omega)) hS.1 rfl rfl (Nat.le_of_ble_eq_true rfl) (k_B (fun q_7 => ?_) (fun q_7 => ?_)) n_B
  · rw [e0] at q_7
    refine x_if_ne (tgt := 19) (pc := 10) dX12_can_10 (by decide) (fun _ => ?_) (fun c => absurd c (by decide))
    have h6 := hA.tq.2.2.2.2.2.1
    have hcc : costV (core (A 0)) = costV (A 0) := costV_fun (core_same (A 0)) (by rw [core_hi (by omega)]; omega)
    have hc := costs_t hA.tq
    have hs := isSet_lt hA (s := s) (by omega)
    have hcT := costs_t hA.tq
    have hto := totV_or (c := costV (A 0)) s
    have hlt := totE_lt hcT (s := s) (by omega)
    refine x_aload_n (pc := 19) dX12_can_19 rfl rfl ?_
    refine x_iload_n (pc := 20) dX12_can_20 rfl rfl ?_
    refine x_callV1 (pc := 21) dX12_can_21 rfl kX12_328 (s_totalOf hfl m (core (A 0)) hS R1.re (core_tq hA.tq) R1.rp0 (R1.2.2.1.st (by first | omega | exact isSet_0 (by omega) | exact isSet_0 (s := s) (by omega))) s ⟨by omega, by omega⟩) hS.1 rfl rfl (Nat.le_of_ble_eq_true rfl) (k_G (fun v9 M9 hM9 => ?_)) n_G
    obtain ⟨rfl, f9, p9, c9, b9⟩ := hM9
    have R9 : RM M9 m A := R1.mk9 f9.k p9 c9
    have T9 : M9 m 3 = 0 := (f9 m 3 (by omega) (by omega) (by omega)).trans T1
    have F9 : frM M M9 m := F1.tr f9.k.fr
    rewrite [hcc]
    rewrite [hcc] at b9
    refine x_istore_n (pc := 24) dX12_can_24 rfl (by decide) rfl ?_
    refine x_iload_n (pc := 25) dX12_can_25 rfl rfl ?_
    refine x_iconst (pc := 26) dX12_can_26 (by decide) ?_
    refine x_icmp_ne (tgt := 36) (pc := 27) dX12_can_27 (by decide) (fun c_27 => ?_) (fun c_27 => ?_)
    · have ht9 : totE (costV (A 0)) s ≠ -1 := by omega
      have hP := FV_pb hcT hs ht9
      have hwv := wN_v (s := s) ⟨by omega, hs.2⟩
      have hw5 : wN s ≤ 5 := by omega
      have hh31 := hN_le (c := costV (A 0)) (s := s) ⟨by omega, hs.2⟩ (by omega)
      have hok1 := can1_ok hcT hs (by omega) ht9
      have htb := tot_bd hcT hs ht9
      have hmn := miss_nn hcT hs (by omega) ht9
      have hob := ov_fr hcT hs (by omega) ht9 hok1
      have hmb := RTc.bdZ hP (by omega) hok1 (zA_bd _) (k := wN s) (by omega)
      have hml := mul_bd (a := totV (costV (A 0)) s) (b := ov (wN s) (FV (costV (A 0)) s) (can1 (costV (A 0)) s)) (by omega) (by omega)
      have hnl := nmV_lt (c := costV (A 0)) (s := s) hw5
      refine x_aload_n (pc := 36) dX12_can_36 rfl rfl ?_
      refine x_iload_n (pc := 37) dX12_can_37 rfl rfl ?_
      refine x_callV1 (pc := 38) dX12_can_38 rfl kX12_386 (s_table hfl m s 0 A hS R9 hA (by first | omega | exact isSet_0 (by omega) | exact isSet_0 (s := s) (by omega)) hs (by omega) hP T9 (ZA s) rfl) hS.1 rfl rfl (Nat.le_of_ble_eq_true rfl) (k_U (fun M8 hM8 => ?_)) n_U
      obtain ⟨x8, w8, R8, g8, T8⟩ := hM8
      have F8 : frM M M8 m := F9.tr g8
      refine x_aload_n (pc := 41) dX12_can_41 rfl rfl ?_
      refine x_callV0 (pc := 42) dX12_can_42 rfl kX12_388 (s_solve hfl m hS x8 hP hw5 hh31 (by omega) (fun _ _ => zA_bd _) (st0_ok hP) hnl (by omega)) hS.1 rfl rfl (Nat.le_of_ble_eq_true rfl) (k_G (fun v7 M7 hM7 => ?_)) n_G
      obtain ⟨rfl, x7, f7⟩ := hM7
      have R7 := R8.frT f7
      have T7 : M7 m 3 = 0 := (f7 m 3 (by omega) (by omega)).trans T8
      have F7 : frM M M7 m := F8.tr f7.m
      have x7 : RTm M7 m (wN s) (hN (costV (A 0)) s) (FV (costV (A 0)) s) (can1 (costV (A 0)) s) (nmV (costV (A 0)) s) 1 (ZA s) _ := x7
      have e7 : ta (wN s) (FV (costV (A 0)) s) (slS (wN s) (hN (costV (A 0)) s) (FV (costV (A 0)) s) (ZA s) (st0 (wN s)) (fun _ => false) 1).1 (ZA s (1 - 1)) (wN s) = ta (wN s) (FV (costV (A 0)) s) (can1 (costV (A 0)) s) (zA (wN s)) (wN s) := rfl
      rewrite [e7]
      refine x_lstore_n (pc := 45) dX12_can_45 rfl (by decide) rfl ?_
      refine x_aload_n (pc := 46) dX12_can_46 rfl rfl ?_
      refine x_iload_n (pc := 47) dX12_can_47 rfl rfl ?_
      refine x_i2l (pc := 48) dX12_can_48 ?_
      refine x_aload_n (pc := 49) dX12_can_49 rfl rfl ?_
      refine x_getJV (jj := 45) (pc := 50) dX12_can_50 fX12_364 hS.1 rfl (by decide) rfl (by (repeat (first | rewrite [up_s] | rewrite [up_i (by omega)] | rewrite [up_a (by omega)] | rewrite [stM_a (by omega) (by omega)])); first | exact R1.1.1 _ (by omega) (by omega) | exact x7.1.2.2.2 | rfl) ?_
      refine x_lmul (pc := 53) dX12_can_53 (by omega) ?_
      refine x_lload_n (pc := 54) dX12_can_54 rfl rfl ?_
      refine x_lsub (pc := 55) dX12_can_55 (by omega) ?_
      have hmV : totV (costV (A 0)) s * ov (wN s) (FV (costV (A 0)) s) (can1 (costV (A 0)) s) - ta (wN s) (FV (costV (A 0)) s) (can1 (costV (A 0)) s) (zA (wN s)) (wN s) = mssV (costV (A 0)) s := rfl
      rewrite [hmV]
      have hmn2 : mssV (costV (A 0)) s ≤ 1139973655678156800 := by
        unfold mssV
        omega
      refine x_aload_n (pc := 56) dX12_can_56 rfl rfl ?_
      refine x_getJV (jj := 45) (pc := 57) dX12_can_57 fX12_364 hS.1 rfl (by decide) rfl (by (repeat (first | rewrite [up_s] | rewrite [up_i (by omega)] | rewrite [up_a (by omega)] | rewrite [stM_a (by omega) (by omega)])); first | exact R1.1.1 _ (by omega) (by omega) | exact x7.1.2.2.2 | rfl) ?_
      refine x_callV2 (pc := 60) dX12_can_60 rfl kX12_392 (s_fraction hfl m (mssV (costV (A 0)) s) (ov (wN s) (FV (costV (A 0)) s) (can1 (costV (A 0)) s)) hS ⟨by omega, by omega⟩ ⟨by omega, by omega⟩) hS.1 rfl rfl (Nat.le_of_ble_eq_true rfl) (k_U (fun M6 hM6 => ?_)) n_U
      subst hM6
      refine x_aload_n (pc := 63) dX12_can_63 rfl rfl ?_
      refine x_getJV (jj := 34) (pc := 64) dX12_can_64 fX12_339 hS.1 rfl (by decide) rfl (by (repeat (first | rewrite [up_s] | rewrite [up_i (by omega)] | rewrite [up_a (by omega)] | rewrite [stM_a (by omega) (by omega)])); first | exact R1.1.1 _ (by omega) (by omega) | exact x7.1.2.2.2 | rfl) ?_
      refine x_lconst0 (pc := 67) dX12_can_67 ?_
      refine x_lne (tgt := 76) (pc := 68) dX12_can_68 dX12_can_69 (by decide) (fun c_68 => ?_) (fun c_68 => ?_)
      · refine x_iconst (pc := 76) dX12_can_76 (by decide) ?_
        refine x_zreturn (pc := 77) dX12_can_77 rfl (by omega) (by decide) ?_
        have hz0 : ¬ mssV (costV (A 0)) s = 0 := fun z => absurd ((frU_0 (q := ov (wN s) (FV (costV (A 0)) s) (can1 (costV (A 0)) s)) (by omega) hob.1).mpr z) (by assumption)
        have e9 : spCan A s = (0, 0, frA A (mssV (costV (A 0)) s) (ov (wN s) (FV (costV (A 0)) s) (can1 (costV (A 0)) s))) := by
          unfold spCan
          rw [if_neg (by omega), if_neg (by omega), if_neg hz0]
        rw [e9]
        exact ⟨_, rfl, rfl, rfl, rfl, by rw [up_i (by omega), up_i (by omega)]; exact T7, fun _ => rfl, R7.fr, (F7.up (by omega)).up (by omega)⟩
      · refine x_iconst (pc := 72) dX12_can_72 (by decide) ?_
        refine x_goto (tgt := 77) (pc := 73) dX12_can_73 (by decide) ?_
        refine x_zreturn (pc := 77) dX12_can_77 rfl (by omega) (by decide) ?_
        have hz0 : mssV (costV (A 0)) s = 0 := (frU_0 (by omega) hob.1).mp (by assumption)
        have e9 : spCan A s = (0, 1, frA A (mssV (costV (A 0)) s) (ov (wN s) (FV (costV (A 0)) s) (can1 (costV (A 0)) s))) := by
          unfold spCan
          rw [if_neg (by omega), if_neg (by omega), if_pos hz0]
        rw [e9]
        exact ⟨_, rfl, rfl, rfl, rfl, by rw [up_i (by omega), up_i (by omega)]; exact T7, fun _ => rfl, R7.fr, (F7.up (by omega)).up (by omega)⟩
    · refine x_aload_n (pc := 30) dX12_can_30 rfl rfl ?_
      refine x_iconst (pc := 31) dX12_can_31 (by decide) ?_
      refine x_callV1 (pc := 32) dX12_can_32 rfl kX12_133 (s_fell hfl m _ hS) hS.1 rfl rfl (Nat.le_of_ble_eq_true rfl) (k_G (fun v9 M9 hM9 => ?_)) n_G
      obtain ⟨rfl, rfl⟩ := hM9
      refine x_zreturn (pc := 35) dX12_can_35 rfl (by omega) (by decide) ?_
      have e9 : spCan A s = (2, 0, A) := by
        unfold spCan
        rw [if_neg (by omega), if_pos (by omega)]
      rw [e9]
      exact ⟨_, rfl, rfl, rfl, rfl, up_s, fun q => absurd q (show ¬ (2 : Int) = 0 by decide), R9.up3, F9.up (by omega)⟩
  · rw [e0] at q_7
    refine x_if_ne (tgt := 19) (pc := 10) dX12_can_10 (by decide) (fun c => absurd c (by decide)) (fun _ => ?_)
    refine x_aload_n (pc := 13) dX12_can_13 rfl rfl ?_
    refine x_iconst (pc := 14) dX12_can_14 (by decide) ?_
    refine x_callV1 (pc := 15) dX12_can_15 rfl kX12_133 (s_fell hfl m _ hS) hS.1 rfl rfl (Nat.le_of_ble_eq_true rfl) (k_G (fun v9 M9 hM9 => ?_)) n_G
    obtain ⟨rfl, rfl⟩ := hM9
    refine x_zreturn (pc := 18) dX12_can_18 rfl (by omega) (by decide) ?_
    have e9 : spCan A s = (1, 0, A) := by
      unfold spCan
      rw [if_pos (by omega)]
    rw [e9]
    exact ⟨_, rfl, rfl, rfl, rfl, up_s, fun q => absurd q (show ¬ (1 : Int) = 0 by decide), R1.up3, F1.up (by omega)⟩
theorem s_holdsSome {l : Launch} {E : aE} {N : Nat} {S : aS} {M : aM} (hfl : l.stackTraces = false) (m s : Int) (A : aM) (hS : lyM S m) (hR : RM M m A) (hA : TOK (A 0)) (hn : A 0 0 ≠ 0) (hs : 0 < s ∧ s < 128) (h5 : sumN (hb s) 7 ≤ 5) : aMt l E pX12_holdsSome [(2, m), (0, s)] N S M (aG N S (fun v M' => v = (0, if totE (costV (A 0)) s ≠ -1 ∧ mssV (costV (A 0)) s = 0 then 1 else 0) ∧ RM M' m A ∧ frM M M' m)) := by
  refine a_met hfl rfl (by decide +kernel) (Nat.le_of_ble_eq_true rfl) ?_
  have h6 := hA.tq.2.2.2.2.2.1
  have hcc : costV (core (A 0)) = costV (A 0) := costV_fun (core_same (A 0)) (by rw [core_hi (by omega)]; omega)
  have hc := costs_t hA.tq
  have hcT := costs_t hA.tq
  have hto := totV_or (c := costV (A 0)) s
  have hlt := totE_lt hcT (s := s) (by omega)

  refine x_aload_n (pc := 0) dX12_holdsSome_0 rfl rfl ?_
  refine x_iload_n (pc := 1) dX12_holdsSome_1 rfl rfl ?_
  refine x_callV1 (pc := 2) dX12_holdsSome_2 rfl kX12_328 (s_totalOf hfl m (core (A 0)) hS hR.re (core_tq hA.tq) hR.rp0 (hR.2.2.1.st (by first | omega | exact isSet_0 (by omega) | exact isSet_0 (s := s) (by omega))) s ⟨by omega, by omega⟩) hS.1 rfl rfl (Nat.le_of_ble_eq_true rfl) (k_G (fun v9 M9 hM9 => ?_)) n_G
  obtain ⟨rfl, f9, p9, c9, b9⟩ := hM9
  have R9 : RM M9 m A := hR.mk9 f9.k p9 c9
  have T9 : M9 m 3 = M m 3 := (f9 m 3 (by omega) (by omega) (by omega)).trans rfl
  have F9 : frM M M9 m := frM.rf.tr f9.k.fr
  rewrite [hcc]
  rewrite [hcc] at b9
  refine x_istore_n (pc := 5) dX12_holdsSome_5 rfl (by decide) rfl ?_
  refine x_iload_n (pc := 6) dX12_holdsSome_6 rfl rfl ?_
  refine x_iconst (pc := 7) dX12_holdsSome_7 (by decide) ?_
  refine x_icmp_ne (tgt := 13) (pc := 8) dX12_holdsSome_8 (by decide) (fun c_8 => ?_) (fun c_8 => ?_)
  · have ht9 : totE (costV (A 0)) s ≠ -1 := by omega
    have hP := FV_pb hcT hs ht9
    have hwv := wN_v (s := s) ⟨by omega, hs.2⟩
    have hw5 : wN s ≤ 5 := by omega
    have hh31 := hN_le (c := costV (A 0)) (s := s) ⟨by omega, hs.2⟩ (by omega)
    have hok1 := can1_ok hcT hs (by omega) ht9
    have htb := tot_bd hcT hs ht9
    have hmn := miss_nn hcT hs (by omega) ht9
    have hob := ov_fr hcT hs (by omega) ht9 hok1
    have hmb := RTc.bdZ hP (by omega) hok1 (zA_bd _) (k := wN s) (by omega)
    have hml := mul_bd (a := totV (costV (A 0)) s) (b := ov (wN s) (FV (costV (A 0)) s) (can1 (costV (A 0)) s)) (by omega) (by omega)
    have hnl := nmV_lt (c := costV (A 0)) (s := s) hw5
    refine x_aload_n (pc := 13) dX12_holdsSome_13 rfl rfl ?_
    refine x_iload_n (pc := 14) dX12_holdsSome_14 rfl rfl ?_
    refine x_callV1 (pc := 15) dX12_holdsSome_15 rfl kX12_386 (s_table hfl m s (M m 3) A hS R9 hA (by first | omega | exact isSet_0 (by omega) | exact isSet_0 (s := s) (by omega)) hs (by omega) hP T9 (ZA s) rfl) hS.1 rfl rfl (Nat.le_of_ble_eq_true rfl) (k_U (fun M8 hM8 => ?_)) n_U
    obtain ⟨x8, w8, R8, g8, T8⟩ := hM8
    have F8 : frM M M8 m := F9.tr g8
    refine x_aload_n (pc := 18) dX12_holdsSome_18 rfl rfl ?_
    refine x_callV0 (pc := 19) dX12_holdsSome_19 rfl kX12_388 (s_solve hfl m hS x8 hP hw5 hh31 (by omega) (fun _ _ => zA_bd _) (st0_ok hP) hnl (by omega)) hS.1 rfl rfl (Nat.le_of_ble_eq_true rfl) (k_G (fun v7 M7 hM7 => ?_)) n_G
    obtain ⟨rfl, x7, f7⟩ := hM7
    have R7 := R8.frT f7
    have T7 : M7 m 3 = M m 3 := (f7 m 3 (by omega) (by omega)).trans T8
    have F7 : frM M M7 m := F8.tr f7.m
    have x7 : RTm M7 m (wN s) (hN (costV (A 0)) s) (FV (costV (A 0)) s) (can1 (costV (A 0)) s) (nmV (costV (A 0)) s) 1 (ZA s) _ := x7
    have e7 : ta (wN s) (FV (costV (A 0)) s) (slS (wN s) (hN (costV (A 0)) s) (FV (costV (A 0)) s) (ZA s) (st0 (wN s)) (fun _ => false) 1).1 (ZA s (1 - 1)) (wN s) = ta (wN s) (FV (costV (A 0)) s) (can1 (costV (A 0)) s) (zA (wN s)) (wN s) := rfl
    rewrite [e7]
    refine x_iload_n (pc := 22) dX12_holdsSome_22 rfl rfl ?_
    refine x_i2l (pc := 23) dX12_holdsSome_23 ?_
    refine x_aload_n (pc := 24) dX12_holdsSome_24 rfl rfl ?_
    refine x_getJV (jj := 45) (pc := 25) dX12_holdsSome_25 fX12_364 hS.1 rfl (by decide) rfl (by (repeat (first | rewrite [up_s] | rewrite [up_i (by omega)] | rewrite [up_a (by omega)] | rewrite [stM_a (by omega) (by omega)])); first | exact x7.1.2.2.2 | rfl) ?_
    refine x_lmul (pc := 28) dX12_holdsSome_28 (by omega) ?_
    refine x_lne (tgt := 37) (pc := 29) dX12_holdsSome_29 dX12_holdsSome_30 (by decide) (fun c_29 => ?_) (fun c_29 => ?_)
    · refine x_iconst (pc := 37) dX12_holdsSome_37 (by decide) ?_
      refine x_zreturn (pc := 38) dX12_holdsSome_38 rfl (by omega) (by decide) ?_
      refine ⟨_, rfl, rfl, rfl, ?_, R7, F7⟩
      rw [if_neg (fun z => by
        have z := z.2
        unfold mssV at z
        omega)]
    · refine x_iconst (pc := 33) dX12_holdsSome_33 (by decide) ?_
      refine x_goto (tgt := 38) (pc := 34) dX12_holdsSome_34 (by decide) ?_
      refine x_zreturn (pc := 38) dX12_holdsSome_38 rfl (by omega) (by decide) ?_
      refine ⟨_, rfl, rfl, rfl, ?_, R7, F7⟩
      rw [if_pos ⟨ht9, by unfold mssV; omega⟩]
  · refine x_iconst (pc := 11) dX12_holdsSome_11 (by decide) ?_
    refine x_zreturn (pc := 12) dX12_holdsSome_12 rfl (by omega) (by decide) ?_
    refine ⟨_, rfl, rfl, rfl, ?_, R9, F9⟩
    rw [if_neg (fun z => by omega)]
