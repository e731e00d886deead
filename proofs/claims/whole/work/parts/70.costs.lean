/-! the class's plans (2), costs -/
theorem RPr.many {M : aM} {b n : Int} {t : Int → Int} (h : RPr M b t) (hn : n ≤ M b 5) : ∀ q, 0 ≤ q → q ≤ n → M (b + 4) q = encF FAR1 (sevV t q) := fun q x y => by
  by_cases e : q = 0
  · subst e; exact h.2.2.2.2
  · exact (h.2.1 q (by omega) (by omega)).2.2.2
/-- the class's memory for prices and plans at b + 5 -/
def RB (M : aM) (b u : Int) (t : Int → Int) : Prop := RHs M 1 t ∧ RTar M u t ∧ RPr M b t ∧ RPl M (b + 6) t
theorem RTar.fB {M M' : aM} {u lo hi : Int} {t : Int → Int} (h : RTar M u t) (f : frB M M' lo hi) (hu : u + 6 ≤ lo) : RTar M' u t := h.cg fun a x y i => f a i (by omega)
theorem RHs.fB {M M' : aM} {lo hi : Int} {t : Int → Int} (h : RHs M 1 t) (f : frB M M' lo hi) (hu : 16 ≤ lo) : RHs M' 1 t := h.cg fun a x y i => f a i (by omega)
def TBs (M : aM) (b : Int) (t : Int → Int) (set a : Int) : Prop := ∀ j i, a ≤ j → j ≤ t 244 → 0 ≤ i → i ≤ roomV t set → (j = 0 → i = 0) → M (b + 7) (57 * j + i) = tbV t (planV t set (t 244 - j).toNat i) i
/-- sets are barred both ways, none from itself -/
def TB (t : Int → Int) : Prop := (∀ a b, 0 ≤ a → a < 7 → 0 ≤ b → b < 7 → t (50 + 7 * a + b) = t (50 + 7 * b + a)) ∧ ∀ a, 0 ≤ a → a < 7 → t (50 + 7 * a + a) = 0
theorem s_worthOf {l : Launch} {E : aE} {N : Nat} {S : aS} {M : aM} (hfl : l.stackTraces = false) (b u : Int) (r rb t : Int → Int) (hL : lyL S b u r rb) (hd : u + 6 ≤ b ∧ 16 ≤ b) (hK : TQ t) (set : Int) (hs : 0 ≤ set ∧ set < 128) (hH : RHs M 1 t) (hT : RTar M u t) (hpr : ∀ q, 0 ≤ q → q ≤ 16 * sumN (hb set) 7 → M (b + 4) q = encF FAR1 (sevV t q)) (hW : RPl M (b + 6) t) : aMt l E pX3_worthOf [(2, b + 5), (0, set)] N S M (aG N S (fun v M' => v = (0, encF FAR1 (allV t set)) ∧ frB M M' (b + 6) (b + 9) ∧ RPl M' (b + 6) t ∧ M' (b + 6) set = encF FAR1 (allV t set) ∧ (M (b + 6) set = -1 → TBs M' b t set 1) ∧ ∀ i, i ≠ set → M' (b + 6) i = M (b + 6) i)) := by
  refine a_met hfl rfl (by decide +kernel) (Nat.le_of_ble_eq_true rfl) ?_
  have h6 := hK.2.2.2.2.2.1
  have hr := roomV_r hK hs
  have hsz := size_r hs
  have loop85 := a_loop2 (fun k M1 => -1 ≤ k ∧ k < t 244 ∧ frB M M1 (b + 7) (b + 9) ∧ TBs M1 b t set (k + 1)) (fun k M1 => (k + 1).toNat) (fun k M1 => aX l E pX3_worthOf (aG N S (fun v M' => v = (0, encF FAR1 (allV t set)) ∧ frB M M' (b + 6) (b + 9) ∧ RPl M' (b + 6) t ∧ M' (b + 6) set = encF FAR1 (allV t set) ∧ (M (b + 6) set = -1 → TBs M' b t set 1) ∧ ∀ i, i ≠ set → M' (b + 6) i = M (b + 6) i)) 0 0 N S M1 85 [(0, (2, b + 5)), (1, (0, set)), (2, (0, roomV t set)), (3, (0, t 244)), (4, (0, k))] []) (by
    intro k M1 hI ih1
    obtain ⟨d1, d2, d3, d4⟩ := hI
    refine x_iload (pc := 85) dX3_worthOf_85 rfl ?_
    refine x_if_lt (tgt := 201) (pc := 87) dX3_worthOf_87 (by decide) (fun c_87 => ?_) (fun c_87 => ?_)
    · have h00 : M1 (b + 7) 0 = encF FAR1 (allV t set) := by
        have z := d4 0 0 (by omega) (by omega) (by omega) (by omega) (fun _ => rfl)
        rw [show (57 : Int) * 0 + 0 = 0 by rfl, show t 244 - 0 = t 244 by omega] at z
        rw [z]
        unfold tbV encF
        rw [show (0 : Int) * t 243 * 512 = 0 by omega, Int.add_zero]
        rfl
      refine x_aload_n (pc := 201) dX3_worthOf_201 rfl rfl ?_
      refine x_getR (jj := 3) (pc := 202) dX3_worthOf_202 fX3_9 hL.1 rfl (by decide) rfl hL.2.1.2.2.2.1 ?_
      refine x_iload_n (pc := 205) dX3_worthOf_205 rfl rfl ?_
      refine x_aload_n (pc := 206) dX3_worthOf_206 rfl rfl ?_
      refine x_getR (jj := 4) (pc := 207) dX3_worthOf_207 fX3_15 hL.1 rfl (by decide) rfl hL.2.1.2.2.2.2.1 ?_
      refine x_iconst (pc := 210) dX3_worthOf_210 (by decide) ?_
      refine x_ialoadV (pc := 211) dX3_worthOf_211 hL.2.2.2.1 (by omega) (by (repeat (first | rewrite [up_s] | rewrite [up_i (by omega)] | rewrite [up_a (by omega)])); first | exact h00 | rfl) (fun g_211 => ?_)
      refine x_iastore (pc := 212) dX3_worthOf_212 hL.2.2.1 (by omega) ?_
      refine x_aload_n (pc := 213) dX3_worthOf_213 rfl rfl ?_
      refine x_getR (jj := 4) (pc := 214) dX3_worthOf_214 fX3_15 hL.1 rfl (by decide) rfl hL.2.1.2.2.2.2.1 ?_
      refine x_iconst (pc := 217) dX3_worthOf_217 (by decide) ?_
      refine x_ialoadV (pc := 218) dX3_worthOf_218 hL.2.2.2.1 (by omega) (by (repeat (first | rewrite [up_s] | rewrite [up_i (by omega)] | rewrite [up_a (by omega)])); first | exact h00 | rfl) (fun g_218 => ?_)
      refine x_ireturn (pc := 219) dX3_worthOf_219 rfl (by decide) ?_
      refine ⟨_, rfl, rfl, rfl, ?_, (d3.wd (by omega) (by omega)).up1 (by omega), ?_, ?_, fun _ j i x y z w q => ?_, fun i x => (up_i x).trans (d3 _ _ (by omega))⟩
      · rfl
      · intro s x y
        by_cases e : s = set
        · subst e; rw [up_s]; exact Or.inr rfl
        · rw [up_i e, d3 _ _ (by omega)]; exact hW s x y
      · rw [up_s]
      · rw [up_a (by omega)]; exact d4 j i (by omega) y z w q
    · refine x_aload_n (pc := 90) dX3_worthOf_90 rfl rfl ?_
      refine x_getR (jj := 0) (pc := 91) dX3_worthOf_91 fX3_21 hL.1 rfl (by decide) rfl hL.2.1.1 ?_
      refine x_iload_n (pc := 94) dX3_worthOf_94 rfl rfl ?_
      refine x_iload (pc := 95) dX3_worthOf_95 rfl ?_
      refine x_callV2 (pc := 97) dX3_worthOf_97 rfl kX3_74 (s_wantsOf hfl 1 set k hL.2.2.2.2.2.1 ⟨by omega, by omega⟩ ((hH.fB d3 (by omega)).c8 hK)) (hL.2.2.2.2.2.1).2.1 rfl rfl (Nat.le_of_ble_eq_true rfl) (k_R ?_) n_R
      rewrite [RHs.want (hH.fB d3 (by omega)) (by omega)]
      have hwr := wantV_r hK hs (m := k) ⟨by omega, by omega⟩
      refine x_istore (pc := 100) dX3_worthOf_100 (by decide) rfl ?_
      refine x_aload_n (pc := 102) dX3_worthOf_102 rfl rfl ?_
      refine x_iload (pc := 103) dX3_worthOf_103 rfl ?_
      refine x_iload (pc := 105) dX3_worthOf_105 rfl ?_
      refine x_iload_n (pc := 107) dX3_worthOf_107 rfl rfl ?_
      refine x_iadd (pc := 108) dX3_worthOf_108 (by omega) ?_
      refine x_callV2 (pc := 109) dX3_worthOf_109 rfl kX3_78 (s_priceMonth hfl b u r rb t hL (hT.fB d3 (by omega)) hK k (wantV t set k + roomV t set) ⟨by omega, by omega⟩ (by omega) (fun q x y => (d3 _ _ (by omega)).trans (hpr q x (by omega)))) hL.1 rfl rfl (Nat.le_of_ble_eq_true rfl) (k_U (fun M9 hM9 => ?_)) n_U
      obtain ⟨f9, p9⟩ := hM9
      have d9 : frB M M9 (b + 7) (b + 9) := d3.tr (f9.wd (by omega) (by omega))
      have J122 : 0 ≤ k → ∀ mo : Int, (0 ≤ mo ∧ mo ≤ roomV t set) → (k = 0 → mo = 0) → (k ≠ 0 → mo = roomV t set) → aX l E pX3_worthOf (aG N S (fun v M' => v = (0, encF FAR1 (allV t set)) ∧ frB M M' (b + 6) (b + 9) ∧ RPl M' (b + 6) t ∧ M' (b + 6) set = encF FAR1 (allV t set) ∧ (M (b + 6) set = -1 → TBs M' b t set 1) ∧ ∀ i, i ≠ set → M' (b + 6) i = M (b + 6) i)) 0 0 N S M9 122 [(0, (2, b + 5)), (1, (0, set)), (2, (0, roomV t set)), (3, (0, t 244)), (4, (0, k)), (5, (0, wantV t set k))] [(0, mo)] := by
        intro hk0 mo hmo hmo1 hmo2
        have loop127 : (0 ≤ k) → ∀ (kept : Int) (M2 : aM), (0 ≤ kept ∧ kept ≤ mo + 1 ∧ frB M M2 (b + 7) (b + 9) ∧ TBs M2 b t set (k + 1) ∧ (∀ q, 0 ≤ q → q ≤ wantV t set k + roomV t set → M2 (b + 8) q = mnV t k q) ∧ ∀ i, 0 ≤ i → i < kept → M2 (b + 7) (57 * k + i) = tbV t (planV t set (t 244 - k).toNat i) i) → aX l E pX3_worthOf (aG N S (fun v M' => v = (0, encF FAR1 (allV t set)) ∧ frB M M' (b + 6) (b + 9) ∧ RPl M' (b + 6) t ∧ M' (b + 6) set = encF FAR1 (allV t set) ∧ (M (b + 6) set = -1 → TBs M' b t set 1) ∧ ∀ i, i ≠ set → M' (b + 6) i = M (b + 6) i)) 0 0 N S M2 127 [(0, (2, b + 5)), (1, (0, set)), (2, (0, roomV t set)), (3, (0, t 244)), (4, (0, k)), (5, (0, wantV t set k)), (6, (0, mo)), (7, (0, kept))] [] := by
          intro hk0
          exact a_loop2 (fun kept M2 => 0 ≤ kept ∧ kept ≤ mo + 1 ∧ frB M M2 (b + 7) (b + 9) ∧ TBs M2 b t set (k + 1) ∧ (∀ q, 0 ≤ q → q ≤ wantV t set k + roomV t set → M2 (b + 8) q = mnV t k q) ∧ ∀ i, 0 ≤ i → i < kept → M2 (b + 7) (57 * k + i) = tbV t (planV t set (t 244 - k).toNat i) i) (fun kept M2 => (mo + 1 - kept).toNat) (fun kept M2 => aX l E pX3_worthOf (aG N S (fun v M' => v = (0, encF FAR1 (allV t set)) ∧ frB M M' (b + 6) (b + 9) ∧ RPl M' (b + 6) t ∧ M' (b + 6) set = encF FAR1 (allV t set) ∧ (M (b + 6) set = -1 → TBs M' b t set 1) ∧ ∀ i, i ≠ set → M' (b + 6) i = M (b + 6) i)) 0 0 N S M2 127 [(0, (2, b + 5)), (1, (0, set)), (2, (0, roomV t set)), (3, (0, t 244)), (4, (0, k)), (5, (0, wantV t set k)), (6, (0, mo)), (7, (0, kept))] []) (by
            intro kept M2 hI2 ih2
            obtain ⟨g1, g2, g3, g4, g5, g6⟩ := hI2
            have hV := planV_1 (t := t) (set := set) (k := t 244 - k) (kept := kept) (by omega)
            rw [show t 244 - (t 244 - k) = k by omega, show t 244 - k - 1 = t 244 - (k + 1) by omega] at hV
            have hpv := fun z : kept ≤ roomV t set => planV_r1 (t := t) (set := set) (k := t 244 - k) (kept := kept) hK hs (by omega) ⟨g1, z⟩
            unfold okP at hpv
            have a1 : 0 ≤ kept * t 243 := Int.mul_nonneg g1 hK.2.2.2.2.1.1
            have a2 : kept * t 243 ≤ kept * 99 := Int.mul_le_mul_of_nonneg_left hK.2.2.2.2.1.2 g1
            have ef := encF_or (planV t set (t 244 - k).toNat kept)
            have et := tbV_or t (planV t set (t 244 - k).toNat kept) kept
            refine x_iload (pc := 127) dX3_worthOf_127 rfl ?_
            refine x_iload (pc := 129) dX3_worthOf_129 rfl ?_
            refine x_icmp_gt (tgt := 195) (pc := 131) dX3_worthOf_131 (by decide) (fun c_131 => ?_) (fun c_131 => ?_)
            · refine x_iinc (pc := 195) dX3_worthOf_195 rfl (by omega) (by decide) rfl ?_
              refine x_goto (tgt := 85) (pc := 198) dX3_worthOf_198 (by decide) ?_
              refine x_lo (lo' := [(0, (2, b + 5)), (1, (0, set)), (2, (0, roomV t set)), (3, (0, t 244)), (4, (0, (k - 1)))]) ⟨rfl, rfl, rfl, rfl, rfl, trivial⟩ (ih1 (k - 1) _ ⟨by omega, by omega, g3, fun j i x y z w q => ?_⟩ (by omega))
              by_cases e : j = k
              · subst e
                by_cases e0 : j = 0
                · have := q e0
                  exact g6 i z (by omega)
                · exact g6 i z (by have := hmo2 e0; omega)
              · exact g4 j i (by omega) y z w q
            · refine x_aload_n (pc := 134) dX3_worthOf_134 rfl rfl ?_
              refine x_iload (pc := 135) dX3_worthOf_135 rfl ?_
              refine x_iload (pc := 137) dX3_worthOf_137 rfl ?_
              refine x_iload (pc := 139) dX3_worthOf_139 rfl ?_
              refine x_iload_n (pc := 141) dX3_worthOf_141 rfl rfl ?_
              refine x_callV4 (pc := 142) dX3_worthOf_142 rfl kX3_97 (s_leastFrom hfl b u r rb t hL (hT.fB g3 (by omega)) hK set k kept hs ⟨by omega, by omega⟩ ⟨by omega, by omega⟩ g5 (fun i x y => g4 (k + 1) i (by omega) (by omega) x y (by omega))) hL.1 rfl rfl (Nat.le_of_ble_eq_true rfl) (k_R ?_) n_R
              rewrite [← hV]
              have hpv := hpv (by omega)
              refine x_istore (pc := 145) dX3_worthOf_145 (by decide) rfl ?_
              refine x_aload_n (pc := 147) dX3_worthOf_147 rfl rfl ?_
              refine x_getR (jj := 4) (pc := 148) dX3_worthOf_148 fX3_15 hL.1 rfl (by decide) rfl hL.2.1.2.2.2.2.1 ?_
              refine x_iload (pc := 151) dX3_worthOf_151 rfl ?_
              refine x_bipush (pc := 153) dX3_worthOf_153 (by decide) ?_
              refine x_imul (pc := 155) dX3_worthOf_155 (by omega) ?_
              refine x_iload (pc := 156) dX3_worthOf_156 rfl ?_
              refine x_iadd (pc := 158) dX3_worthOf_158 (by omega) ?_
              refine x_iload (pc := 159) dX3_worthOf_159 rfl ?_
              refine x_ldc (n := 536870912) (pc := 161) cX3_64 (by decide) dX3_worthOf_161 ?_
              refine x_icmp_lt (tgt := 171) (pc := 163) dX3_worthOf_163 (by decide) (fun c_163 => ?_) (fun c_163 => ?_)
              · refine x_iload (pc := 171) dX3_worthOf_171 rfl ?_
                refine x_iload (pc := 173) dX3_worthOf_173 rfl ?_
                refine x_aload_n (pc := 175) dX3_worthOf_175 rfl rfl ?_
                refine x_getR (jj := 1) (pc := 176) dX3_worthOf_176 fX3_25 hL.1 rfl (by decide) rfl hL.2.1.2.1 ?_
                refine x_getIV (jj := 8) (pc := 179) dX3_worthOf_179 fX3_94 (hL.2.2.2.2.2.2.2.2.2.2.2.2).1 rfl (by decide) rfl (by (repeat (first | rewrite [up_s] | rewrite [up_i (by omega)] | rewrite [up_a (by omega)])); first | exact (hT.fB g3 (by omega)).2.2.2.2.2.2.1 | rfl) ?_
                refine x_imul (pc := 182) dX3_worthOf_182 (by omega) ?_
                refine x_sipush (pc := 183) dX3_worthOf_183 (by decide) ?_
                refine x_imul (pc := 186) dX3_worthOf_186 (by omega) ?_
                refine x_iadd (pc := 187) dX3_worthOf_187 (by omega) ?_
                refine x_iastore (pc := 188) dX3_worthOf_188 hL.2.2.2.1 (by omega) ?_
                refine x_iinc (pc := 189) dX3_worthOf_189 rfl (by omega) (by decide) rfl ?_
                refine x_goto (tgt := 127) (pc := 192) dX3_worthOf_192 (by decide) ?_
                refine x_lo (lo' := [(0, (2, b + 5)), (1, (0, set)), (2, (0, roomV t set)), (3, (0, t 244)), (4, (0, k)), (5, (0, wantV t set k)), (6, (0, mo)), (7, (0, (kept + 1)))]) ⟨rfl, rfl, rfl, rfl, rfl, rfl, rfl, rfl, trivial⟩ (ih2 (kept + 1) _ ⟨by omega, by omega, g3.up1 (by omega), fun j i x y z w q => ?_, fun q x y => (up_a (by omega)).trans (g5 q x y), fun i x y => ?_⟩ (by omega))
                · rw [up_i (by omega)]; exact g4 j i x y z w q
                · by_cases e : i = kept
                  · subst e
                    rw [show 57 * k + i = k * 57 + i by omega, up_s]
                    omega
                  · rw [up_i (by omega)]; exact g6 i x (by omega)
              · refine x_ldc (n := 536870912) (pc := 166) cX3_64 (by decide) dX3_worthOf_166 ?_
                refine x_goto (tgt := 188) (pc := 168) dX3_worthOf_168 (by decide) ?_
                refine x_iastore (pc := 188) dX3_worthOf_188 hL.2.2.2.1 (by omega) ?_
                refine x_iinc (pc := 189) dX3_worthOf_189 rfl (by omega) (by decide) rfl ?_
                refine x_goto (tgt := 127) (pc := 192) dX3_worthOf_192 (by decide) ?_
                refine x_lo (lo' := [(0, (2, b + 5)), (1, (0, set)), (2, (0, roomV t set)), (3, (0, t 244)), (4, (0, k)), (5, (0, wantV t set k)), (6, (0, mo)), (7, (0, (kept + 1)))]) ⟨rfl, rfl, rfl, rfl, rfl, rfl, rfl, rfl, trivial⟩ (ih2 (kept + 1) _ ⟨by omega, by omega, g3.up1 (by omega), fun j i x y z w q => ?_, fun q x y => (up_a (by omega)).trans (g5 q x y), fun i x y => ?_⟩ (by omega))
                · rw [up_i (by omega)]; exact g4 j i x y z w q
                · by_cases e : i = kept
                  · subst e
                    rw [show 57 * k + i = k * 57 + i by omega, up_s]
                    omega
                  · rw [up_i (by omega)]; exact g6 i x (by omega))
        refine x_istore (pc := 122) dX3_worthOf_122 (by decide) rfl ?_
        refine x_iconst (pc := 124) dX3_worthOf_124 (by decide) ?_
        refine x_istore (pc := 125) dX3_worthOf_125 (by decide) rfl ?_
        refine x_lo (lo' := [(0, (2, b + 5)), (1, (0, set)), (2, (0, roomV t set)), (3, (0, t 244)), (4, (0, k)), (5, (0, wantV t set k)), (6, (0, mo)), (7, (0, 0))]) ⟨rfl, rfl, rfl, rfl, rfl, rfl, rfl, rfl, trivial⟩ (loop127 hk0 (0) _ ⟨by omega, by omega, d9, fun j i x y z w q => ?_, p9, fun i x y => by omega⟩)
        exact (f9 _ _ (by omega)).trans (d4 j i x y z w q)
      refine x_iload (pc := 112) dX3_worthOf_112 rfl ?_
      refine x_if_ne (tgt := 121) (pc := 114) dX3_worthOf_114 (by decide) (fun c_114 => ?_) (fun c_114 => ?_)
      · refine x_iload_n (pc := 121) dX3_worthOf_121 rfl rfl ?_
        exact x_lo (lo' := [(0, (2, b + 5)), (1, (0, set)), (2, (0, roomV t set)), (3, (0, t 244)), (4, (0, k)), (5, (0, wantV t set k))]) ⟨rfl, rfl, rfl, rfl, rfl, rfl, trivial⟩ (J122 (by omega) _ (by omega) (fun q => absurd q (by assumption)) (fun _ => rfl))
      · refine x_iconst (pc := 117) dX3_worthOf_117 (by decide) ?_
        refine x_goto (tgt := 122) (pc := 118) dX3_worthOf_118 (by decide) ?_
        exact x_lo (lo' := [(0, (2, b + 5)), (1, (0, set)), (2, (0, roomV t set)), (3, (0, t 244)), (4, (0, k)), (5, (0, wantV t set k))]) ⟨rfl, rfl, rfl, rfl, rfl, rfl, trivial⟩ (J122 (by omega) _ (by omega) (fun _ => rfl) (fun q => absurd (by omega) q)))
  have loop42 := a_loop2 (fun i M1 => 0 ≤ i ∧ i ≤ roomV t set + 1 ∧ frB M M1 (b + 7) (b + 9) ∧ ∀ j, 0 ≤ j → j < i → M1 (b + 7) (57 * t 244 + j) = tbV t 0 j) (fun i M1 => (roomV t set + 1 - i).toNat) (fun i M1 => aX l E pX3_worthOf (aG N S (fun v M' => v = (0, encF FAR1 (allV t set)) ∧ frB M M' (b + 6) (b + 9) ∧ RPl M' (b + 6) t ∧ M' (b + 6) set = encF FAR1 (allV t set) ∧ (M (b + 6) set = -1 → TBs M' b t set 1) ∧ ∀ i, i ≠ set → M' (b + 6) i = M (b + 6) i)) 0 0 N S M1 42 [(0, (2, b + 5)), (1, (0, set)), (2, (0, roomV t set)), (3, (0, t 244)), (4, (0, i))] []) (by
    intro i M1 hI ih0
    obtain ⟨c1, c2, c3, c4⟩ := hI
    have a1 : 0 ≤ i * t 243 := Int.mul_nonneg c1 hK.2.2.2.2.1.1
    have a2 : i * t 243 ≤ i * 99 := Int.mul_le_mul_of_nonneg_left hK.2.2.2.2.1.2 c1
    refine x_iload (pc := 42) dX3_worthOf_42 rfl ?_
    refine x_iload_n (pc := 44) dX3_worthOf_44 rfl rfl ?_
    refine x_icmp_gt (tgt := 80) (pc := 45) dX3_worthOf_45 (by decide) (fun c_45 => ?_) (fun c_45 => ?_)
    · refine x_iload_n (pc := 80) dX3_worthOf_80 rfl rfl ?_
      refine x_iconst (pc := 81) dX3_worthOf_81 (by decide) ?_
      refine x_isub (pc := 82) dX3_worthOf_82 (by omega) ?_
      refine x_istore (pc := 83) dX3_worthOf_83 (by decide) rfl ?_
      refine x_lo (lo' := [(0, (2, b + 5)), (1, (0, set)), (2, (0, roomV t set)), (3, (0, t 244)), (4, (0, (t 244 - 1)))]) ⟨rfl, rfl, rfl, rfl, rfl, trivial⟩ (loop85 (t 244 - 1) _ ⟨by omega, by omega, c3, fun j i x y z w q => ?_⟩)
      have e : j = t 244 := by omega
      subst e
      rw [show t 244 - t 244 = (0 : Int) by omega]
      exact c4 i z (by omega)
    · refine x_aload_n (pc := 48) dX3_worthOf_48 rfl rfl ?_
      refine x_getR (jj := 4) (pc := 49) dX3_worthOf_49 fX3_15 hL.1 rfl (by decide) rfl hL.2.1.2.2.2.2.1 ?_
      refine x_iload_n (pc := 52) dX3_worthOf_52 rfl rfl ?_
      refine x_bipush (pc := 53) dX3_worthOf_53 (by decide) ?_
      refine x_imul (pc := 55) dX3_worthOf_55 (by omega) ?_
      refine x_iload (pc := 56) dX3_worthOf_56 rfl ?_
      refine x_iadd (pc := 58) dX3_worthOf_58 (by omega) ?_
      refine x_iload (pc := 59) dX3_worthOf_59 rfl ?_
      refine x_aload_n (pc := 61) dX3_worthOf_61 rfl rfl ?_
      refine x_getR (jj := 1) (pc := 62) dX3_worthOf_62 fX3_25 hL.1 rfl (by decide) rfl hL.2.1.2.1 ?_
      refine x_getIV (jj := 8) (pc := 65) dX3_worthOf_65 fX3_94 (hL.2.2.2.2.2.2.2.2.2.2.2.2).1 rfl (by decide) rfl (by (repeat (first | rewrite [up_s] | rewrite [up_i (by omega)] | rewrite [up_a (by omega)])); first | exact (hT.fB c3 (by omega)).2.2.2.2.2.2.1 | rfl) ?_
      refine x_imul (pc := 68) dX3_worthOf_68 (by omega) ?_
      refine x_sipush (pc := 69) dX3_worthOf_69 (by decide) ?_
      refine x_imul (pc := 72) dX3_worthOf_72 (by omega) ?_
      refine x_iastore (pc := 73) dX3_worthOf_73 hL.2.2.2.1 (by omega) ?_
      refine x_iinc (pc := 74) dX3_worthOf_74 rfl (by omega) (by decide) rfl ?_
      refine x_goto (tgt := 42) (pc := 77) dX3_worthOf_77 (by decide) ?_
      refine x_lo (lo' := [(0, (2, b + 5)), (1, (0, set)), (2, (0, roomV t set)), (3, (0, t 244)), (4, (0, (i + 1)))]) ⟨rfl, rfl, rfl, rfl, rfl, trivial⟩ (ih0 (i + 1) _ ⟨by omega, by omega, c3.up1 (by omega), fun j x y => ?_⟩ (by omega))
      by_cases e : j = i
      · subst e
        rw [show 57 * t 244 + j = t 244 * 57 + j by omega, up_s]
        unfold tbV
        rw [if_neg (by decide), Int.zero_add]
      · rw [up_i (by omega)]; exact c4 j x (by omega))
  refine x_aload_n (pc := 0) dX3_worthOf_0 rfl rfl ?_
  refine x_getR (jj := 3) (pc := 1) dX3_worthOf_1 fX3_9 hL.1 rfl (by decide) rfl hL.2.1.2.2.2.1 ?_
  refine x_iload_n (pc := 4) dX3_worthOf_4 rfl rfl ?_
  refine x_ialoadV (pc := 5) dX3_worthOf_5 hL.2.2.1 (by omega) (by (repeat (first | rewrite [up_s] | rewrite [up_i (by omega)] | rewrite [up_a (by omega)])); first | exact hT.2.2.2.2.2.2.2.1 | rfl) (fun g_5 => ?_)
  refine x_iconst (pc := 6) dX3_worthOf_6 (by decide) ?_
  refine x_icmp_eq (tgt := 17) (pc := 7) dX3_worthOf_7 (by decide) (fun c_7 => ?_) (fun c_7 => ?_)
  · refine x_aload_n (pc := 17) dX3_worthOf_17 rfl rfl ?_
    refine x_getR (jj := 0) (pc := 18) dX3_worthOf_18 fX3_21 hL.1 rfl (by decide) rfl hL.2.1.1 ?_
    refine x_iload_n (pc := 21) dX3_worthOf_21 rfl rfl ?_
    refine x_callV1 (pc := 22) dX3_worthOf_22 rfl kX3_71 (s_cellarsOf hfl 1 set hL.2.2.2.2.2.1 (hH.c7 hK)) (hL.2.2.2.2.2.1).2.1 rfl rfl (Nat.le_of_ble_eq_true rfl) (k_R ?_) n_R
    rewrite [hH.room]
    refine x_istore_n (pc := 25) dX3_worthOf_25 rfl (by decide) rfl ?_
    refine x_aload_n (pc := 26) dX3_worthOf_26 rfl rfl ?_
    refine x_getR (jj := 1) (pc := 27) dX3_worthOf_27 fX3_25 hL.1 rfl (by decide) rfl hL.2.1.2.1 ?_
    refine x_getIV (jj := 9) (pc := 30) dX3_worthOf_30 fX3_86 (hL.2.2.2.2.2.2.2.2.2.2.2.2).1 rfl (by decide) rfl (by (repeat (first | rewrite [up_s] | rewrite [up_i (by omega)] | rewrite [up_a (by omega)])); first | exact hT.2.2.2.2.2.2.2.1 | rfl) ?_
    refine x_bipush (pc := 33) dX3_worthOf_33 (by decide) ?_
    refine x_min (pc := 35) mtX3_89 dX3_worthOf_35 (by decide) (Nat.le_of_ble_eq_true rfl) ?_
    rewrite [show min (t 244) 6 = t 244 by omega]
    refine x_istore_n (pc := 38) dX3_worthOf_38 rfl (by decide) rfl ?_
    refine x_iconst (pc := 39) dX3_worthOf_39 (by decide) ?_
    refine x_istore (pc := 40) dX3_worthOf_40 (by decide) rfl ?_
    refine x_lo (lo' := [(0, (2, b + 5)), (1, (0, set)), (2, (0, roomV t set)), (3, (0, t 244)), (4, (0, 0))]) ⟨rfl, rfl, rfl, rfl, rfl, trivial⟩ (loop42 (0) _ ⟨by omega, by omega, frB.rf, fun j x y => by omega⟩)
  · refine x_aload_n (pc := 10) dX3_worthOf_10 rfl rfl ?_
    refine x_getR (jj := 3) (pc := 11) dX3_worthOf_11 fX3_9 hL.1 rfl (by decide) rfl hL.2.1.2.2.2.1 ?_
    refine x_iload_n (pc := 14) dX3_worthOf_14 rfl rfl ?_
    refine x_ialoadV (pc := 15) dX3_worthOf_15 hL.2.2.1 (by omega) (by (repeat (first | rewrite [up_s] | rewrite [up_i (by omega)] | rewrite [up_a (by omega)])); first | exact hT.2.2.2.2.2.2.2.1 | rfl) (fun g_15 => ?_)
    refine x_ireturn (pc := 16) dX3_worthOf_16 rfl (by decide) ?_
    have hw9 := hW set hs.1 hs.2
    refine ⟨_, rfl, rfl, rfl, ?_, frB.rf, hW, ?_, fun q => absurd q (by assumption), fun _ _ => rfl⟩
    · rw [show M (b + 6) set = encF FAR1 (allV t set) by omega]
    · omega
theorem s_worthOf2 {l : Launch} {E : aE} {N : Nat} {S : aS} {M : aM} (hfl : l.stackTraces = false) (b u : Int) (r rb t : Int → Int) (hL : lyL S b u r rb) (set : Int) (hs : 0 ≤ set ∧ set < 128) (hw : M (b + 6) set = encF FAR1 (allV t set)) (ha : allV t set = -1 ∨ 0 ≤ allV t set) : aMt l E pX3_worthOf [(2, b + 5), (0, set)] N S M (aR (0, encF FAR1 (allV t set)) N S M) := by
  refine a_met hfl rfl (by decide +kernel) (Nat.le_of_ble_eq_true rfl) ?_
  have ef := encF_or (allV t set)
  refine x_aload_n (pc := 0) dX3_worthOf_0 rfl rfl ?_
  refine x_getR (jj := 3) (pc := 1) dX3_worthOf_1 fX3_9 hL.1 rfl (by decide) rfl hL.2.1.2.2.2.1 ?_
  refine x_iload_n (pc := 4) dX3_worthOf_4 rfl rfl ?_
  refine x_ialoadV (pc := 5) dX3_worthOf_5 hL.2.2.1 (by omega) (by (repeat (first | rewrite [up_s] | rewrite [up_i (by omega)] | rewrite [up_a (by omega)])); first | exact hw | rfl) (fun g_5 => ?_)
  refine x_iconst (pc := 6) dX3_worthOf_6 (by decide) ?_
  refine x_icmp_eq (tgt := 17) (pc := 7) dX3_worthOf_7 (by decide) (fun c_7 => ?_) (fun c_7 => ?_)
  · exfalso; omega
  · refine x_aload_n (pc := 10) dX3_worthOf_10 rfl rfl ?_
    refine x_getR (jj := 3) (pc := 11) dX3_worthOf_11 fX3_9 hL.1 rfl (by decide) rfl hL.2.1.2.2.2.1 ?_
    refine x_iload_n (pc := 14) dX3_worthOf_14 rfl rfl ?_
    refine x_ialoadV (pc := 15) dX3_worthOf_15 hL.2.2.1 (by omega) (by (repeat (first | rewrite [up_s] | rewrite [up_i (by omega)] | rewrite [up_a (by omega)])); first | exact hw | rfl) (fun g_15 => ?_)
    refine x_ireturn (pc := 16) dX3_worthOf_16 rfl (by decide) ?_
    exact ⟨rfl, rfl, rfl, rfl⟩
theorem s_sacksOfC {l : Launch} {E : aE} {N : Nat} {S : aS} {M : aM} (hfl : l.stackTraces = false) (b u : Int) (r rb t : Int → Int) (hL : lyL S b u r rb) (hK : TQ t) (set : Int) (hs : 0 ≤ set ∧ set < 128) (hw : M (b + 6) set = encF FAR1 (allV t set)) (ha : allV t set ≠ -1) : aMt l E pX3_sacksOf [(2, b + 5), (0, set)] N S M (aR (0, allV t set % 512) N S M) := by
  refine a_met hfl rfl (by decide +kernel) (Nat.le_of_ble_eq_true rfl) ?_
  have har := allV_r hK hs
  have ef := encF_or (allV t set)
  refine x_aload_n (pc := 0) dX3_sacksOf_0 rfl rfl ?_
  refine x_iload_n (pc := 1) dX3_sacksOf_1 rfl rfl ?_
  refine x_callV1 (pc := 2) dX3_sacksOf_2 rfl kX3_61 (s_worthOf2 hfl b u r rb t hL set hs hw (by omega)) hL.1 rfl rfl (Nat.le_of_ble_eq_true rfl) (k_R ?_) n_R
  refine x_sipush (pc := 5) dX3_sacksOf_5 (by decide) ?_
  refine x_irem (pc := 8) dX3_sacksOf_8 (by omega) ?_
  refine x_ireturn (pc := 9) dX3_sacksOf_9 rfl (by decide) ?_
  refine ⟨?_, rfl, rfl, rfl⟩
  rw [show encF FAR1 (allV t set) = allV t set by omega, Int.tmod_eq_emod_of_nonneg (by omega)]
theorem s_sacksIn {l : Launch} {E : aE} {N : Nat} {S : aS} {M : aM} (hfl : l.stackTraces = false) (b u : Int) (r rb t : Int → Int) (hL : lyL S b u r rb) (hd : u + 6 ≤ b ∧ 16 ≤ b) (hK : TQ t) (set : Int) (hs : 0 ≤ set ∧ set < 128) (hH : RHs M 1 t) (hT : RTar M u t) (hpr : ∀ q, 0 ≤ q → q ≤ 16 * sumN (hb set) 7 → M (b + 4) q = encF FAR1 (sevV t q)) (hW : RPl M (b + 6) t) (n : Int) (hn : 0 ≤ n ∧ n < t 244) (ha : allV t set ≠ -1) : aMt l E pX3_sacksIn [(2, b + 5), (0, set), (0, n)] N S M (aG N S (fun v M' => v = (0, rowV t set n) ∧ frB M M' (b + 6) (b + 9) ∧ RPl M' (b + 6) t)) := by
  refine a_met hfl rfl (by decide +kernel) (Nat.le_of_ble_eq_true rfl) ?_
  have h6 := hK.2.2.2.2.2.1
  have hr := roomV_r hK hs
  have hsz := size_r hs
  have loop := a_loop4 (fun j k9 s9 M1 => 0 ≤ j ∧ j ≤ n + 1 ∧ k9 = keptV t set j.toNat ∧ (1 ≤ j → s9 = rowV t set (j - 1)) ∧ frB M M1 (b + 6) (b + 9) ∧ RPl M1 (b + 6) t ∧ TBs M1 b t set 1) (fun j k9 s9 M1 => (n + 1 - j).toNat) (fun j k9 s9 M1 => aX l E pX3_sacksIn (aG N S (fun v M' => v = (0, rowV t set n) ∧ frB M M' (b + 6) (b + 9) ∧ RPl M' (b + 6) t)) 0 0 N S M1 31 [(0, (2, b + 5)), (1, (0, set)), (2, (0, n)), (3, (0, roomV t set)), (4, (0, k9)), (5, (0, s9)), (6, (0, j))] []) (by
    intro j k9 s9 M1 hI ih
    obtain ⟨d1, d2, d3, d4, d5, d6, d7⟩ := hI
    refine x_iload (pc := 31) dX3_sacksIn_31 rfl ?_
    refine x_iload_n (pc := 33) dX3_sacksIn_33 rfl rfl ?_
    refine x_icmp_gt (tgt := 99) (pc := 34) dX3_sacksIn_34 (by decide) (fun c_34 => ?_) (fun c_34 => ?_)
    · refine x_iload (pc := 99) dX3_sacksIn_99 rfl ?_
      refine x_ireturn (pc := 101) dX3_sacksIn_101 rfl (by decide) ?_
      refine ⟨_, rfl, rfl, rfl, ?_, d5, d6⟩
      have e : j = n + 1 := by omega
      rw [d4 (by omega), e, show n + 1 - 1 = n by omega]
    · refine x_iload (pc := 37) dX3_sacksIn_37 rfl ?_
      refine x_bipush (pc := 39) dX3_sacksIn_39 (by decide) ?_
      refine x_icmp_ge (tgt := 99) (pc := 41) dX3_sacksIn_41 (by decide) (fun c_41 => ?_) (fun c_41 => ?_)
      · refine x_iload (pc := 99) dX3_sacksIn_99 rfl ?_
        refine x_ireturn (pc := 101) dX3_sacksIn_101 rfl (by decide) ?_
        refine ⟨_, rfl, rfl, rfl, ?_, d5, d6⟩
        have e : j = n + 1 := by omega
        rw [d4 (by omega), e, show n + 1 - 1 = n by omega]
      · refine x_aload_n (pc := 44) dX3_sacksIn_44 rfl rfl ?_
        refine x_getR (jj := 0) (pc := 45) dX3_sacksIn_45 fX3_21 hL.1 rfl (by decide) rfl hL.2.1.1 ?_
        refine x_iload_n (pc := 48) dX3_sacksIn_48 rfl rfl ?_
        refine x_iload (pc := 49) dX3_sacksIn_49 rfl ?_
        refine x_callV2 (pc := 51) dX3_sacksIn_51 rfl kX3_74 (s_wantsOf hfl 1 set j hL.2.2.2.2.2.1 ⟨by omega, by omega⟩ ((hH.fB d5 (by omega)).c8 hK)) (hL.2.2.2.2.2.1).2.1 rfl rfl (Nat.le_of_ble_eq_true rfl) (k_R ?_) n_R
        rewrite [RHs.want (hH.fB d5 (by omega)) (by omega)]
        have hwr := wantV_r hK hs (m := j) ⟨by omega, by omega⟩
        refine x_istore (pc := 54) dX3_sacksIn_54 (by decide) rfl ?_
        refine x_aload_n (pc := 56) dX3_sacksIn_56 rfl rfl ?_
        refine x_iload (pc := 57) dX3_sacksIn_57 rfl ?_
        refine x_iload (pc := 59) dX3_sacksIn_59 rfl ?_
        refine x_iload_n (pc := 61) dX3_sacksIn_61 rfl rfl ?_
        refine x_iadd (pc := 62) dX3_sacksIn_62 (by omega) ?_
        refine x_callV2 (pc := 63) dX3_sacksIn_63 rfl kX3_78 (s_priceMonth hfl b u r rb t hL (hT.fB d5 (by omega)) hK j (wantV t set j + roomV t set) ⟨by omega, by omega⟩ (by omega) (fun q x y => (d5 _ _ (by omega)).trans (hpr q x (by omega)))) hL.1 rfl rfl (Nat.le_of_ble_eq_true rfl) (k_U (fun M9 hM9 => ?_)) n_U
        obtain ⟨f9, p9⟩ := hM9
        have d9 : frB M M9 (b + 6) (b + 9) := d5.tr (f9.wd (by omega) (by omega))
        have hkr := keptV_r1 (j := j) hK hs ha ⟨by omega, by omega⟩
        rw [← d3] at hkr
        have hlv := leftV_r (k := t 244 - j) hK hs (by omega) hkr.2
        rw [show t 244 - (t 244 - j) = j by omega, show t 244 - j - 1 = t 244 - (j + 1) by omega] at hlv
        refine x_aload_n (pc := 66) dX3_sacksIn_66 rfl rfl ?_
        refine x_iload (pc := 67) dX3_sacksIn_67 rfl ?_
        refine x_iload (pc := 69) dX3_sacksIn_69 rfl ?_
        refine x_iload (pc := 71) dX3_sacksIn_71 rfl ?_
        refine x_iload_n (pc := 73) dX3_sacksIn_73 rfl rfl ?_
        refine x_callV4 (pc := 74) dX3_sacksIn_74 rfl kX3_82 (s_leftIn hfl b u r rb t hL (hT.fB d9 (by omega)) hK set j k9 hs ⟨by omega, by omega⟩ hkr.1 p9 (fun i x y => (f9 _ _ (by omega)).trans (d7 (j + 1) i (by omega) (by omega) x y (by omega))) hkr.2) hL.1 rfl rfl (Nat.le_of_ble_eq_true rfl) (k_R ?_) n_R
        refine x_istore (pc := 77) dX3_sacksIn_77 (by decide) rfl ?_
        refine x_iload (pc := 79) dX3_sacksIn_79 rfl ?_
        refine x_iload (pc := 81) dX3_sacksIn_81 rfl ?_
        refine x_iadd (pc := 83) dX3_sacksIn_83 (by omega) ?_
        refine x_iload (pc := 84) dX3_sacksIn_84 rfl ?_
        refine x_isub (pc := 86) dX3_sacksIn_86 (by omega) ?_
        refine x_istore (pc := 87) dX3_sacksIn_87 (by decide) rfl ?_
        refine x_iload (pc := 89) dX3_sacksIn_89 rfl ?_
        refine x_istore (pc := 91) dX3_sacksIn_91 (by decide) rfl ?_
        refine x_iinc (pc := 93) dX3_sacksIn_93 rfl (by omega) (by decide) rfl ?_
        refine x_goto (tgt := 31) (pc := 96) dX3_sacksIn_96 (by decide) ?_
        refine x_lo (lo' := [(0, (2, b + 5)), (1, (0, set)), (2, (0, n)), (3, (0, roomV t set)), (4, (0, leftV t set (t 244 - j) k9)), (5, (0, wantV t set j + leftV t set (t 244 - j) k9 - k9)), (6, (0, j + 1))]) ⟨rfl, rfl, rfl, rfl, rfl, rfl, rfl, trivial⟩ (ih (j + 1) _ _ _ ⟨by omega, by omega, ?_, fun _ => ?_, d9, d6.cg fun i => f9 _ _ (by omega), fun j i x y z w q => (f9 _ _ (by omega)).trans (d7 j i x y z w q)⟩ (by omega))
        · rw [keptV_1 d1, ← d3]
        · rw [show j + 1 - 1 = j by omega]
          unfold rowV
          rw [keptV_1 d1, ← d3])
  refine x_aload_n (pc := 0) dX3_sacksIn_0 rfl rfl ?_
  refine x_getR (jj := 0) (pc := 1) dX3_sacksIn_1 fX3_21 hL.1 rfl (by decide) rfl hL.2.1.1 ?_
  refine x_iload_n (pc := 4) dX3_sacksIn_4 rfl rfl ?_
  refine x_callV1 (pc := 5) dX3_sacksIn_5 rfl kX3_71 (s_cellarsOf hfl 1 set hL.2.2.2.2.2.1 (hH.c7 hK)) (hL.2.2.2.2.2.1).2.1 rfl rfl (Nat.le_of_ble_eq_true rfl) (k_R ?_) n_R
  rewrite [hH.room]
  refine x_istore_n (pc := 8) dX3_sacksIn_8 rfl (by decide) rfl ?_
  refine x_aload_n (pc := 9) dX3_sacksIn_9 rfl rfl ?_
  refine x_getR (jj := 3) (pc := 10) dX3_sacksIn_10 fX3_9 hL.1 rfl (by decide) rfl hL.2.1.2.2.2.1 ?_
  refine x_iload_n (pc := 13) dX3_sacksIn_13 rfl rfl ?_
  refine x_iconst (pc := 14) dX3_sacksIn_14 (by decide) ?_
  refine x_iastore (pc := 15) dX3_sacksIn_15 hL.2.2.1 (by omega) ?_
  refine x_aload_n (pc := 16) dX3_sacksIn_16 rfl rfl ?_
  refine x_iload_n (pc := 17) dX3_sacksIn_17 rfl rfl ?_
  have U1 : frB M (up M (b + 6) set (-1)) (b + 6) (b + 9) := frB.rf.up1 (by omega)
  have W1 : RPl (up M (b + 6) set (-1)) (b + 6) t := fun s x y => by
    by_cases e : s = set
    · subst e; rw [up_s]; exact Or.inl rfl
    · rw [up_i e]; exact hW s x y
  refine x_callV1 (pc := 18) dX3_sacksIn_18 rfl kX3_61 (s_worthOf hfl b u r rb t hL hd hK set hs (hH.fB U1 (by omega)) (hT.fB U1 (by omega)) (fun q x y => (up_a (by omega)).trans (hpr q x y)) W1) hL.1 rfl rfl (Nat.le_of_ble_eq_true rfl) (k_G (fun v9 M9 hM9 => ?_)) n_G
  obtain ⟨rfl, f9, w9, v9, t9, i9⟩ := hM9
  have t9 := t9 up_s
  have F9 : frB M M9 (b + 6) (b + 9) := U1.tr f9
  refine x_pop (pc := 21) dX3_sacksIn_21 rfl ?_
  refine x_iconst (pc := 22) dX3_sacksIn_22 (by decide) ?_
  refine x_istore (pc := 23) dX3_sacksIn_23 (by decide) rfl ?_
  refine x_iconst (pc := 25) dX3_sacksIn_25 (by decide) ?_
  refine x_istore (pc := 26) dX3_sacksIn_26 (by decide) rfl ?_
  refine x_iconst (pc := 28) dX3_sacksIn_28 (by decide) ?_
  refine x_istore (pc := 29) dX3_sacksIn_29 (by decide) rfl ?_
  refine x_lo (lo' := [(0, (2, b + 5)), (1, (0, set)), (2, (0, n)), (3, (0, roomV t set)), (4, (0, 0)), (5, (0, 0)), (6, (0, 0))]) ⟨rfl, rfl, rfl, rfl, rfl, rfl, rfl, trivial⟩ (loop (0) (0) (0) _ ⟨by omega, by omega, rfl, fun q => by omega, F9, w9, t9⟩)
theorem s_costOfC {l : Launch} {E : aE} {N : Nat} {S : aS} {M : aM} (hfl : l.stackTraces = false) (b u : Int) (r rb t : Int → Int) (hL : lyL S b u r rb) (hd : u + 6 ≤ b ∧ 16 ≤ b) (hK : TQ t) (hB : TB t) (hH : RHs M 1 t) (hT : RTar M u t) (hR : RPr M b t) (hW : RPl M (b + 6) t) (set : Int) (hs : 0 < set ∧ set < 128) : aMt l E pX3_costOf [(2, b + 5), (0, set)] N S M (aG N S (fun v M' => v = (0, costV t set) ∧ frB M M' b (b + 9) ∧ RPr M' b t ∧ RPl M' (b + 6) t ∧ (costV t set ≠ -1 → M' (b + 6) set = encF FAR1 (allV t set) ∧ 16 * sumN (hb set) 7 ≤ M' b 5) ∧ (M' b 5 = M b 5 ∨ M b 5 < M' b 5) ∧ (∀ j, j ≠ 5 → M' b j = M b j) ∧ ∀ i, i ≠ set → M' (b + 6) i = M (b + 6) i)) := by
  refine a_met hfl rfl (by decide +kernel) (Nat.le_of_ble_eq_true rfl) ?_
  have h6 := hK.2.2.2.2.2.1
  have hsz := size_r (set := set) (by omega)
  have har := allV_r hK (set := set) (by omega)
  have ef := encF_or (allV t set)
  have h42 := hK.2.2.2.1
  have a12 : t 242 * (sumN (hb set) 7 - 1) ≤ 99 * 6 ∧ -99 ≤ t 242 * (sumN (hb set) 7 - 1) := by
    by_cases q : 1 ≤ sumN (hb set) 7
    · have z1 : t 242 * (sumN (hb set) 7 - 1) ≤ t 242 * 6 := Int.mul_le_mul_of_nonneg_left (by omega) h42.1
      have z2 : 0 ≤ t 242 * (sumN (hb set) 7 - 1) := Int.mul_nonneg h42.1 (by omega)
      omega
    · rw [show sumN (hb set) 7 = 0 by omega]; omega
  refine x_iload_n (pc := 0) dX3_costOf_0 rfl rfl ?_
  refine x_iconst (pc := 1) dX3_costOf_1 (by decide) ?_
  refine x_icmp_lt (tgt := 23) (pc := 2) dX3_costOf_2 (by decide) (fun c_2 => ?_) (fun c_2 => ?_)
  · exfalso; omega
  · refine x_iload_n (pc := 5) dX3_costOf_5 rfl rfl ?_
    refine x_sipush (pc := 6) dX3_costOf_6 (by decide) ?_
    refine x_icmp_ge (tgt := 23) (pc := 9) dX3_costOf_9 (by decide) (fun c_9 => ?_) (fun c_9 => ?_)
    · exfalso; omega
    · refine x_aload_n (pc := 12) dX3_costOf_12 rfl rfl ?_
      refine x_getR (jj := 0) (pc := 13) dX3_costOf_13 fX3_21 hL.1 rfl (by decide) rfl hL.2.1.1 ?_
      refine x_iload_n (pc := 16) dX3_costOf_16 rfl rfl ?_
      refine x_callV1 (pc := 17) dX3_costOf_17 rfl kX3_43 (s_mayBuy hfl 1 set hL.2.2.2.2.2.1) (hL.2.2.2.2.2.1).2.1 rfl rfl (Nat.le_of_ble_eq_true rfl) (k_R ?_) n_R
      have hm : mayC (M (1 + 9)) (M (1 + 10)) set = if barV t set = false ∧ holdV t set ≠ -1 then 1 else 0 := hH.may ⟨by omega, by omega⟩ hB.1 hB.2
      generalize mayC (M (1 + 9)) (M (1 + 10)) set = mv at hm ⊢
      refine x_if_ne (tgt := 25) (pc := 20) dX3_costOf_20 (by decide) (fun c_20 => ?_) (fun c_20 => ?_)
      · have hm2 : barV t set = false ∧ holdV t set ≠ -1 := by
          by_cases z : barV t set = false ∧ holdV t set ≠ -1
          · exact z
          · rw [if_neg z] at hm; exact absurd hm (by omega)
        refine x_aload_n (pc := 25) dX3_costOf_25 rfl rfl ?_
        refine x_getR (jj := 2) (pc := 26) dX3_costOf_26 fX3_29 hL.1 rfl (by decide) rfl hL.2.1.2.2.1 ?_
        refine x_bipush (pc := 29) dX3_costOf_29 (by decide) ?_
        refine x_iload_n (pc := 31) dX3_costOf_31 rfl rfl ?_
        refine x_callS1 (pc := 32) dX3_costOf_32 rfl kX3_49 (s_bitCount hfl set ⟨by omega, by omega⟩) rfl (Nat.le_of_ble_eq_true rfl) (k_R ?_) n_R
        refine x_imul (pc := 35) dX3_costOf_35 (by omega) ?_
        refine x_callV1 (pc := 36) dX3_costOf_36 rfl kX3_55 (s_reach hfl b u rb t hL.2.2.2.2.2.2 hT hK.1 (16 * sumN (hb set) 7) (by omega) hR) hL.2.2.2.2.2.2.1 rfl rfl (Nat.le_of_ble_eq_true rfl) (k_U (fun M9 hM9 => ?_)) n_U
        obtain ⟨q1, q2, q3, q4, q5⟩ := hM9
        have F9 : frB M M9 b (b + 9) := fun a i x => q4 a (by omega) i
        have hk9 := q1.1
        refine x_aload_n (pc := 39) dX3_costOf_39 rfl rfl ?_
        refine x_iload_n (pc := 40) dX3_costOf_40 rfl rfl ?_
        refine x_callV1 (pc := 41) dX3_costOf_41 rfl kX3_61 (s_worthOf hfl b u r rb t hL hd hK set ⟨by omega, by omega⟩ (hH.fB F9 (by omega)) (hT.fB F9 (by omega)) (q1.many (by omega)) (hW.cg fun i => q4 _ (by omega) i)) hL.1 rfl rfl (Nat.le_of_ble_eq_true rfl) (k_G (fun v8 M8 hM8 => ?_)) n_G
        obtain ⟨rfl, f9, w9, v9, t9, i9⟩ := hM8
        have F8 : frB M M8 b (b + 9) := F9.tr (f9.wd (by omega) (by omega))
        have R9 : RPr M8 b t := q1.cg fun a x y i => f9 a i (by omega)
        have k9 := f9 b 5 (by omega)
        refine x_istore_n (pc := 44) dX3_costOf_44 rfl (by decide) rfl ?_
        refine x_iload_n (pc := 45) dX3_costOf_45 rfl rfl ?_
        refine x_ldc (n := 536870912) (pc := 46) cX3_64 (by decide) dX3_costOf_46 ?_
        refine x_icmp_lt (tgt := 55) (pc := 48) dX3_costOf_48 (by decide) (fun c_48 => ?_) (fun c_48 => ?_)
        · have a1 : t 242 * (sumN (hb set) 7 - 1) ≤ 99 * 6 ∧ -99 ≤ t 242 * (sumN (hb set) 7 - 1) := a12
          have hd1 : (encF FAR1 (allV t set)).tdiv 512 = allV t set / 512 := by rw [show encF FAR1 (allV t set) = allV t set by omega]; exact Int.tdiv_eq_ediv_of_nonneg (by omega)
          refine x_iload_n (pc := 55) dX3_costOf_55 rfl rfl ?_
          refine x_sipush (pc := 56) dX3_costOf_56 (by decide) ?_
          refine x_idiv (pc := 59) dX3_costOf_59 (by omega) (by rw [hd1]; omega) ?_
          rewrite [hd1]
          refine x_aload_n (pc := 60) dX3_costOf_60 rfl rfl ?_
          refine x_getR (jj := 1) (pc := 61) dX3_costOf_61 fX3_25 hL.1 rfl (by decide) rfl hL.2.1.2.1 ?_
          refine x_getIV (jj := 7) (pc := 64) dX3_costOf_64 fX3_65 (hL.2.2.2.2.2.2.2.2.2.2.2.2).1 rfl (by decide) rfl (by (repeat (first | rewrite [up_s] | rewrite [up_i (by omega)] | rewrite [up_a (by omega)])); first | exact (hT.fB F8 (by omega)).2.2.2.2.2.1 | rfl) ?_
          refine x_iload_n (pc := 67) dX3_costOf_67 rfl rfl ?_
          refine x_callS1 (pc := 68) dX3_costOf_68 rfl kX3_49 (s_bitCount hfl set ⟨by omega, by omega⟩) rfl (Nat.le_of_ble_eq_true rfl) (k_R ?_) n_R
          refine x_iconst (pc := 71) dX3_costOf_71 (by decide) ?_
          refine x_isub (pc := 72) dX3_costOf_72 (by omega) ?_
          refine x_imul (pc := 73) dX3_costOf_73 (by omega) ?_
          refine x_iadd (pc := 74) dX3_costOf_74 (by omega) ?_
          refine x_ireturn (pc := 75) dX3_costOf_75 rfl (by decide) ?_
          have hv : costV t set = allV t set / 512 + t 242 * (sumN (hb set) 7 - 1) := by
            unfold costV
            rw [if_neg (by rintro (z | z | z) <;> first | exact absurd z hm2.2 | omega | (rw [hm2.1] at z; cases z))]
          refine ⟨_, rfl, rfl, rfl, ?_, F8, R9, w9, fun z => ⟨v9, by omega⟩, by rw [k9]; omega, fun j x => (f9 b j (by omega)).trans (q5 j x), fun i x => (i9 i x).trans (q4 _ (by omega) i)⟩
          rw [hv]
        · refine x_iconst (pc := 51) dX3_costOf_51 (by decide) ?_
          refine x_goto (tgt := 75) (pc := 52) dX3_costOf_52 (by decide) ?_
          refine x_ireturn (pc := 75) dX3_costOf_75 rfl (by decide) ?_
          have hv : costV t set = -1 := by
            unfold costV
            rw [if_pos (Or.inr (Or.inr (by omega)))]
          refine ⟨_, rfl, rfl, rfl, ?_, F8, R9, w9, fun z => ⟨v9, by omega⟩, by rw [k9]; omega, fun j x => (f9 b j (by omega)).trans (q5 j x), fun i x => (i9 i x).trans (q4 _ (by omega) i)⟩
          rw [hv]
      · refine x_iconst (pc := 23) dX3_costOf_23 (by decide) ?_
        refine x_ireturn (pc := 24) dX3_costOf_24 rfl (by decide) ?_
        have hv : costV t set = -1 := by
          unfold costV
          by_cases z1 : barV t set = true
          · rw [if_pos (Or.inl z1)]
          · by_cases z2 : holdV t set = -1
            · rw [if_pos (Or.inr (Or.inl z2))]
            · rw [if_pos ⟨by simpa using z1, z2⟩] at hm; omega
        refine ⟨_, rfl, rfl, rfl, by rw [hv], frB.rf, hR, hW, fun z => absurd hv z, Or.inl rfl, fun _ _ => rfl, fun _ _ => rfl⟩
theorem lyC.pl {S : aS} (hC : lyC S) : lyL S 25 (1 + 1) rC_30 rC_25 := ⟨sC_30 hC, ⟨rC_30_0, rC_30_1, rC_30_2, rC_30_3, rC_30_4, rC_30_5⟩, sC_31 hC, sC_32 hC, sC_33 hC, hC.2.1, hC.pr⟩
theorem RC.pp {M M' A : aM} {N : Nat} {S : aS} (h : RC M N S A) (g : frB M M' 25 34) (hP : RPr M' 25 (A 0)) (hW : RPl M' 31 (A 0)) : RC M' N S A := by
  obtain ⟨h1, h2, h3, h4, h5, h6, h7, h8, h9⟩ := h
  exact ⟨h1.cg fun a x y i => g a i (by omega), h2.cg (fun i => g 0 i (by omega)), h3.cg (fun i => g 17 i (by omega)) (fun i => g 18 i (by omega)), h4.cg (fun i => g 105 i (by omega)) (fun i => g 106 i (by omega)) (fun i => g 107 i (by omega)), h5.cg (fun i => g 16 i (by omega)) (fun a x i => g a i (by omega)), hP, hW, h8.cg (fun a x y i => g a i (by omega)) (fun a x y i => g a i (by omega)), h9.cg (fun i => g 82 i (by omega))⟩
theorem s_Ccost {l : Launch} {E : aE} {N : Nat} {S : aS} {M : aM} (hfl : l.stackTraces = false) (s : Int) (hC : lyC S) (A : aM) (hR : RC M N S A) (hA : TOK (A 0)) (hB : TB (A 0)) : aMt l E pX11_cost [(2, 0), (0, s)] N S M (opC M N S 0 (spCost A s) (fun _ => 0)) := by
  refine a_met hfl rfl (by decide +kernel) (Nat.le_of_ble_eq_true rfl) ?_
  have c0 : M 1 1 = A 0 0 := hR.1.1.1
  have t0 := hA.1
  have t9 := hA.2.2.2.2.2.2.2.2.2.2.2.2.2.2.2.2.2.1
  refine x_aload_n (pc := 0) dX11_cost_0 rfl rfl ?_
  refine x_iload_n (pc := 1) dX11_cost_1 rfl rfl ?_
  refine x_callV1 (pc := 2) dX11_cost_2 rfl kX11_131 (s_needSet hfl _ hC (by omega)) (sC_0 hC) rfl rfl (Nat.le_of_ble_eq_true rfl) (k_N (fun h_2 => ?_)) (n_N (fun h_2 => (by rw [c0] at h_2; have e9 : spCost A s = (1, 0, A) := (by unfold spCost; (repeat' split) <;> first | rfl | (exfalso; omega)); rw [e9]; exact ⟨rfl, rfl, fun _ _ _ _ => rfl, hR, Or.inr ⟨show ¬ (1 : Int) = 0 by decide, rfl⟩⟩)))
  rw [c0] at h_2
  have hsl := isSet_lt hA h_2
  refine x_aload_n (pc := 5) dX11_cost_5 rfl rfl ?_
  refine x_getR (jj := 4) (pc := 6) dX11_cost_6 fX11_45 (sC_0 hC) rfl (by decide) rfl rC_0_4 ?_
  refine x_iload_n (pc := 9) dX11_cost_9 rfl rfl ?_
  refine x_callV1 (pc := 10) dX11_cost_10 rfl kX11_191 (s_costOfC hfl 25 (1 + 1) rC_30 rC_25 (A 0) hC.pl (by omega) hA.tq hB hR.1.1 hR.1.2 hR.2.2.2.2.2.1 hR.2.2.2.2.2.2.1 s hsl) (sC_30 hC) rfl rfl (Nat.le_of_ble_eq_true rfl) (k_G (fun v9 M9 hM9 => ?_)) n_G
  obtain ⟨rfl, f9, p9, w9, x9, y9, o9, i9⟩ := hM9
  have hR9 := hR.pp f9 p9 w9
  have FC9 : frC M M9 := fun a j x y => f9 a j (by omega)
  refine x_ireturn (pc := 13) dX11_cost_13 rfl (by decide) ?_
  have e9 : spCost A s = (0, costV (A 0) s, A) := by
    unfold spCost
    (repeat' split) <;> first | rfl | (exfalso; omega)
  rw [e9]
  exact ⟨rfl, rfl, FC9, hR9, Or.inl ⟨rfl, rfl⟩⟩
theorem s_Cbought {l : Launch} {E : aE} {N : Nat} {S : aS} {M : aM} (hfl : l.stackTraces = false) (s k : Int) (hC : lyC S) (A : aM) (hR : RC M N S A) (hA : TOK (A 0)) (hB : TB (A 0)) : aMt l E pX11_bought [(2, 0), (0, s), (0, k)] N S M (opC M N S 0 (spBought A s k) (fun k => if k = 1 then 2 else 0)) := by
  refine a_met hfl rfl (by decide +kernel) (Nat.le_of_ble_eq_true rfl) ?_
  have c0 : M 1 1 = A 0 0 := hR.1.1.1
  have t0 := hA.1
  have t9 := hA.2.2.2.2.2.2.2.2.2.2.2.2.2.2.2.2.2.1
  have h6 := hA.tq.2.2.2.2.2.1
  have c9 : M (1 + 1) 9 = A 0 244 := hR.1.2.2.2.2.2.2.2.2.1
  refine x_iload_n (pc := 0) dX11_bought_0 rfl rfl ?_
  refine x_iconst (pc := 1) dX11_bought_1 (by decide) ?_
  refine x_icmp_eq (tgt := 20) (pc := 2) dX11_bought_2 (by decide) (fun c_2 => ?_) (fun c_2 => ?_)
  · refine x_aload_n (pc := 20) dX11_bought_20 rfl rfl ?_
    refine x_iload_n (pc := 21) dX11_bought_21 rfl rfl ?_
    refine x_callV1 (pc := 22) dX11_bought_22 rfl kX11_131 (s_needSet hfl _ hC (by omega)) (sC_0 hC) rfl rfl (Nat.le_of_ble_eq_true rfl) (k_N (fun h_22 => ?_)) (n_N (fun h_22 => (by rw [c0] at h_22; have e9 : spBought A s k = (2, 0, A) := (by unfold spBought; (repeat' split) <;> first | rfl | (exfalso; omega)); rw [e9]; exact ⟨rfl, rfl, fun _ _ _ _ => rfl, hR, Or.inr ⟨show ¬ (2 : Int) = 0 by decide, rfl⟩⟩)))
    rw [c0] at h_22
    have hsl := isSet_lt hA h_22
    refine x_aload_n (pc := 25) dX11_bought_25 rfl rfl ?_
    refine x_getR (jj := 4) (pc := 26) dX11_bought_26 fX11_45 (sC_0 hC) rfl (by decide) rfl rC_0_4 ?_
    refine x_iload_n (pc := 29) dX11_bought_29 rfl rfl ?_
    refine x_callV1 (pc := 30) dX11_bought_30 rfl kX11_191 (s_costOfC hfl 25 (1 + 1) rC_30 rC_25 (A 0) hC.pl (by omega) hA.tq hB hR.1.1 hR.1.2 hR.2.2.2.2.2.1 hR.2.2.2.2.2.2.1 s hsl) (sC_30 hC) rfl rfl (Nat.le_of_ble_eq_true rfl) (k_G (fun v9 M9 hM9 => ?_)) n_G
    obtain ⟨rfl, f9, p9, w9, x9, y9, o9, i9⟩ := hM9
    have hR9 := hR.pp f9 p9 w9
    have FC9 : frC M M9 := fun a j x y => f9 a j (by omega)
    refine x_iconst (pc := 33) dX11_bought_33 (by decide) ?_
    refine x_icmp_ne (tgt := 39) (pc := 34) dX11_bought_34 (by decide) (fun c_34 => ?_) (fun c_34 => ?_)
    · refine x_iload_n (pc := 39) dX11_bought_39 rfl rfl ?_
      refine x_iconst (pc := 40) dX11_bought_40 (by decide) ?_
      refine x_icmp_ne (tgt := 55) (pc := 41) dX11_bought_41 (by decide) (fun c_41 => ?_) (fun c_41 => ?_)
      · refine x_aload_n (pc := 55) dX11_bought_55 rfl rfl ?_
        refine x_getR (jj := 4) (pc := 56) dX11_bought_56 fX11_45 (sC_0 hC) rfl (by decide) rfl rC_0_4 ?_
        refine x_iload_n (pc := 59) dX11_bought_59 rfl rfl ?_
        refine x_iload_n (pc := 60) dX11_bought_60 rfl rfl ?_
        refine x_callV2 (pc := 61) dX11_bought_61 rfl kX11_200 (s_sacksIn hfl 25 (1 + 1) rC_30 rC_25 (A 0) hC.pl (by omega) hA.tq s ⟨by omega, by omega⟩ hR9.1.1 hR9.1.2 (p9.many (x9 (by assumption)).2) w9 k ⟨by omega, by omega⟩ (all_of_cost (by assumption))) (sC_30 hC) rfl rfl (Nat.le_of_ble_eq_true rfl) (k_G (fun v8 M8 hM8 => ?_)) n_G
        obtain ⟨rfl, f8, w8⟩ := hM8
        have hR8 := hR9.pp (f8.wd (by omega) (by omega)) (p9.cg fun a x y i => f8 a i (by omega)) w8
        have FC8 : frC M M8 := fun a j x y => (f8 a j (by omega)).trans (FC9 a j x y)
        refine x_ireturn (pc := 64) dX11_bought_64 rfl (by decide) ?_
        exfalso; omega
      · refine x_aload_n (pc := 44) dX11_bought_44 rfl rfl ?_
        refine x_getR (jj := 4) (pc := 45) dX11_bought_45 fX11_45 (sC_0 hC) rfl (by decide) rfl rC_0_4 ?_
        refine x_iload_n (pc := 48) dX11_bought_48 rfl rfl ?_
        refine x_callV1 (pc := 49) dX11_bought_49 rfl kX11_197 (s_sacksOfC hfl 25 (1 + 1) rC_30 rC_25 (A 0) hC.pl hA.tq s ⟨by omega, by omega⟩ (x9 (by assumption)).1 (all_of_cost (by assumption))) (sC_30 hC) rfl rfl (Nat.le_of_ble_eq_true rfl) (k_R ?_) n_R
        refine x_goto (tgt := 64) (pc := 52) dX11_bought_52 (by decide) ?_
        refine x_ireturn (pc := 64) dX11_bought_64 rfl (by decide) ?_
        have e9 : spBought A s k = (0, allV (A 0) s % 512, A) := by
          unfold spBought
          (repeat' split) <;> first | rfl | (exfalso; omega)
        rw [e9]
        exact ⟨rfl, rfl, FC9, hR9, Or.inl ⟨rfl, rfl⟩⟩
    · refine x_iconst (pc := 37) dX11_bought_37 (by decide) ?_
      refine x_ireturn (pc := 38) dX11_bought_38 rfl (by decide) ?_
      have e9 : spBought A s k = (0, -1, A) := by
        unfold spBought
        (repeat' split) <;> first | rfl | (exfalso; omega)
      rw [e9]
      exact ⟨rfl, rfl, FC9, hR9, Or.inl ⟨rfl, rfl⟩⟩
  · refine x_aload_n (pc := 5) dX11_bought_5 rfl rfl ?_
    refine x_iload_n (pc := 6) dX11_bought_6 rfl rfl ?_
    refine x_aload_n (pc := 7) dX11_bought_7 rfl rfl ?_
    refine x_getR (jj := 0) (pc := 8) dX11_bought_8 fX11_10 (sC_0 hC) rfl (by decide) rfl rC_0_0 ?_
    refine x_getR (jj := 0) (pc := 11) dX11_bought_11 fX11_29 (hC.2.1).2.1 rfl (by decide) rfl rS_0 ?_
    refine x_getIV (jj := 9) (pc := 14) dX11_bought_14 fX11_194 ((hC.2.1).1).1 rfl (by decide) rfl (by (repeat (first | rewrite [up_s] | rewrite [up_i (by omega)] | rewrite [up_a (by omega)])); first | exact hR.1.2.2.2.2.2.2.2.1 | rfl) ?_
    refine x_callV2 (pc := 17) dX11_bought_17 rfl kX11_104 (s_needMonth hfl _ _) (sC_0 hC) rfl rfl (Nat.le_of_ble_eq_true rfl) (k_N (fun h_17 => ?_)) (n_N (fun h_17 => (by have e9 : spBought A s k = (1, 0, A) := (by unfold spBought; (repeat' split) <;> first | rfl | (exfalso; omega)); rw [e9]; exact ⟨rfl, rfl, fun _ _ _ _ => rfl, hR, Or.inr ⟨show ¬ (1 : Int) = 0 by decide, rfl⟩⟩)))
    refine x_aload_n (pc := 20) dX11_bought_20 rfl rfl ?_
    refine x_iload_n (pc := 21) dX11_bought_21 rfl rfl ?_
    refine x_callV1 (pc := 22) dX11_bought_22 rfl kX11_131 (s_needSet hfl _ hC (by omega)) (sC_0 hC) rfl rfl (Nat.le_of_ble_eq_true rfl) (k_N (fun h_22 => ?_)) (n_N (fun h_22 => (by rw [c0] at h_22; have e9 : spBought A s k = (2, 0, A) := (by unfold spBought; (repeat' split) <;> first | rfl | (exfalso; omega)); rw [e9]; exact ⟨rfl, rfl, fun _ _ _ _ => rfl, hR, Or.inr ⟨show ¬ (2 : Int) = 0 by decide, rfl⟩⟩)))
    rw [c0] at h_22
    have hsl := isSet_lt hA h_22
    refine x_aload_n (pc := 25) dX11_bought_25 rfl rfl ?_
    refine x_getR (jj := 4) (pc := 26) dX11_bought_26 fX11_45 (sC_0 hC) rfl (by decide) rfl rC_0_4 ?_
    refine x_iload_n (pc := 29) dX11_bought_29 rfl rfl ?_
    refine x_callV1 (pc := 30) dX11_bought_30 rfl kX11_191 (s_costOfC hfl 25 (1 + 1) rC_30 rC_25 (A 0) hC.pl (by omega) hA.tq hB hR.1.1 hR.1.2 hR.2.2.2.2.2.1 hR.2.2.2.2.2.2.1 s hsl) (sC_30 hC) rfl rfl (Nat.le_of_ble_eq_true rfl) (k_G (fun v9 M9 hM9 => ?_)) n_G
    obtain ⟨rfl, f9, p9, w9, x9, y9, o9, i9⟩ := hM9
    have hR9 := hR.pp f9 p9 w9
    have FC9 : frC M M9 := fun a j x y => f9 a j (by omega)
    refine x_iconst (pc := 33) dX11_bought_33 (by decide) ?_
    refine x_icmp_ne (tgt := 39) (pc := 34) dX11_bought_34 (by decide) (fun c_34 => ?_) (fun c_34 => ?_)
    · refine x_iload_n (pc := 39) dX11_bought_39 rfl rfl ?_
      refine x_iconst (pc := 40) dX11_bought_40 (by decide) ?_
      refine x_icmp_ne (tgt := 55) (pc := 41) dX11_bought_41 (by decide) (fun c_41 => ?_) (fun c_41 => ?_)
      · refine x_aload_n (pc := 55) dX11_bought_55 rfl rfl ?_
        refine x_getR (jj := 4) (pc := 56) dX11_bought_56 fX11_45 (sC_0 hC) rfl (by decide) rfl rC_0_4 ?_
        refine x_iload_n (pc := 59) dX11_bought_59 rfl rfl ?_
        refine x_iload_n (pc := 60) dX11_bought_60 rfl rfl ?_
        refine x_callV2 (pc := 61) dX11_bought_61 rfl kX11_200 (s_sacksIn hfl 25 (1 + 1) rC_30 rC_25 (A 0) hC.pl (by omega) hA.tq s ⟨by omega, by omega⟩ hR9.1.1 hR9.1.2 (p9.many (x9 (by assumption)).2) w9 k ⟨by omega, by omega⟩ (all_of_cost (by assumption))) (sC_30 hC) rfl rfl (Nat.le_of_ble_eq_true rfl) (k_G (fun v8 M8 hM8 => ?_)) n_G
        obtain ⟨rfl, f8, w8⟩ := hM8
        have hR8 := hR9.pp (f8.wd (by omega) (by omega)) (p9.cg fun a x y i => f8 a i (by omega)) w8
        have FC8 : frC M M8 := fun a j x y => (f8 a j (by omega)).trans (FC9 a j x y)
        refine x_ireturn (pc := 64) dX11_bought_64 rfl (by decide) ?_
        have e9 : spBought A s k = (0, rowV (A 0) s k, A) := by
          unfold spBought
          (repeat' split) <;> first | rfl | (exfalso; omega)
        rw [e9]
        exact ⟨rfl, rfl, FC8, hR8, Or.inl ⟨rfl, rfl⟩⟩
      · refine x_aload_n (pc := 44) dX11_bought_44 rfl rfl ?_
        refine x_getR (jj := 4) (pc := 45) dX11_bought_45 fX11_45 (sC_0 hC) rfl (by decide) rfl rC_0_4 ?_
        refine x_iload_n (pc := 48) dX11_bought_48 rfl rfl ?_
        refine x_callV1 (pc := 49) dX11_bought_49 rfl kX11_197 (s_sacksOfC hfl 25 (1 + 1) rC_30 rC_25 (A 0) hC.pl hA.tq s ⟨by omega, by omega⟩ (x9 (by assumption)).1 (all_of_cost (by assumption))) (sC_30 hC) rfl rfl (Nat.le_of_ble_eq_true rfl) (k_R ?_) n_R
        refine x_goto (tgt := 64) (pc := 52) dX11_bought_52 (by decide) ?_
        refine x_ireturn (pc := 64) dX11_bought_64 rfl (by decide) ?_
        exfalso; omega
    · refine x_iconst (pc := 37) dX11_bought_37 (by decide) ?_
      refine x_ireturn (pc := 38) dX11_bought_38 rfl (by decide) ?_
      have e9 : spBought A s k = (0, -1, A) := by
        unfold spBought
        (repeat' split) <;> first | rfl | (exfalso; omega)
      rw [e9]
      exact ⟨rfl, rfl, FC9, hR9, Or.inl ⟨rfl, rfl⟩⟩
