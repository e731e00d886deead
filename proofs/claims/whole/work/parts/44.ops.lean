/-! calls of the class (2) -/
section A2
variable {l : Launch} {E : aE} {P : aP} {Q : aQ} {kc ks N : Nat} {S : aS} {M : aM} {pc : Nat} {lo : List (Nat × aV)} {st : List aV}
theorem k_2 {P' : aP} {c1 c2 : Prop} {x1 x2 : Nat} (k : c1 → c2 → aX l E P Q (kc + P'.2.2.2.2.1.cells) (ks + P'.2.2.2.2.1.slots) N S M (pc + 3) lo st) : ∀ (r : Option aV) (N' : Nat) (S' : aS) (M' : aM), aN2 c1 x1 c2 x2 N S M (.inl r) N' S' M' → a_ex N N' S S' → aX l E P Q (kc + P'.2.2.2.2.1.cells) (ks + P'.2.2.2.2.1.slots) N' S' M' (pc + 3) lo (r.toList ++ st) := by
  intro r N' S' M' h _
  obtain ⟨rfl, rfl, rfl, h⟩ := h
  rcases h with ⟨hc, hd, e⟩ | ⟨hc, e⟩ | ⟨hc, hd, e⟩
  · cases e; exact k hc hd
  · cases e
  · cases e
theorem n_2 {c1 c2 : Prop} {x1 x2 : Nat} (k : ¬ c1 → Q (.inr x1) N S M) (k2 : c1 → ¬ c2 → Q (.inr x2) N S M) : ∀ (x9 N' : Nat) (S' : aS) (M' : aM), aN2 c1 x1 c2 x2 N S M (.inr x9) N' S' M' → a_ex N N' S S' → Q (.inr x9) N' S' M' := by
  intro x9 N' S' M' h _
  obtain ⟨rfl, rfl, rfl, h⟩ := h
  rcases h with ⟨hc, hd, e⟩ | ⟨hc, e⟩ | ⟨hc, hd, e⟩
  · cases e
  · cases e; exact k hc
  · cases e; exact k2 hc hd
end A2
theorem up_fg {M : aM} {w h n a i v : Int} (q : a ≠ w) : up (fgM M w h n) a i v = fgM (up M a i v) w h n := by
  funext b j
  by_cases e : b = w
  · subst e
    rw [up_a (Ne.symm q)]
    unfold fgM
    rw [up_a (Ne.symm q)]
  · rw [fgM_a e]
    unfold up
    rw [fgM_a e]
theorem up_up {M : aM} {a i v b j w : Int} (q : a ≠ b) : up (up M a i v) b j w = up (up M b j w) a i v := by
  funext c k
  by_cases e : c = a
  · subst e
    rw [up_a q]
    unfold up
    rw [if_neg (fun z : c = b ∧ k = j => q z.1)]
  · rw [up_a (a := a) e]
    unfold up
    rw [if_neg (fun z : c = a ∧ k = i => e z.1)]
theorem up_self {M : aM} {a i v : Int} (h : v = M a i) : up M a i v = M := by
  funext b j
  unfold up
  by_cases e : b = a ∧ j = i
  · rw [if_pos e, e.1, e.2, h]
  · rw [if_neg e]
/-- the number of houses -/
theorem RC.num {M A : aM} {N : Nat} {S : aS} {v : Int} (hR : RC M N S A) (t9 : 1 ≤ A 0 244 ∧ A 0 244 ≤ 6) : RC (up M 1 1 v) N S (up A 0 0 v) := by
  refine RC.mk0 hR (fun r hr => funext fun j => up_a hr) (fun j hj => up_i (by omega)) (fun b x y z j => up_a (by omega)) (fun b x y j => up_a (by omega)) ?_ ?_ ?_
  · rw [up_0]
    exact hR.1.1.uN
  · rw [up_0]
    exact (hR.2.2.2.2.2.2.1.cg (fun j => up_a (by omega))).ct (by omega) fun j a1 a2 a3 => ut_n (by omega)
  · rw [up_0]; exact (hR.2.2.2.2.2.2.2.2.cg (fun j => up_a (by omega))).ct ⟨fun j x y => (ut_n (by omega)).symm, fun j x => (ut_n (by omega)).symm⟩ (by omega)
/-- who is barred, who trusts: no plan looks at it -/
theorem RC.rel {M M' A A' : aM} {N : Nat} {S : aS} (hR : RC M N S A) (t9 : 1 ≤ A 0 244 ∧ A 0 244 ≤ 6) (hM : ∀ a, a ≠ 10 → a ≠ 11 → a ≠ 82 → eqR M M' a) (hA : ∀ r, r ≠ 0 → A' r = A r) (hT : ∀ j, ¬ (50 ≤ j ∧ j < 148) → A' 0 j = A 0 j) (hH : RHs M' 1 (A' 0)) (hE : M' 82 5 = 0) : RC M' N S A' :=
  RC.mk0 hR hA (fun j hj => hT j (by omega)) (fun a x y z => hM a (by omega) (by omega) (by omega)) (fun a x y => hM a (by omega) (by omega) (by omega)) hH ((hR.2.2.2.2.2.2.1.cg (hM 31 (by omega) (by omega) (by omega))).ct (by omega) fun j a1 a2 a3 => hT j (by omega)) (Or.inl hE)
theorem isOf_iff {x h : Int} (hh : 0 ≤ h ∧ h < 7) : isOfV x h = 1 ↔ hb x h = 1 := by
  unfold isOfV
  constructor
  · intro q
    split at q
    · rename_i c; exact c.2.2
    · omega
  · intro q
    rw [if_pos ⟨hh.1, hh.2, q⟩]
/-- the holder is the same -/
theorem RHs.hold {M : aM} {s set : Int} {t : Int → Int} (h : RHs M s t) (hs : 0 ≤ set ∧ set < 128) : firstB (holdC (M (s + 10)) set) 7 = holdV t set := by
  refine firstB_congr fun i a b => ?_
  have ht := h.2.2.2.2.1 i a (by omega)
  refine Bool.eq_iff_iff.mpr ?_
  rw [holdB_iff]
  unfold holdC
  have l1 : 0 ≤ b_and set (b_xor (b_shl 1 i) (-1)) ∧ b_and set (b_xor (b_shl 1 i) (-1)) < 128 := b_and_lt hs
  rw [Bool.and_eq_true, decide_eq_true_eq, decide_eq_true_eq, b_zero_iff (b_and_lt l1)]
  constructor
  · rintro ⟨q1, q2⟩
    refine ⟨q1, fun k k0 k1 => ?_⟩
    have := q2 k k0 k1
    rw [hb_andn l1 ht.1 ⟨k0, k1⟩, hb_andn hs (b_shl1_lt ⟨a, by omega⟩) ⟨k0, k1⟩, hb_shl1 ⟨a, by omega⟩ ⟨k0, k1⟩, ht.2 k k0 k1] at this
    by_cases e1 : hb set k = 1
    · by_cases e2 : k = i
      · exact Or.inr (Or.inl e2)
      · exact Or.inr (Or.inr (Classical.byContradiction fun z => this ⟨⟨e1, e2⟩, z⟩))
    · exact Or.inl e1
  · rintro ⟨q1, q2⟩
    refine ⟨q1, fun k k0 k1 => ?_⟩
    rw [hb_andn l1 ht.1 ⟨k0, k1⟩, hb_andn hs (b_shl1_lt ⟨a, by omega⟩) ⟨k0, k1⟩, hb_shl1 ⟨a, by omega⟩ ⟨k0, k1⟩, ht.2 k k0 k1]
    rintro ⟨⟨z1, z2⟩, z3⟩
    rcases q2 k k0 k1 with w | w | w
    · exact w z1
    · exact z2 w
    · exact z3 w
theorem s_Chouse {l : Launch} {E : aE} {N : Nat} {S : aS} {M : aM} (hfl : l.stackTraces = false) (c : Int) (hC : lyC S) (A : aM) (hR : RC M N S A) (hA : TOK (A 0)) : aMt l E pX11_house [(2, 0), (0, c)] N S M (opC M N S 0 (spHouse A c) (fun _ => 0)) := by
  refine a_met hfl rfl (by decide +kernel) (Nat.le_of_ble_eq_true rfl) ?_
  have c0 : M 1 1 = A 0 0 := hR.1.1.1
  have t0 := hA.1
  have t9 := hA.2.2.2.2.2.2.2.2.2.2.2.2.2.2.2.2.2.1
  refine x_aload_n (pc := 0) dX11_house_0 rfl rfl ?_
  refine x_iload_n (pc := 1) dX11_house_1 rfl rfl ?_
  refine x_callV1 (pc := 2) dX11_house_2 rfl kX11_90 (s_needSacks hfl _ hC) (sC_0 hC) rfl rfl (Nat.le_of_ble_eq_true rfl) (k_N (fun h_2 => ?_)) (n_N (fun h_2 => (by have e9 : spHouse A c = (1, 0, A) := (by unfold spHouse; (repeat' split) <;> first | rfl | (exfalso; omega)); rw [e9]; exact ⟨rfl, rfl, fun _ _ _ _ => rfl, hR, Or.inr ⟨show ¬ (1 : Int) = 0 by decide, rfl⟩⟩)))
  refine x_aload_n (pc := 5) dX11_house_5 rfl rfl ?_
  refine x_getR (jj := 0) (pc := 6) dX11_house_6 fX11_10 (sC_0 hC) rfl (by decide) rfl rC_0_0 ?_
  refine x_iload_n (pc := 9) dX11_house_9 rfl rfl ?_
  refine x_callV1 (pc := 10) dX11_house_10 rfl kX11_94 (s_settle hfl 1 _ hC.2.1 (by omega)) (hC.2.1).2.1 rfl rfl (Nat.le_of_ble_eq_true rfl) (k_G (fun v9 M9 hM9 => ?_)) n_G
  rcases hM9 with ⟨d1, rfl, rfl⟩ | ⟨d1, rfl, rfl⟩
  · refine x_istore_n (pc := 13) dX11_house_13 rfl (by decide) rfl ?_
    refine x_aload_n (pc := 14) dX11_house_14 rfl rfl ?_
    refine x_iload_n (pc := 15) dX11_house_15 rfl rfl ?_
    refine x_callV1 (pc := 16) dX11_house_16 rfl kX11_98 (s_forgetHouse hfl _ hC) (sC_0 hC) rfl rfl (Nat.le_of_ble_eq_true rfl) (k_U (fun M9 hM9 => ?_)) n_U
    subst hM9
    refine x_iload_n (pc := 19) dX11_house_19 rfl rfl ?_
    refine x_ireturn (pc := 20) dX11_house_20 rfl (by decide) ?_
    have e9 : spHouse A c = (0, -1, A) := by
      unfold spHouse
      (repeat' split) <;> first | rfl | (exfalso; omega)
    rw [e9]
    rw [fgM_none (by omega)]
    exact ⟨rfl, rfl, fun b j x y => up_a (by omega), RC.rel hR t9 (fun a x y z j => up_a z) (fun _ _ => rfl) (fun _ _ => rfl) (hR.1.1.cg fun b x y j => up_a (by omega)) up_s, Or.inl ⟨rfl, rfl⟩⟩
  · refine x_istore_n (pc := 13) dX11_house_13 rfl (by decide) rfl ?_
    refine x_aload_n (pc := 14) dX11_house_14 rfl rfl ?_
    refine x_iload_n (pc := 15) dX11_house_15 rfl rfl ?_
    refine x_callV1 (pc := 16) dX11_house_16 rfl kX11_98 (s_forgetHouse hfl _ hC) (sC_0 hC) rfl rfl (Nat.le_of_ble_eq_true rfl) (k_U (fun M9 hM9 => ?_)) n_U
    subst hM9
    refine x_iload_n (pc := 19) dX11_house_19 rfl rfl ?_
    refine x_ireturn (pc := 20) dX11_house_20 rfl (by decide) ?_
    have e9 : spHouse A c = (0, A 0 0, up (up A 0 (1 + A 0 0) c) 0 0 (A 0 0 + 1)) := by
      unfold spHouse
      (repeat' split) <;> first | rfl | (exfalso; omega)
    rw [e9]
    rw [c0]
    have z1 := RC.num (v := A 0 0 + 1) (RC.one hR t9 (h := A 0 0) (a := 1 + 7) (i := A 0 0) (v := c) (k := 1 + A 0 0) ⟨by omega, by omega⟩ (by omega) (by omega) (fun j a1 a2 a3 a4 a5 => a4) (hR.1.1.u7 (by omega))) (by rw [up_i (by omega)]; exact t9)
    rw [← up_fg (by omega), up_up (by omega : (1 : Int) ≠ 82)]
    exact ⟨rfl, rfl, fun b j x y => by rw [up_a (by omega), up_a (by omega), fgM_a (by omega), up_a (by omega)], z1, Or.inl ⟨rfl, rfl⟩⟩
theorem s_Cbar {l : Launch} {E : aE} {N : Nat} {S : aS} {M : aM} (hfl : l.stackTraces = false) (a b : Int) (hC : lyC S) (A : aM) (hR : RC M N S A) (hA : TOK (A 0)) : aMt l E pX11_bar [(2, 0), (0, a), (0, b)] N S M (opC M N S 0 (spBar A a b) (fun k => if k = 1 then 2 else 0)) := by
  refine a_met hfl rfl (by decide +kernel) (Nat.le_of_ble_eq_true rfl) ?_
  have c0 : M 1 1 = A 0 0 := hR.1.1.1
  have t0 := hA.1
  have t9 := hA.2.2.2.2.2.2.2.2.2.2.2.2.2.2.2.2.2.1
  refine x_aload_n (pc := 0) dX11_bar_0 rfl rfl ?_
  refine x_iload_n (pc := 1) dX11_bar_1 rfl rfl ?_
  refine x_iload_n (pc := 2) dX11_bar_2 rfl rfl ?_
  refine x_callV2 (pc := 3) dX11_bar_3 rfl kX11_115 (s_needTwo hfl _ _ hC) (sC_0 hC) rfl rfl (Nat.le_of_ble_eq_true rfl) (k_2 (fun h9 h8 => ?_)) (n_2 (fun h9 => (by have e9 : spBar A a b = (1, 0, A) := (by unfold spBar; (repeat' split) <;> first | rfl | (exfalso; omega)); rw [e9]; exact ⟨rfl, rfl, fun _ _ _ _ => rfl, hR, Or.inr ⟨show ¬ (1 : Int) = 0 by decide, rfl⟩⟩)) (fun h9 h8 => (by have e9 : spBar A a b = (2, 0, A) := (by unfold spBar; (repeat' split) <;> first | rfl | (exfalso; omega)); rw [e9]; exact ⟨rfl, rfl, fun _ _ _ _ => rfl, hR, Or.inr ⟨show ¬ (2 : Int) = 0 by decide, rfl⟩⟩)))
  refine x_aload_n (pc := 6) dX11_bar_6 rfl rfl ?_
  refine x_getR (jj := 0) (pc := 7) dX11_bar_7 fX11_10 (sC_0 hC) rfl (by decide) rfl rC_0_0 ?_
  refine x_getR (jj := 4) (pc := 10) dX11_bar_10 fX11_118 (hC.2.1).2.1 rfl (by decide) rfl rS_4 ?_
  refine x_iload_n (pc := 13) dX11_bar_13 rfl rfl ?_
  refine x_ialoadV (pc := 14) dX11_bar_14 (hC.2.1).2.2.2.2.1 (by omega) (by (repeat (first | rewrite [up_s] | rewrite [up_i (by omega)] | rewrite [up_a (by omega)])); rfl) (fun g_14 => ?_)
  refine x_iload_n (pc := 15) dX11_bar_15 rfl rfl ?_
  refine x_callS2 (pc := 16) dX11_bar_16 rfl kX11_121 (s_isOf hfl _ _) rfl (Nat.le_of_ble_eq_true rfl) (k_R ?_) n_R
  refine x_istore_n (pc := 19) dX11_bar_19 rfl (by decide) rfl ?_
  refine x_aload_n (pc := 20) dX11_bar_20 rfl rfl ?_
  refine x_getR (jj := 0) (pc := 21) dX11_bar_21 fX11_10 (sC_0 hC) rfl (by decide) rfl rC_0_0 ?_
  refine x_getR (jj := 4) (pc := 24) dX11_bar_24 fX11_118 (hC.2.1).2.1 rfl (by decide) rfl rS_4 ?_
  refine x_iload_n (pc := 27) dX11_bar_27 rfl rfl ?_
  refine x_dup2 (pc := 28) dX11_bar_28 rfl rfl ?_
  refine x_ialoadV (pc := 29) dX11_bar_29 (hC.2.1).2.2.2.2.1 (by omega) (by (repeat (first | rewrite [up_s] | rewrite [up_i (by omega)] | rewrite [up_a (by omega)])); rfl) (fun g_29 => ?_)
  refine x_iconst (pc := 30) dX11_bar_30 (by decide) ?_
  refine x_iload_n (pc := 31) dX11_bar_31 rfl rfl ?_
  refine x_ishl (pc := 32) dX11_bar_32 ?_
  refine x_ior (pc := 33) dX11_bar_33 ?_
  refine x_iastore (pc := 34) dX11_bar_34 (hC.2.1).2.2.2.2.1 (by omega) ?_
  refine x_aload_n (pc := 35) dX11_bar_35 rfl rfl ?_
  refine x_getR (jj := 0) (pc := 36) dX11_bar_36 fX11_10 (sC_0 hC) rfl (by decide) rfl rC_0_0 ?_
  refine x_getR (jj := 4) (pc := 39) dX11_bar_39 fX11_118 (hC.2.1).2.1 rfl (by decide) rfl rS_4 ?_
  refine x_iload_n (pc := 42) dX11_bar_42 rfl rfl ?_
  refine x_dup2 (pc := 43) dX11_bar_43 rfl rfl ?_
  refine x_ialoadV (pc := 44) dX11_bar_44 (hC.2.1).2.2.2.2.1 (by omega) (by (repeat (first | rewrite [up_s] | rewrite [up_i (by omega)] | rewrite [up_a (by omega)])); rfl) (fun g_44 => ?_)
  refine x_iconst (pc := 45) dX11_bar_45 (by decide) ?_
  refine x_iload_n (pc := 46) dX11_bar_46 rfl rfl ?_
  refine x_ishl (pc := 47) dX11_bar_47 ?_
  refine x_ior (pc := 48) dX11_bar_48 ?_
  refine x_iastore (pc := 49) dX11_bar_49 (hC.2.1).2.2.2.2.1 (by omega) ?_
  refine x_aload_n (pc := 50) dX11_bar_50 rfl rfl ?_
  refine x_getR (jj := 8) (pc := 51) dX11_bar_51 fX11_79 (sC_0 hC) rfl (by decide) rfl rC_0_8 ?_
  refine x_callV0 (pc := 54) dX11_bar_54 rfl kX11_125 (s_X6forget hfl 82 0 rC_82 (sC_82 hC)) (sC_82 hC) rfl rfl (Nat.le_of_ble_eq_true rfl) (k_U (fun M9 hM9 => ?_)) n_U
  subst hM9
  refine x_iload_n (pc := 57) dX11_bar_57 rfl rfl ?_
  refine x_if_ne (tgt := 65) (pc := 58) dX11_bar_58 (by decide) (fun c_58 => ?_) (fun c_58 => ?_)
  · refine x_iconst (pc := 65) dX11_bar_65 (by decide) ?_
    refine x_zreturn (pc := 66) dX11_bar_66 rfl (by omega) (by decide) ?_
    have hs := isOf_iff (x := M (1 + 9) a) (h := b) (by omega)
    have hs1 := isOfV01 (M (1 + 9) a) b
    have hg := (hR.1.1.2.2.2.1 a (by omega) (by omega)).2 b (by omega) (by omega)
    have tb := (hA.2.2.2.1 a b (by omega) (by omega) (by omega) (by omega)).1
    have e9 : spBar A a b = (0, 0, up (up A 0 (50 + 7 * a + b) 1) 0 (50 + 7 * b + a) 1) := by
      unfold spBar
      (repeat' split) <;> first | rfl | (exfalso; omega)
    rw [e9]
    have z1 := hR.1.1.bar1 (a := a) (b := b) (by omega) (by omega)
    have z2 := z1.bar1 (a := b) (b := a) (by omega) (by omega)
    rw [up_i (by omega : b ≠ a)] at z2
    exact ⟨rfl, rfl, fun c j x y => by rw [up_a (by omega), up_a (by omega), up_a (by omega)], RC.rel hR t9 (fun c x y z j => by rw [up_a (by omega), up_a (by omega), up_a (by omega)]) (fun r hr => funext fun j => by dsimp only; rw [up_a hr, up_a hr]) (fun j hj => by dsimp only; rw [up_i (by omega), up_i (by omega)]) (by dsimp only; rw [up_0, up_0]; exact z2.cg fun c x y j => up_a (by omega)) up_s, Or.inl ⟨rfl, rfl⟩⟩
  · refine x_iconst (pc := 61) dX11_bar_61 (by decide) ?_
    refine x_goto (tgt := 66) (pc := 62) dX11_bar_62 (by decide) ?_
    refine x_zreturn (pc := 66) dX11_bar_66 rfl (by omega) (by decide) ?_
    have hs := isOf_iff (x := M (1 + 9) a) (h := b) (by omega)
    have hs1 := isOfV01 (M (1 + 9) a) b
    have hg := (hR.1.1.2.2.2.1 a (by omega) (by omega)).2 b (by omega) (by omega)
    have tb := (hA.2.2.2.1 a b (by omega) (by omega) (by omega) (by omega)).1
    have e9 : spBar A a b = (0, 1, up (up A 0 (50 + 7 * a + b) 1) 0 (50 + 7 * b + a) 1) := by
      unfold spBar
      (repeat' split) <;> first | rfl | (exfalso; omega)
    rw [e9]
    have z1 := hR.1.1.bar1 (a := a) (b := b) (by omega) (by omega)
    have z2 := z1.bar1 (a := b) (b := a) (by omega) (by omega)
    rw [up_i (by omega : b ≠ a)] at z2
    exact ⟨rfl, rfl, fun c j x y => by rw [up_a (by omega), up_a (by omega), up_a (by omega)], RC.rel hR t9 (fun c x y z j => by rw [up_a (by omega), up_a (by omega), up_a (by omega)]) (fun r hr => funext fun j => by dsimp only; rw [up_a hr, up_a hr]) (fun j hj => by dsimp only; rw [up_i (by omega), up_i (by omega)]) (by dsimp only; rw [up_0, up_0]; exact z2.cg fun c x y j => up_a (by omega)) up_s, Or.inl ⟨rfl, rfl⟩⟩
theorem s_Ctrust {l : Launch} {E : aE} {N : Nat} {S : aS} {M : aM} (hfl : l.stackTraces = false) (a b x : Int) (hx : x = 0 ∨ x = 1) (hC : lyC S) (A : aM) (hR : RC M N S A) (hA : TOK (A 0)) : aMt l E pX11_trust [(2, 0), (0, a), (0, b), (0, x)] N S M (opC M N S 0 (spTrust A a b x) (fun k => if k = 1 then 2 else 0)) := by
  refine a_met hfl rfl (by decide +kernel) (Nat.le_of_ble_eq_true rfl) ?_
  have c0 : M 1 1 = A 0 0 := hR.1.1.1
  have t0 := hA.1
  have t9 := hA.2.2.2.2.2.2.2.2.2.2.2.2.2.2.2.2.2.1
  refine x_aload_n (pc := 0) dX11_trust_0 rfl rfl ?_
  refine x_iload_n (pc := 1) dX11_trust_1 rfl rfl ?_
  refine x_iload_n (pc := 2) dX11_trust_2 rfl rfl ?_
  refine x_callV2 (pc := 3) dX11_trust_3 rfl kX11_115 (s_needTwo hfl _ _ hC) (sC_0 hC) rfl rfl (Nat.le_of_ble_eq_true rfl) (k_2 (fun h9 h8 => ?_)) (n_2 (fun h9 => (by have e9 : spTrust A a b x = (1, 0, A) := (by unfold spTrust; (repeat' split) <;> first | rfl | (exfalso; omega)); rw [e9]; exact ⟨rfl, rfl, fun _ _ _ _ => rfl, hR, Or.inr ⟨show ¬ (1 : Int) = 0 by decide, rfl⟩⟩)) (fun h9 h8 => (by have e9 : spTrust A a b x = (2, 0, A) := (by unfold spTrust; (repeat' split) <;> first | rfl | (exfalso; omega)); rw [e9]; exact ⟨rfl, rfl, fun _ _ _ _ => rfl, hR, Or.inr ⟨show ¬ (2 : Int) = 0 by decide, rfl⟩⟩)))
  refine x_aload_n (pc := 6) dX11_trust_6 rfl rfl ?_
  refine x_getR (jj := 0) (pc := 7) dX11_trust_7 fX11_10 (sC_0 hC) rfl (by decide) rfl rC_0_0 ?_
  refine x_getR (jj := 5) (pc := 10) dX11_trust_10 fX11_128 (hC.2.1).2.1 rfl (by decide) rfl rS_5 ?_
  refine x_iload_n (pc := 13) dX11_trust_13 rfl rfl ?_
  refine x_ialoadV (pc := 14) dX11_trust_14 (hC.2.1).2.2.2.2.2.1 (by omega) (by (repeat (first | rewrite [up_s] | rewrite [up_i (by omega)] | rewrite [up_a (by omega)])); rfl) (fun g_14 => ?_)
  refine x_iload_n (pc := 15) dX11_trust_15 rfl rfl ?_
  refine x_callS2 (pc := 16) dX11_trust_16 rfl kX11_121 (s_isOf hfl _ _) rfl (Nat.le_of_ble_eq_true rfl) (k_R ?_) n_R
  refine x_istore (pc := 19) dX11_trust_19 (by decide) rfl ?_
  refine x_iload (pc := 21) dX11_trust_21 rfl ?_
  refine x_iload_n (pc := 23) dX11_trust_23 rfl rfl ?_
  refine x_icmp_eq (tgt := 49) (pc := 24) dX11_trust_24 (by decide) (fun c_24 => ?_) (fun c_24 => ?_)
  · refine x_iload (pc := 49) dX11_trust_49 rfl ?_
    refine x_zreturn (pc := 51) dX11_trust_51 rfl (by rcases isOfV01 (M (1 + 10) b) a with w | w <;> omega) (by decide) ?_
    have hs := isOf_iff (x := M (1 + 10) b) (h := a) (by omega)
    have hs1 := isOfV01 (M (1 + 10) b) a
    have hg := (hR.1.1.2.2.2.2.1 b (by omega) (by omega)).2 a (by omega) (by omega)
    have tb := hA.2.2.2.2.1 a b (by omega) (by omega) (by omega) (by omega)
    have e8 : isOfV (M (1 + 10) b) a = (if A 0 (99 + 7 * a + b) = 1 then 1 else 0) := by
      by_cases e : A 0 (99 + 7 * a + b) = 1
      · rw [if_pos e]; exact hs.mpr (hg.mpr e)
      · rw [if_neg e]; rcases hs1 with w | w
        · exact w
        · exact absurd (hg.mp (hs.mp w)) e
    have e7 : x = (if x = 0 then 0 else 1) := by rcases hx with w | w <;> rw [w] <;> rfl
    have e9 : spTrust A a b x = (0, if A 0 (99 + 7 * a + b) = 1 then 1 else 0, up A 0 (99 + 7 * a + b) (if x = 0 then 0 else 1)) := by
      unfold spTrust
      rw [if_neg (by omega), if_neg (by omega)]
    rw [e9, e8]
    have e6 : x = A 0 (99 + 7 * a + b) := by
      rw [← c_24, e8]
      rcases tb with w | ⟨w, -⟩ <;> rw [w] <;> rfl
    rw [up_self (a := 0) (e7.symm.trans e6)]
    exact ⟨rfl, rfl, fun _ _ _ _ => rfl, hR, Or.inl ⟨rfl, rfl⟩⟩
  · refine x_aload_n (pc := 27) dX11_trust_27 rfl rfl ?_
    refine x_getR (jj := 0) (pc := 28) dX11_trust_28 fX11_10 (sC_0 hC) rfl (by decide) rfl rC_0_0 ?_
    refine x_getR (jj := 5) (pc := 31) dX11_trust_31 fX11_128 (hC.2.1).2.1 rfl (by decide) rfl rS_5 ?_
    refine x_iload_n (pc := 34) dX11_trust_34 rfl rfl ?_
    refine x_dup2 (pc := 35) dX11_trust_35 rfl rfl ?_
    refine x_ialoadV (pc := 36) dX11_trust_36 (hC.2.1).2.2.2.2.2.1 (by omega) (by (repeat (first | rewrite [up_s] | rewrite [up_i (by omega)] | rewrite [up_a (by omega)])); rfl) (fun g_36 => ?_)
    refine x_iconst (pc := 37) dX11_trust_37 (by decide) ?_
    refine x_iload_n (pc := 38) dX11_trust_38 rfl rfl ?_
    refine x_ishl (pc := 39) dX11_trust_39 ?_
    refine x_ixor (pc := 40) dX11_trust_40 ?_
    refine x_iastore (pc := 41) dX11_trust_41 (hC.2.1).2.2.2.2.2.1 (by omega) ?_
    refine x_aload_n (pc := 42) dX11_trust_42 rfl rfl ?_
    refine x_getR (jj := 8) (pc := 43) dX11_trust_43 fX11_79 (sC_0 hC) rfl (by decide) rfl rC_0_8 ?_
    refine x_callV0 (pc := 46) dX11_trust_46 rfl kX11_125 (s_X6forget hfl 82 0 rC_82 (sC_82 hC)) (sC_82 hC) rfl rfl (Nat.le_of_ble_eq_true rfl) (k_U (fun M9 hM9 => ?_)) n_U
    subst hM9
    refine x_iload (pc := 49) dX11_trust_49 rfl ?_
    refine x_zreturn (pc := 51) dX11_trust_51 rfl (by rcases isOfV01 (M (1 + 10) b) a with w | w <;> omega) (by decide) ?_
    have hs := isOf_iff (x := M (1 + 10) b) (h := a) (by omega)
    have hs1 := isOfV01 (M (1 + 10) b) a
    have hg := (hR.1.1.2.2.2.2.1 b (by omega) (by omega)).2 a (by omega) (by omega)
    have tb := hA.2.2.2.2.1 a b (by omega) (by omega) (by omega) (by omega)
    have e8 : isOfV (M (1 + 10) b) a = (if A 0 (99 + 7 * a + b) = 1 then 1 else 0) := by
      by_cases e : A 0 (99 + 7 * a + b) = 1
      · rw [if_pos e]; exact hs.mpr (hg.mpr e)
      · rw [if_neg e]; rcases hs1 with w | w
        · exact w
        · exact absurd (hg.mp (hs.mp w)) e
    have e7 : x = (if x = 0 then 0 else 1) := by rcases hx with w | w <;> rw [w] <;> rfl
    have e9 : spTrust A a b x = (0, if A 0 (99 + 7 * a + b) = 1 then 1 else 0, up A 0 (99 + 7 * a + b) (if x = 0 then 0 else 1)) := by
      unfold spTrust
      rw [if_neg (by omega), if_neg (by omega)]
    rw [e9, e8]
    have e6 : (if x = 0 then (0 : Int) else 1) = 1 ↔ ¬ A 0 (99 + 7 * a + b) = 1 := by
      rw [e8] at c_24
      rw [← e7]
      rcases tb with w | ⟨w, -⟩ <;> rw [w] at c_24 ⊢ <;> rcases hx with z | z <;> rw [z] at c_24 ⊢ <;> first | decide | exact absurd (by decide) c_24
    have z1 := hR.1.1.trust1 (a := a) (b := b) (v := if x = 0 then 0 else 1) (by omega) (by omega) e6
    exact ⟨rfl, rfl, fun c j x y => by rw [up_a (by omega), up_a (by omega)], RC.rel hR t9 (fun c x y z j => by rw [up_a (by omega), up_a (by omega)]) (fun r hr => funext fun j => up_a hr) (fun j hj => up_i (by omega)) (by dsimp only; rw [up_0]; exact z1.cg fun c x y j => up_a (by omega)) up_s, Or.inl ⟨rfl, rfl⟩⟩
theorem s_Cholder {l : Launch} {E : aE} {N : Nat} {S : aS} {M : aM} (hfl : l.stackTraces = false) (s : Int) (hC : lyC S) (A : aM) (hR : RC M N S A) (hA : TOK (A 0)) : aMt l E pX11_holder [(2, 0), (0, s)] N S M (opC M N S 0 (spHolder A s) (fun _ => 0)) := by
  refine a_met hfl rfl (by decide +kernel) (Nat.le_of_ble_eq_true rfl) ?_
  have c0 : M 1 1 = A 0 0 := hR.1.1.1
  have t0 := hA.1
  have t9 := hA.2.2.2.2.2.2.2.2.2.2.2.2.2.2.2.2.2.1
  refine x_aload_n (pc := 0) dX11_holder_0 rfl rfl ?_
  refine x_iload_n (pc := 1) dX11_holder_1 rfl rfl ?_
  refine x_callV1 (pc := 2) dX11_holder_2 rfl kX11_131 (s_needSet hfl _ hC (by omega)) (sC_0 hC) rfl rfl (Nat.le_of_ble_eq_true rfl) (k_N (fun h_2 => ?_)) (n_N (fun h_2 => (by rw [c0] at h_2; have e9 : spHolder A s = (1, 0, A) := (by unfold spHolder; rw [if_pos h_2]); rw [e9]; exact ⟨rfl, rfl, fun _ _ _ _ => rfl, hR, Or.inr ⟨show ¬ (1 : Int) = 0 by decide, rfl⟩⟩)))
  refine x_aload_n (pc := 5) dX11_holder_5 rfl rfl ?_
  refine x_getR (jj := 0) (pc := 6) dX11_holder_6 fX11_10 (sC_0 hC) rfl (by decide) rfl rC_0_0 ?_
  refine x_iload_n (pc := 9) dX11_holder_9 rfl rfl ?_
  refine x_callV1 (pc := 10) dX11_holder_10 rfl kX11_134 (s_holderOf hfl 1 _ hC.2.1) (hC.2.1).2.1 rfl rfl (Nat.le_of_ble_eq_true rfl) (k_R ?_) n_R
  refine x_ireturn (pc := 13) dX11_holder_13 rfl (by decide) ?_
  rw [c0] at h_2
  have hs := bt_fin (n := 8) (m := 1) (P := fun i _ => 1 ≤ b_shl 1 i ∧ b_shl 1 i ≤ 128) (by decide +kernel) (a := A 0 0) (by omega) (b := 0) (by omega)
  rw [hR.1.1.hold (by omega), show spHolder A s = (0, holdV (A 0) s, A) by unfold spHolder; rw [if_neg (fun z => z h_2)]]
  exact ⟨rfl, rfl, fun _ _ _ _ => rfl, hR, Or.inl ⟨rfl, rfl⟩⟩
