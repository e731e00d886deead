/-! TEXT: the class's reading, and the call -/
def FRc (M M' : aM) (n : Int) : Prop := M' 17 1 = 0 ∧ M' 17 6 = n ∧ ∀ a i : Int, a ≠ 17 → ¬ (19 ≤ a ∧ a < 25) → M' a i = M a i
def RDc (M : aM) (R : tR) : Prop := M 17 2 = R.1 ∧ M 17 3 = (if R.1 = 0 then -1 else R.2.1) ∧ (R.1 = 0 → M 17 4 = R.2.2.1 ∧ CF M R.2.2.2 ∧ FOK R.2.2.2)
def RGc (M : aM) (T : Int → Int) (n : Int) (w : Nat) (i : Int) (R : tR) : Prop := (w = 0 ∧ R.1 ≠ 0 ∧ M 17 2 = R.1 ∧ M 17 3 = R.2.1) ∨ ∃ (j : Nat) (a : Int) (f : Int → Int) (k : Int), w = j + 1 ∧ textR T n j a f k = R ∧ (0 ≤ a ∧ a ≤ n ∧ n - a + 1 ≤ j ∧ i + j = 301 ∧ 0 ≤ k ∧ k ≤ i) ∧ FOK f ∧ M 17 4 = k ∧ CTk M T n a ∧ (tK T n a ≠ 4 → M 17 3 = -1) ∧ CF M f
/-- a first bad token is the text's fault, or there is none -/
theorem RGc.two {M : aM} {T : Int → Int} {n i : Int} {w : Nat} {R : tR} (h : RGc M T n w i R) : (0 ≤ i ∨ w = 0) → (R.1 ≠ 0 ∧ M 17 2 = R.1 ∧ M 17 3 = R.2.1) ∨ ∃ (j : Nat) (a : Int) (f : Int → Int) (k : Int), w = j + 2 ∧ textR T n (j + 1) a f k = R ∧ (0 ≤ a ∧ a ≤ n ∧ n - a ≤ j ∧ i + j = 300 ∧ 0 ≤ k ∧ k ≤ i) ∧ FOK f ∧ M 17 4 = k ∧ CTk M T n a ∧ tK T n a ≠ 4 ∧ M 17 3 = -1 ∧ CF M f := by
  intro _
  rcases h with ⟨_, h⟩ | ⟨j, a, f, k, d1, d2, d3, d4, d5, d6, d7, d8⟩
  · exact Or.inl h
  · obtain ⟨j2, rfl⟩ : ∃ j2, j = j2 + 1 := ⟨j - 1, by omega⟩
    by_cases h4 : tK T n a = 4
    · left
      have e : lineR T n a f = badR 1 (tB T n a) := by
        unfold lineR errR
        rw [if_pos (by omega), if_pos h4]
      have hR : R = badR 1 (tB T n a) := by
        rw [← d2, textR_1, if_neg (by omega), e]
        exact if_pos (show (1 : Int) ≠ 0 by decide)
      rw [hR]
      exact ⟨(show (1 : Int) ≠ 0 by decide), (d6.1 h4).1, (d6.1 h4).2⟩
    · exact Or.inr ⟨j2, a, f, k, by omega, d2, by omega, d4, d5, d6, h4, d7 h4, d8⟩
theorem RHs.cg2 {M M' : aM} {s : Int} {t : Int → Int} (h : RHs M s t) (e0 : eqR M M' s) (e : ∀ a, s + 7 ≤ a → a < s + 15 → eqR M M' a) : RHs M' s t := by
  obtain ⟨h1, h2, h3, h4, h5, h6, h7, h8, h9⟩ := h
  have g : ∀ k, 7 ≤ k → k < 15 → eqR M M' (s + k) := fun k a b => e _ (by omega) (by omega)
  refine ⟨(e0 _).trans h1, fun i a b => (g 7 (by omega) (by omega) _).trans (h2 i a b), fun i a b => (g 8 (by omega) (by omega) _).trans (h3 i a b), fun i a b => ?_, fun i a b => ?_, fun i a b => (g 11 (by omega) (by omega) _).trans (h6 i a b), (e0 _).trans h7, fun i a b => (g 12 (by omega) (by omega) _).trans (h8 i a b), fun i a b => ⟨(g 13 (by omega) (by omega) _).trans (h9 i a b).1, (g 14 (by omega) (by omega) _).trans (h9 i a b).2⟩⟩
  · rw [g 9 (by omega) (by omega) i]; exact h4 i a b
  · rw [g 10 (by omega) (by omega) i]; exact h5 i a b
theorem RC.txt {M M' A : aM} {N : Nat} {S : aS} {k p : Int} (h : RC M N S A) (e : ∀ a i : Int, a ≠ 17 → ¬ (19 ≤ a ∧ a < 25) → M' a i = M a i) (e1 : M' 17 1 = 0) (e2 : M' 17 2 = k) (e3 : M' 17 3 = p) : RC M' N S (badT A k p) := by
  obtain ⟨h1, h2, h3, h4, h5, h6, h7, h8, h9⟩ := h
  have g : ∀ a, a ≠ 17 → ¬ (19 ≤ a ∧ a < 25) → eqR M M' a := fun a x y i => e a i x y
  have r : ∀ r, r ≠ 2 → badT A k p r = A r := fun r hr => funext fun i => badT_o hr
  obtain ⟨b0, b1, b2, b3, b4⟩ := badT_2 (A := A) (k := k) (p := p)
  unfold RC
  rw [r 0 (by decide)]
  refine ⟨h1.cg fun a x y => g a (by omega) (by omega), ?_, ?_, ?_, ?_, h6.cg fun a x y => g a (by omega) (by omega), h7.cg (g 31 (by omega) (by omega)), h8.cg (fun a x y => g a (by omega) (by omega)) (fun a x y => g a (by omega) (by omega)), h9.cg (g 82 (by omega) (by omega))⟩
  · have z := h2.cg (g 0 (by omega) (by omega))
    unfold RFr at z ⊢
    rw [b3, b4]; exact z
  · unfold RRd
    rw [b0, b1, b2]
    exact ⟨e1, fun i a b => by omega, e2, e3⟩
  · have z := h4.cg (g 105 (by omega) (by omega)) (g 106 (by omega) (by omega)) (g 107 (by omega) (by omega))
    unfold RTy at z ⊢
    rw [r 3 (by decide), r 4 (by decide), r 5 (by decide)]; exact z
  · have z := h5.cg (g 16 (by omega) (by omega)) (fun a x => g a (by omega) (by omega))
    unfold RIm at z ⊢
    rw [r 6 (by decide), r 7 (by decide)]; exact z
theorem dX5_read_0 : decode cX5_read 0 = .ok (.aload_n 0, 1) := by decide +kernel
theorem dX5_read_1 : decode cX5_read 1 = .ok (.iload_n 1, 1) := by decide +kernel
theorem dX5_read_2 : decode cX5_read 2 = .ok (.aload_n 0, 1) := by decide +kernel
theorem dX5_read_3 : decode cX5_read 3 = .ok (.getfield 26, 3) := by decide +kernel
theorem dX5_read_6 : decode cX5_read 6 = .ok (.invokestatic 29, 3) := by decide +kernel
theorem dX5_read_9 : decode cX5_read 9 = .ok (.putfield 35, 3) := by decide +kernel
theorem dX5_read_12 : decode cX5_read 12 = .ok (.aload_n 0, 1) := by decide +kernel
theorem dX5_read_13 : decode cX5_read 13 = .ok (.iconst 0, 1) := by decide +kernel
theorem dX5_read_14 : decode cX5_read 14 = .ok (.putfield 26, 3) := by decide +kernel
theorem dX5_read_17 : decode cX5_read 17 = .ok (.aload_n 0, 1) := by decide +kernel
theorem dX5_read_18 : decode cX5_read 18 = .ok (.iconst 0, 1) := by decide +kernel
theorem dX5_read_19 : decode cX5_read 19 = .ok (.putfield 38, 3) := by decide +kernel
theorem dX5_read_22 : decode cX5_read 22 = .ok (.aload_n 0, 1) := by decide +kernel
theorem dX5_read_23 : decode cX5_read 23 = .ok (.iconst (-1), 1) := by decide +kernel
theorem dX5_read_24 : decode cX5_read 24 = .ok (.putfield 15, 3) := by decide +kernel
theorem dX5_read_27 : decode cX5_read 27 = .ok (.aload_n 0, 1) := by decide +kernel
theorem dX5_read_28 : decode cX5_read 28 = .ok (.iconst 0, 1) := by decide +kernel
theorem dX5_read_29 : decode cX5_read 29 = .ok (.putfield 41, 3) := by decide +kernel
theorem dX5_read_32 : decode cX5_read 32 = .ok (.aload_n 0, 1) := by decide +kernel
theorem dX5_read_33 : decode cX5_read 33 = .ok (.iconst 0, 1) := by decide +kernel
theorem dX5_read_34 : decode cX5_read 34 = .ok (.putfield 44, 3) := by decide +kernel
theorem dX5_read_37 : decode cX5_read 37 = .ok (.aload_n 0, 1) := by decide +kernel
theorem dX5_read_38 : decode cX5_read 38 = .ok (.getfield 22, 3) := by decide +kernel
theorem dX5_read_41 : decode cX5_read 41 = .ok (.invokevirtual 47, 3) := by decide +kernel
theorem dX5_read_44 : decode cX5_read 44 = .ok (.aload_n 0, 1) := by decide +kernel
theorem dX5_read_45 : decode cX5_read 45 = .ok (.invokevirtual 50, 3) := by decide +kernel
theorem dX5_read_48 : decode cX5_read 48 = .ok (.iconst 0, 1) := by decide +kernel
theorem dX5_read_49 : decode cX5_read 49 = .ok (.istore_n 2, 1) := by decide +kernel
theorem dX5_read_50 : decode cX5_read 50 = .ok (.iload_n 2, 1) := by decide +kernel
theorem dX5_read_51 : decode cX5_read 51 = .ok (.sipush 300, 3) := by decide +kernel
theorem dX5_read_54 : decode cX5_read 54 = .ok (.if_icmp .gt 48, 3) := by decide +kernel
theorem dX5_read_57 : decode cX5_read 57 = .ok (.aload_n 0, 1) := by decide +kernel
theorem dX5_read_58 : decode cX5_read 58 = .ok (.getfield 38, 3) := by decide +kernel
theorem dX5_read_61 : decode cX5_read 61 = .ok (.ifCond .ne 41, 3) := by decide +kernel
theorem dX5_read_64 : decode cX5_read 64 = .ok (.aload_n 0, 1) := by decide +kernel
theorem dX5_read_65 : decode cX5_read 65 = .ok (.getfield 53, 3) := by decide +kernel
theorem dX5_read_68 : decode cX5_read 68 = .ok (.ifCond .eq 34, 3) := by decide +kernel
theorem dX5_read_71 : decode cX5_read 71 = .ok (.aload_n 0, 1) := by decide +kernel
theorem dX5_read_72 : decode cX5_read 72 = .ok (.invokevirtual 56, 3) := by decide +kernel
theorem dX5_read_75 : decode cX5_read 75 = .ok (.aload_n 0, 1) := by decide +kernel
theorem dX5_read_76 : decode cX5_read 76 = .ok (.getfield 38, 3) := by decide +kernel
theorem dX5_read_79 : decode cX5_read 79 = .ok (.ifCond .ne 17, 3) := by decide +kernel
theorem dX5_read_82 : decode cX5_read 82 = .ok (.aload_n 0, 1) := by decide +kernel
theorem dX5_read_83 : decode cX5_read 83 = .ok (.dup, 1) := by decide +kernel
theorem dX5_read_84 : decode cX5_read 84 = .ok (.getfield 41, 3) := by decide +kernel
theorem dX5_read_87 : decode cX5_read 87 = .ok (.iconst 1, 1) := by decide +kernel
theorem dX5_read_88 : decode cX5_read 88 = .ok (.iadd, 1) := by decide +kernel
theorem dX5_read_89 : decode cX5_read 89 = .ok (.putfield 41, 3) := by decide +kernel
theorem dX5_read_92 : decode cX5_read 92 = .ok (.aload_n 0, 1) := by decide +kernel
theorem dX5_read_93 : decode cX5_read 93 = .ok (.invokevirtual 50, 3) := by decide +kernel
theorem dX5_read_96 : decode cX5_read 96 = .ok (.iinc 2 1, 3) := by decide +kernel
theorem dX5_read_99 : decode cX5_read 99 = .ok (.goto (-49), 3) := by decide +kernel
theorem dX5_read_102 : decode cX5_read 102 = .ok (.aload_n 0, 1) := by decide +kernel
theorem dX5_read_103 : decode cX5_read 103 = .ok (.getfield 38, 3) := by decide +kernel
theorem dX5_read_106 : decode cX5_read 106 = .ok (.ifCond .ne 7, 3) := by decide +kernel
theorem dX5_read_109 : decode cX5_read 109 = .ok (.iconst 1, 1) := by decide +kernel
theorem dX5_read_110 : decode cX5_read 110 = .ok (.goto 4, 3) := by decide +kernel
theorem dX5_read_113 : decode cX5_read 113 = .ok (.iconst 0, 1) := by decide +kernel
theorem dX5_read_114 : decode cX5_read 114 = .ok (.ireturn, 1) := by decide +kernel
theorem dX11_text_0 : decode cX11_text 0 = .ok (.iload_n 1, 1) := by decide +kernel
theorem dX11_text_1 : decode cX11_text 1 = .ok (.ifCond .lt 14, 3) := by decide +kernel
theorem dX11_text_4 : decode cX11_text 4 = .ok (.iload_n 1, 1) := by decide +kernel
theorem dX11_text_5 : decode cX11_text 5 = .ok (.aload_n 0, 1) := by decide +kernel
theorem dX11_text_6 : decode cX11_text 6 = .ok (.getfield 23, 3) := by decide +kernel
theorem dX11_text_9 : decode cX11_text 9 = .ok (.getfield 141, 3) := by decide +kernel
theorem dX11_text_12 : decode cX11_text 12 = .ok (.if_icmp .le 11, 3) := by decide +kernel
theorem dX11_text_15 : decode cX11_text 15 = .ok (.new 148, 3) := by decide +kernel
theorem dX11_text_18 : decode cX11_text 18 = .ok (.dup, 1) := by decide +kernel
theorem dX11_text_19 : decode cX11_text 19 = .ok (.invokespecial 150, 3) := by decide +kernel
theorem dX11_text_22 : decode cX11_text 22 = .ok (.athrow, 1) := by decide +kernel
theorem dX11_text_23 : decode cX11_text 23 = .ok (.aload_n 0, 1) := by decide +kernel
theorem dX11_text_24 : decode cX11_text 24 = .ok (.getfield 23, 3) := by decide +kernel
theorem dX11_text_27 : decode cX11_text 27 = .ok (.iload_n 1, 1) := by decide +kernel
theorem dX11_text_28 : decode cX11_text 28 = .ok (.invokevirtual 151, 3) := by decide +kernel
theorem dX11_text_31 : decode cX11_text 31 = .ok (.ifCond .eq 32, 3) := by decide +kernel
theorem dX11_text_34 : decode cX11_text 34 = .ok (.aload_n 0, 1) := by decide +kernel
theorem dX11_text_35 : decode cX11_text 35 = .ok (.getfield 10, 3) := by decide +kernel
theorem dX11_text_38 : decode cX11_text 38 = .ok (.getfield 29, 3) := by decide +kernel
theorem dX11_text_41 : decode cX11_text 41 = .ok (.aload_n 0, 1) := by decide +kernel
theorem dX11_text_42 : decode cX11_text 42 = .ok (.getfield 23, 3) := by decide +kernel
theorem dX11_text_45 : decode cX11_text 45 = .ok (.getfield 155, 3) := by decide +kernel
theorem dX11_text_48 : decode cX11_text 48 = .ok (.invokevirtual 158, 3) := by decide +kernel
theorem dX11_text_51 : decode cX11_text 51 = .ok (.aload_n 0, 1) := by decide +kernel
theorem dX11_text_52 : decode cX11_text 52 = .ok (.invokevirtual 163, 3) := by decide +kernel
theorem dX11_text_55 : decode cX11_text 55 = .ok (.aload_n 0, 1) := by decide +kernel
theorem dX11_text_56 : decode cX11_text 56 = .ok (.getfield 23, 3) := by decide +kernel
theorem dX11_text_59 : decode cX11_text 59 = .ok (.getfield 166, 3) := by decide +kernel
theorem dX11_text_62 : decode cX11_text 62 = .ok (.ireturn, 1) := by decide +kernel
theorem dX11_text_63 : decode cX11_text 63 = .ok (.bipush (-10), 2) := by decide +kernel
theorem dX11_text_65 : decode cX11_text 65 = .ok (.aload_n 0, 1) := by decide +kernel
theorem dX11_text_66 : decode cX11_text 66 = .ok (.getfield 23, 3) := by decide +kernel
theorem dX11_text_69 : decode cX11_text 69 = .ok (.getfield 169, 3) := by decide +kernel
theorem dX11_text_72 : decode cX11_text 72 = .ok (.isub, 1) := by decide +kernel
theorem dX11_text_73 : decode cX11_text 73 = .ok (.ireturn, 1) := by decide +kernel
theorem s_readC {l : Launch} {E : aE} {N : Nat} {S : aS} {M : aM} (hfl : l.stackTraces = false) (hC : lyC S) (T : Int → Int) (x : Int) (hL : M 17 1 ≤ 300) (hx : 0 ≤ x ∧ x ≤ M 17 1) (hT : ∀ i, 0 ≤ i → i < M 17 1 → M 18 i = sgn8 (T i) ∧ 0 ≤ T i ∧ T i ≤ 255) : aMt l E pX5_read [(2, 17), (0, x)] N S M (aG N S (fun v M' => v = (0, if (textR T x 301 0 fr0 0).1 = 0 then 1 else 0) ∧ M' 17 1 = 0 ∧ RDc M' (textR T x 301 0 fr0 0) ∧ ∀ a i : Int, a ≠ 17 → ¬ (19 ≤ a ∧ a < 25) → M' a i = M a i)) := by
  refine a_met hfl rfl (by decide +kernel) (Nat.le_of_ble_eq_true rfl) ?_
  have hn : 0 ≤ x ∧ x ≤ 300 := by omega
  have hmn : min x (M 17 1) = x := Int.min_eq_left hx.2
  have J102 : ∀ (i : Int) (M3 : aM), RDc M3 (textR T x 301 0 fr0 0) → FRc M M3 x → aX l E pX5_read (aG N S (fun v M' => v = (0, if (textR T x 301 0 fr0 0).1 = 0 then 1 else 0) ∧ M' 17 1 = 0 ∧ RDc M' (textR T x 301 0 fr0 0) ∧ ∀ a i : Int, a ≠ 17 → ¬ (19 ≤ a ∧ a < 25) → M' a i = M a i)) 0 0 N S M3 102 [(0, (2, 17)), (1, (0, x)), (2, (0, i))] [] := by
    intro i M3 hd hf
    refine x_aload_n (pc := 102) dX5_read_102 rfl rfl ?_
    refine x_getIV (jj := 2) (pc := 103) dX5_read_103 fX5_38 (sC_17 hC) rfl (by decide) rfl (by (repeat (first | rewrite [up_s] | rewrite [up_i (by omega)] | rewrite [up_a (by omega)])); first | exact hd.1 | rfl) ?_
    refine x_if_ne (tgt := 113) (pc := 106) dX5_read_106 (by decide) (fun c_106 => ?_) (fun c_106 => ?_)
    · refine x_iconst (pc := 113) dX5_read_113 (by decide) ?_
      refine x_zreturn (pc := 114) dX5_read_114 rfl (by omega) (by decide) ?_
      exact ⟨_, rfl, rfl, rfl, by rw [if_neg c_106], hf.1, hd, hf.2.2⟩
    · refine x_iconst (pc := 109) dX5_read_109 (by decide) ?_
      refine x_goto (tgt := 114) (pc := 110) dX5_read_110 (by decide) ?_
      refine x_zreturn (pc := 114) dX5_read_114 rfl (by omega) (by decide) ?_
      exact ⟨_, rfl, rfl, rfl, by rw [if_pos c_106], hf.1, hd, hf.2.2⟩
  have lp50 := a_loop3 (fun w i M3 => (0 ≤ i ∧ i ≤ 302) ∧ RGc M3 T x w i (textR T x 301 0 fr0 0) ∧ FRc M M3 x) (fun w i M3 => w) (fun w i M3 => aX l E pX5_read (aG N S (fun v M' => v = (0, if (textR T x 301 0 fr0 0).1 = 0 then 1 else 0) ∧ M' 17 1 = 0 ∧ RDc M' (textR T x 301 0 fr0 0) ∧ ∀ a i : Int, a ≠ 17 → ¬ (19 ≤ a ∧ a < 25) → M' a i = M a i)) 0 0 N S M3 50 [(0, (2, 17)), (1, (0, x)), (2, (0, i))] []) (by
    intro w i M3 hI ih
    obtain ⟨k1, k2, k3⟩ := hI
    rcases k2.two (Or.inl k1.1) with ⟨d1, d2, d3⟩ | ⟨j, a, f, k, e1, e2, e3, e4, e5, e6, e7, e9, e10⟩
    · refine x_iload_n (pc := 50) dX5_read_50 rfl rfl ?_
      refine x_sipush (pc := 51) dX5_read_51 (by decide) ?_
      refine x_icmp_gt (tgt := 102) (pc := 54) dX5_read_54 (by decide) (fun c_54 => ?_) (fun c_54 => ?_)
      · exact J102 i M3 ⟨d2, by rw [if_neg d1]; exact d3, fun q => absurd q d1⟩ k3
      · refine x_aload_n (pc := 57) dX5_read_57 rfl rfl ?_
        refine x_getIV (jj := 2) (pc := 58) dX5_read_58 fX5_38 (sC_17 hC) rfl (by decide) rfl (by (repeat (first | rewrite [up_s] | rewrite [up_i (by omega)] | rewrite [up_a (by omega)])); first | exact d2 | rfl) ?_
        refine x_if_ne (tgt := 102) (pc := 61) dX5_read_61 (by decide) (fun c_61 => ?_) (fun c_61 => ?_)
        · exact J102 i M3 ⟨d2, by rw [if_neg d1]; exact d3, fun q => absurd q d1⟩ k3
        · exact absurd c_61 d1
    · obtain ⟨g1, g2, g3, g4, g5⟩ := e6.2 e7
      refine x_iload_n (pc := 50) dX5_read_50 rfl rfl ?_
      refine x_sipush (pc := 51) dX5_read_51 (by decide) ?_
      refine x_icmp_gt (tgt := 102) (pc := 54) dX5_read_54 (by decide) (fun c_54 => ?_) (fun c_54 => ?_)
      · exfalso; omega
      · refine x_aload_n (pc := 57) dX5_read_57 rfl rfl ?_
        refine x_getIV (jj := 2) (pc := 58) dX5_read_58 fX5_38 (sC_17 hC) rfl (by decide) rfl (by (repeat (first | rewrite [up_s] | rewrite [up_i (by omega)] | rewrite [up_a (by omega)])); first | exact g1 | exact g2 | exact e24 | exact e54 | rfl) ?_
        refine x_if_ne (tgt := 102) (pc := 61) dX5_read_61 (by decide) (fun c_61 => ?_) (fun c_61 => ?_)
        · exact absurd rfl c_61
        · refine x_aload_n (pc := 64) dX5_read_64 rfl rfl ?_
          refine x_getIV (jj := 7) (pc := 65) dX5_read_65 fX5_53 (sC_17 hC) rfl (by decide) rfl (by (repeat (first | rewrite [up_s] | rewrite [up_i (by omega)] | rewrite [up_a (by omega)])); first | exact g1 | exact g2 | exact e24 | exact e54 | rfl) ?_
          refine x_if_eq (tgt := 102) (pc := 68) dX5_read_68 (by decide) (fun c_68 => ?_) (fun c_68 => ?_)
          · have hK0 : tK T x a = 0 := c_68
            have hR : (textR T x 301 0 fr0 0) = (0, -1, k, f) := by rw [← e2, textR_1, if_pos hK0]
            exact J102 i M3 (by rw [hR]; exact ⟨g1, e9, fun _ => ⟨e5, e10, e4⟩⟩) k3
          · refine x_aload_n (pc := 71) dX5_read_71 rfl rfl ?_
            have hK0 : tK T x a ≠ 0 := c_68
            have hB3 : CB M3 T x := ⟨k3.2.1, fun i p q => ⟨(k3.2.2 _ _ (by omega) (by omega)).trans (hT i p (by omega)).1, (hT i p (by omega)).2⟩⟩
            refine x_callV0 (pc := 72) dX5_read_72 rfl kX5_56 (s_readLineC hfl hC T x hB3 hn f e10 e4 a ⟨e3.1, e3.2.1⟩ g1 e9 e6) (sC_17 hC) rfl rfl (Nat.le_of_ble_eq_true rfl) (k_U (fun M4 hM4 => ?_)) n_U
            obtain ⟨r9, f9⟩ := hM4
            have k4 : FRc M M4 x := ⟨(f9 _ _ (by omega) (by omega)).trans k3.1, (f9 _ _ (by omega) (by omega)).trans k3.2.1, fun b y p q => (f9 _ _ (by omega) q).trans (k3.2.2 b y p q)⟩
            have e54 : M4 17 4 = k := (f9 _ _ (by omega) (by omega)).trans e5
            have e24 := r9.1
            have hB4 := hB3.k f9
            refine x_aload_n (pc := 75) dX5_read_75 rfl rfl ?_
            refine x_getIV (jj := 2) (pc := 76) dX5_read_76 fX5_38 (sC_17 hC) rfl (by decide) rfl (by (repeat (first | rewrite [up_s] | rewrite [up_i (by omega)] | rewrite [up_a (by omega)])); first | exact g1 | exact g2 | exact e24 | exact e54 | rfl) ?_
            refine x_if_ne (tgt := 96) (pc := 79) dX5_read_79 (by decide) (fun c_79 => ?_) (fun c_79 => ?_)
            · refine x_iinc (pc := 96) dX5_read_96 rfl (by omega) (by decide) rfl ?_
              refine x_goto (tgt := 50) (pc := 99) dX5_read_99 (by decide) ?_
              have hb : (lineR T x a f).1 ≠ 0 := c_79
              have hR : (textR T x 301 0 fr0 0) = lineR T x a f := by rw [← e2, textR_1, if_neg hK0, if_pos hb]
              exact x_lo (lo' := [(0, (2, 17)), (1, (0, x)), (2, (0, i + 1))]) ⟨rfl, rfl, rfl, trivial⟩ (ih 0 (i + 1) M4 ⟨by omega, Or.inl ⟨rfl, by rw [hR]; exact ⟨hb, r9.1, r9.2.1 hb⟩⟩, k4⟩ (by omega))
            · refine x_aload_n (pc := 82) dX5_read_82 rfl rfl ?_
              refine x_dup (pc := 83) dX5_read_83 rfl ?_
              refine x_getIV (jj := 4) (pc := 84) dX5_read_84 fX5_41 (sC_17 hC) rfl (by decide) rfl (by (repeat (first | rewrite [up_s] | rewrite [up_i (by omega)] | rewrite [up_a (by omega)])); first | exact g1 | exact g2 | exact e24 | exact e54 | rfl) ?_
              refine x_iconst (pc := 87) dX5_read_87 (by decide) ?_
              refine x_iadd (pc := 88) dX5_read_88 (by omega) ?_
              refine x_putI (jj := 4) (pc := 89) dX5_read_89 fX5_41 (sC_17 hC) rfl (by decide) rfl ?_
              refine x_aload_n (pc := 92) dX5_read_92 rfl rfl ?_
              have hb : (lineR T x a f).1 = 0 := c_79
              obtain ⟨o1, o2, o3⟩ := r9.2.2 hb
              obtain ⟨⟨o4, o5⟩, o6⟩ := lineR_ok (T := T) e3.2.1 e4 hb
              refine x_callV0 (pc := 93) dX5_read_93 rfl kX5_50 (s_advance hfl hC T x ⟨(up_i (by omega)).trans hB4.1, fun b p q => ⟨(up_a (by omega)).trans (hB4.2 b p q).1, (hB4.2 b p q).2⟩⟩ hn (lineR T x a f).2.2.1 ⟨by omega, o5⟩ ((up_i (by omega)).trans o1) ((up_i (by omega)).trans (r9.1.trans hb))) (sC_17 hC) rfl rfl (Nat.le_of_ble_eq_true rfl) (k_U (fun M5 hM5 => ?_)) n_U
              obtain ⟨t5, f5, p5⟩ := hM5
              refine x_iinc (pc := 96) dX5_read_96 rfl (by omega) (by decide) rfl ?_
              refine x_goto (tgt := 50) (pc := 99) dX5_read_99 (by decide) ?_
              refine x_lo (lo' := [(0, (2, 17)), (1, (0, x)), (2, (0, i + 1))]) ⟨rfl, rfl, rfl, trivial⟩ (ih (j + 1) (i + 1) M5 ⟨by omega, Or.inr ⟨j, _, _, k + 1, rfl, ?_, ⟨by omega, o5, by omega, by omega, by omega, by omega⟩, o6, (f5 _ _ (by omega)).trans up_s, t5, fun q => (p5 q).trans ((up_i (by omega)).trans o3), (o2.fr fun b y p q => up_a (by omega)).r f5⟩, ⟨(f5 _ _ (by omega)).trans ((up_i (by omega)).trans k4.1), (f5 _ _ (by omega)).trans ((up_i (by omega)).trans k4.2.1), fun b y p q => (f5 _ _ (by omega)).trans ((up_a p).trans (k4.2.2 b y p q))⟩⟩ (by omega))
              rw [← e2, textR_1, if_neg hK0, if_neg (fun z => z hb)])
  refine x_aload_n (pc := 0) dX5_read_0 rfl rfl ?_
  refine x_iload_n (pc := 1) dX5_read_1 rfl rfl ?_
  refine x_aload_n (pc := 2) dX5_read_2 rfl rfl ?_
  refine x_getIV (jj := 1) (pc := 3) dX5_read_3 fX5_26 (sC_17 hC) rfl (by decide) rfl (by (repeat (first | rewrite [up_s] | rewrite [up_i (by omega)] | rewrite [up_a (by omega)])); rfl) ?_
  refine x_min (pc := 6) mtX5_29 dX5_read_6 (by decide) (Nat.le_of_ble_eq_true rfl) ?_
  refine x_putI (jj := 6) (pc := 9) dX5_read_9 fX5_35 (sC_17 hC) rfl (by decide) rfl ?_
  refine x_aload_n (pc := 12) dX5_read_12 rfl rfl ?_
  refine x_iconst (pc := 13) dX5_read_13 (by decide) ?_
  refine x_putI (jj := 1) (pc := 14) dX5_read_14 fX5_26 (sC_17 hC) rfl (by decide) rfl ?_
  refine x_aload_n (pc := 17) dX5_read_17 rfl rfl ?_
  refine x_iconst (pc := 18) dX5_read_18 (by decide) ?_
  refine x_putI (jj := 2) (pc := 19) dX5_read_19 fX5_38 (sC_17 hC) rfl (by decide) rfl ?_
  refine x_aload_n (pc := 22) dX5_read_22 rfl rfl ?_
  refine x_iconst (pc := 23) dX5_read_23 (by decide) ?_
  refine x_putI (jj := 3) (pc := 24) dX5_read_24 fX5_15 (sC_17 hC) rfl (by decide) rfl ?_
  refine x_aload_n (pc := 27) dX5_read_27 rfl rfl ?_
  refine x_iconst (pc := 28) dX5_read_28 (by decide) ?_
  refine x_putI (jj := 4) (pc := 29) dX5_read_29 fX5_41 (sC_17 hC) rfl (by decide) rfl ?_
  refine x_aload_n (pc := 32) dX5_read_32 rfl rfl ?_
  refine x_iconst (pc := 33) dX5_read_33 (by decide) ?_
  refine x_putI (jj := 9) (pc := 34) dX5_read_34 fX5_44 (sC_17 hC) rfl (by decide) rfl ?_
  refine x_aload_n (pc := 37) dX5_read_37 rfl rfl ?_
  refine x_getR (jj := 5) (pc := 38) dX5_read_38 fX5_22 (sC_17 hC) rfl (by decide) rfl rC_17_5 ?_
  refine x_callV0 (pc := 41) dX5_read_41 rfl kX5_47 (s_clear hfl hC) (hC.2.2.1).1 rfl rfl (Nat.le_of_ble_eq_true rfl) (k_U (fun M1 hM1 => ?_)) n_U
  obtain ⟨cf1, f1⟩ := hM1
  have s1 : M1 17 6 = x ∧ M1 17 1 = 0 ∧ M1 17 2 = 0 ∧ M1 17 3 = -1 ∧ M1 17 4 = 0 ∧ M1 17 9 = 0 := by
    refine ⟨?_, ?_, ?_, ?_, ?_, ?_⟩ <;> rw [f1 _ _ (by omega)] <;> (repeat (first | rw [up_s] | rw [up_i (by omega)])) <;> first | done | exact hmn
  have s2 : ∀ a i : Int, a ≠ 17 → a ≠ 19 → a ≠ 24 → M1 a i = M a i := fun a i p q r => by
    rw [f1 a i ⟨q, r⟩]
    repeat rw [up_a p]
  clear f1
  have hB1 : CB M1 T x := ⟨s1.1, fun i p q => ⟨(s2 _ _ (by omega) (by omega) (by omega)).trans (hT i p (by omega)).1, (hT i p (by omega)).2⟩⟩
  refine x_aload_n (pc := 44) dX5_read_44 rfl rfl ?_
  refine x_callV0 (pc := 45) dX5_read_45 rfl kX5_50 (s_advance hfl hC T x hB1 hn 0 ⟨by omega, by omega⟩ s1.2.2.2.2.2 s1.2.2.1) (sC_17 hC) rfl rfl (Nat.le_of_ble_eq_true rfl) (k_U (fun M2 hM2 => ?_)) n_U
  obtain ⟨t2, f2, p2⟩ := hM2
  refine x_iconst (pc := 48) dX5_read_48 (by decide) ?_
  refine x_istore_n (pc := 49) dX5_read_49 rfl (by decide) rfl ?_
  exact x_lo (lo' := [(0, (2, 17)), (1, (0, x)), (2, (0, 0))]) ⟨rfl, rfl, rfl, trivial⟩ (lp50 302 0 M2 ⟨by omega, Or.inr ⟨301, 0, fr0, 0, rfl, rfl, by omega, fr0_ok, (f2 _ _ (by omega)).trans s1.2.2.2.2.1, t2, fun q => (p2 q).trans s1.2.2.2.1, cf1.r f2⟩, ⟨(f2 _ _ (by omega)).trans s1.2.1, (f2 _ _ (by omega)).trans s1.1, fun b y p q => (f2 _ _ (by omega)).trans (s2 b y p (by omega) (by omega))⟩⟩)
theorem s_Ctext {l : Launch} {E : aE} {N : Nat} {S : aS} {M : aM} (hfl : l.stackTraces = false) (x : Int) (hC : lyC S) (A : aM) (hR : RC M N S A) (hA : TOK (A 0)) (hL : 0 ≤ A 2 0 ∧ A 2 0 ≤ 300) (hB : ∀ i, 0 ≤ i → i < A 2 0 → 0 ≤ A 1 i ∧ A 1 i ≤ 255) : aMt l E pX11_text [(2, 0), (0, x)] N S M (opC M N S 0 (spText A x) (fun _ => 0)) := by
  refine a_met hfl rfl (by decide +kernel) (Nat.le_of_ble_eq_true rfl) ?_
  have c0 : M 1 1 = A 0 0 := hR.1.1.1
  have t0 := hA.1
  have t9 := hA.2.2.2.2.2.2.2.2.2.2.2.2.2.2.2.2.2.1
  have hl : M 17 1 = A 2 0 := hR.2.2.1.1
  refine x_iload_n (pc := 0) dX11_text_0 rfl rfl ?_
  refine x_if_lt (tgt := 15) (pc := 1) dX11_text_1 (by decide) (fun c_1 => ?_) (fun c_1 => ?_)
  · refine x_throw (pc := 15) thX11_148_150 rfl trivial dX11_text_15 dX11_text_18 dX11_text_19 dX11_text_22 (by decide) ?_
    have e9 : spText A x = (1, 0, A) := by
      unfold spText
      rw [if_pos (by omega)]
    rw [e9]
    exact ⟨rfl, rfl, fun _ _ _ _ => rfl, hR, Or.inr ⟨show ¬ (1 : Int) = 0 by decide, rfl⟩⟩
  · refine x_iload_n (pc := 4) dX11_text_4 rfl rfl ?_
    refine x_aload_n (pc := 5) dX11_text_5 rfl rfl ?_
    refine x_getR (jj := 2) (pc := 6) dX11_text_6 fX11_23 (sC_0 hC) rfl (by decide) rfl rC_0_2 ?_
    refine x_getIV (jj := 1) (pc := 9) dX11_text_9 fX11_141 (sC_17 hC) rfl (by decide) rfl (by (repeat (first | rewrite [up_s] | rewrite [up_i (by omega)] | rewrite [up_a (by omega)])); first | exact hl | exact r4 | exact h74 | rfl) ?_
    refine x_icmp_le (tgt := 23) (pc := 12) dX11_text_12 (by decide) (fun c_12 => ?_) (fun c_12 => ?_)
    · refine x_aload_n (pc := 23) dX11_text_23 rfl rfl ?_
      refine x_getR (jj := 2) (pc := 24) dX11_text_24 fX11_23 (sC_0 hC) rfl (by decide) rfl rC_0_2 ?_
      refine x_iload_n (pc := 27) dX11_text_27 rfl rfl ?_
      refine x_callV1 (pc := 28) dX11_text_28 rfl kX11_151 (s_readC hfl hC (A 1) x (by rw [hl]; exact hL.2) (by rw [hl]; omega) (fun i p q => ⟨hR.2.2.1.2.1 i p (by omega), hB i p (by omega)⟩)) (sC_17 hC) rfl rfl (Nat.le_of_ble_eq_true rfl) (k_G (fun v9 M9 hM9 => ?_)) n_G
      obtain ⟨rfl, r1, r2, r3⟩ := hM9
      have r4 := r2.1
      have hr9 := rr_text (T := A 1) (n := x) 301 0 fr0 0
      refine x_if_eq (tgt := 63) (pc := 31) dX11_text_31 (by decide) (fun c_31 => ?_) (fun c_31 => ?_)
      · refine x_bipush (pc := 63) dX11_text_63 (by decide) ?_
        refine x_aload_n (pc := 65) dX11_text_65 rfl rfl ?_
        refine x_getR (jj := 2) (pc := 66) dX11_text_66 fX11_23 (sC_0 hC) rfl (by decide) rfl rC_0_2 ?_
        refine x_getIV (jj := 2) (pc := 69) dX11_text_69 fX11_169 (sC_17 hC) rfl (by decide) rfl (by (repeat (first | rewrite [up_s] | rewrite [up_i (by omega)] | rewrite [up_a (by omega)])); first | exact hl | exact r4 | exact h74 | rfl) ?_
        refine x_isub (pc := 72) dX11_text_72 (by omega) ?_
        refine x_ireturn (pc := 73) dX11_text_73 rfl (by decide) ?_
        have hz : (textR (A 1) x 301 0 fr0 0).1 ≠ 0 := fun q => by rw [if_pos q] at c_31; exact absurd c_31 (by decide)
        have r5 := r2.2.1
        rw [if_neg hz] at r5
        have e9 : spText A x = (0, -10 - (textR (A 1) x 301 0 fr0 0).1, badT A (textR (A 1) x 301 0 fr0 0).1 (textR (A 1) x 301 0 fr0 0).2.1) := by
          unfold spText
          rw [if_neg (by omega), if_pos hz]
        rw [e9]
        exact ⟨rfl, rfl, fun a i p q => r3 a i (by omega) (by omega), hR.txt r3 r1 r4 r5, Or.inl ⟨rfl, rfl⟩⟩
      · refine x_aload_n (pc := 34) dX11_text_34 rfl rfl ?_
        refine x_getR (jj := 0) (pc := 35) dX11_text_35 fX11_10 (sC_0 hC) rfl (by decide) rfl rC_0_0 ?_
        refine x_getR (jj := 0) (pc := 38) dX11_text_38 fX11_29 (hC.2.1).2.1 rfl (by decide) rfl rS_0 ?_
        refine x_aload_n (pc := 41) dX11_text_41 rfl rfl ?_
        refine x_getR (jj := 2) (pc := 42) dX11_text_42 fX11_23 (sC_0 hC) rfl (by decide) rfl rC_0_2 ?_
        refine x_getR (jj := 5) (pc := 45) dX11_text_45 fX11_155 (sC_17 hC) rfl (by decide) rfl rC_17_5 ?_
        have hz : (textR (A 1) x 301 0 fr0 0).1 = 0 := by
          by_cases q : (textR (A 1) x 301 0 fr0 0).1 = 0
          · exact q
          · rw [if_neg q] at c_31; exact absurd rfl c_31
        obtain ⟨q1, q2, q3⟩ := r2.2.2 hz
        have r5 := r2.2.1
        rw [if_pos hz] at r5
        rw [hz] at r4
        refine x_callV1 (pc := 48) dX11_text_48 rfl kX11_158 (s_X8copy hfl 2 19 hC.2.1.1 hC.2.2.1 (by omega) (by rw [q2.1]; exact q3.1)) ((hC.2.1).1).1 rfl rfl (Nat.le_of_ble_eq_true rfl) (k_U (fun M8 hM8 => ?_)) n_U
        obtain ⟨f8, g8⟩ := hM8
        refine x_aload_n (pc := 51) dX11_text_51 rfl rfl ?_
        refine x_callV0 (pc := 52) dX11_text_52 rfl kX11_163 (s_forgetAll hfl hC) (sC_0 hC) rfl rfl (Nat.le_of_ble_eq_true rfl) (k_U (fun M7 hM7 => ?_)) n_U
        have h74 : M7 17 4 = (textR (A 1) x 301 0 fr0 0).2.2.1 := by rw [hM7, up_a (by omega), flM_a (by omega), up_a (by omega)]; exact (f8 17 (by omega) 4).trans q1
        refine x_aload_n (pc := 55) dX11_text_55 rfl rfl ?_
        refine x_getR (jj := 2) (pc := 56) dX11_text_56 fX11_23 (sC_0 hC) rfl (by decide) rfl rC_0_2 ?_
        refine x_getIV (jj := 4) (pc := 59) dX11_text_59 fX11_166 (sC_17 hC) rfl (by decide) rfl (by (repeat (first | rewrite [up_s] | rewrite [up_i (by omega)] | rewrite [up_a (by omega)])); first | exact hl | exact r4 | exact h74 | rfl) ?_
        refine x_ireturn (pc := 62) dX11_text_62 rfl (by decide) ?_
        have e9 : spText A x = (0, (textR (A 1) x 301 0 fr0 0).2.2.1, okT A (textR (A 1) x 301 0 fr0 0).2.2.2) := by
          unfold spText
          rw [if_neg (by omega), if_neg (fun z => z hz)]
        rw [e9]
        have hR0 : RC M9 N S (badT A 0 (-1)) := hR.txt r3 r1 r4 r5
        have eo : ∀ j, 219 ≤ j → j < 253 → okT A (textR (A 1) x 301 0 fr0 0).2.2.2 0 j = (textR (A 1) x 301 0 fr0 0).2.2.2 (j - 219) := fun j a b => if_pos ⟨rfl, a, b⟩
        have eu : ∀ j, 0 ≤ j → j < 219 → okT A (textR (A 1) x 301 0 fr0 0).2.2.2 0 j = A 0 j := fun j a b => by
          unfold okT
          rw [if_neg (by omega)]; exact badT_o (a := 0) (by decide)
        have eq1 : okT A (textR (A 1) x 301 0 fr0 0).2.2.2 0 220 = (textR (A 1) x 301 0 fr0 0).2.2.2 1 := eo 220 (by decide) (by decide)
        have eq2 : okT A (textR (A 1) x 301 0 fr0 0).2.2.2 0 233 = (textR (A 1) x 301 0 fr0 0).2.2.2 14 := eo 233 (by decide) (by decide)
        have hT8 : RTar M8 2 (okT A (textR (A 1) x 301 0 fr0 0).2.2.2 0) := g8 _ (by rw [eq1]; exact q3.2.1.2) (by rw [eq2]; exact q3.2.2.2.1.2) (q2.tar eo q3.2.1 q3.2.2.2.1)
        have hH8 : RHs M8 1 (okT A (textR (A 1) x 301 0 fr0 0).2.2.2 0) := (hR.1.1.ct fun j a b => eu j a b).cg2 (fun i => (f8 1 (by omega) i).trans (r3 1 i (by decide) (by decide))) (fun a p q i => (f8 a (by omega) i).trans (r3 a i (by omega) (by omega)))
        have hq : ∀ a, ¬ (1 ≤ a ∧ a < 16) → a ≠ 25 → a ≠ 31 → a ≠ 82 → eqR M9 M7 a := fun a x y z w j => by
          rw [hM7, up_a w, flM_a z, up_a y]
          exact f8 a (by omega) j
        have hm : ∀ a, 1 ≤ a → a < 16 → eqR M8 M7 a := fun a p q j => by
          rw [hM7, up_a (by omega), flM_a (by omega), up_a (by omega)]
        refine ⟨rfl, rfl, fun a j p q => (hq a (by omega) (by omega) (by omega) (by omega) j).trans (r3 a j (by omega) (by omega)), RC.all hR0 hq ?_ (fun j a b => ?_) ?_ (fun r hr => funext fun j => ?_) ⟨hH8.cg fun a p q => hm a (by omega) (by omega), hT8.cg fun a p q => hm a (by omega) (by omega)⟩, Or.inl ⟨rfl, rfl⟩⟩
        · rw [hM7, up_a (by omega), flM_a (by omega), up_s]
        · rw [hM7, up_a (by omega), flM_s ⟨a, b⟩]
        · rw [hM7, up_s]
        · exact if_neg fun z => hr z.1
    · refine x_throw (pc := 15) thX11_148_150 rfl trivial dX11_text_15 dX11_text_18 dX11_text_19 dX11_text_22 (by decide) ?_
      have e9 : spText A x = (1, 0, A) := by
        unfold spText
        rw [if_pos (by omega)]
      rw [e9]
      exact ⟨rfl, rfl, fun _ _ _ _ => rfl, hR, Or.inr ⟨show ¬ (1 : Int) = 0 by decide, rfl⟩⟩
