/-! TEXT: the call, by the reference -/
def badT (A : aM) (k p : Int) : aM := up (up (up A 2 0 0) 2 1 k) 2 2 p
def okT (A : aM) (f : Int → Int) : aM := fun a i => if a = 0 ∧ 219 ≤ i ∧ i < 253 then f (i - 219) else badT A 0 (-1) a i
def spText (A : aM) (x : Int) : Int × Int × aM := if ¬ (0 ≤ x ∧ x ≤ A 2 0) then (1, 0, A) else if (textR (A 1) x 301 0 fr0 0).1 ≠ 0 then (0, -10 - (textR (A 1) x 301 0 fr0 0).1, badT A (textR (A 1) x 301 0 fr0 0).1 (textR (A 1) x 301 0 fr0 0).2.1) else (0, (textR (A 1) x 301 0 fr0 0).2.2.1, okT A (textR (A 1) x 301 0 fr0 0).2.2.2)
/-- all that a text changes in the reference -/
def frTz (M M' : aM) (m : Int) : Prop := ∀ x y : Int, ¬ (x = m ∧ ((6 ≤ y ∧ y ≤ 15) ∨ y = 19)) → x ≠ m + 5 → ¬ (x = m + 1 ∧ 219 ≤ y ∧ y < 253) → x ≠ m + 15 → M' x y = M x y
theorem badT_2 {A : aM} {k p : Int} : badT A k p 2 0 = 0 ∧ badT A k p 2 1 = k ∧ badT A k p 2 2 = p ∧ badT A k p 2 3 = A 2 3 ∧ badT A k p 2 4 = A 2 4 := by
  unfold badT
  refine ⟨?_, ?_, ?_, ?_, ?_⟩
  · rw [up_i (by omega), up_i (by omega), up_s]
  · rw [up_i (by omega), up_s]
  · rw [up_s]
  · rw [up_i (by omega), up_i (by omega), up_i (by omega)]
  · rw [up_i (by omega), up_i (by omega), up_i (by omega)]
theorem badT_o {A : aM} {k p a i : Int} (h : a ≠ 2) : badT A k p a i = A a i := by
  unfold badT
  rw [up_a h, up_a h, up_a h]
theorem RMs.txt {M M' A A' : aM} {m : Int} (h : RMs M m A) (f : ∀ x y : Int, ¬ (x = m ∧ ((6 ≤ y ∧ y ≤ 15) ∨ y = 19)) → x ≠ m + 5 → ¬ (x = m + 1 ∧ 219 ≤ y ∧ y < 253) → x ≠ m + 15 → M' x y = M x y) (h0 : ∀ i, 0 ≤ i → i < 219 → A' 0 i = A 0 i) (ht : ∀ i, 219 ≤ i → i < 253 → M' (m + 1) i = A' 0 i) (h6 : M' m 6 = 0) (e0 : A' 2 0 = 0) (e1 : M' m 14 = A' 2 1) (e2 : M' m 15 = A' 2 2) (e3 : A' 2 3 = A 2 3 ∧ A' 2 4 = A 2 4) (eo : ∀ a i, 3 ≤ a → A' a i = A a i) : RMs M' m A' := by
  obtain ⟨h1, h2, h3, ⟨h4, h5, h6', h7⟩, h8, h9, h10, h11, h12⟩ := h
  have g : ∀ x y, (m + 2 ≤ x ∧ x ≤ m + 3) ∨ (m + 27 ≤ x ∧ x < m + 30) → M' x y = M x y := fun x y q => f x y (by omega) (by omega) (by omega) (by omega)
  refine ⟨fun i a b => ?_, by rw [h6, e0], fun i a b => by omega, ⟨e1, e2, ?_, ?_⟩, fun i a b => ⟨?_, ?_⟩, fun i a b => ?_, fun i a b => ?_, fun i a b => ?_, ?_⟩
  · by_cases z : i < 219
    · rw [f _ _ (by omega) (by omega) (by omega) (by omega), h0 i a z]; exact h1 i a b
    · exact ht i (by omega) b
  · rw [e3.1, f _ _ (by omega) (by omega) (by omega) (by omega)]; exact h6'
  · rw [e3.2, f _ _ (by omega) (by omega) (by omega) (by omega)]; exact h7
  · rw [eo _ _ (by omega), g _ _ (by omega)]; exact (h8 i a b).1
  · rw [eo _ _ (by omega), g _ _ (by omega)]; exact (h8 i a b).2
  · rw [eo _ _ (by omega), g _ _ (by omega)]; exact h9 i a b
  · rw [eo _ _ (by omega), g _ _ (by omega)]; exact h10 i a b
  · rw [eo _ _ (by omega), g _ _ (by omega)]; exact h11 i a b
  · rw [f _ _ (by omega) (by omega) (by omega) (by omega)]; exact h12
theorem RMc.txt {M M' : aM} {m : Int} {t u : Int → Int} (h : RMc M m t) (hu : u = t) (f : ∀ i, M' (m + 6) i = M (m + 6) i ∧ M' (m + 7) i = M (m + 7) i ∧ M' (m + 8) i = M (m + 8) i ∧ M' (m + 15) i = M (m + 15) i) (f19 : M' m 19 = M m 19) : RMc M' m u := by
  subst hu
  obtain ⟨h1, h2, h3, h4⟩ := h
  refine ⟨?_, h2.cg fun i => (f i).2.2.2, by rw [(f 0).2.1]; exact h3, by rw [(f 0).2.2.1]; exact h4⟩
  rw [f19]
  rcases h1 with h1 | ⟨h1, h5⟩
  · exact Or.inl h1
  · exact Or.inr ⟨h1, fun q a b => ⟨by rw [(f q).2.2.1]; exact (h5 q a b).1, fun c => by rw [(f q).1]; exact (h5 q a b).2 c⟩⟩
theorem core_bad {A : aM} {k p : Int} : badT A k p 0 = A 0 := funext fun i => badT_o (a := 0) (by decide)
/-- a line takes place: the text ends within its bytes -/
def RD (M : aM) (m : Int) (k : Int) (R : tR) : Prop := M m 12 = R.1 ∧ (R.1 ≠ 0 → M m 13 = R.2.1) ∧ (R.1 = 0 → k = R.2.2.1 ∧ RF M m R.2.2.2)
def RG9 (M : aM) (m : Int) (T : Int → Int) (n : Int) (w : Nat) (k : Int) (R : tR) : Prop := (w = 0 ∧ R.1 ≠ 0 ∧ RD M m k R) ∨ ∃ (j : Nat) (a : Int) (f : Int → Int), w = j + 1 ∧ textR T n j a f k = R ∧ (0 ≤ a ∧ a ≤ n ∧ n - a + 1 ≤ j ∧ 0 ≤ k ∧ k + j = 301) ∧ FOK f ∧ M m 12 = 0 ∧ RTk M m T n a ∧ RF M m f
theorem textR_1 {T : Int → Int} {n a k : Int} {j : Nat} {f : Int → Int} : textR T n (j + 1) a f k = if tK T n a = 0 then (0, -1, k, f) else if (lineR T n a f).1 ≠ 0 then lineR T n a f else textR T n j (lineR T n a f).2.2.1 (lineR T n a f).2.2.2 (k + 1) := rfl
/-- the word of a text's fault -/
theorem rr_err {T : Int → Int} {n a k : Int} (h : 0 ≤ k ∧ k ≤ 9) : 0 ≤ (errR T n a k).1 ∧ (errR T n a k).1 ≤ 9 := by
  show 0 ≤ (if tK T n a = 4 then (1 : Int) else k) ∧ (if tK T n a = 4 then (1 : Int) else k) ≤ 9
  split <;> omega
theorem rr_fin {T f : Int → Int} {n a : Int} : 0 ≤ (finR T n a f).1 ∧ (finR T n a f).1 ≤ 9 := by
  unfold finR
  split
  · exact (show (0 : Int) ≤ 0 ∧ (0 : Int) ≤ 9 by decide)
  · exact rr_err (by decide)
theorem rr_bad {k p : Int} (h : 0 ≤ k ∧ k ≤ 9) : 0 ≤ (badR k p).1 ∧ (badR k p).1 ≤ 9 := h
theorem rr_num {T : Int → Int} {n a lo hi : Int} {k : Int → Int → tR} (h : ∀ v e, 0 ≤ (k v e).1 ∧ (k v e).1 ≤ 9) : 0 ≤ (numR T n a lo hi k).1 ∧ (numR T n a lo hi k).1 ≤ 9 := by
  unfold numR
  split
  · exact rr_err (by decide)
  · split
    · exact rr_bad (by decide)
    · exact h _ _
theorem rr_line {T f : Int → Int} {n a : Int} : 0 ≤ (lineR T n a f).1 ∧ (lineR T n a f).1 ≤ 9 := by
  have one : ∀ {a lo hi i : Int}, 0 ≤ (oneR T n a lo hi i f).1 ∧ (oneR T n a lo hi i f).1 ≤ 9 := rr_num fun v e => rr_fin
  unfold lineR
  split
  · exact rr_err (by decide)
  unfold bodyR
  split
  · exact rr_fin
  split
  · exact rr_fin
  split
  · split
    · exact rr_bad (by decide)
    · refine rr_num fun v e => ?_
      split
      · exact rr_bad (by decide)
      · exact rr_num fun u e2 => rr_fin
  split
  · split
    · exact rr_bad (by decide)
    · exact rr_num fun v e => rr_num fun u e2 => rr_fin
  split
  · exact one
  split
  · exact one
  split
  · exact one
  split
  · exact rr_num fun v e => rr_num fun u e2 => rr_fin
  split
  · exact one
  split
  · unfold ruleR
    split
    · exact rr_fin
    · exact rr_err (by decide)
  · exact rr_bad (by decide)
theorem rr_text {T : Int → Int} {n : Int} : ∀ (j : Nat) (a : Int) (f : Int → Int) (k : Int), 0 ≤ (textR T n j a f k).1 ∧ (textR T n j a f k).1 ≤ 9
  | 0, _, _, _ => (show (0 : Int) ≤ 9 ∧ (9 : Int) ≤ 9 by decide)
  | j + 1, a, f, k => by
    rw [textR_1]
    split
    · exact (show (0 : Int) ≤ 0 ∧ (0 : Int) ≤ 9 by decide)
    · split
      · exact rr_line
      · exact rr_text j _ _ _
theorem dX12_text_0 : decode cX12_text 0 = .ok (.aload_n 0, 1) := by decide +kernel
theorem dX12_text_1 : decode cX12_text 1 = .ok (.iconst 0, 1) := by decide +kernel
theorem dX12_text_2 : decode cX12_text 2 = .ok (.putfield 103, 3) := by decide +kernel
theorem dX12_text_5 : decode cX12_text 5 = .ok (.iload_n 1, 1) := by decide +kernel
theorem dX12_text_6 : decode cX12_text 6 = .ok (.i2l, 1) := by decide +kernel
theorem dX12_text_7 : decode cX12_text 7 = .ok (.lconst 0, 1) := by decide +kernel
theorem dX12_text_8 : decode cX12_text 8 = .ok (.aload_n 0, 1) := by decide +kernel
theorem dX12_text_9 : decode cX12_text 9 = .ok (.getfield 149, 3) := by decide +kernel
theorem dX12_text_12 : decode cX12_text 12 = .ok (.i2l, 1) := by decide +kernel
theorem dX12_text_13 : decode cX12_text 13 = .ok (.invokestatic 106, 3) := by decide +kernel
theorem dX12_text_16 : decode cX12_text 16 = .ok (.ifCond .ne 9, 3) := by decide +kernel
theorem dX12_text_19 : decode cX12_text 19 = .ok (.aload_n 0, 1) := by decide +kernel
theorem dX12_text_20 : decode cX12_text 20 = .ok (.iconst 1, 1) := by decide +kernel
theorem dX12_text_21 : decode cX12_text 21 = .ok (.invokevirtual 116, 3) := by decide +kernel
theorem dX12_text_24 : decode cX12_text 24 = .ok (.ireturn, 1) := by decide +kernel
theorem dX12_text_25 : decode cX12_text 25 = .ok (.aload_n 0, 1) := by decide +kernel
theorem dX12_text_26 : decode cX12_text 26 = .ok (.iload_n 1, 1) := by decide +kernel
theorem dX12_text_27 : decode cX12_text 27 = .ok (.putfield 152, 3) := by decide +kernel
theorem dX12_text_30 : decode cX12_text 30 = .ok (.aload_n 0, 1) := by decide +kernel
theorem dX12_text_31 : decode cX12_text 31 = .ok (.iconst 0, 1) := by decide +kernel
theorem dX12_text_32 : decode cX12_text 32 = .ok (.putfield 149, 3) := by decide +kernel
theorem dX12_text_35 : decode cX12_text 35 = .ok (.aload_n 0, 1) := by decide +kernel
theorem dX12_text_36 : decode cX12_text 36 = .ok (.iconst 0, 1) := by decide +kernel
theorem dX12_text_37 : decode cX12_text 37 = .ok (.putfield 155, 3) := by decide +kernel
theorem dX12_text_40 : decode cX12_text 40 = .ok (.aload_n 0, 1) := by decide +kernel
theorem dX12_text_41 : decode cX12_text 41 = .ok (.iconst 0, 1) := by decide +kernel
theorem dX12_text_42 : decode cX12_text 42 = .ok (.putfield 176, 3) := by decide +kernel
theorem dX12_text_45 : decode cX12_text 45 = .ok (.iconst 0, 1) := by decide +kernel
theorem dX12_text_46 : decode cX12_text 46 = .ok (.istore_n 2, 1) := by decide +kernel
theorem dX12_text_47 : decode cX12_text 47 = .ok (.iload_n 2, 1) := by decide +kernel
theorem dX12_text_48 : decode cX12_text 48 = .ok (.bipush 34, 2) := by decide +kernel
theorem dX12_text_50 : decode cX12_text 50 = .ok (.if_icmp .ge 16, 3) := by decide +kernel
theorem dX12_text_53 : decode cX12_text 53 = .ok (.aload_n 0, 1) := by decide +kernel
theorem dX12_text_54 : decode cX12_text 54 = .ok (.getfield 23, 3) := by decide +kernel
theorem dX12_text_57 : decode cX12_text 57 = .ok (.iload_n 2, 1) := by decide +kernel
theorem dX12_text_58 : decode cX12_text 58 = .ok (.iconst 0, 1) := by decide +kernel
theorem dX12_text_59 : decode cX12_text 59 = .ok (.iastore, 1) := by decide +kernel
theorem dX12_text_60 : decode cX12_text 60 = .ok (.iinc 2 1, 3) := by decide +kernel
theorem dX12_text_63 : decode cX12_text 63 = .ok (.goto (-16), 3) := by decide +kernel
theorem dX12_text_66 : decode cX12_text 66 = .ok (.aload_n 0, 1) := by decide +kernel
theorem dX12_text_67 : decode cX12_text 67 = .ok (.getfield 23, 3) := by decide +kernel
theorem dX12_text_70 : decode cX12_text 70 = .ok (.bipush 25, 2) := by decide +kernel
theorem dX12_text_72 : decode cX12_text 72 = .ok (.iconst 1, 1) := by decide +kernel
theorem dX12_text_73 : decode cX12_text 73 = .ok (.iastore, 1) := by decide +kernel
theorem dX12_text_74 : decode cX12_text 74 = .ok (.iconst 0, 1) := by decide +kernel
theorem dX12_text_75 : decode cX12_text 75 = .ok (.istore_n 2, 1) := by decide +kernel
theorem dX12_text_76 : decode cX12_text 76 = .ok (.aload_n 0, 1) := by decide +kernel
theorem dX12_text_77 : decode cX12_text 77 = .ok (.invokevirtual 196, 3) := by decide +kernel
theorem dX12_text_80 : decode cX12_text 80 = .ok (.aload_n 0, 1) := by decide +kernel
theorem dX12_text_81 : decode cX12_text 81 = .ok (.getfield 176, 3) := by decide +kernel
theorem dX12_text_84 : decode cX12_text 84 = .ok (.ifCond .ne 20, 3) := by decide +kernel
theorem dX12_text_87 : decode cX12_text 87 = .ok (.aload_n 0, 1) := by decide +kernel
theorem dX12_text_88 : decode cX12_text 88 = .ok (.getfield 161, 3) := by decide +kernel
theorem dX12_text_91 : decode cX12_text 91 = .ok (.ifCond .eq 13, 3) := by decide +kernel
theorem dX12_text_94 : decode cX12_text 94 = .ok (.aload_n 0, 1) := by decide +kernel
theorem dX12_text_95 : decode cX12_text 95 = .ok (.invokevirtual 253, 3) := by decide +kernel
theorem dX12_text_98 : decode cX12_text 98 = .ok (.iinc 2 1, 3) := by decide +kernel
theorem dX12_text_101 : decode cX12_text 101 = .ok (.goto (-21), 3) := by decide +kernel
theorem dX12_text_104 : decode cX12_text 104 = .ok (.aload_n 0, 1) := by decide +kernel
theorem dX12_text_105 : decode cX12_text 105 = .ok (.aload_n 0, 1) := by decide +kernel
theorem dX12_text_106 : decode cX12_text 106 = .ok (.getfield 176, 3) := by decide +kernel
theorem dX12_text_109 : decode cX12_text 109 = .ok (.putfield 256, 3) := by decide +kernel
theorem dX12_text_112 : decode cX12_text 112 = .ok (.aload_n 0, 1) := by decide +kernel
theorem dX12_text_113 : decode cX12_text 113 = .ok (.aload_n 0, 1) := by decide +kernel
theorem dX12_text_114 : decode cX12_text 114 = .ok (.getfield 176, 3) := by decide +kernel
theorem dX12_text_117 : decode cX12_text 117 = .ok (.ifCond .ne 7, 3) := by decide +kernel
theorem dX12_text_120 : decode cX12_text 120 = .ok (.iconst (-1), 1) := by decide +kernel
theorem dX12_text_121 : decode cX12_text 121 = .ok (.goto 7, 3) := by decide +kernel
theorem dX12_text_124 : decode cX12_text 124 = .ok (.aload_n 0, 1) := by decide +kernel
theorem dX12_text_125 : decode cX12_text 125 = .ok (.getfield 179, 3) := by decide +kernel
theorem dX12_text_128 : decode cX12_text 128 = .ok (.putfield 26, 3) := by decide +kernel
theorem dX12_text_131 : decode cX12_text 131 = .ok (.aload_n 0, 1) := by decide +kernel
theorem dX12_text_132 : decode cX12_text 132 = .ok (.getfield 176, 3) := by decide +kernel
theorem dX12_text_135 : decode cX12_text 135 = .ok (.ifCond .eq 11, 3) := by decide +kernel
theorem dX12_text_138 : decode cX12_text 138 = .ok (.bipush (-10), 2) := by decide +kernel
theorem dX12_text_140 : decode cX12_text 140 = .ok (.aload_n 0, 1) := by decide +kernel
theorem dX12_text_141 : decode cX12_text 141 = .ok (.getfield 176, 3) := by decide +kernel
theorem dX12_text_144 : decode cX12_text 144 = .ok (.isub, 1) := by decide +kernel
theorem dX12_text_145 : decode cX12_text 145 = .ok (.ireturn, 1) := by decide +kernel
theorem dX12_text_146 : decode cX12_text 146 = .ok (.iconst 0, 1) := by decide +kernel
theorem dX12_text_147 : decode cX12_text 147 = .ok (.istore_n 3, 1) := by decide +kernel
theorem dX12_text_148 : decode cX12_text 148 = .ok (.iload_n 3, 1) := by decide +kernel
theorem dX12_text_149 : decode cX12_text 149 = .ok (.bipush 34, 2) := by decide +kernel
theorem dX12_text_151 : decode cX12_text 151 = .ok (.if_icmp .ge 25, 3) := by decide +kernel
theorem dX12_text_154 : decode cX12_text 154 = .ok (.aload_n 0, 1) := by decide +kernel
theorem dX12_text_155 : decode cX12_text 155 = .ok (.getfield 9, 3) := by decide +kernel
theorem dX12_text_158 : decode cX12_text 158 = .ok (.sipush 219, 3) := by decide +kernel
theorem dX12_text_161 : decode cX12_text 161 = .ok (.iload_n 3, 1) := by decide +kernel
theorem dX12_text_162 : decode cX12_text 162 = .ok (.iadd, 1) := by decide +kernel
theorem dX12_text_163 : decode cX12_text 163 = .ok (.aload_n 0, 1) := by decide +kernel
theorem dX12_text_164 : decode cX12_text 164 = .ok (.getfield 23, 3) := by decide +kernel
theorem dX12_text_167 : decode cX12_text 167 = .ok (.iload_n 3, 1) := by decide +kernel
theorem dX12_text_168 : decode cX12_text 168 = .ok (.iaload, 1) := by decide +kernel
theorem dX12_text_169 : decode cX12_text 169 = .ok (.iastore, 1) := by decide +kernel
theorem dX12_text_170 : decode cX12_text 170 = .ok (.iinc 3 1, 3) := by decide +kernel
theorem dX12_text_173 : decode cX12_text 173 = .ok (.goto (-25), 3) := by decide +kernel
theorem dX12_text_176 : decode cX12_text 176 = .ok (.aload_n 0, 1) := by decide +kernel
theorem dX12_text_177 : decode cX12_text 177 = .ok (.invokevirtual 120, 3) := by decide +kernel
theorem dX12_text_180 : decode cX12_text 180 = .ok (.iload_n 2, 1) := by decide +kernel
theorem dX12_text_181 : decode cX12_text 181 = .ok (.ireturn, 1) := by decide +kernel
theorem s_Mtext {l : Launch} {E : aE} {N : Nat} {S : aS} {M : aM} (hfl : l.stackTraces = false) (x : Int) (m : Int) (A : aM) (hS : lyM S m) (hR : RM M m A) (hA : TOK (A 0)) (hL : 0 ≤ A 2 0 ∧ A 2 0 ≤ 300) : aMt l E pX12_text [(2, m), (0, x)] N S M (aG N S (opM M m 0 (spText A x))) := by
  refine a_met hfl rfl (by decide +kernel) (Nat.le_of_ble_eq_true rfl) ?_
  refine x_aload_n (pc := 0) dX12_text_0 rfl rfl ?_
  refine x_iconst (pc := 1) dX12_text_1 (by decide) ?_
  refine x_putI (jj := 3) (pc := 2) dX12_text_2 fX12_103 hS.1 rfl (by decide) rfl ?_
  refine x_memI (fun M1 hM1 => ?_)
  have R1 : RM M1 m A := by rw [hM1]; exact hR.up3
  have F1 : frM M M1 m := by rw [hM1]; exact frM.rf.up (by omega)
  have T1 : M1 m 3 = 0 := by rw [hM1]; exact up_s
  clear hM1
  have e0 : M1 (m + 1) 0 = A 0 0 := R1.1.1 0 (by omega) (by omega)
  have t0 := hA.1
  refine x_iload_n (pc := 5) dX12_text_5 rfl rfl ?_
  refine x_i2l (pc := 6) dX12_text_6 ?_
  refine x_lconst0 (pc := 7) dX12_text_7 ?_
  refine x_aload_n (pc := 8) dX12_text_8 rfl rfl ?_
  refine x_getIV (jj := 6) (pc := 9) dX12_text_9 fX12_149 hS.1 rfl (by decide) rfl (by (repeat (first | rewrite [up_s] | rewrite [up_i (by omega)] | rewrite [up_a (by omega)] | rewrite [stM_a (by omega) (by omega)])); first | exact R1.1.2.1 | exact R1.1.1 _ (by omega) (by omega) | rfl) ?_
  refine x_i2l (pc := 12) dX12_text_12 ?_
  refine x_callS3 (pc := 13) dX12_text_13 rfl kX12_106 (s_within hfl _ _ _) rfl (Nat.le_of_ble_eq_true rfl) (k_B (fun q_13 => ?_) (fun q_13 => ?_)) n_B
  · refine x_if_ne (tgt := 25) (pc := 16) dX12_text_16 (by decide) (fun _ => ?_) (fun c => absurd c (by decide))
    have hn : 0 ≤ x ∧ x ≤ 300 := by omega
    have J104 : ∀ (k : Int) (M3 : aM), RD M3 m k (textR (A 1) x 301 0 fr0 0) → frTz M1 M3 m → (∀ i, M3 (m + 1) i = M1 (m + 1) i) → (∀ a i, (m + 6 ≤ a ∧ a ≤ m + 15) → M3 a i = M1 a i) → M3 m 19 = M1 m 19 → M3 m 6 = 0 → aX l E pX12_text (aG N S (opM M m 0 (spText A x))) 0 0 N S M3 104 [(0, (2, m)), (1, (0, x)), (2, (0, k))] [] := by
      intro k M3 hd hf3 hft hf9 hf19 h6
      have hr9 := rr_text (T := A 1) (n := x) 301 0 fr0 0
      refine x_aload_n (pc := 104) dX12_text_104 rfl rfl ?_
      refine x_aload_n (pc := 105) dX12_text_105 rfl rfl ?_
      refine x_getIV (jj := 12) (pc := 106) dX12_text_106 fX12_176 hS.1 rfl (by decide) rfl (by (repeat (first | rewrite [up_s] | rewrite [up_i (by omega)] | rewrite [up_a (by omega)] | rewrite [stM_a (by omega) (by omega)])); first | exact hd.1 | exact hd.2.1 (by assumption) | rfl) ?_
      refine x_putI (jj := 14) (pc := 109) dX12_text_109 fX12_256 hS.1 rfl (by decide) rfl ?_
      refine x_aload_n (pc := 112) dX12_text_112 rfl rfl ?_
      refine x_aload_n (pc := 113) dX12_text_113 rfl rfl ?_
      refine x_getIV (jj := 12) (pc := 114) dX12_text_114 fX12_176 hS.1 rfl (by decide) rfl (by (repeat (first | rewrite [up_s] | rewrite [up_i (by omega)] | rewrite [up_a (by omega)] | rewrite [stM_a (by omega) (by omega)])); first | exact hd.1 | exact hd.2.1 (by assumption) | rfl) ?_
      refine x_if_ne (tgt := 124) (pc := 117) dX12_text_117 (by decide) (fun c_117 => ?_) (fun c_117 => ?_)
      · refine x_aload_n (pc := 124) dX12_text_124 rfl rfl ?_
        refine x_getIV (jj := 13) (pc := 125) dX12_text_125 fX12_179 hS.1 rfl (by decide) rfl (by (repeat (first | rewrite [up_s] | rewrite [up_i (by omega)] | rewrite [up_a (by omega)] | rewrite [stM_a (by omega) (by omega)])); first | exact hd.1 | exact hd.2.1 (by assumption) | rfl) ?_
        refine x_putI (jj := 15) (pc := 128) dX12_text_128 fX12_26 hS.1 rfl (by decide) rfl ?_
        refine x_aload_n (pc := 131) dX12_text_131 rfl rfl ?_
        refine x_getIV (jj := 12) (pc := 132) dX12_text_132 fX12_176 hS.1 rfl (by decide) rfl (by (repeat (first | rewrite [up_s] | rewrite [up_i (by omega)] | rewrite [up_a (by omega)] | rewrite [stM_a (by omega) (by omega)])); first | exact hd.1 | exact hd.2.1 (by assumption) | rfl) ?_
        refine x_if_eq (tgt := 146) (pc := 135) dX12_text_135 (by decide) (fun c_135 => ?_) (fun c_135 => ?_)
        · exact absurd c_135 c_117
        · refine x_bipush (pc := 138) dX12_text_138 (by decide) ?_
          refine x_aload_n (pc := 140) dX12_text_140 rfl rfl ?_
          refine x_getIV (jj := 12) (pc := 141) dX12_text_141 fX12_176 hS.1 rfl (by decide) rfl (by (repeat (first | rewrite [up_s] | rewrite [up_i (by omega)] | rewrite [up_a (by omega)] | rewrite [stM_a (by omega) (by omega)])); first | exact hd.1 | exact hd.2.1 (by assumption) | rfl) ?_
          refine x_isub (pc := 144) dX12_text_144 (by omega) ?_
          refine x_ireturn (pc := 145) dX12_text_145 rfl (by decide) ?_
          have hz : ¬ (textR (A 1) x 301 0 fr0 0).1 = 0 := by assumption
          have e9 : spText A x = (0, -10 - (textR (A 1) x 301 0 fr0 0).1, badT A (textR (A 1) x 301 0 fr0 0).1 (textR (A 1) x 301 0 fr0 0).2.1) := by
            unfold spText
            rw [if_neg (by omega), if_pos (by omega)]
          rw [e9]
          have hb9 := badT_2 (A := A) (k := (textR (A 1) x 301 0 fr0 0).1) (p := (textR (A 1) x 301 0 fr0 0).2.1)
          have g9 : frTz M1 (up (up M3 m 14 (textR (A 1) x 301 0 fr0 0).1) m 15 (textR (A 1) x 301 0 fr0 0).2.1) m := fun a i p q r s => by rw [up_w (by omega), up_w (by omega)]; exact hf3 a i p q r s
          refine ⟨_, rfl, rfl, rfl, rfl, ?_, fun _ => rfl, ⟨R1.1.txt (A' := badT A (textR (A 1) x 301 0 fr0 0).1 (textR (A 1) x 301 0 fr0 0).2.1) g9 (fun i a b => badT_o (a := 0) (by decide)) (fun i a b => ?_) ?_ hb9.1 ?_ ?_ hb9.2.2.2 (fun a i b => badT_o (by omega)), ?_⟩, fun a i q => (g9 a i (by omega) (by omega) (by omega) (by omega)).trans (F1 a i q)⟩
          · exact (g9 _ _ (by omega) (by omega) (by omega) (by omega)).trans T1
          · rw [badT_o (a := 0) (by decide), up_a (by omega), up_a (by omega), hft i]; exact R1.1.1 i (by omega) b
          · rw [up_i (by omega), up_i (by omega)]; exact h6
          · rw [up_i (by omega), up_s]; exact hb9.2.1.symm
          · rw [up_s]; exact hb9.2.2.1.symm
          · exact R1.2.txt (congrArg core (core_bad (A := A) (k := (textR (A 1) x 301 0 fr0 0).1) (p := (textR (A 1) x 301 0 fr0 0).2.1))) (fun i => ⟨by rw [up_a (by omega), up_a (by omega)]; exact hf9 _ _ (by omega), by rw [up_a (by omega), up_a (by omega)]; exact hf9 _ _ (by omega), by rw [up_a (by omega), up_a (by omega)]; exact hf9 _ _ (by omega), by rw [up_a (by omega), up_a (by omega)]; exact hf9 _ _ (by omega)⟩) (by rw [up_i (by omega), up_i (by omega)]; exact hf19)
      · refine x_iconst (pc := 120) dX12_text_120 (by decide) ?_
        refine x_goto (tgt := 128) (pc := 121) dX12_text_121 (by decide) ?_
        refine x_putI (jj := 15) (pc := 128) dX12_text_128 fX12_26 hS.1 rfl (by decide) rfl ?_
        refine x_aload_n (pc := 131) dX12_text_131 rfl rfl ?_
        refine x_getIV (jj := 12) (pc := 132) dX12_text_132 fX12_176 hS.1 rfl (by decide) rfl (by (repeat (first | rewrite [up_s] | rewrite [up_i (by omega)] | rewrite [up_a (by omega)] | rewrite [stM_a (by omega) (by omega)])); first | exact hd.1 | exact hd.2.1 (by assumption) | rfl) ?_
        refine x_if_eq (tgt := 146) (pc := 135) dX12_text_135 (by decide) (fun c_135 => ?_) (fun c_135 => ?_)
        · have hz : (textR (A 1) x 301 0 fr0 0).1 = 0 := by assumption
          obtain ⟨hk, hrf⟩ := hd.2.2 hz
          have lp148 := a_loop2 (fun i M4 => (0 ≤ i ∧ i ≤ 34) ∧ (∀ j, 0 ≤ j → j < i → M4 (m + 1) (219 + j) = (textR (A 1) x 301 0 fr0 0).2.2.2 j) ∧ RF M4 m (textR (A 1) x 301 0 fr0 0).2.2.2 ∧ M4 m 14 = 0 ∧ M4 m 15 = -1 ∧ M4 m 6 = 0 ∧ frTz M1 M4 m) (fun i M4 => (34 - i).toNat) (fun i M4 => aX l E pX12_text (aG N S (opM M m 0 (spText A x))) 0 0 N S M4 148 [(0, (2, m)), (1, (0, x)), (2, (0, k)), (3, (0, i))] []) (by
            intro i M4 hI ih
            obtain ⟨k1, k2, k3, k4, k5, k6, k7⟩ := hI
            refine x_iload_n (pc := 148) dX12_text_148 rfl rfl ?_
            refine x_bipush (pc := 149) dX12_text_149 (by decide) ?_
            refine x_icmp_ge (tgt := 176) (pc := 151) dX12_text_151 (by decide) (fun c_151 => ?_) (fun c_151 => ?_)
            · refine x_aload_n (pc := 176) dX12_text_176 rfl rfl ?_
              refine x_callV0 (pc := 177) dX12_text_177 rfl kX12_120 (s_stale hfl m hS) hS.1 rfl rfl (Nat.le_of_ble_eq_true rfl) (k_U (fun M9 hM9 => ?_)) n_U
              refine x_iload_n (pc := 180) dX12_text_180 rfl rfl ?_
              refine x_ireturn (pc := 181) dX12_text_181 rfl (by decide) ?_
              have hR1 : (textR (A 1) x 301 0 fr0 0).1 = 0 := hz
              have e9 : spText A x = (0, k, okT A (textR (A 1) x 301 0 fr0 0).2.2.2) := by
                unfold spText
                rw [if_neg (by omega), if_neg (by omega), hk]
              rw [e9]
              have hs4 : RMs M4 m (okT A (textR (A 1) x 301 0 fr0 0).2.2.2) := by
                refine R1.1.txt k7 (fun i a b => ?_) (fun i a b => ?_) k6 ?_ ?_ ?_ ?_ (fun a i b => ?_)
                · unfold okT; rw [if_neg (by omega)]; exact badT_o (a := 0) (by decide)
                · unfold okT; rw [if_pos ⟨rfl, a, b⟩, ← k2 (i - 219) (by omega) (by omega)]; exact congrArg _ (by omega)
                · unfold okT; rw [if_neg (by omega)]; exact badT_2.1
                · rw [k4]; unfold okT; rw [if_neg (by omega)]; exact badT_2.2.1.symm
                · rw [k5]; unfold okT; rw [if_neg (by omega)]; exact badT_2.2.2.1.symm
                · unfold okT; rw [if_neg (by omega), if_neg (by omega)]; exact badT_2.2.2.2
                · unfold okT; rw [if_neg (by omega)]; exact badT_o (by omega)
              have hz4 : z78 M4 m := ⟨(k7 _ _ (by omega) (by omega) (by omega) (by omega)).trans R1.z.1, (k7 _ _ (by omega) (by omega) (by omega) (by omega)).trans R1.z.2⟩
              refine ⟨_, rfl, rfl, rfl, rfl, ?_, fun _ => rfl, by rw [hM9]; exact RM.stale hs4 hz4, ?_⟩
              · rw [hM9, stM_a (by omega) (by omega)]; exact (k7 _ _ (by omega) (by omega) (by omega) (by omega)).trans T1
              · rw [hM9]; exact frM.st (fun a i q => (k7 a i (by omega) (by omega) (by omega) (by omega)).trans (F1 a i q))
            · refine x_aload_n (pc := 154) dX12_text_154 rfl rfl ?_
              refine x_getR (jj := 0) (pc := 155) dX12_text_155 fX12_9 hS.1 rfl (by decide) rfl rM_0 ?_
              refine x_sipush (pc := 158) dX12_text_158 (by decide) ?_
              refine x_iload_n (pc := 161) dX12_text_161 rfl rfl ?_
              refine x_iadd (pc := 162) dX12_text_162 (by omega) ?_
              refine x_aload_n (pc := 163) dX12_text_163 rfl rfl ?_
              refine x_getR (jj := 5) (pc := 164) dX12_text_164 fX12_23 hS.1 rfl (by decide) rfl rM_5 ?_
              refine x_iload_n (pc := 167) dX12_text_167 rfl rfl ?_
              refine x_ialoadV (pc := 168) dX12_text_168 (sM_5 hS) (by omega) (by (repeat (first | rewrite [up_s] | rewrite [up_i (by omega)] | rewrite [up_a (by omega)] | rewrite [stM_a (by omega) (by omega)])); first | exact k3 _ (by omega) (by omega) | rfl) (fun g_168 => ?_)
              refine x_iastore (pc := 169) dX12_text_169 (sM_0 hS) (by omega) ?_
              refine x_iinc (pc := 170) dX12_text_170 rfl (by omega) (by decide) rfl ?_
              refine x_goto (tgt := 148) (pc := 173) dX12_text_173 (by decide) ?_
              refine x_lo (lo' := [(0, (2, m)), (1, (0, x)), (2, (0, k)), (3, (0, i + 1))]) ⟨rfl, rfl, rfl, rfl, trivial⟩ (ih (i + 1) _ ⟨by omega, fun j a b => ?_, fun j a b => (up_a (by omega)).trans (k3 j a b), (up_a (by omega)).trans k4, (up_a (by omega)).trans k5, (up_a (by omega)).trans k6, fun y z p q r s => (up_w (by omega)).trans (k7 y z p q r s)⟩ (by omega))
              by_cases e : j = i
              · rw [e, up_s]
              · rw [up_i (by omega)]; exact k2 j a (by omega))
          refine x_iconst (pc := 146) dX12_text_146 (by decide) ?_
          refine x_istore_n (pc := 147) dX12_text_147 rfl (by decide) rfl ?_
          exact x_lo (lo' := [(0, (2, m)), (1, (0, x)), (2, (0, k)), (3, (0, 0))]) ⟨rfl, rfl, rfl, rfl, trivial⟩ (lp148 0 _ ⟨by omega, fun j a b => by omega, fun j a b => by rw [up_a (by omega), up_a (by omega)]; exact hrf j a b, by rw [up_i (by omega), up_s]; exact hz, up_s, by rw [up_i (by omega), up_i (by omega)]; exact h6, fun a i p q r s => by rw [up_w (by omega), up_w (by omega)]; exact hf3 a i p q r s⟩)
        · refine x_bipush (pc := 138) dX12_text_138 (by decide) ?_
          refine x_aload_n (pc := 140) dX12_text_140 rfl rfl ?_
          refine x_getIV (jj := 12) (pc := 141) dX12_text_141 fX12_176 hS.1 rfl (by decide) rfl (by (repeat (first | rewrite [up_s] | rewrite [up_i (by omega)] | rewrite [up_a (by omega)] | rewrite [stM_a (by omega) (by omega)])); first | exact hd.1 | exact hd.2.1 (by assumption) | rfl) ?_
          refine x_isub (pc := 144) dX12_text_144 (by omega) ?_
          refine x_ireturn (pc := 145) dX12_text_145 rfl (by decide) ?_
          exact absurd c_117 c_135
    have lp47 := a_loop2 (fun i M4 => (0 ≤ i ∧ i ≤ 34) ∧ (∀ j, 0 ≤ j → j < i → M4 (m + 5) j = 0) ∧ M4 m 7 = x ∧ M4 m 6 = 0 ∧ M4 m 8 = 0 ∧ M4 m 12 = 0 ∧ (∀ a i : Int, ¬ (a = m ∧ 6 ≤ i ∧ i ≤ 15) → a ≠ m + 5 → M4 a i = M1 a i)) (fun i M4 => (34 - i).toNat) (fun i M4 => aX l E pX12_text (aG N S (opM M m 0 (spText A x))) 0 0 N S M4 47 [(0, (2, m)), (1, (0, x)), (2, (0, i))] []) (by
      intro i M4 hI ih
      obtain ⟨k1, k2, k3, k4, k5, k6, k7⟩ := hI
      refine x_iload_n (pc := 47) dX12_text_47 rfl rfl ?_
      refine x_bipush (pc := 48) dX12_text_48 (by decide) ?_
      refine x_icmp_ge (tgt := 66) (pc := 50) dX12_text_50 (by decide) (fun c_50 => ?_) (fun c_50 => ?_)
      · refine x_aload_n (pc := 66) dX12_text_66 rfl rfl ?_
        refine x_getR (jj := 5) (pc := 67) dX12_text_67 fX12_23 hS.1 rfl (by decide) rfl rM_5 ?_
        refine x_bipush (pc := 70) dX12_text_70 (by decide) ?_
        refine x_iconst (pc := 72) dX12_text_72 (by decide) ?_
        refine x_iastore (pc := 73) dX12_text_73 (sM_5 hS) (by omega) ?_
        refine x_memI (fun M5 hM5 => ?_)
        have g5 : ∀ a i : Int, ¬ (a = m ∧ 6 ≤ i ∧ i ≤ 15) → a ≠ m + 5 → M5 a i = M1 a i := fun a y p q => by rw [hM5, up_a (by omega)]; exact k7 a y p q
        have hB5 : RTp M5 m (A 1) x := ⟨by rw [hM5, up_a (by omega)]; exact k3, fun i p q => by rw [g5 _ _ (by omega) (by omega)]; exact R1.1.2.2.1 i p (by omega)⟩
        have h85 : M5 m 8 = 0 := by rw [hM5, up_a (by omega)]; exact k5
        have h65 : M5 m 6 = 0 := by rw [hM5, up_a (by omega)]; exact k4
        have z5 : M5 m 12 = 0 := by rw [hM5, up_a (by omega)]; exact k6
        have r5 : RF M5 m fr0 := fun j p q => by
          rw [hM5]
          unfold fr0
          by_cases e : j = 25
          · rw [e, up_s]; rfl
          · rw [up_i e, if_neg e]; exact k2 j p (by omega)
        clear hM5
        refine x_iconst (pc := 74) dX12_text_74 (by decide) ?_
        refine x_istore_n (pc := 75) dX12_text_75 rfl (by decide) rfl ?_
        refine x_aload_n (pc := 76) dX12_text_76 rfl rfl ?_
        refine x_callV0 (pc := 77) dX12_text_77 rfl kX12_196 (s_next hfl m (A 1) x hS hB5.1 hn hB5.2 0 ⟨by omega, by omega⟩ h85) hS.1 rfl rfl (Nat.le_of_ble_eq_true rfl) (k_U (fun M2 hM2 => ?_)) n_U
        obtain ⟨t2, gg⟩ := hM2
        have g2 : ∀ a i : Int, ¬ (a = m ∧ 6 ≤ i ∧ i ≤ 15) → a ≠ m + 5 → M2 a i = M1 a i := fun a i p q => (gg a i (by omega)).trans (g5 a i p q)
        have hB2 : RTp M2 m (A 1) x := ⟨(gg _ _ (by omega)).trans hB5.1, fun i p q => (gg _ _ (by omega)).trans (hB5.2 i p q)⟩
        have h62 : M2 m 6 = 0 := (gg _ _ (by omega)).trans h65
        have z2 : M2 m 12 = 0 := (gg _ _ (by omega)).trans z5
        have r2 : RF M2 m fr0 := fun j p q => (gg _ _ (by omega)).trans (r5 j p q)
        have lp80 := a_loop3 (fun w k M3 => RG9 M3 m (A 1) x w k (textR (A 1) x 301 0 fr0 0) ∧ frTy M2 M3 m) (fun w k M3 => w) (fun w k M3 => aX l E pX12_text (aG N S (opM M m 0 (spText A x))) 0 0 N S M3 80 [(0, (2, m)), (1, (0, x)), (2, (0, k))] []) (by
          intro w k M3 hI ih
          obtain ⟨k1, k2⟩ := hI
          rcases k1 with ⟨d1, hr0, hd⟩ | ⟨j, a, f, d1, d2, d3, d4, d5, d6, d7⟩
          · refine x_aload_n (pc := 80) dX12_text_80 rfl rfl ?_
            refine x_getIV (jj := 12) (pc := 81) dX12_text_81 fX12_176 hS.1 rfl (by decide) rfl (by (repeat (first | rewrite [up_s] | rewrite [up_i (by omega)] | rewrite [up_a (by omega)] | rewrite [stM_a (by omega) (by omega)])); first | exact hd.1 | rfl) ?_
            refine x_if_ne (tgt := 104) (pc := 84) dX12_text_84 (by decide) (fun c_84 => ?_) (fun c_84 => ?_)
            · exact x_lo (lo' := [(0, (2, m)), (1, (0, x)), (2, (0, k))]) ⟨rfl, rfl, rfl, trivial⟩ (J104 k M3 hd (fun a i p q r s => (k2 a i (by omega) q).trans (g2 a i (by omega) q)) (fun i => (k2 _ _ (by omega) (by omega)).trans (g2 _ _ (by omega) (by omega))) (fun a i p => (k2 _ _ (by omega) (by omega)).trans (g2 _ _ (by omega) (by omega))) ((k2 _ _ (by omega) (by omega)).trans (g2 _ _ (by omega) (by omega))) ((k2 _ _ (by omega) (by omega)).trans h62))
            · exact absurd c_84 hr0
          · refine x_aload_n (pc := 80) dX12_text_80 rfl rfl ?_
            refine x_getIV (jj := 12) (pc := 81) dX12_text_81 fX12_176 hS.1 rfl (by decide) rfl (by (repeat (first | rewrite [up_s] | rewrite [up_i (by omega)] | rewrite [up_a (by omega)] | rewrite [stM_a (by omega) (by omega)])); first | exact d5 | exact d6.1 | rfl) ?_
            refine x_if_ne (tgt := 104) (pc := 84) dX12_text_84 (by decide) (fun c_84 => ?_) (fun c_84 => ?_)
            · exact absurd rfl c_84
            · refine x_aload_n (pc := 87) dX12_text_87 rfl rfl ?_
              refine x_getIV (jj := 10) (pc := 88) dX12_text_88 fX12_161 hS.1 rfl (by decide) rfl (by (repeat (first | rewrite [up_s] | rewrite [up_i (by omega)] | rewrite [up_a (by omega)] | rewrite [stM_a (by omega) (by omega)])); first | exact d5 | exact d6.1 | rfl) ?_
              refine x_if_eq (tgt := 104) (pc := 91) dX12_text_91 (by decide) (fun c_91 => ?_) (fun c_91 => ?_)
              · have hK0 : tK (A 1) x a = 0 := by assumption
                obtain ⟨j2, rfl⟩ : ∃ j2, j = j2 + 1 := ⟨j - 1, by omega⟩
                have hR : (textR (A 1) x 301 0 fr0 0) = (0, -1, k, f) := by rw [← d2, textR_1, if_pos hK0]
                have hd : RD M3 m k (textR (A 1) x 301 0 fr0 0) := by rw [hR]; exact ⟨d5, fun z => absurd rfl z, fun _ => ⟨rfl, d7⟩⟩
                exact x_lo (lo' := [(0, (2, m)), (1, (0, x)), (2, (0, k))]) ⟨rfl, rfl, rfl, trivial⟩ (J104 k M3 hd (fun a i p q r s => (k2 a i (by omega) q).trans (g2 a i (by omega) q)) (fun i => (k2 _ _ (by omega) (by omega)).trans (g2 _ _ (by omega) (by omega))) (fun a i p => (k2 _ _ (by omega) (by omega)).trans (g2 _ _ (by omega) (by omega))) ((k2 _ _ (by omega) (by omega)).trans (g2 _ _ (by omega) (by omega))) ((k2 _ _ (by omega) (by omega)).trans h62))
              · refine x_aload_n (pc := 94) dX12_text_94 rfl rfl ?_
                have hK0 : tK (A 1) x a ≠ 0 := by first | assumption | (rw [← d6.1]; assumption)
                refine x_callV0 (pc := 95) dX12_text_95 rfl kX12_253 (s_readLine hfl m (A 1) x hS (hB2.y k2) hn f d7 d4 a ⟨d3.1, d3.2.1⟩ d5 d6) hS.1 rfl rfl (Nat.le_of_ble_eq_true rfl) (k_U (fun M9 hM9 => ?_)) n_U
                obtain ⟨r9, f9⟩ := hM9
                refine x_iinc (pc := 98) dX12_text_98 rfl (by omega) (by decide) rfl ?_
                refine x_goto (tgt := 80) (pc := 101) dX12_text_101 (by decide) ?_
                by_cases hb : (lineR (A 1) x a f).1 = 0
                · obtain ⟨t9, q9⟩ := r9.2.2 hb
                  obtain ⟨⟨o1, o2⟩, o3⟩ := lineR_ok (T := A 1) d3.2.1 d4 hb
                  obtain ⟨j2, rfl⟩ : ∃ j2, j = j2 + 1 := ⟨j - 1, by omega⟩
                  refine x_lo (lo' := [(0, (2, m)), (1, (0, x)), (2, (0, k + 1))]) ⟨rfl, rfl, rfl, trivial⟩ (ih (j2 + 1) (k + 1) M9 ⟨Or.inr ⟨j2, _, _, rfl, ?_, ⟨by omega, o2, by omega, by omega, by omega⟩, o3, r9.1.trans hb, t9, q9⟩, k2.tr f9⟩ (by omega))
                  rw [← d2, textR_1, if_neg hK0, if_neg (fun z => z hb)]
                · obtain ⟨j2, rfl⟩ : ∃ j2, j = j2 + 1 := ⟨j - 1, by omega⟩
                  have hR : (textR (A 1) x 301 0 fr0 0) = lineR (A 1) x a f := by rw [← d2, textR_1, if_neg hK0, if_pos hb]
                  exact x_lo (lo' := [(0, (2, m)), (1, (0, x)), (2, (0, k + 1))]) ⟨rfl, rfl, rfl, trivial⟩ (ih 0 (k + 1) M9 ⟨Or.inl ⟨rfl, by rw [hR]; exact hb, by rw [hR]; exact ⟨r9.1, r9.2.1, fun z => absurd z hb⟩⟩, k2.tr f9⟩ (by omega)))
        exact x_lo (lo' := [(0, (2, m)), (1, (0, x)), (2, (0, 0))]) ⟨rfl, rfl, rfl, trivial⟩ (lp80 302 0 M2 ⟨Or.inr ⟨301, 0, fr0, rfl, rfl, ⟨by omega, by omega, by omega, by omega, by omega⟩, fr0_ok, z2, t2, r2⟩, frTy.rf⟩)
      · refine x_aload_n (pc := 53) dX12_text_53 rfl rfl ?_
        refine x_getR (jj := 5) (pc := 54) dX12_text_54 fX12_23 hS.1 rfl (by decide) rfl rM_5 ?_
        refine x_iload_n (pc := 57) dX12_text_57 rfl rfl ?_
        refine x_iconst (pc := 58) dX12_text_58 (by decide) ?_
        refine x_iastore (pc := 59) dX12_text_59 (sM_5 hS) (by omega) ?_
        refine x_iinc (pc := 60) dX12_text_60 rfl (by omega) (by decide) rfl ?_
        refine x_goto (tgt := 47) (pc := 63) dX12_text_63 (by decide) ?_
        refine x_lo (lo' := [(0, (2, m)), (1, (0, x)), (2, (0, i + 1))]) ⟨rfl, rfl, rfl, trivial⟩ (ih (i + 1) _ ⟨by omega, fun j a b => ?_, (up_a (by omega)).trans k3, (up_a (by omega)).trans k4, (up_a (by omega)).trans k5, (up_a (by omega)).trans k6, fun a y p q => (up_a (by omega)).trans (k7 a y p q)⟩ (by omega))
        by_cases e : j = i
        · rw [e, up_s]
        · rw [up_i (by omega)]; exact k2 j a (by omega))
    refine x_aload_n (pc := 25) dX12_text_25 rfl rfl ?_
    refine x_iload_n (pc := 26) dX12_text_26 rfl rfl ?_
    refine x_putI (jj := 7) (pc := 27) dX12_text_27 fX12_152 hS.1 rfl (by decide) rfl ?_
    refine x_aload_n (pc := 30) dX12_text_30 rfl rfl ?_
    refine x_iconst (pc := 31) dX12_text_31 (by decide) ?_
    refine x_putI (jj := 6) (pc := 32) dX12_text_32 fX12_149 hS.1 rfl (by decide) rfl ?_
    refine x_aload_n (pc := 35) dX12_text_35 rfl rfl ?_
    refine x_iconst (pc := 36) dX12_text_36 (by decide) ?_
    refine x_putI (jj := 8) (pc := 37) dX12_text_37 fX12_155 hS.1 rfl (by decide) rfl ?_
    refine x_aload_n (pc := 40) dX12_text_40 rfl rfl ?_
    refine x_iconst (pc := 41) dX12_text_41 (by decide) ?_
    refine x_putI (jj := 12) (pc := 42) dX12_text_42 fX12_176 hS.1 rfl (by decide) rfl ?_
    refine x_iconst (pc := 45) dX12_text_45 (by decide) ?_
    refine x_istore_n (pc := 46) dX12_text_46 rfl (by decide) rfl ?_
    exact x_lo (lo' := [(0, (2, m)), (1, (0, x)), (2, (0, 0))]) ⟨rfl, rfl, rfl, trivial⟩ (lp47 0 _ ⟨by omega, fun j a b => by omega, by rw [up_i (by omega), up_i (by omega), up_i (by omega), up_s], by rw [up_i (by omega), up_i (by omega), up_s], by rw [up_i (by omega), up_s], up_s, fun a i p q => by rw [up_w (by omega), up_w (by omega), up_w (by omega), up_w (by omega)]⟩)
  · refine x_if_ne (tgt := 25) (pc := 16) dX12_text_16 (by decide) (fun c => absurd c (by decide)) (fun _ => ?_)
    refine x_aload_n (pc := 19) dX12_text_19 rfl rfl ?_
    refine x_iconst (pc := 20) dX12_text_20 (by decide) ?_
    refine x_callV1 (pc := 21) dX12_text_21 rfl kX12_116 (s_fails hfl m _ hS) hS.1 rfl rfl (Nat.le_of_ble_eq_true rfl) (k_G (fun v9 M9 hM9 => ?_)) n_G
    obtain ⟨rfl, rfl⟩ := hM9
    refine x_ireturn (pc := 24) dX12_text_24 rfl (by decide) ?_
    have e9 : spText A x = (1, 0, A) := by
      unfold spText
      (repeat' split) <;> first | rfl | (exfalso; omega)
    rw [e9]
    exact ⟨_, rfl, rfl, rfl, rfl, up_s, fun q => absurd q (show ¬ (1 : Int) = 0 by decide), R1.up3, F1.up (by omega)⟩
