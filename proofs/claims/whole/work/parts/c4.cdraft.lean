/-! TEXT: the class's new tariff -/
/-- the draft stands for f -/
def CF (M : aM) (f : Int → Int) : Prop := M 19 0 = f 0 ∧ M 19 1 = f 1 ∧ (∀ k, 0 ≤ k → k < f 1 → M 20 k = f (2 + k) ∧ M 21 k = f (8 + k)) ∧ M 19 4 = f 14 ∧ (∀ k, 0 ≤ k → k < f 14 → M 22 k = f (15 + k) ∧ M 23 k = f (19 + k)) ∧ M 19 7 = f 23 ∧ M 19 8 = f 24 ∧ M 19 9 = f 25 ∧ (∀ i, 0 ≤ i → i < 6 → M 24 i = f (26 + i)) ∧ M 19 11 = f 32 ∧ M 19 12 = f 33
theorem CF.tar {M : aM} {f : Int → Int} {t : Int → Int} (h : CF M f) (ht : ∀ j, 219 ≤ j → j < 253 → t j = f (j - 219)) : (0 ≤ f 1 ∧ f 1 ≤ 6) → (0 ≤ f 14 ∧ f 14 ≤ 4) → RTar M 19 t := by
  obtain ⟨h1, h2, h3, h4, h5, h6, h7, h8, h9, h10, h11⟩ := h
  intro q1 q2
  have e1 : t 220 = f 1 := ht 220 (by decide) (by decide)
  have e2 : t 233 = f 14 := ht 233 (by decide) (by decide)
  refine ⟨h1.trans (ht 219 (by decide) (by decide)).symm, h2.trans e1.symm, fun k a b => ?_, h4.trans e2.symm, fun k a b => ?_, h6.trans (ht 242 (by decide) (by decide)).symm, h7.trans (ht 243 (by decide) (by decide)).symm, h8.trans (ht 244 (by decide) (by decide)).symm, fun i a b => ?_, h10.trans (ht 251 (by decide) (by decide)).symm, h11.trans (ht 252 (by decide) (by decide)).symm⟩
  · rw [e1] at b
    rw [ht _ (by omega) (by omega), ht _ (by omega) (by omega), show 221 + k - 219 = 2 + k by omega, show 227 + k - 219 = 8 + k by omega]
    exact h3 k a b
  · rw [e2] at b
    rw [ht _ (by omega) (by omega), ht _ (by omega) (by omega), show 234 + k - 219 = 15 + k by omega, show 238 + k - 219 = 19 + k by omega]
    exact h5 k a b
  · rw [ht _ (by omega) (by omega), show 245 + i - 219 = 26 + i by omega]
    exact h9 i a b
theorem CF.one {M : aM} {f : Int → Int} {i c d v : Int} (h : CF M f) (h9 : f 1 ≤ 6) (h14 : f 14 ≤ 4) (hc : (i = 0 ∧ c = 19 ∧ d = 0) ∨ (i = 23 ∧ c = 19 ∧ d = 7) ∨ (i = 24 ∧ c = 19 ∧ d = 8) ∨ (i = 25 ∧ c = 19 ∧ d = 9) ∨ (i = 32 ∧ c = 19 ∧ d = 11) ∨ (i = 33 ∧ c = 19 ∧ d = 12) ∨ (26 ≤ i ∧ i < 32 ∧ c = 24 ∧ d = i - 26)) : CF (up M c d v) (fU f i v) := by
  obtain ⟨h1, h2, h3, h4, h5, h6, h7, h8, h9, h10, h11⟩ := h
  have e1 : fU f i v 1 = f 1 := fU_n (by omega)
  have e14 : fU f i v 14 = f 14 := fU_n (by omega)
  unfold CF
  rw [e1, e14]
  refine ⟨?_, (up_w (by omega)).trans h2, fun k a b => ⟨?_, ?_⟩, (up_w (by omega)).trans h4, fun k a b => ⟨?_, ?_⟩, ?_, ?_, ?_, fun j a b => ?_, ?_, ?_⟩
  · unfold up fU; split <;> split <;> first | rfl | (exfalso; omega) | exact h1
  · rw [up_w (by omega), fU_n (by omega)]; exact (h3 k a b).1
  · rw [up_w (by omega), fU_n (by omega)]; exact (h3 k a b).2
  · rw [up_w (by omega), fU_n (by omega)]; exact (h5 k a b).1
  · rw [up_w (by omega), fU_n (by omega)]; exact (h5 k a b).2
  · unfold up fU; split <;> split <;> first | rfl | (exfalso; omega) | exact h6
  · unfold up fU; split <;> split <;> first | rfl | (exfalso; omega) | exact h7
  · unfold up fU; split <;> split <;> first | rfl | (exfalso; omega) | exact h8
  · unfold up fU; split <;> split <;> first | rfl | (exfalso; omega) | exact h9 j a b
  · unfold up fU; split <;> split <;> first | rfl | (exfalso; omega) | exact h10
  · unfold up fU; split <;> split <;> first | rfl | (exfalso; omega) | exact h11
theorem CF.fr {M M' : aM} {f : Int → Int} (h : CF M f) (e : ∀ x y : Int, 19 ≤ x → x < 25 → M' x y = M x y) : CF M' f := by
  obtain ⟨h1, h2, h3, h4, h5, h6, h7, h8, h9, h10, h11⟩ := h
  exact ⟨(e _ _ (by decide) (by decide)).trans h1, (e _ _ (by decide) (by decide)).trans h2, fun k a b => ⟨(e _ _ (by decide) (by decide)).trans (h3 k a b).1, (e _ _ (by decide) (by decide)).trans (h3 k a b).2⟩, (e _ _ (by decide) (by decide)).trans h4, fun k a b => ⟨(e _ _ (by decide) (by decide)).trans (h5 k a b).1, (e _ _ (by decide) (by decide)).trans (h5 k a b).2⟩, (e _ _ (by decide) (by decide)).trans h6, (e _ _ (by decide) (by decide)).trans h7, (e _ _ (by decide) (by decide)).trans h8, fun i a b => (e _ _ (by decide) (by decide)).trans (h9 i a b), (e _ _ (by decide) (by decide)).trans h10, (e _ _ (by decide) (by decide)).trans h11⟩
theorem CF.stp {M : aM} {f : Int → Int} {p q : Int} (h : CF M f) (hf : 0 ≤ f 1 ∧ f 1 < 6) (hc : f 14 ≤ 4) : CF (up (up (up M 20 (f 1) p) 21 (f 1) q) 19 1 (f 1 + 1)) (fU (fU (fU f (2 + f 1) p) (8 + f 1) q) 1 (f 1 + 1)) := by
  obtain ⟨h1, h2, h3, h4, h5, h6, h7, h8, h9, h10, h11⟩ := h
  have g : ∀ j, j ≠ 1 → j ≠ 2 + f 1 → j ≠ 8 + f 1 → fU (fU (fU f (2 + f 1) p) (8 + f 1) q) 1 (f 1 + 1) j = f j := fun j a b c => by rw [fU_n a, fU_n c, fU_n b]
  have e1 : fU (fU (fU f (2 + f 1) p) (8 + f 1) q) 1 (f 1 + 1) 1 = f 1 + 1 := fU_s
  have e14 := g 14 (by omega) (by omega) (by omega)
  have m : ∀ x y, ¬ (x = 19 ∧ y = 1) → x ≠ 20 → x ≠ 21 → up (up (up M 20 (f 1) p) 21 (f 1) q) 19 1 (f 1 + 1) x y = M x y := fun x y a b c => by rw [up_w a, up_a c, up_a b]
  unfold CF
  rw [e1, e14]
  refine ⟨?_, up_s, fun k a b => ?_, (m _ _ (by omega) (by omega) (by omega)).trans h4, fun k a b => ⟨?_, ?_⟩, ?_, ?_, ?_, fun j a b => ?_, ?_, ?_⟩
  · rw [m _ _ (by omega) (by omega) (by omega), g _ (by omega) (by omega) (by omega)]; exact h1
  · by_cases z : k = f 1
    · rw [z]
      refine ⟨?_, ?_⟩
      · rw [up_a (by omega), up_a (by omega), up_s, fU_n (by omega), fU_n (by omega), fU_s]
      · rw [up_a (by omega), up_s, fU_n (by omega), fU_s]
    · refine ⟨?_, ?_⟩
      · rw [up_a (by omega), up_a (by omega), up_i (by omega), g _ (by omega) (by omega) (by omega)]; exact (h3 k a (by omega)).1
      · rw [up_a (by omega), up_i (by omega), up_a (by omega), g _ (by omega) (by omega) (by omega)]; exact (h3 k a (by omega)).2
  · rw [m _ _ (by omega) (by omega) (by omega), g _ (by omega) (by omega) (by omega)]; exact (h5 k a b).1
  · rw [m _ _ (by omega) (by omega) (by omega), g _ (by omega) (by omega) (by omega)]; exact (h5 k a b).2
  · rw [m _ _ (by omega) (by omega) (by omega), g _ (by omega) (by omega) (by omega)]; exact h6
  · rw [m _ _ (by omega) (by omega) (by omega), g _ (by omega) (by omega) (by omega)]; exact h7
  · rw [m _ _ (by omega) (by omega) (by omega), g _ (by omega) (by omega) (by omega)]; exact h8
  · rw [m _ _ (by omega) (by omega) (by omega), g _ (by omega) (by omega) (by omega)]; exact h9 j a b
  · rw [m _ _ (by omega) (by omega) (by omega), g _ (by omega) (by omega) (by omega)]; exact h10
  · rw [m _ _ (by omega) (by omega) (by omega), g _ (by omega) (by omega) (by omega)]; exact h11
theorem CF.crt {M : aM} {f : Int → Int} {p q : Int} (h : CF M f) (hf : 0 ≤ f 14 ∧ f 14 < 4) (hc : f 1 ≤ 6) : CF (up (up (up M 22 (f 14) p) 23 (f 14) q) 19 4 (f 14 + 1)) (fU (fU (fU f (15 + f 14) p) (19 + f 14) q) 14 (f 14 + 1)) := by
  obtain ⟨h1, h2, h3, h4, h5, h6, h7, h8, h9, h10, h11⟩ := h
  have g : ∀ j, j ≠ 14 → j ≠ 15 + f 14 → j ≠ 19 + f 14 → fU (fU (fU f (15 + f 14) p) (19 + f 14) q) 14 (f 14 + 1) j = f j := fun j a b c => by rw [fU_n a, fU_n c, fU_n b]
  have e14 : fU (fU (fU f (15 + f 14) p) (19 + f 14) q) 14 (f 14 + 1) 14 = f 14 + 1 := fU_s
  have e1 := g 1 (by omega) (by omega) (by omega)
  have m : ∀ x y, ¬ (x = 19 ∧ y = 4) → x ≠ 22 → x ≠ 23 → up (up (up M 22 (f 14) p) 23 (f 14) q) 19 4 (f 14 + 1) x y = M x y := fun x y a b c => by rw [up_w a, up_a c, up_a b]
  unfold CF
  rw [e1, e14]
  refine ⟨?_, (m _ _ (by omega) (by omega) (by omega)).trans h2, fun k a b => ⟨?_, ?_⟩, up_s, fun k a b => ?_, ?_, ?_, ?_, fun j a b => ?_, ?_, ?_⟩
  · rw [m _ _ (by omega) (by omega) (by omega), g _ (by omega) (by omega) (by omega)]; exact h1
  · rw [m _ _ (by omega) (by omega) (by omega), g _ (by omega) (by omega) (by omega)]; exact (h3 k a b).1
  · rw [m _ _ (by omega) (by omega) (by omega), g _ (by omega) (by omega) (by omega)]; exact (h3 k a b).2
  · by_cases z : k = f 14
    · rw [z]
      refine ⟨?_, ?_⟩
      · rw [up_a (by omega), up_a (by omega), up_s, fU_n (by omega), fU_n (by omega), fU_s]
      · rw [up_a (by omega), up_s, fU_n (by omega), fU_s]
    · refine ⟨?_, ?_⟩
      · rw [up_a (by omega), up_a (by omega), up_i (by omega), g _ (by omega) (by omega) (by omega)]; exact (h5 k a (by omega)).1
      · rw [up_a (by omega), up_i (by omega), up_a (by omega), g _ (by omega) (by omega) (by omega)]; exact (h5 k a (by omega)).2
  · rw [m _ _ (by omega) (by omega) (by omega), g _ (by omega) (by omega) (by omega)]; exact h6
  · rw [m _ _ (by omega) (by omega) (by omega), g _ (by omega) (by omega) (by omega)]; exact h7
  · rw [m _ _ (by omega) (by omega) (by omega), g _ (by omega) (by omega) (by omega)]; exact h8
  · rw [m _ _ (by omega) (by omega) (by omega), g _ (by omega) (by omega) (by omega)]; exact h9 j a b
  · rw [m _ _ (by omega) (by omega) (by omega), g _ (by omega) (by omega) (by omega)]; exact h10
  · rw [m _ _ (by omega) (by omega) (by omega), g _ (by omega) (by omega) (by omega)]; exact h11
theorem dX8_hasStep_0 : decode cX8_hasStep 0 = .ok (.iconst 0, 1) := by decide +kernel
theorem dX8_hasStep_1 : decode cX8_hasStep 1 = .ok (.istore_n 2, 1) := by decide +kernel
theorem dX8_hasStep_2 : decode cX8_hasStep 2 = .ok (.iload_n 2, 1) := by decide +kernel
theorem dX8_hasStep_3 : decode cX8_hasStep 3 = .ok (.aload_n 0, 1) := by decide +kernel
theorem dX8_hasStep_4 : decode cX8_hasStep 4 = .ok (.getfield 35, 3) := by decide +kernel
theorem dX8_hasStep_7 : decode cX8_hasStep 7 = .ok (.if_icmp .ge 21, 3) := by decide +kernel
theorem dX8_hasStep_10 : decode cX8_hasStep 10 = .ok (.aload_n 0, 1) := by decide +kernel
theorem dX8_hasStep_11 : decode cX8_hasStep 11 = .ok (.getfield 11, 3) := by decide +kernel
theorem dX8_hasStep_14 : decode cX8_hasStep 14 = .ok (.iload_n 2, 1) := by decide +kernel
theorem dX8_hasStep_15 : decode cX8_hasStep 15 = .ok (.iaload, 1) := by decide +kernel
theorem dX8_hasStep_16 : decode cX8_hasStep 16 = .ok (.iload_n 1, 1) := by decide +kernel
theorem dX8_hasStep_17 : decode cX8_hasStep 17 = .ok (.if_icmp .ne 5, 3) := by decide +kernel
theorem dX8_hasStep_20 : decode cX8_hasStep 20 = .ok (.iconst 1, 1) := by decide +kernel
theorem dX8_hasStep_21 : decode cX8_hasStep 21 = .ok (.ireturn, 1) := by decide +kernel
theorem dX8_hasStep_22 : decode cX8_hasStep 22 = .ok (.iinc 2 1, 3) := by decide +kernel
theorem dX8_hasStep_25 : decode cX8_hasStep 25 = .ok (.goto (-23), 3) := by decide +kernel
theorem dX8_hasStep_28 : decode cX8_hasStep 28 = .ok (.iconst 0, 1) := by decide +kernel
theorem dX8_hasStep_29 : decode cX8_hasStep 29 = .ok (.ireturn, 1) := by decide +kernel
theorem dX8_addCart_0 : decode cX8_addCart 0 = .ok (.aload_n 0, 1) := by decide +kernel
theorem dX8_addCart_1 : decode cX8_addCart 1 = .ok (.getfield 38, 3) := by decide +kernel
theorem dX8_addCart_4 : decode cX8_addCart 4 = .ok (.iconst 4, 1) := by decide +kernel
theorem dX8_addCart_5 : decode cX8_addCart 5 = .ok (.if_icmp .ge 33, 3) := by decide +kernel
theorem dX8_addCart_8 : decode cX8_addCart 8 = .ok (.aload_n 0, 1) := by decide +kernel
theorem dX8_addCart_9 : decode cX8_addCart 9 = .ok (.getfield 18, 3) := by decide +kernel
theorem dX8_addCart_12 : decode cX8_addCart 12 = .ok (.aload_n 0, 1) := by decide +kernel
theorem dX8_addCart_13 : decode cX8_addCart 13 = .ok (.getfield 38, 3) := by decide +kernel
theorem dX8_addCart_16 : decode cX8_addCart 16 = .ok (.iload_n 1, 1) := by decide +kernel
theorem dX8_addCart_17 : decode cX8_addCart 17 = .ok (.iastore, 1) := by decide +kernel
theorem dX8_addCart_18 : decode cX8_addCart 18 = .ok (.aload_n 0, 1) := by decide +kernel
theorem dX8_addCart_19 : decode cX8_addCart 19 = .ok (.getfield 21, 3) := by decide +kernel
theorem dX8_addCart_22 : decode cX8_addCart 22 = .ok (.aload_n 0, 1) := by decide +kernel
theorem dX8_addCart_23 : decode cX8_addCart 23 = .ok (.getfield 38, 3) := by decide +kernel
theorem dX8_addCart_26 : decode cX8_addCart 26 = .ok (.iload_n 2, 1) := by decide +kernel
theorem dX8_addCart_27 : decode cX8_addCart 27 = .ok (.iastore, 1) := by decide +kernel
theorem dX8_addCart_28 : decode cX8_addCart 28 = .ok (.aload_n 0, 1) := by decide +kernel
theorem dX8_addCart_29 : decode cX8_addCart 29 = .ok (.dup, 1) := by decide +kernel
theorem dX8_addCart_30 : decode cX8_addCart 30 = .ok (.getfield 38, 3) := by decide +kernel
theorem dX8_addCart_33 : decode cX8_addCart 33 = .ok (.iconst 1, 1) := by decide +kernel
theorem dX8_addCart_34 : decode cX8_addCart 34 = .ok (.iadd, 1) := by decide +kernel
theorem dX8_addCart_35 : decode cX8_addCart 35 = .ok (.putfield 38, 3) := by decide +kernel
theorem dX8_addCart_38 : decode cX8_addCart 38 = .ok (.return_, 1) := by decide +kernel
theorem dX8_clear_0 : decode cX8_clear 0 = .ok (.aload_n 0, 1) := by decide +kernel
theorem dX8_clear_1 : decode cX8_clear 1 = .ok (.iconst 0, 1) := by decide +kernel
theorem dX8_clear_2 : decode cX8_clear 2 = .ok (.putfield 31, 3) := by decide +kernel
theorem dX8_clear_5 : decode cX8_clear 5 = .ok (.aload_n 0, 1) := by decide +kernel
theorem dX8_clear_6 : decode cX8_clear 6 = .ok (.iconst 0, 1) := by decide +kernel
theorem dX8_clear_7 : decode cX8_clear 7 = .ok (.putfield 35, 3) := by decide +kernel
theorem dX8_clear_10 : decode cX8_clear 10 = .ok (.aload_n 0, 1) := by decide +kernel
theorem dX8_clear_11 : decode cX8_clear 11 = .ok (.iconst 0, 1) := by decide +kernel
theorem dX8_clear_12 : decode cX8_clear 12 = .ok (.putfield 38, 3) := by decide +kernel
theorem dX8_clear_15 : decode cX8_clear 15 = .ok (.aload_n 0, 1) := by decide +kernel
theorem dX8_clear_16 : decode cX8_clear 16 = .ok (.iconst 0, 1) := by decide +kernel
theorem dX8_clear_17 : decode cX8_clear 17 = .ok (.putfield 41, 3) := by decide +kernel
theorem dX8_clear_20 : decode cX8_clear 20 = .ok (.aload_n 0, 1) := by decide +kernel
theorem dX8_clear_21 : decode cX8_clear 21 = .ok (.iconst 0, 1) := by decide +kernel
theorem dX8_clear_22 : decode cX8_clear 22 = .ok (.putfield 44, 3) := by decide +kernel
theorem dX8_clear_25 : decode cX8_clear 25 = .ok (.aload_n 0, 1) := by decide +kernel
theorem dX8_clear_26 : decode cX8_clear 26 = .ok (.iconst 1, 1) := by decide +kernel
theorem dX8_clear_27 : decode cX8_clear 27 = .ok (.putfield 24, 3) := by decide +kernel
theorem dX8_clear_30 : decode cX8_clear 30 = .ok (.aload_n 0, 1) := by decide +kernel
theorem dX8_clear_31 : decode cX8_clear 31 = .ok (.getfield 28, 3) := by decide +kernel
theorem dX8_clear_34 : decode cX8_clear 34 = .ok (.iconst 0, 1) := by decide +kernel
theorem dX8_clear_35 : decode cX8_clear 35 = .ok (.invokestatic 47, 3) := by decide +kernel
theorem dX8_clear_38 : decode cX8_clear 38 = .ok (.aload_n 0, 1) := by decide +kernel
theorem dX8_clear_39 : decode cX8_clear 39 = .ok (.iconst 0, 1) := by decide +kernel
theorem dX8_clear_40 : decode cX8_clear 40 = .ok (.putfield 53, 3) := by decide +kernel
theorem dX8_clear_43 : decode cX8_clear 43 = .ok (.aload_n 0, 1) := by decide +kernel
theorem dX8_clear_44 : decode cX8_clear 44 = .ok (.iconst 0, 1) := by decide +kernel
theorem dX8_clear_45 : decode cX8_clear 45 = .ok (.putfield 56, 3) := by decide +kernel
theorem dX8_clear_48 : decode cX8_clear 48 = .ok (.return_, 1) := by decide +kernel
theorem dX5_isFull_0 : decode cX5_isFull 0 = .ok (.aload_n 1, 1) := by decide +kernel
theorem dX5_isFull_1 : decode cX5_isFull 1 = .ok (.getstatic 87, 3) := by decide +kernel
theorem dX5_isFull_4 : decode cX5_isFull 4 = .ok (.if_acmp .ne 15, 3) := by decide +kernel
theorem dX5_isFull_7 : decode cX5_isFull 7 = .ok (.aload_n 0, 1) := by decide +kernel
theorem dX5_isFull_8 : decode cX5_isFull 8 = .ok (.getfield 22, 3) := by decide +kernel
theorem dX5_isFull_11 : decode cX5_isFull 11 = .ok (.getfield 90, 3) := by decide +kernel
theorem dX5_isFull_14 : decode cX5_isFull 14 = .ok (.bipush 6, 2) := by decide +kernel
theorem dX5_isFull_16 : decode cX5_isFull 16 = .ok (.if_icmp .eq 21, 3) := by decide +kernel
theorem dX5_isFull_19 : decode cX5_isFull 19 = .ok (.aload_n 1, 1) := by decide +kernel
theorem dX5_isFull_20 : decode cX5_isFull 20 = .ok (.getstatic 93, 3) := by decide +kernel
theorem dX5_isFull_23 : decode cX5_isFull 23 = .ok (.if_acmp .ne 18, 3) := by decide +kernel
theorem dX5_isFull_26 : decode cX5_isFull 26 = .ok (.aload_n 0, 1) := by decide +kernel
theorem dX5_isFull_27 : decode cX5_isFull 27 = .ok (.getfield 22, 3) := by decide +kernel
theorem dX5_isFull_30 : decode cX5_isFull 30 = .ok (.getfield 96, 3) := by decide +kernel
theorem dX5_isFull_33 : decode cX5_isFull 33 = .ok (.iconst 4, 1) := by decide +kernel
theorem dX5_isFull_34 : decode cX5_isFull 34 = .ok (.if_icmp .ne 7, 3) := by decide +kernel
theorem dX5_isFull_37 : decode cX5_isFull 37 = .ok (.iconst 1, 1) := by decide +kernel
theorem dX5_isFull_38 : decode cX5_isFull 38 = .ok (.goto 4, 3) := by decide +kernel
theorem dX5_isFull_41 : decode cX5_isFull 41 = .ok (.iconst 0, 1) := by decide +kernel
theorem dX5_isFull_42 : decode cX5_isFull 42 = .ok (.ireturn, 1) := by decide +kernel
theorem s_hasStepC {l : Launch} {E : aE} {N : Nat} {S : aS} {M : aM} (hfl : l.stackTraces = false) (hC : lyC S) (f : Int → Int) (hF : CF M f) (h1 : 0 ≤ f 1 ∧ f 1 ≤ 6) (v : Int) : aMt l E pX8_hasStep [(2, 19), (0, v)] N S M (aB (hasS f v (f 1).toNat = true) N S M) := by
  refine a_met hfl rfl (by decide +kernel) (Nat.le_of_ble_eq_true rfl) ?_
  have loop := a_loop1 (fun i => (0 ≤ i ∧ i ≤ f 1) ∧ ∀ j, 0 ≤ j → j < i → f (2 + j) ≠ v) (fun i => (f 1 - i).toNat) (fun i => aX l E pX8_hasStep (aB (hasS f v (f 1).toNat = true) N S M) 0 0 N S M 2 [(0, (2, 19)), (1, (0, v)), (2, (0, i))] []) (by
    intro i hI ih
    obtain ⟨k1, k2⟩ := hI
    refine x_iload_n (pc := 2) dX8_hasStep_2 rfl rfl ?_
    refine x_aload_n (pc := 3) dX8_hasStep_3 rfl rfl ?_
    refine x_getIV (jj := 1) (pc := 4) dX8_hasStep_4 fX8_35 (hC.2.2.1).1 rfl (by decide) rfl (by (repeat (first | rewrite [up_s] | rewrite [up_i (by omega)] | rewrite [up_a (by omega)])); first | exact hF.2.1 | exact (hF.2.2.1 i (by omega) (by omega)).1 | rfl) ?_
    refine x_icmp_ge (tgt := 28) (pc := 7) dX8_hasStep_7 (by decide) (fun c_7 => ?_) (fun c_7 => ?_)
    · refine x_iconst (pc := 28) dX8_hasStep_28 (by decide) ?_
      refine x_zreturn (pc := 29) dX8_hasStep_29 rfl (by omega) (by decide) ?_
      refine b_0 fun q => ?_
      obtain ⟨k, a, b, c⟩ := (hasS_iff _).mp q
      exact k2 k a (by omega) c
    · refine x_aload_n (pc := 10) dX8_hasStep_10 rfl rfl ?_
      refine x_getR (jj := 2) (pc := 11) dX8_hasStep_11 fX8_11 (hC.2.2.1).1 rfl (by decide) rfl rT_2 ?_
      refine x_iload_n (pc := 14) dX8_hasStep_14 rfl rfl ?_
      refine x_ialoadV (pc := 15) dX8_hasStep_15 (hC.2.2.1).2.1 (by omega) (by (repeat (first | rewrite [up_s] | rewrite [up_i (by omega)] | rewrite [up_a (by omega)])); first | exact hF.2.1 | exact (hF.2.2.1 i (by omega) (by omega)).1 | rfl) (fun g_15 => ?_)
      refine x_iload_n (pc := 16) dX8_hasStep_16 rfl rfl ?_
      refine x_icmp_ne (tgt := 22) (pc := 17) dX8_hasStep_17 (by decide) (fun c_17 => ?_) (fun c_17 => ?_)
      · refine x_iinc (pc := 22) dX8_hasStep_22 rfl (by omega) (by decide) rfl ?_
        refine x_goto (tgt := 2) (pc := 25) dX8_hasStep_25 (by decide) ?_
        exact x_lo (lo' := [(0, (2, 19)), (1, (0, v)), (2, (0, i + 1))]) ⟨rfl, rfl, rfl, trivial⟩ (ih (i + 1) ⟨⟨by omega, by omega⟩, fun j a b => by
          by_cases e : j = i
          · rw [e]; assumption
          · exact k2 j a (by omega)⟩ (by omega))
      · refine x_iconst (pc := 20) dX8_hasStep_20 (by decide) ?_
        refine x_zreturn (pc := 21) dX8_hasStep_21 rfl (by omega) (by decide) ?_
        exact b_1 ((hasS_iff _).mpr ⟨i, by omega, by omega, by assumption⟩))
  refine x_iconst (pc := 0) dX8_hasStep_0 (by decide) ?_
  refine x_istore_n (pc := 1) dX8_hasStep_1 rfl (by decide) rfl ?_
  exact x_lo (lo' := [(0, (2, 19)), (1, (0, v)), (2, (0, 0))]) ⟨rfl, rfl, rfl, trivial⟩ (loop 0 ⟨by omega, fun j a b => by omega⟩)
theorem s_addCart {l : Launch} {E : aE} {N : Nat} {S : aS} {M : aM} (hfl : l.stackTraces = false) (hC : lyC S) (a p n0 : Int) (h1 : M 19 4 = n0) (hn : 0 ≤ n0 ∧ n0 < 4) : aMt l E pX8_addCart [(2, 19), (0, a), (0, p)] N S M (aU N S (fun M' => M' = up (up (up M 22 n0 a) 23 n0 p) 19 4 (n0 + 1))) := by
  refine a_met hfl rfl (by decide +kernel) (Nat.le_of_ble_eq_true rfl) ?_
  refine x_aload_n (pc := 0) dX8_addCart_0 rfl rfl ?_
  refine x_getIV (jj := 4) (pc := 1) dX8_addCart_1 fX8_38 (hC.2.2.1).1 rfl (by decide) rfl (by (repeat (first | rewrite [up_s] | rewrite [up_i (by omega)] | rewrite [up_a (by omega)])); first | exact h1 | rfl) ?_
  refine x_iconst (pc := 4) dX8_addCart_4 (by decide) ?_
  refine x_icmp_ge (tgt := 38) (pc := 5) dX8_addCart_5 (by decide) (fun c_5 => ?_) (fun c_5 => ?_)
  · refine x_return (pc := 38) dX8_addCart_38 rfl (by decide) ?_
    exfalso; omega
  · refine x_aload_n (pc := 8) dX8_addCart_8 rfl rfl ?_
    refine x_getR (jj := 5) (pc := 9) dX8_addCart_9 fX8_18 (hC.2.2.1).1 rfl (by decide) rfl rT_5 ?_
    refine x_aload_n (pc := 12) dX8_addCart_12 rfl rfl ?_
    refine x_getIV (jj := 4) (pc := 13) dX8_addCart_13 fX8_38 (hC.2.2.1).1 rfl (by decide) rfl (by (repeat (first | rewrite [up_s] | rewrite [up_i (by omega)] | rewrite [up_a (by omega)])); first | exact h1 | rfl) ?_
    refine x_iload_n (pc := 16) dX8_addCart_16 rfl rfl ?_
    refine x_iastore (pc := 17) dX8_addCart_17 (hC.2.2.1).2.2.2.1 (by omega) ?_
    refine x_aload_n (pc := 18) dX8_addCart_18 rfl rfl ?_
    refine x_getR (jj := 6) (pc := 19) dX8_addCart_19 fX8_21 (hC.2.2.1).1 rfl (by decide) rfl rT_6 ?_
    refine x_aload_n (pc := 22) dX8_addCart_22 rfl rfl ?_
    refine x_getIV (jj := 4) (pc := 23) dX8_addCart_23 fX8_38 (hC.2.2.1).1 rfl (by decide) rfl (by (repeat (first | rewrite [up_s] | rewrite [up_i (by omega)] | rewrite [up_a (by omega)])); first | exact h1 | rfl) ?_
    refine x_iload_n (pc := 26) dX8_addCart_26 rfl rfl ?_
    refine x_iastore (pc := 27) dX8_addCart_27 (hC.2.2.1).2.2.2.2.1 (by omega) ?_
    refine x_aload_n (pc := 28) dX8_addCart_28 rfl rfl ?_
    refine x_dup (pc := 29) dX8_addCart_29 rfl ?_
    refine x_getIV (jj := 4) (pc := 30) dX8_addCart_30 fX8_38 (hC.2.2.1).1 rfl (by decide) rfl (by (repeat (first | rewrite [up_s] | rewrite [up_i (by omega)] | rewrite [up_a (by omega)])); first | exact h1 | rfl) ?_
    refine x_iconst (pc := 33) dX8_addCart_33 (by decide) ?_
    refine x_iadd (pc := 34) dX8_addCart_34 (by omega) ?_
    refine x_putI (jj := 4) (pc := 35) dX8_addCart_35 fX8_38 (hC.2.2.1).1 rfl (by decide) rfl ?_
    refine x_return (pc := 38) dX8_addCart_38 rfl (by decide) ?_
    exact ⟨rfl, rfl, rfl, rfl⟩
theorem s_clear {l : Launch} {E : aE} {N : Nat} {S : aS} {M : aM} (hfl : l.stackTraces = false) (hC : lyC S) : aMt l E pX8_clear [(2, 19)] N S M (aU N S (fun M' => CF M' fr0 ∧ ∀ x y : Int, x ≠ 19 ∧ x ≠ 24 → M' x y = M x y)) := by
  refine a_met hfl rfl (by decide +kernel) (Nat.le_of_ble_eq_true rfl) ?_
  refine x_aload_n (pc := 0) dX8_clear_0 rfl rfl ?_
  refine x_iconst (pc := 1) dX8_clear_1 (by decide) ?_
  refine x_putZ (jj := 0) (pc := 2) dX8_clear_2 fX8_31 (hC.2.2.1).1 rfl (by decide) rfl (by omega) ?_
  refine x_aload_n (pc := 5) dX8_clear_5 rfl rfl ?_
  refine x_iconst (pc := 6) dX8_clear_6 (by decide) ?_
  refine x_putI (jj := 1) (pc := 7) dX8_clear_7 fX8_35 (hC.2.2.1).1 rfl (by decide) rfl ?_
  refine x_aload_n (pc := 10) dX8_clear_10 rfl rfl ?_
  refine x_iconst (pc := 11) dX8_clear_11 (by decide) ?_
  refine x_putI (jj := 4) (pc := 12) dX8_clear_12 fX8_38 (hC.2.2.1).1 rfl (by decide) rfl ?_
  refine x_aload_n (pc := 15) dX8_clear_15 rfl rfl ?_
  refine x_iconst (pc := 16) dX8_clear_16 (by decide) ?_
  refine x_putI (jj := 7) (pc := 17) dX8_clear_17 fX8_41 (hC.2.2.1).1 rfl (by decide) rfl ?_
  refine x_aload_n (pc := 20) dX8_clear_20 rfl rfl ?_
  refine x_iconst (pc := 21) dX8_clear_21 (by decide) ?_
  refine x_putI (jj := 8) (pc := 22) dX8_clear_22 fX8_44 (hC.2.2.1).1 rfl (by decide) rfl ?_
  refine x_aload_n (pc := 25) dX8_clear_25 rfl rfl ?_
  refine x_iconst (pc := 26) dX8_clear_26 (by decide) ?_
  refine x_putI (jj := 9) (pc := 27) dX8_clear_27 fX8_24 (hC.2.2.1).1 rfl (by decide) rfl ?_
  refine x_aload_n (pc := 30) dX8_clear_30 rfl rfl ?_
  refine x_getR (jj := 10) (pc := 31) dX8_clear_31 fX8_28 (hC.2.2.1).1 rfl (by decide) rfl rT_10 ?_
  refine x_iconst (pc := 34) dX8_clear_34 (by decide) ?_
  refine x_callS2 (pc := 35) dX8_clear_35 rfl kX8_47 (s_fill hfl 24 0 6 rN hC.2.2.1.2.2.2.2.2 (by omega)) rfl (Nat.le_of_ble_eq_true rfl) (k_U (fun M9 hM9 => ?_)) n_U
  refine x_aload_n (pc := 38) dX8_clear_38 rfl rfl ?_
  refine x_iconst (pc := 39) dX8_clear_39 (by decide) ?_
  refine x_putI (jj := 11) (pc := 40) dX8_clear_40 fX8_53 (hC.2.2.1).1 rfl (by decide) rfl ?_
  refine x_aload_n (pc := 43) dX8_clear_43 rfl rfl ?_
  refine x_iconst (pc := 44) dX8_clear_44 (by decide) ?_
  refine x_putI (jj := 12) (pc := 45) dX8_clear_45 fX8_56 (hC.2.2.1).1 rfl (by decide) rfl ?_
  refine x_return (pc := 48) dX8_clear_48 rfl (by decide) ?_
  refine ⟨rfl, rfl, rfl, ?_, fun x y q => ?_⟩
  · have g : ∀ y, y ≠ 11 → y ≠ 12 → up (up M9 19 11 0) 19 12 0 19 y = up (up (up (up (up (up M 19 0 0) 19 1 0) 19 4 0) 19 7 0) 19 8 0) 19 9 1 19 y := fun y a b => by rw [up_i b, up_i a, hM9, flM_a (by omega)]
    refine ⟨?_, ?_, fun k a b => ?_, ?_, fun k a b => ?_, ?_, ?_, ?_, fun i a b => ?_, ?_, ?_⟩
    · rw [g 0 (by decide) (by decide), up_i (by omega), up_i (by omega), up_i (by omega), up_i (by omega), up_i (by omega), up_s]; rfl
    · rw [g 1 (by decide) (by decide), up_i (by omega), up_i (by omega), up_i (by omega), up_i (by omega), up_s]; rfl
    · have : fr0 1 = 0 := rfl
      omega
    · rw [g 4 (by decide) (by decide), up_i (by omega), up_i (by omega), up_i (by omega), up_s]; rfl
    · have : fr0 14 = 0 := rfl
      omega
    · rw [g 7 (by decide) (by decide), up_i (by omega), up_i (by omega), up_s]; rfl
    · rw [g 8 (by decide) (by decide), up_i (by omega), up_s]; rfl
    · rw [g 9 (by decide) (by decide), up_s]; rfl
    · rw [up_a (by omega), up_a (by omega), hM9, flM_s ⟨a, b⟩]
      unfold fr0; rw [if_neg (by omega)]
    · rw [up_i (by omega), up_s]; rfl
    · rw [up_s]; rfl
  · rw [up_a (by omega), up_a (by omega), hM9, flM_a (by omega), up_a (by omega), up_a (by omega), up_a (by omega), up_a (by omega), up_a (by omega), up_a (by omega)]
theorem s_isFull {l : Launch} {E : aE} {N : Nat} {S : aS} {M : aM} (hfl : l.stackTraces = false) (hC : lyC S) (f : Int → Int) (hF : CF M f) (k : Nat) (hk : k < 13) : aMt l E pX5_isFull [(2, 17), (2, -2 - (k : Int))] N S M (aB ((k = 2 ∧ f 1 = 6) ∨ (k = 3 ∧ f 14 = 4)) N S M) := by
  refine a_met hfl rfl (by decide +kernel) (Nat.le_of_ble_eq_true rfl) ?_
  refine x_aload_n (pc := 0) dX5_isFull_0 rfl rfl ?_
  refine x_kZ (pc := 1) dX5_isFull_1 (lw_ok_in (List.mem_of_getElem? (i := 929) (by decide +kernel)) rfl) (List.mem_of_getElem? (i := 2) rfl) (Or.inr ⟨rfl, by decide⟩) ?_
  refine x_kacmp_ne (j := k) (k := 2) (tgt := 19) (pc := 4) dX5_isFull_4 (by decide) rfl (by decide) hk (by decide) (fun c_4 => ?_) (fun c_4 => ?_)
  · refine x_aload_n (pc := 19) dX5_isFull_19 rfl rfl ?_
    refine x_kZ (pc := 20) dX5_isFull_20 (lw_ok_in (List.mem_of_getElem? (i := 931) (by decide +kernel)) rfl) (List.mem_of_getElem? (i := 3) rfl) (Or.inr ⟨rfl, by decide⟩) ?_
    refine x_kacmp_ne (j := k) (k := 3) (tgt := 41) (pc := 23) dX5_isFull_23 (by decide) rfl (by decide) hk (by decide) (fun c_23 => ?_) (fun c_23 => ?_)
    · refine x_iconst (pc := 41) dX5_isFull_41 (by decide) ?_
      refine x_zreturn (pc := 42) dX5_isFull_42 rfl (by omega) (by decide) ?_
      first | exact b_1 (by omega) | exact b_0 (by omega)
    · refine x_aload_n (pc := 26) dX5_isFull_26 rfl rfl ?_
      refine x_getR (jj := 5) (pc := 27) dX5_isFull_27 fX5_22 (sC_17 hC) rfl (by decide) rfl rC_17_5 ?_
      refine x_getIV (jj := 4) (pc := 30) dX5_isFull_30 fX5_96 (hC.2.2.1).1 rfl (by decide) rfl (by (repeat (first | rewrite [up_s] | rewrite [up_i (by omega)] | rewrite [up_a (by omega)])); first | exact hF.2.1 | exact hF.2.2.2.1 | rfl) ?_
      refine x_iconst (pc := 33) dX5_isFull_33 (by decide) ?_
      refine x_icmp_ne (tgt := 41) (pc := 34) dX5_isFull_34 (by decide) (fun c_34 => ?_) (fun c_34 => ?_)
      · refine x_iconst (pc := 41) dX5_isFull_41 (by decide) ?_
        refine x_zreturn (pc := 42) dX5_isFull_42 rfl (by omega) (by decide) ?_
        first | exact b_1 (by omega) | exact b_0 (by omega)
      · refine x_iconst (pc := 37) dX5_isFull_37 (by decide) ?_
        refine x_goto (tgt := 42) (pc := 38) dX5_isFull_38 (by decide) ?_
        refine x_zreturn (pc := 42) dX5_isFull_42 rfl (by omega) (by decide) ?_
        first | exact b_1 (by omega) | exact b_0 (by omega)
  · refine x_aload_n (pc := 7) dX5_isFull_7 rfl rfl ?_
    refine x_getR (jj := 5) (pc := 8) dX5_isFull_8 fX5_22 (sC_17 hC) rfl (by decide) rfl rC_17_5 ?_
    refine x_getIV (jj := 1) (pc := 11) dX5_isFull_11 fX5_90 (hC.2.2.1).1 rfl (by decide) rfl (by (repeat (first | rewrite [up_s] | rewrite [up_i (by omega)] | rewrite [up_a (by omega)])); first | exact hF.2.1 | exact hF.2.2.2.1 | rfl) ?_
    refine x_bipush (pc := 14) dX5_isFull_14 (by decide) ?_
    refine x_icmp_eq (tgt := 37) (pc := 16) dX5_isFull_16 (by decide) (fun c_16 => ?_) (fun c_16 => ?_)
    · refine x_iconst (pc := 37) dX5_isFull_37 (by decide) ?_
      refine x_goto (tgt := 42) (pc := 38) dX5_isFull_38 (by decide) ?_
      refine x_zreturn (pc := 42) dX5_isFull_42 rfl (by omega) (by decide) ?_
      first | exact b_1 (by omega) | exact b_0 (by omega)
    · refine x_aload_n (pc := 19) dX5_isFull_19 rfl rfl ?_
      refine x_kZ (pc := 20) dX5_isFull_20 (lw_ok_in (List.mem_of_getElem? (i := 931) (by decide +kernel)) rfl) (List.mem_of_getElem? (i := 3) rfl) (Or.inr ⟨rfl, by decide⟩) ?_
      refine x_kacmp_ne (j := k) (k := 3) (tgt := 41) (pc := 23) dX5_isFull_23 (by decide) rfl (by decide) hk (by decide) (fun c_23 => ?_) (fun c_23 => ?_)
      · refine x_iconst (pc := 41) dX5_isFull_41 (by decide) ?_
        refine x_zreturn (pc := 42) dX5_isFull_42 rfl (by omega) (by decide) ?_
        first | exact b_1 (by omega) | exact b_0 (by omega)
      · refine x_aload_n (pc := 26) dX5_isFull_26 rfl rfl ?_
        refine x_getR (jj := 5) (pc := 27) dX5_isFull_27 fX5_22 (sC_17 hC) rfl (by decide) rfl rC_17_5 ?_
        refine x_getIV (jj := 4) (pc := 30) dX5_isFull_30 fX5_96 (hC.2.2.1).1 rfl (by decide) rfl (by (repeat (first | rewrite [up_s] | rewrite [up_i (by omega)] | rewrite [up_a (by omega)])); first | exact hF.2.1 | exact hF.2.2.2.1 | rfl) ?_
        refine x_iconst (pc := 33) dX5_isFull_33 (by decide) ?_
        refine x_icmp_ne (tgt := 41) (pc := 34) dX5_isFull_34 (by decide) (fun c_34 => ?_) (fun c_34 => ?_)
        · refine x_iconst (pc := 41) dX5_isFull_41 (by decide) ?_
          refine x_zreturn (pc := 42) dX5_isFull_42 rfl (by omega) (by decide) ?_
          first | exact b_1 (by omega) | exact b_0 (by omega)
        · refine x_iconst (pc := 37) dX5_isFull_37 (by decide) ?_
          refine x_goto (tgt := 42) (pc := 38) dX5_isFull_38 (by decide) ?_
          refine x_zreturn (pc := 42) dX5_isFull_42 rfl (by omega) (by decide) ?_
          first | exact b_1 (by omega) | exact b_0 (by omega)
