/-! calls of the class (1) -/
def opC (M : aM) (N : Nat) (S : aS) (t : Nat) (sp : Int × Int × aM) (xs : Int → Nat) : aQ := fun o N' S' M' => N' = N ∧ S' = S ∧ frC M M' ∧ RC M' N S sp.2.2 ∧ ((sp.1 = 0 ∧ o = .inl (some (t, sp.2.1))) ∨ (sp.1 ≠ 0 ∧ o = .inr (xs sp.1)))
theorem RHs.u7 {M : aM} {s i v : Int} {t : Int → Int} (h : RHs M s t) (hi : 0 ≤ i ∧ i < 7) : RHs (up M (s + 7) i v) s (ut t (1 + i) v) := h.upd (Or.inr (Or.inl ⟨rfl, rfl, hi.1, hi.2⟩))
theorem RHs.u8 {M : aM} {s i v : Int} {t : Int → Int} (h : RHs M s t) (hi : 0 ≤ i ∧ i < 42) : RHs (up M (s + 8) i v) s (ut t (8 + i) v) := h.upd (Or.inr (Or.inr (Or.inl ⟨rfl, rfl, hi.1, hi.2⟩)))
theorem RHs.u11 {M : aM} {s i v : Int} {t : Int → Int} (h : RHs M s t) (hi : 0 ≤ i ∧ i < 7) : RHs (up M (s + 11) i v) s (ut t (148 + i) v) := h.upd (Or.inr (Or.inr (Or.inr (Or.inl ⟨rfl, rfl, hi.1, hi.2⟩))))
theorem RHs.u0 {M : aM} {s v : Int} {t : Int → Int} (h : RHs M s t) : RHs (up M s 7 v) s (ut t 155 v) := h.upd (Or.inr (Or.inr (Or.inr (Or.inr (Or.inl ⟨rfl, rfl, rfl⟩)))))
theorem RHs.uN {M : aM} {s v : Int} {t : Int → Int} (h : RHs M s t) : RHs (up M s 1 v) s (ut t 0 v) := h.upd (Or.inl ⟨rfl, rfl, rfl⟩)
theorem RHs.u12 {M : aM} {s i v : Int} {t : Int → Int} (h : RHs M s t) (hi : 0 ≤ i ∧ i < 7) : RHs (up M (s + 12) i v) s (ut t (156 + i) v) := h.upd (Or.inr (Or.inr (Or.inr (Or.inr (Or.inr (Or.inl ⟨rfl, rfl, hi.1, hi.2⟩))))))
theorem RHs.u13 {M : aM} {s i v : Int} {t : Int → Int} (h : RHs M s t) (hi : 0 ≤ i ∧ i < 28) : RHs (up M (s + 13) i v) s (ut t (163 + i) v) := h.upd (Or.inr (Or.inr (Or.inr (Or.inr (Or.inr (Or.inr (Or.inl ⟨rfl, rfl, hi.1, hi.2⟩)))))))
theorem RHs.u14 {M : aM} {s i v : Int} {t : Int → Int} (h : RHs M s t) (hi : 0 ≤ i ∧ i < 28) : RHs (up M (s + 14) i v) s (ut t (191 + i) v) := h.upd (Or.inr (Or.inr (Or.inr (Or.inr (Or.inr (Or.inr (Or.inr ⟨rfl, rfl, hi.1, hi.2⟩)))))))
/-- one word of told, one of the street, the sets with h forgotten -/
theorem RC.one {M A : aM} {N : Nat} {S : aS} {a i k v h : Int} (hR : RC M N S A) (t9 : 1 ≤ A 0 244 ∧ A 0 244 ≤ 6) (hh : 0 ≤ h ∧ h < 7) (ha : 8 ≤ a ∧ a < 16) (hk0 : 0 < k ∧ k < 50) (hk : ∀ j, ¬ (148 ≤ j ∧ j < 219) → ¬ (50 ≤ j ∧ j < 148) → j ≠ 0 → j ≠ 1 + h → ¬ (8 + 6 * h ≤ j ∧ j < 14 + 6 * h) → j ≠ k) (hH : RHs (up M a i v) 1 (ut (A 0) k v)) : RC (up (fgM (up M a i v) 31 h 128) 82 5 0) N S (up A 0 k v) := by
  refine RC.mk0 hR (fun r hr => funext fun j => up_a hr) (fun j hj => up_i (by omega)) (fun b x y z j => ?_) (fun b x y j => ?_) ?_ ?_ (Or.inl up_s)
  · rw [up_a z, fgM_a y, up_a (by omega)]
  · rw [up_a (by omega), fgM_a (by omega), up_a (by omega)]
  · rw [up_0]
    exact hH.cg fun b x y j => by rw [up_a (by omega), fgM_a (by omega)]
  · rw [up_0]
    refine RPl.cg (RPl.fg (RPl.cg hR.2.2.2.2.2.2.1 (fun j => up_a (by omega))) (by omega) hh (v := ut (A 0) k v) fun j a1 a2 a3 a4 a5 => ut_n (hk j a1 a2 a3 a4 a5)) (fun j => up_a (by omega))
/-- words that no plan looks at -/
theorem RC.free {M A : aM} {N : Nat} {S : aS} {a i k v : Int} (hR : RC M N S A) (t9 : 1 ≤ A 0 244 ∧ A 0 244 ≤ 6) (ha : 1 ≤ a ∧ a < 16) (ha2 : ¬ (2 ≤ a ∧ a < 8)) (hk : 148 ≤ k ∧ k < 219) (hH : RHs (up M a i v) 1 (ut (A 0) k v)) : RC (up M a i v) N S (up A 0 k v) := by
  refine RC.mk0 hR (fun r hr => funext fun j => up_a hr) (fun j hj => up_i (by omega)) (fun b x y z j => up_a (by omega)) (fun b x y j => up_a (by omega)) ?_ ?_ ?_
  · rw [up_0]
    exact hH
  · rw [up_0]
    exact (hR.2.2.2.2.2.2.1.cg (fun j => up_a (by omega))).ct (by omega) fun j a1 a2 a3 => ut_n (by omega)
  · rw [up_0]; exact (hR.2.2.2.2.2.2.2.2.cg (fun j => up_a (by omega))).ct ⟨fun j x y => (ut_n (by omega)).symm, fun j x => (ut_n (by omega)).symm⟩ (by omega)
theorem dX11_house_0 : decode cX11_house 0 = .ok (.aload_n 0, 1) := by decide +kernel
theorem dX11_house_1 : decode cX11_house 1 = .ok (.iload_n 1, 1) := by decide +kernel
theorem dX11_house_2 : decode cX11_house 2 = .ok (.invokevirtual 90, 3) := by decide +kernel
theorem dX11_house_5 : decode cX11_house 5 = .ok (.aload_n 0, 1) := by decide +kernel
theorem dX11_house_6 : decode cX11_house 6 = .ok (.getfield 10, 3) := by decide +kernel
theorem dX11_house_9 : decode cX11_house 9 = .ok (.iload_n 1, 1) := by decide +kernel
theorem dX11_house_10 : decode cX11_house 10 = .ok (.invokevirtual 94, 3) := by decide +kernel
theorem dX11_house_13 : decode cX11_house 13 = .ok (.istore_n 2, 1) := by decide +kernel
theorem dX11_house_14 : decode cX11_house 14 = .ok (.aload_n 0, 1) := by decide +kernel
theorem dX11_house_15 : decode cX11_house 15 = .ok (.iload_n 2, 1) := by decide +kernel
theorem dX11_house_16 : decode cX11_house 16 = .ok (.invokevirtual 98, 3) := by decide +kernel
theorem dX11_house_19 : decode cX11_house 19 = .ok (.iload_n 2, 1) := by decide +kernel
theorem dX11_house_20 : decode cX11_house 20 = .ok (.ireturn, 1) := by decide +kernel
theorem dX11_want_0 : decode cX11_want 0 = .ok (.aload_n 0, 1) := by decide +kernel
theorem dX11_want_1 : decode cX11_want 1 = .ok (.iload_n 1, 1) := by decide +kernel
theorem dX11_want_2 : decode cX11_want 2 = .ok (.invokevirtual 101, 3) := by decide +kernel
theorem dX11_want_5 : decode cX11_want 5 = .ok (.aload_n 0, 1) := by decide +kernel
theorem dX11_want_6 : decode cX11_want 6 = .ok (.iload_n 2, 1) := by decide +kernel
theorem dX11_want_7 : decode cX11_want 7 = .ok (.bipush 6, 2) := by decide +kernel
theorem dX11_want_9 : decode cX11_want 9 = .ok (.invokevirtual 104, 3) := by decide +kernel
theorem dX11_want_12 : decode cX11_want 12 = .ok (.aload_n 0, 1) := by decide +kernel
theorem dX11_want_13 : decode cX11_want 13 = .ok (.iload_n 3, 1) := by decide +kernel
theorem dX11_want_14 : decode cX11_want 14 = .ok (.invokevirtual 90, 3) := by decide +kernel
theorem dX11_want_17 : decode cX11_want 17 = .ok (.iload_n 1, 1) := by decide +kernel
theorem dX11_want_18 : decode cX11_want 18 = .ok (.bipush 6, 2) := by decide +kernel
theorem dX11_want_20 : decode cX11_want 20 = .ok (.imul, 1) := by decide +kernel
theorem dX11_want_21 : decode cX11_want 21 = .ok (.iload_n 2, 1) := by decide +kernel
theorem dX11_want_22 : decode cX11_want 22 = .ok (.iadd, 1) := by decide +kernel
theorem dX11_want_23 : decode cX11_want 23 = .ok (.istore 4, 2) := by decide +kernel
theorem dX11_want_25 : decode cX11_want 25 = .ok (.aload_n 0, 1) := by decide +kernel
theorem dX11_want_26 : decode cX11_want 26 = .ok (.getfield 10, 3) := by decide +kernel
theorem dX11_want_29 : decode cX11_want 29 = .ok (.getfield 108, 3) := by decide +kernel
theorem dX11_want_32 : decode cX11_want 32 = .ok (.iload 4, 2) := by decide +kernel
theorem dX11_want_34 : decode cX11_want 34 = .ok (.iaload, 1) := by decide +kernel
theorem dX11_want_35 : decode cX11_want 35 = .ok (.istore 5, 2) := by decide +kernel
theorem dX11_want_37 : decode cX11_want 37 = .ok (.aload_n 0, 1) := by decide +kernel
theorem dX11_want_38 : decode cX11_want 38 = .ok (.getfield 10, 3) := by decide +kernel
theorem dX11_want_41 : decode cX11_want 41 = .ok (.getfield 108, 3) := by decide +kernel
theorem dX11_want_44 : decode cX11_want 44 = .ok (.iload 4, 2) := by decide +kernel
theorem dX11_want_46 : decode cX11_want 46 = .ok (.iload_n 3, 1) := by decide +kernel
theorem dX11_want_47 : decode cX11_want 47 = .ok (.iastore, 1) := by decide +kernel
theorem dX11_want_48 : decode cX11_want 48 = .ok (.aload_n 0, 1) := by decide +kernel
theorem dX11_want_49 : decode cX11_want 49 = .ok (.iload_n 1, 1) := by decide +kernel
theorem dX11_want_50 : decode cX11_want 50 = .ok (.invokevirtual 98, 3) := by decide +kernel
theorem dX11_want_53 : decode cX11_want 53 = .ok (.iload 5, 2) := by decide +kernel
theorem dX11_want_55 : decode cX11_want 55 = .ok (.ireturn, 1) := by decide +kernel
theorem dX11_cellar_0 : decode cX11_cellar 0 = .ok (.aload_n 0, 1) := by decide +kernel
theorem dX11_cellar_1 : decode cX11_cellar 1 = .ok (.iload_n 1, 1) := by decide +kernel
theorem dX11_cellar_2 : decode cX11_cellar 2 = .ok (.invokevirtual 101, 3) := by decide +kernel
theorem dX11_cellar_5 : decode cX11_cellar 5 = .ok (.aload_n 0, 1) := by decide +kernel
theorem dX11_cellar_6 : decode cX11_cellar 6 = .ok (.iload_n 2, 1) := by decide +kernel
theorem dX11_cellar_7 : decode cX11_cellar 7 = .ok (.invokevirtual 90, 3) := by decide +kernel
theorem dX11_cellar_10 : decode cX11_cellar 10 = .ok (.aload_n 0, 1) := by decide +kernel
theorem dX11_cellar_11 : decode cX11_cellar 11 = .ok (.getfield 10, 3) := by decide +kernel
theorem dX11_cellar_14 : decode cX11_cellar 14 = .ok (.getfield 112, 3) := by decide +kernel
theorem dX11_cellar_17 : decode cX11_cellar 17 = .ok (.iload_n 1, 1) := by decide +kernel
theorem dX11_cellar_18 : decode cX11_cellar 18 = .ok (.iaload, 1) := by decide +kernel
theorem dX11_cellar_19 : decode cX11_cellar 19 = .ok (.istore_n 3, 1) := by decide +kernel
theorem dX11_cellar_20 : decode cX11_cellar 20 = .ok (.aload_n 0, 1) := by decide +kernel
theorem dX11_cellar_21 : decode cX11_cellar 21 = .ok (.getfield 10, 3) := by decide +kernel
theorem dX11_cellar_24 : decode cX11_cellar 24 = .ok (.getfield 112, 3) := by decide +kernel
theorem dX11_cellar_27 : decode cX11_cellar 27 = .ok (.iload_n 1, 1) := by decide +kernel
theorem dX11_cellar_28 : decode cX11_cellar 28 = .ok (.iload_n 2, 1) := by decide +kernel
theorem dX11_cellar_29 : decode cX11_cellar 29 = .ok (.iastore, 1) := by decide +kernel
theorem dX11_cellar_30 : decode cX11_cellar 30 = .ok (.aload_n 0, 1) := by decide +kernel
theorem dX11_cellar_31 : decode cX11_cellar 31 = .ok (.iload_n 1, 1) := by decide +kernel
theorem dX11_cellar_32 : decode cX11_cellar 32 = .ok (.invokevirtual 98, 3) := by decide +kernel
theorem dX11_cellar_35 : decode cX11_cellar 35 = .ok (.iload_n 3, 1) := by decide +kernel
theorem dX11_cellar_36 : decode cX11_cellar 36 = .ok (.ireturn, 1) := by decide +kernel
theorem dX11_bar_0 : decode cX11_bar 0 = .ok (.aload_n 0, 1) := by decide +kernel
theorem dX11_bar_1 : decode cX11_bar 1 = .ok (.iload_n 1, 1) := by decide +kernel
theorem dX11_bar_2 : decode cX11_bar 2 = .ok (.iload_n 2, 1) := by decide +kernel
theorem dX11_bar_3 : decode cX11_bar 3 = .ok (.invokevirtual 115, 3) := by decide +kernel
theorem dX11_bar_6 : decode cX11_bar 6 = .ok (.aload_n 0, 1) := by decide +kernel
theorem dX11_bar_7 : decode cX11_bar 7 = .ok (.getfield 10, 3) := by decide +kernel
theorem dX11_bar_10 : decode cX11_bar 10 = .ok (.getfield 118, 3) := by decide +kernel
theorem dX11_bar_13 : decode cX11_bar 13 = .ok (.iload_n 1, 1) := by decide +kernel
theorem dX11_bar_14 : decode cX11_bar 14 = .ok (.iaload, 1) := by decide +kernel
theorem dX11_bar_15 : decode cX11_bar 15 = .ok (.iload_n 2, 1) := by decide +kernel
theorem dX11_bar_16 : decode cX11_bar 16 = .ok (.invokestatic 121, 3) := by decide +kernel
theorem dX11_bar_19 : decode cX11_bar 19 = .ok (.istore_n 3, 1) := by decide +kernel
theorem dX11_bar_20 : decode cX11_bar 20 = .ok (.aload_n 0, 1) := by decide +kernel
theorem dX11_bar_21 : decode cX11_bar 21 = .ok (.getfield 10, 3) := by decide +kernel
theorem dX11_bar_24 : decode cX11_bar 24 = .ok (.getfield 118, 3) := by decide +kernel
theorem dX11_bar_27 : decode cX11_bar 27 = .ok (.iload_n 1, 1) := by decide +kernel
theorem dX11_bar_28 : decode cX11_bar 28 = .ok (.dup2, 1) := by decide +kernel
theorem dX11_bar_29 : decode cX11_bar 29 = .ok (.iaload, 1) := by decide +kernel
theorem dX11_bar_30 : decode cX11_bar 30 = .ok (.iconst 1, 1) := by decide +kernel
theorem dX11_bar_31 : decode cX11_bar 31 = .ok (.iload_n 2, 1) := by decide +kernel
theorem dX11_bar_32 : decode cX11_bar 32 = .ok (.ishl, 1) := by decide +kernel
theorem dX11_bar_33 : decode cX11_bar 33 = .ok (.ior, 1) := by decide +kernel
theorem dX11_bar_34 : decode cX11_bar 34 = .ok (.iastore, 1) := by decide +kernel
theorem dX11_bar_35 : decode cX11_bar 35 = .ok (.aload_n 0, 1) := by decide +kernel
theorem dX11_bar_36 : decode cX11_bar 36 = .ok (.getfield 10, 3) := by decide +kernel
theorem dX11_bar_39 : decode cX11_bar 39 = .ok (.getfield 118, 3) := by decide +kernel
theorem dX11_bar_42 : decode cX11_bar 42 = .ok (.iload_n 2, 1) := by decide +kernel
theorem dX11_bar_43 : decode cX11_bar 43 = .ok (.dup2, 1) := by decide +kernel
theorem dX11_bar_44 : decode cX11_bar 44 = .ok (.iaload, 1) := by decide +kernel
theorem dX11_bar_45 : decode cX11_bar 45 = .ok (.iconst 1, 1) := by decide +kernel
theorem dX11_bar_46 : decode cX11_bar 46 = .ok (.iload_n 1, 1) := by decide +kernel
theorem dX11_bar_47 : decode cX11_bar 47 = .ok (.ishl, 1) := by decide +kernel
theorem dX11_bar_48 : decode cX11_bar 48 = .ok (.ior, 1) := by decide +kernel
theorem dX11_bar_49 : decode cX11_bar 49 = .ok (.iastore, 1) := by decide +kernel
theorem dX11_bar_50 : decode cX11_bar 50 = .ok (.aload_n 0, 1) := by decide +kernel
theorem dX11_bar_51 : decode cX11_bar 51 = .ok (.getfield 79, 3) := by decide +kernel
theorem dX11_bar_54 : decode cX11_bar 54 = .ok (.invokevirtual 125, 3) := by decide +kernel
theorem dX11_bar_57 : decode cX11_bar 57 = .ok (.iload_n 3, 1) := by decide +kernel
theorem dX11_bar_58 : decode cX11_bar 58 = .ok (.ifCond .ne 7, 3) := by decide +kernel
theorem dX11_bar_61 : decode cX11_bar 61 = .ok (.iconst 1, 1) := by decide +kernel
theorem dX11_bar_62 : decode cX11_bar 62 = .ok (.goto 4, 3) := by decide +kernel
theorem dX11_bar_65 : decode cX11_bar 65 = .ok (.iconst 0, 1) := by decide +kernel
theorem dX11_bar_66 : decode cX11_bar 66 = .ok (.ireturn, 1) := by decide +kernel
theorem dX11_trust_0 : decode cX11_trust 0 = .ok (.aload_n 0, 1) := by decide +kernel
theorem dX11_trust_1 : decode cX11_trust 1 = .ok (.iload_n 1, 1) := by decide +kernel
theorem dX11_trust_2 : decode cX11_trust 2 = .ok (.iload_n 2, 1) := by decide +kernel
theorem dX11_trust_3 : decode cX11_trust 3 = .ok (.invokevirtual 115, 3) := by decide +kernel
theorem dX11_trust_6 : decode cX11_trust 6 = .ok (.aload_n 0, 1) := by decide +kernel
theorem dX11_trust_7 : decode cX11_trust 7 = .ok (.getfield 10, 3) := by decide +kernel
theorem dX11_trust_10 : decode cX11_trust 10 = .ok (.getfield 128, 3) := by decide +kernel
theorem dX11_trust_13 : decode cX11_trust 13 = .ok (.iload_n 2, 1) := by decide +kernel
theorem dX11_trust_14 : decode cX11_trust 14 = .ok (.iaload, 1) := by decide +kernel
theorem dX11_trust_15 : decode cX11_trust 15 = .ok (.iload_n 1, 1) := by decide +kernel
theorem dX11_trust_16 : decode cX11_trust 16 = .ok (.invokestatic 121, 3) := by decide +kernel
theorem dX11_trust_19 : decode cX11_trust 19 = .ok (.istore 4, 2) := by decide +kernel
theorem dX11_trust_21 : decode cX11_trust 21 = .ok (.iload 4, 2) := by decide +kernel
theorem dX11_trust_23 : decode cX11_trust 23 = .ok (.iload_n 3, 1) := by decide +kernel
theorem dX11_trust_24 : decode cX11_trust 24 = .ok (.if_icmp .eq 25, 3) := by decide +kernel
theorem dX11_trust_27 : decode cX11_trust 27 = .ok (.aload_n 0, 1) := by decide +kernel
theorem dX11_trust_28 : decode cX11_trust 28 = .ok (.getfield 10, 3) := by decide +kernel
theorem dX11_trust_31 : decode cX11_trust 31 = .ok (.getfield 128, 3) := by decide +kernel
theorem dX11_trust_34 : decode cX11_trust 34 = .ok (.iload_n 2, 1) := by decide +kernel
theorem dX11_trust_35 : decode cX11_trust 35 = .ok (.dup2, 1) := by decide +kernel
theorem dX11_trust_36 : decode cX11_trust 36 = .ok (.iaload, 1) := by decide +kernel
theorem dX11_trust_37 : decode cX11_trust 37 = .ok (.iconst 1, 1) := by decide +kernel
theorem dX11_trust_38 : decode cX11_trust 38 = .ok (.iload_n 1, 1) := by decide +kernel
theorem dX11_trust_39 : decode cX11_trust 39 = .ok (.ishl, 1) := by decide +kernel
theorem dX11_trust_40 : decode cX11_trust 40 = .ok (.ixor, 1) := by decide +kernel
theorem dX11_trust_41 : decode cX11_trust 41 = .ok (.iastore, 1) := by decide +kernel
theorem dX11_trust_42 : decode cX11_trust 42 = .ok (.aload_n 0, 1) := by decide +kernel
theorem dX11_trust_43 : decode cX11_trust 43 = .ok (.getfield 79, 3) := by decide +kernel
theorem dX11_trust_46 : decode cX11_trust 46 = .ok (.invokevirtual 125, 3) := by decide +kernel
theorem dX11_trust_49 : decode cX11_trust 49 = .ok (.iload 4, 2) := by decide +kernel
theorem dX11_trust_51 : decode cX11_trust 51 = .ok (.ireturn, 1) := by decide +kernel
theorem dX11_holder_0 : decode cX11_holder 0 = .ok (.aload_n 0, 1) := by decide +kernel
theorem dX11_holder_1 : decode cX11_holder 1 = .ok (.iload_n 1, 1) := by decide +kernel
theorem dX11_holder_2 : decode cX11_holder 2 = .ok (.invokevirtual 131, 3) := by decide +kernel
theorem dX11_holder_5 : decode cX11_holder 5 = .ok (.aload_n 0, 1) := by decide +kernel
theorem dX11_holder_6 : decode cX11_holder 6 = .ok (.getfield 10, 3) := by decide +kernel
theorem dX11_holder_9 : decode cX11_holder 9 = .ok (.iload_n 1, 1) := by decide +kernel
theorem dX11_holder_10 : decode cX11_holder 10 = .ok (.invokevirtual 134, 3) := by decide +kernel
theorem dX11_holder_13 : decode cX11_holder 13 = .ok (.ireturn, 1) := by decide +kernel
theorem dX11_pay_0 : decode cX11_pay 0 = .ok (.aload_n 0, 1) := by decide +kernel
theorem dX11_pay_1 : decode cX11_pay 1 = .ok (.iload_n 1, 1) := by decide +kernel
theorem dX11_pay_2 : decode cX11_pay 2 = .ok (.invokevirtual 101, 3) := by decide +kernel
theorem dX11_pay_5 : decode cX11_pay 5 = .ok (.aload_n 0, 1) := by decide +kernel
theorem dX11_pay_6 : decode cX11_pay 6 = .ok (.iload_n 2, 1) := by decide +kernel
theorem dX11_pay_7 : decode cX11_pay 7 = .ok (.iconst 0, 1) := by decide +kernel
theorem dX11_pay_8 : decode cX11_pay 8 = .ok (.ldc 218, 2) := by decide +kernel
theorem dX11_pay_10 : decode cX11_pay 10 = .ok (.invokevirtual 175, 3) := by decide +kernel
theorem dX11_pay_13 : decode cX11_pay 13 = .ok (.aload_n 0, 1) := by decide +kernel
theorem dX11_pay_14 : decode cX11_pay 14 = .ok (.getfield 10, 3) := by decide +kernel
theorem dX11_pay_17 : decode cX11_pay 17 = .ok (.getfield 228, 3) := by decide +kernel
theorem dX11_pay_20 : decode cX11_pay 20 = .ok (.iload_n 1, 1) := by decide +kernel
theorem dX11_pay_21 : decode cX11_pay 21 = .ok (.iaload, 1) := by decide +kernel
theorem dX11_pay_22 : decode cX11_pay 22 = .ok (.istore_n 3, 1) := by decide +kernel
theorem dX11_pay_23 : decode cX11_pay 23 = .ok (.aload_n 0, 1) := by decide +kernel
theorem dX11_pay_24 : decode cX11_pay 24 = .ok (.getfield 10, 3) := by decide +kernel
theorem dX11_pay_27 : decode cX11_pay 27 = .ok (.getfield 228, 3) := by decide +kernel
theorem dX11_pay_30 : decode cX11_pay 30 = .ok (.iload_n 1, 1) := by decide +kernel
theorem dX11_pay_31 : decode cX11_pay 31 = .ok (.iload_n 2, 1) := by decide +kernel
theorem dX11_pay_32 : decode cX11_pay 32 = .ok (.iastore, 1) := by decide +kernel
theorem dX11_pay_33 : decode cX11_pay 33 = .ok (.iload_n 3, 1) := by decide +kernel
theorem dX11_pay_34 : decode cX11_pay 34 = .ok (.ireturn, 1) := by decide +kernel
theorem dX11_by_0 : decode cX11_by 0 = .ok (.aload_n 0, 1) := by decide +kernel
theorem dX11_by_1 : decode cX11_by 1 = .ok (.iload_n 1, 1) := by decide +kernel
theorem dX11_by_2 : decode cX11_by 2 = .ok (.iconst 1, 1) := by decide +kernel
theorem dX11_by_3 : decode cX11_by 3 = .ok (.sipush 1000, 3) := by decide +kernel
theorem dX11_by_6 : decode cX11_by 6 = .ok (.invokevirtual 175, 3) := by decide +kernel
theorem dX11_by_9 : decode cX11_by 9 = .ok (.aload_n 0, 1) := by decide +kernel
theorem dX11_by_10 : decode cX11_by 10 = .ok (.getfield 10, 3) := by decide +kernel
theorem dX11_by_13 : decode cX11_by 13 = .ok (.getfield 231, 3) := by decide +kernel
theorem dX11_by_16 : decode cX11_by 16 = .ok (.istore_n 2, 1) := by decide +kernel
theorem dX11_by_17 : decode cX11_by 17 = .ok (.aload_n 0, 1) := by decide +kernel
theorem dX11_by_18 : decode cX11_by 18 = .ok (.getfield 10, 3) := by decide +kernel
theorem dX11_by_21 : decode cX11_by 21 = .ok (.iload_n 1, 1) := by decide +kernel
theorem dX11_by_22 : decode cX11_by 22 = .ok (.putfield 231, 3) := by decide +kernel
theorem dX11_by_25 : decode cX11_by 25 = .ok (.iload_n 2, 1) := by decide +kernel
theorem dX11_by_26 : decode cX11_by 26 = .ok (.ireturn, 1) := by decide +kernel
theorem dX11_doubt_0 : decode cX11_doubt 0 = .ok (.aload_n 0, 1) := by decide +kernel
theorem dX11_doubt_1 : decode cX11_doubt 1 = .ok (.iload_n 1, 1) := by decide +kernel
theorem dX11_doubt_2 : decode cX11_doubt 2 = .ok (.invokevirtual 101, 3) := by decide +kernel
theorem dX11_doubt_5 : decode cX11_doubt 5 = .ok (.aload_n 0, 1) := by decide +kernel
theorem dX11_doubt_6 : decode cX11_doubt 6 = .ok (.iload_n 2, 1) := by decide +kernel
theorem dX11_doubt_7 : decode cX11_doubt 7 = .ok (.invokevirtual 90, 3) := by decide +kernel
theorem dX11_doubt_10 : decode cX11_doubt 10 = .ok (.aload_n 0, 1) := by decide +kernel
theorem dX11_doubt_11 : decode cX11_doubt 11 = .ok (.iload_n 3, 1) := by decide +kernel
theorem dX11_doubt_12 : decode cX11_doubt 12 = .ok (.iconst 1, 1) := by decide +kernel
theorem dX11_doubt_13 : decode cX11_doubt 13 = .ok (.bipush 9, 2) := by decide +kernel
theorem dX11_doubt_15 : decode cX11_doubt 15 = .ok (.invokevirtual 175, 3) := by decide +kernel
theorem dX11_doubt_18 : decode cX11_doubt 18 = .ok (.aload_n 0, 1) := by decide +kernel
theorem dX11_doubt_19 : decode cX11_doubt 19 = .ok (.getfield 10, 3) := by decide +kernel
theorem dX11_doubt_22 : decode cX11_doubt 22 = .ok (.iload_n 1, 1) := by decide +kernel
theorem dX11_doubt_23 : decode cX11_doubt 23 = .ok (.iload_n 2, 1) := by decide +kernel
theorem dX11_doubt_24 : decode cX11_doubt 24 = .ok (.iload_n 3, 1) := by decide +kernel
theorem dX11_doubt_25 : decode cX11_doubt 25 = .ok (.invokevirtual 292, 3) := by decide +kernel
theorem dX11_doubt_28 : decode cX11_doubt 28 = .ok (.ireturn, 1) := by decide +kernel
theorem dX11_upper_0 : decode cX11_upper 0 = .ok (.aload_n 0, 1) := by decide +kernel
theorem dX11_upper_1 : decode cX11_upper 1 = .ok (.getfield 221, 3) := by decide +kernel
theorem dX11_upper_4 : decode cX11_upper 4 = .ok (.lreturn, 1) := by decide +kernel
theorem dX11_lower_0 : decode cX11_lower 0 = .ok (.aload_n 0, 1) := by decide +kernel
theorem dX11_lower_1 : decode cX11_lower 1 = .ok (.getfield 225, 3) := by decide +kernel
theorem dX11_lower_4 : decode cX11_lower 4 = .ok (.lreturn, 1) := by decide +kernel
theorem dX11_fault_0 : decode cX11_fault 0 = .ok (.iload_n 1, 1) := by decide +kernel
theorem dX11_fault_1 : decode cX11_fault 1 = .ok (.ifCond .ne 11, 3) := by decide +kernel
theorem dX11_fault_4 : decode cX11_fault 4 = .ok (.aload_n 0, 1) := by decide +kernel
theorem dX11_fault_5 : decode cX11_fault 5 = .ok (.getfield 23, 3) := by decide +kernel
theorem dX11_fault_8 : decode cX11_fault 8 = .ok (.getfield 169, 3) := by decide +kernel
theorem dX11_fault_11 : decode cX11_fault 11 = .ok (.ireturn, 1) := by decide +kernel
theorem dX11_fault_12 : decode cX11_fault 12 = .ok (.iload_n 1, 1) := by decide +kernel
theorem dX11_fault_13 : decode cX11_fault 13 = .ok (.iconst 1, 1) := by decide +kernel
theorem dX11_fault_14 : decode cX11_fault 14 = .ok (.if_icmp .ne 13, 3) := by decide +kernel
theorem dX11_fault_17 : decode cX11_fault 17 = .ok (.aload_n 0, 1) := by decide +kernel
theorem dX11_fault_18 : decode cX11_fault 18 = .ok (.getfield 23, 3) := by decide +kernel
theorem dX11_fault_21 : decode cX11_fault 21 = .ok (.getfield 172, 3) := by decide +kernel
theorem dX11_fault_24 : decode cX11_fault 24 = .ok (.goto 4, 3) := by decide +kernel
theorem dX11_fault_27 : decode cX11_fault 27 = .ok (.iconst (-1), 1) := by decide +kernel
theorem dX11_fault_28 : decode cX11_fault 28 = .ok (.ireturn, 1) := by decide +kernel
theorem s_Cwant {l : Launch} {E : aE} {N : Nat} {S : aS} {M : aM} (hfl : l.stackTraces = false) (h i s : Int) (hC : lyC S) (A : aM) (hR : RC M N S A) (hA : TOK (A 0)) : aMt l E pX11_want [(2, 0), (0, h), (0, i), (0, s)] N S M (opC M N S 0 (spWant A h i s) (fun k => if k = 1 then 2 else 0)) := by
  refine a_met hfl rfl (by decide +kernel) (Nat.le_of_ble_eq_true rfl) ?_
  have c0 : M 1 1 = A 0 0 := hR.1.1.1
  have t0 := hA.1
  have t9 := hA.2.2.2.2.2.2.2.2.2.2.2.2.2.2.2.2.2.1
  refine x_aload_n (pc := 0) dX11_want_0 rfl rfl ?_
  refine x_iload_n (pc := 1) dX11_want_1 rfl rfl ?_
  refine x_callV1 (pc := 2) dX11_want_2 rfl kX11_101 (s_needHouse hfl _ hC) (sC_0 hC) rfl rfl (Nat.le_of_ble_eq_true rfl) (k_N (fun h_2 => ?_)) (n_N (fun h_2 => (by have e9 : spWant A h i s = (1, 0, A) := (by unfold spWant; (repeat' split) <;> first | rfl | (exfalso; omega)); rw [e9]; exact ⟨rfl, rfl, fun _ _ _ _ => rfl, hR, Or.inr ⟨show ¬ (1 : Int) = 0 by decide, rfl⟩⟩)))
  refine x_aload_n (pc := 5) dX11_want_5 rfl rfl ?_
  refine x_iload_n (pc := 6) dX11_want_6 rfl rfl ?_
  refine x_bipush (pc := 7) dX11_want_7 (by decide) ?_
  refine x_callV2 (pc := 9) dX11_want_9 rfl kX11_104 (s_needMonth hfl _ _) (sC_0 hC) rfl rfl (Nat.le_of_ble_eq_true rfl) (k_N (fun h_9 => ?_)) (n_N (fun h_9 => (by have e9 : spWant A h i s = (1, 0, A) := (by unfold spWant; (repeat' split) <;> first | rfl | (exfalso; omega)); rw [e9]; exact ⟨rfl, rfl, fun _ _ _ _ => rfl, hR, Or.inr ⟨show ¬ (1 : Int) = 0 by decide, rfl⟩⟩)))
  refine x_aload_n (pc := 12) dX11_want_12 rfl rfl ?_
  refine x_iload_n (pc := 13) dX11_want_13 rfl rfl ?_
  refine x_callV1 (pc := 14) dX11_want_14 rfl kX11_90 (s_needSacks hfl _ hC) (sC_0 hC) rfl rfl (Nat.le_of_ble_eq_true rfl) (k_N (fun h_14 => ?_)) (n_N (fun h_14 => (by have e9 : spWant A h i s = (2, 0, A) := (by unfold spWant; (repeat' split) <;> first | rfl | (exfalso; omega)); rw [e9]; exact ⟨rfl, rfl, fun _ _ _ _ => rfl, hR, Or.inr ⟨show ¬ (2 : Int) = 0 by decide, rfl⟩⟩)))
  refine x_iload_n (pc := 17) dX11_want_17 rfl rfl ?_
  refine x_bipush (pc := 18) dX11_want_18 (by decide) ?_
  refine x_imul (pc := 20) dX11_want_20 (by omega) ?_
  refine x_iload_n (pc := 21) dX11_want_21 rfl rfl ?_
  refine x_iadd (pc := 22) dX11_want_22 (by omega) ?_
  refine x_istore (pc := 23) dX11_want_23 (by decide) rfl ?_
  refine x_aload_n (pc := 25) dX11_want_25 rfl rfl ?_
  refine x_getR (jj := 0) (pc := 26) dX11_want_26 fX11_10 (sC_0 hC) rfl (by decide) rfl rC_0_0 ?_
  refine x_getR (jj := 3) (pc := 29) dX11_want_29 fX11_108 (hC.2.1).2.1 rfl (by decide) rfl rS_3 ?_
  refine x_iload (pc := 32) dX11_want_32 rfl ?_
  refine x_ialoadV (pc := 34) dX11_want_34 (hC.2.1).2.2.2.1 (by omega) (by (repeat (first | rewrite [up_s] | rewrite [up_i (by omega)] | rewrite [up_a (by omega)])); rfl) (fun g_34 => ?_)
  refine x_istore (pc := 35) dX11_want_35 (by decide) rfl ?_
  refine x_aload_n (pc := 37) dX11_want_37 rfl rfl ?_
  refine x_getR (jj := 0) (pc := 38) dX11_want_38 fX11_10 (sC_0 hC) rfl (by decide) rfl rC_0_0 ?_
  refine x_getR (jj := 3) (pc := 41) dX11_want_41 fX11_108 (hC.2.1).2.1 rfl (by decide) rfl rS_3 ?_
  refine x_iload (pc := 44) dX11_want_44 rfl ?_
  refine x_iload_n (pc := 46) dX11_want_46 rfl rfl ?_
  refine x_iastore (pc := 47) dX11_want_47 (hC.2.1).2.2.2.1 (by omega) ?_
  refine x_aload_n (pc := 48) dX11_want_48 rfl rfl ?_
  refine x_iload_n (pc := 49) dX11_want_49 rfl rfl ?_
  refine x_callV1 (pc := 50) dX11_want_50 rfl kX11_98 (s_forgetHouse hfl _ hC) (sC_0 hC) rfl rfl (Nat.le_of_ble_eq_true rfl) (k_U (fun M9 hM9 => ?_)) n_U
  subst hM9
  refine x_iload (pc := 53) dX11_want_53 rfl ?_
  refine x_ireturn (pc := 55) dX11_want_55 rfl (by decide) ?_
  have e9 : spWant A h i s = (0, A 0 (8 + 6 * h + i), up A 0 (8 + 6 * h + i) s) := by
    unfold spWant
    (repeat' split) <;> first | rfl | (exfalso; omega)
  rw [e9]
  have g := hR.1.1.2.2.1 (h * 6 + i) (by omega) (by omega)
  rw [g, show 8 + (h * 6 + i) = 8 + 6 * h + i by omega]
  exact ⟨rfl, rfl, fun b j x y => by rw [up_a (by omega), fgM_a (by omega), up_a (by omega)], RC.one hR t9 (h := h) ⟨by omega, by omega⟩ (by omega) (by omega) (fun j a1 a2 a3 a4 a5 => by omega) (by rw [show 8 + 6 * h + i = 8 + (h * 6 + i) by omega]; exact hR.1.1.u8 (by omega)), Or.inl ⟨rfl, rfl⟩⟩
theorem s_Ccellar {l : Launch} {E : aE} {N : Nat} {S : aS} {M : aM} (hfl : l.stackTraces = false) (h s : Int) (hC : lyC S) (A : aM) (hR : RC M N S A) (hA : TOK (A 0)) : aMt l E pX11_cellar [(2, 0), (0, h), (0, s)] N S M (opC M N S 0 (spCellar A h s) (fun k => if k = 1 then 2 else 0)) := by
  refine a_met hfl rfl (by decide +kernel) (Nat.le_of_ble_eq_true rfl) ?_
  have c0 : M 1 1 = A 0 0 := hR.1.1.1
  have t0 := hA.1
  have t9 := hA.2.2.2.2.2.2.2.2.2.2.2.2.2.2.2.2.2.1
  refine x_aload_n (pc := 0) dX11_cellar_0 rfl rfl ?_
  refine x_iload_n (pc := 1) dX11_cellar_1 rfl rfl ?_
  refine x_callV1 (pc := 2) dX11_cellar_2 rfl kX11_101 (s_needHouse hfl _ hC) (sC_0 hC) rfl rfl (Nat.le_of_ble_eq_true rfl) (k_N (fun h_2 => ?_)) (n_N (fun h_2 => (by have e9 : spCellar A h s = (1, 0, A) := (by unfold spCellar; (repeat' split) <;> first | rfl | (exfalso; omega)); rw [e9]; exact ⟨rfl, rfl, fun _ _ _ _ => rfl, hR, Or.inr ⟨show ¬ (1 : Int) = 0 by decide, rfl⟩⟩)))
  refine x_aload_n (pc := 5) dX11_cellar_5 rfl rfl ?_
  refine x_iload_n (pc := 6) dX11_cellar_6 rfl rfl ?_
  refine x_callV1 (pc := 7) dX11_cellar_7 rfl kX11_90 (s_needSacks hfl _ hC) (sC_0 hC) rfl rfl (Nat.le_of_ble_eq_true rfl) (k_N (fun h_7 => ?_)) (n_N (fun h_7 => (by have e9 : spCellar A h s = (2, 0, A) := (by unfold spCellar; (repeat' split) <;> first | rfl | (exfalso; omega)); rw [e9]; exact ⟨rfl, rfl, fun _ _ _ _ => rfl, hR, Or.inr ⟨show ¬ (2 : Int) = 0 by decide, rfl⟩⟩)))
  refine x_aload_n (pc := 10) dX11_cellar_10 rfl rfl ?_
  refine x_getR (jj := 0) (pc := 11) dX11_cellar_11 fX11_10 (sC_0 hC) rfl (by decide) rfl rC_0_0 ?_
  refine x_getR (jj := 2) (pc := 14) dX11_cellar_14 fX11_112 (hC.2.1).2.1 rfl (by decide) rfl rS_2 ?_
  refine x_iload_n (pc := 17) dX11_cellar_17 rfl rfl ?_
  refine x_ialoadV (pc := 18) dX11_cellar_18 (hC.2.1).2.2.1 (by omega) (by (repeat (first | rewrite [up_s] | rewrite [up_i (by omega)] | rewrite [up_a (by omega)])); rfl) (fun g_18 => ?_)
  refine x_istore_n (pc := 19) dX11_cellar_19 rfl (by decide) rfl ?_
  refine x_aload_n (pc := 20) dX11_cellar_20 rfl rfl ?_
  refine x_getR (jj := 0) (pc := 21) dX11_cellar_21 fX11_10 (sC_0 hC) rfl (by decide) rfl rC_0_0 ?_
  refine x_getR (jj := 2) (pc := 24) dX11_cellar_24 fX11_112 (hC.2.1).2.1 rfl (by decide) rfl rS_2 ?_
  refine x_iload_n (pc := 27) dX11_cellar_27 rfl rfl ?_
  refine x_iload_n (pc := 28) dX11_cellar_28 rfl rfl ?_
  refine x_iastore (pc := 29) dX11_cellar_29 (hC.2.1).2.2.1 (by omega) ?_
  refine x_aload_n (pc := 30) dX11_cellar_30 rfl rfl ?_
  refine x_iload_n (pc := 31) dX11_cellar_31 rfl rfl ?_
  refine x_callV1 (pc := 32) dX11_cellar_32 rfl kX11_98 (s_forgetHouse hfl _ hC) (sC_0 hC) rfl rfl (Nat.le_of_ble_eq_true rfl) (k_U (fun M9 hM9 => ?_)) n_U
  subst hM9
  refine x_iload_n (pc := 35) dX11_cellar_35 rfl rfl ?_
  refine x_ireturn (pc := 36) dX11_cellar_36 rfl (by decide) ?_
  have e9 : spCellar A h s = (0, A 0 (1 + h), up A 0 (1 + h) s) := by
    unfold spCellar
    (repeat' split) <;> first | rfl | (exfalso; omega)
  rw [e9]
  have g := hR.1.1.2.1 h (by omega) (by omega)
  rw [g]
  exact ⟨rfl, rfl, fun b j x y => by rw [up_a (by omega), fgM_a (by omega), up_a (by omega)], RC.one hR t9 (h := h) ⟨by omega, by omega⟩ (by omega) (by omega) (fun j a1 a2 a3 a4 a5 => a4) (hR.1.1.u7 (by omega)), Or.inl ⟨rfl, rfl⟩⟩
theorem s_Cpay {l : Launch} {E : aE} {N : Nat} {S : aS} {M : aM} (hfl : l.stackTraces = false) (h v : Int) (hC : lyC S) (A : aM) (hR : RC M N S A) (hA : TOK (A 0)) : aMt l E pX11_pay [(2, 0), (0, h), (0, v)] N S M (opC M N S 0 (spPay A h v) (fun k => if k = 1 then 2 else 0)) := by
  refine a_met hfl rfl (by decide +kernel) (Nat.le_of_ble_eq_true rfl) ?_
  have c0 : M 1 1 = A 0 0 := hR.1.1.1
  have t0 := hA.1
  have t9 := hA.2.2.2.2.2.2.2.2.2.2.2.2.2.2.2.2.2.1
  refine x_aload_n (pc := 0) dX11_pay_0 rfl rfl ?_
  refine x_iload_n (pc := 1) dX11_pay_1 rfl rfl ?_
  refine x_callV1 (pc := 2) dX11_pay_2 rfl kX11_101 (s_needHouse hfl _ hC) (sC_0 hC) rfl rfl (Nat.le_of_ble_eq_true rfl) (k_N (fun h_2 => ?_)) (n_N (fun h_2 => (by have e9 : spPay A h v = (1, 0, A) := (by unfold spPay; (repeat' split) <;> first | rfl | (exfalso; omega)); rw [e9]; exact ⟨rfl, rfl, fun _ _ _ _ => rfl, hR, Or.inr ⟨show ¬ (1 : Int) = 0 by decide, rfl⟩⟩)))
  refine x_aload_n (pc := 5) dX11_pay_5 rfl rfl ?_
  refine x_iload_n (pc := 6) dX11_pay_6 rfl rfl ?_
  refine x_iconst (pc := 7) dX11_pay_7 (by decide) ?_
  refine x_ldc (n := 100000) (pc := 8) cX11_218 (by decide) dX11_pay_8 ?_
  refine x_callV3 (pc := 10) dX11_pay_10 rfl kX11_175 (s_needWithin hfl _ _ _) (sC_0 hC) rfl rfl (Nat.le_of_ble_eq_true rfl) (k_N (fun h_10 => ?_)) (n_N (fun h_10 => (by have e9 : spPay A h v = (2, 0, A) := (by unfold spPay; (repeat' split) <;> first | rfl | (exfalso; omega)); rw [e9]; exact ⟨rfl, rfl, fun _ _ _ _ => rfl, hR, Or.inr ⟨show ¬ (2 : Int) = 0 by decide, rfl⟩⟩)))
  refine x_aload_n (pc := 13) dX11_pay_13 rfl rfl ?_
  refine x_getR (jj := 0) (pc := 14) dX11_pay_14 fX11_10 (sC_0 hC) rfl (by decide) rfl rC_0_0 ?_
  refine x_getR (jj := 6) (pc := 17) dX11_pay_17 fX11_228 (hC.2.1).2.1 rfl (by decide) rfl rS_6 ?_
  refine x_iload_n (pc := 20) dX11_pay_20 rfl rfl ?_
  refine x_ialoadV (pc := 21) dX11_pay_21 (hC.2.1).2.2.2.2.2.2.1 (by omega) (by (repeat (first | rewrite [up_s] | rewrite [up_i (by omega)] | rewrite [up_a (by omega)])); rfl) (fun g_21 => ?_)
  refine x_istore_n (pc := 22) dX11_pay_22 rfl (by decide) rfl ?_
  refine x_aload_n (pc := 23) dX11_pay_23 rfl rfl ?_
  refine x_getR (jj := 0) (pc := 24) dX11_pay_24 fX11_10 (sC_0 hC) rfl (by decide) rfl rC_0_0 ?_
  refine x_getR (jj := 6) (pc := 27) dX11_pay_27 fX11_228 (hC.2.1).2.1 rfl (by decide) rfl rS_6 ?_
  refine x_iload_n (pc := 30) dX11_pay_30 rfl rfl ?_
  refine x_iload_n (pc := 31) dX11_pay_31 rfl rfl ?_
  refine x_iastore (pc := 32) dX11_pay_32 (hC.2.1).2.2.2.2.2.2.1 (by omega) ?_
  refine x_iload_n (pc := 33) dX11_pay_33 rfl rfl ?_
  refine x_ireturn (pc := 34) dX11_pay_34 rfl (by decide) ?_
  have e9 : spPay A h v = (0, A 0 (148 + h), up A 0 (148 + h) v) := by
    unfold spPay
    (repeat' split) <;> first | rfl | (exfalso; omega)
  rw [e9]
  have g := hR.1.1.2.2.2.2.2.1 h (by omega) (by omega)
  rw [g]
  exact ⟨rfl, rfl, fun b j x y => up_a (by omega), RC.free hR t9 (by omega) (by omega) (by omega) (hR.1.1.u11 (by omega)), Or.inl ⟨rfl, rfl⟩⟩
theorem s_Cby {l : Launch} {E : aE} {N : Nat} {S : aS} {M : aM} (hfl : l.stackTraces = false) (v : Int) (hC : lyC S) (A : aM) (hR : RC M N S A) (hA : TOK (A 0)) : aMt l E pX11_by [(2, 0), (0, v)] N S M (opC M N S 0 (spBy A v) (fun _ => 0)) := by
  refine a_met hfl rfl (by decide +kernel) (Nat.le_of_ble_eq_true rfl) ?_
  have c0 : M 1 1 = A 0 0 := hR.1.1.1
  have t0 := hA.1
  have t9 := hA.2.2.2.2.2.2.2.2.2.2.2.2.2.2.2.2.2.1
  refine x_aload_n (pc := 0) dX11_by_0 rfl rfl ?_
  refine x_iload_n (pc := 1) dX11_by_1 rfl rfl ?_
  refine x_iconst (pc := 2) dX11_by_2 (by decide) ?_
  refine x_sipush (pc := 3) dX11_by_3 (by decide) ?_
  refine x_callV3 (pc := 6) dX11_by_6 rfl kX11_175 (s_needWithin hfl _ _ _) (sC_0 hC) rfl rfl (Nat.le_of_ble_eq_true rfl) (k_N (fun h_6 => ?_)) (n_N (fun h_6 => (by have e9 : spBy A v = (1, 0, A) := (by unfold spBy; (repeat' split) <;> first | rfl | (exfalso; omega)); rw [e9]; exact ⟨rfl, rfl, fun _ _ _ _ => rfl, hR, Or.inr ⟨show ¬ (1 : Int) = 0 by decide, rfl⟩⟩)))
  refine x_aload_n (pc := 9) dX11_by_9 rfl rfl ?_
  refine x_getR (jj := 0) (pc := 10) dX11_by_10 fX11_10 (sC_0 hC) rfl (by decide) rfl rC_0_0 ?_
  refine x_getIV (jj := 7) (pc := 13) dX11_by_13 fX11_231 (hC.2.1).2.1 rfl (by decide) rfl (by (repeat (first | rewrite [up_s] | rewrite [up_i (by omega)] | rewrite [up_a (by omega)])); rfl) ?_
  refine x_istore_n (pc := 16) dX11_by_16 rfl (by decide) rfl ?_
  refine x_aload_n (pc := 17) dX11_by_17 rfl rfl ?_
  refine x_getR (jj := 0) (pc := 18) dX11_by_18 fX11_10 (sC_0 hC) rfl (by decide) rfl rC_0_0 ?_
  refine x_iload_n (pc := 21) dX11_by_21 rfl rfl ?_
  refine x_putI (jj := 7) (pc := 22) dX11_by_22 fX11_231 (hC.2.1).2.1 rfl (by decide) rfl ?_
  refine x_iload_n (pc := 25) dX11_by_25 rfl rfl ?_
  refine x_ireturn (pc := 26) dX11_by_26 rfl (by decide) ?_
  have e9 : spBy A v = (0, A 0 155, up A 0 155 v) := by
    unfold spBy
    (repeat' split) <;> first | rfl | (exfalso; omega)
  rw [e9]
  have g := hR.1.1.2.2.2.2.2.2.1
  rw [g]
  exact ⟨rfl, rfl, fun b j x y => up_a (by omega), RC.free hR t9 (by omega) (by omega) (by omega) hR.1.1.u0, Or.inl ⟨rfl, rfl⟩⟩
theorem s_Cupper {l : Launch} {E : aE} {N : Nat} {S : aS} {M : aM} (hfl : l.stackTraces = false)  (hC : lyC S) (A : aM) (hR : RC M N S A) (hA : TOK (A 0)) : aMt l E pX11_upper [(2, 0)] N S M (opC M N S 1 (spUpper A) (fun k => if k = 1 then 2 else 0)) := by
  refine a_met hfl rfl (by decide +kernel) (Nat.le_of_ble_eq_true rfl) ?_
  have c0 : M 1 1 = A 0 0 := hR.1.1.1
  have t0 := hA.1
  have t9 := hA.2.2.2.2.2.2.2.2.2.2.2.2.2.2.2.2.2.1
  refine x_aload_n (pc := 0) dX11_upper_0 rfl rfl ?_
  refine x_getJV (jj := 10) (pc := 1) dX11_upper_1 fX11_221 (sC_0 hC) rfl (by decide) rfl (by (repeat (first | rewrite [up_s] | rewrite [up_i (by omega)] | rewrite [up_a (by omega)])); rfl) ?_
  refine x_lreturn (pc := 4) dX11_upper_4 rfl (by decide) ?_
  rw [hR.2.1.1]
  exact ⟨rfl, rfl, fun _ _ _ _ => rfl, hR, Or.inl ⟨rfl, rfl⟩⟩
theorem s_Clower {l : Launch} {E : aE} {N : Nat} {S : aS} {M : aM} (hfl : l.stackTraces = false)  (hC : lyC S) (A : aM) (hR : RC M N S A) (hA : TOK (A 0)) : aMt l E pX11_lower [(2, 0)] N S M (opC M N S 1 (spLower A) (fun k => if k = 1 then 2 else 0)) := by
  refine a_met hfl rfl (by decide +kernel) (Nat.le_of_ble_eq_true rfl) ?_
  have c0 : M 1 1 = A 0 0 := hR.1.1.1
  have t0 := hA.1
  have t9 := hA.2.2.2.2.2.2.2.2.2.2.2.2.2.2.2.2.2.1
  refine x_aload_n (pc := 0) dX11_lower_0 rfl rfl ?_
  refine x_getJV (jj := 11) (pc := 1) dX11_lower_1 fX11_225 (sC_0 hC) rfl (by decide) rfl (by (repeat (first | rewrite [up_s] | rewrite [up_i (by omega)] | rewrite [up_a (by omega)])); rfl) ?_
  refine x_lreturn (pc := 4) dX11_lower_4 rfl (by decide) ?_
  rw [hR.2.1.2]
  exact ⟨rfl, rfl, fun _ _ _ _ => rfl, hR, Or.inl ⟨rfl, rfl⟩⟩
theorem s_Cfault {l : Launch} {E : aE} {N : Nat} {S : aS} {M : aM} (hfl : l.stackTraces = false) (w : Int) (hC : lyC S) (A : aM) (hR : RC M N S A) (hA : TOK (A 0)) : aMt l E pX11_fault [(2, 0), (0, w)] N S M (opC M N S 0 (spFault A w) (fun k => if k = 1 then 2 else 0)) := by
  refine a_met hfl rfl (by decide +kernel) (Nat.le_of_ble_eq_true rfl) ?_
  have c0 : M 1 1 = A 0 0 := hR.1.1.1
  have t0 := hA.1
  have t9 := hA.2.2.2.2.2.2.2.2.2.2.2.2.2.2.2.2.2.1
  refine x_iload_n (pc := 0) dX11_fault_0 rfl rfl ?_
  refine x_if_ne (tgt := 12) (pc := 1) dX11_fault_1 (by decide) (fun c_1 => ?_) (fun c_1 => ?_)
  · refine x_iload_n (pc := 12) dX11_fault_12 rfl rfl ?_
    refine x_iconst (pc := 13) dX11_fault_13 (by decide) ?_
    refine x_icmp_ne (tgt := 27) (pc := 14) dX11_fault_14 (by decide) (fun c_14 => ?_) (fun c_14 => ?_)
    · refine x_iconst (pc := 27) dX11_fault_27 (by decide) ?_
      refine x_ireturn (pc := 28) dX11_fault_28 rfl (by decide) ?_
      refine ⟨rfl, rfl, fun _ _ _ _ => rfl, hR, Or.inl ⟨rfl, ?_⟩⟩
      unfold spFault
      (repeat' split) <;> first | (exfalso; omega) | rfl | rw [hR.2.2.1.2.2.1] | rw [hR.2.2.1.2.2.2]
    · refine x_aload_n (pc := 17) dX11_fault_17 rfl rfl ?_
      refine x_getR (jj := 2) (pc := 18) dX11_fault_18 fX11_23 (sC_0 hC) rfl (by decide) rfl rC_0_2 ?_
      refine x_getIV (jj := 3) (pc := 21) dX11_fault_21 fX11_172 (sC_17 hC) rfl (by decide) rfl (by (repeat (first | rewrite [up_s] | rewrite [up_i (by omega)] | rewrite [up_a (by omega)])); rfl) ?_
      refine x_goto (tgt := 28) (pc := 24) dX11_fault_24 (by decide) ?_
      refine x_ireturn (pc := 28) dX11_fault_28 rfl (by decide) ?_
      refine ⟨rfl, rfl, fun _ _ _ _ => rfl, hR, Or.inl ⟨rfl, ?_⟩⟩
      unfold spFault
      (repeat' split) <;> first | (exfalso; omega) | rfl | rw [hR.2.2.1.2.2.1] | rw [hR.2.2.1.2.2.2]
  · refine x_aload_n (pc := 4) dX11_fault_4 rfl rfl ?_
    refine x_getR (jj := 2) (pc := 5) dX11_fault_5 fX11_23 (sC_0 hC) rfl (by decide) rfl rC_0_2 ?_
    refine x_getIV (jj := 2) (pc := 8) dX11_fault_8 fX11_169 (sC_17 hC) rfl (by decide) rfl (by (repeat (first | rewrite [up_s] | rewrite [up_i (by omega)] | rewrite [up_a (by omega)])); rfl) ?_
    refine x_ireturn (pc := 11) dX11_fault_11 rfl (by decide) ?_
    refine ⟨rfl, rfl, fun _ _ _ _ => rfl, hR, Or.inl ⟨rfl, ?_⟩⟩
    unfold spFault
    (repeat' split) <;> first | (exfalso; omega) | rfl | rw [hR.2.2.1.2.2.1] | rw [hR.2.2.1.2.2.2]
theorem s_Cdoubt {l : Launch} {E : aE} {N : Nat} {S : aS} {M : aM} (hfl : l.stackTraces = false) (h s c : Int) (hC : lyC S) (A : aM) (hR : RC M N S A) (hA : TOK (A 0)) : aMt l E pX11_doubt [(2, 0), (0, h), (0, s), (0, c)] N S M (opC M N S 0 (spDoubt A h s c) (fun k => if k = 1 then 2 else 0)) := by
  refine a_met hfl rfl (by decide +kernel) (Nat.le_of_ble_eq_true rfl) ?_
  have c0 : M 1 1 = A 0 0 := hR.1.1.1
  have t0 := hA.1
  have t9 := hA.2.2.2.2.2.2.2.2.2.2.2.2.2.2.2.2.2.1
  refine x_aload_n (pc := 0) dX11_doubt_0 rfl rfl ?_
  refine x_iload_n (pc := 1) dX11_doubt_1 rfl rfl ?_
  refine x_callV1 (pc := 2) dX11_doubt_2 rfl kX11_101 (s_needHouse hfl _ hC) (sC_0 hC) rfl rfl (Nat.le_of_ble_eq_true rfl) (k_N (fun h_2 => ?_)) (n_N (fun h_2 => (by have e9 : spDoubt A h s c = (1, 0, A) := (by unfold spDoubt; (repeat' split) <;> first | rfl | (exfalso; omega)); rw [e9]; exact ⟨rfl, rfl, fun _ _ _ _ => rfl, hR, Or.inr ⟨show ¬ (1 : Int) = 0 by decide, rfl⟩⟩)))
  refine x_aload_n (pc := 5) dX11_doubt_5 rfl rfl ?_
  refine x_iload_n (pc := 6) dX11_doubt_6 rfl rfl ?_
  refine x_callV1 (pc := 7) dX11_doubt_7 rfl kX11_90 (s_needSacks hfl _ hC) (sC_0 hC) rfl rfl (Nat.le_of_ble_eq_true rfl) (k_N (fun h_7 => ?_)) (n_N (fun h_7 => (by have e9 : spDoubt A h s c = (2, 0, A) := (by unfold spDoubt; (repeat' split) <;> first | rfl | (exfalso; omega)); rw [e9]; exact ⟨rfl, rfl, fun _ _ _ _ => rfl, hR, Or.inr ⟨show ¬ (2 : Int) = 0 by decide, rfl⟩⟩)))
  refine x_aload_n (pc := 10) dX11_doubt_10 rfl rfl ?_
  refine x_iload_n (pc := 11) dX11_doubt_11 rfl rfl ?_
  refine x_iconst (pc := 12) dX11_doubt_12 (by decide) ?_
  refine x_bipush (pc := 13) dX11_doubt_13 (by decide) ?_
  refine x_callV3 (pc := 15) dX11_doubt_15 rfl kX11_175 (s_needWithin hfl _ _ _) (sC_0 hC) rfl rfl (Nat.le_of_ble_eq_true rfl) (k_N (fun h_15 => ?_)) (n_N (fun h_15 => (by have e9 : spDoubt A h s c = (2, 0, A) := (by unfold spDoubt; (repeat' split) <;> first | rfl | (exfalso; omega)); rw [e9]; exact ⟨rfl, rfl, fun _ _ _ _ => rfl, hR, Or.inr ⟨show ¬ (2 : Int) = 0 by decide, rfl⟩⟩)))
  refine x_aload_n (pc := 18) dX11_doubt_18 rfl rfl ?_
  refine x_getR (jj := 0) (pc := 19) dX11_doubt_19 fX11_10 (sC_0 hC) rfl (by decide) rfl rC_0_0 ?_
  refine x_iload_n (pc := 22) dX11_doubt_22 rfl rfl ?_
  refine x_iload_n (pc := 23) dX11_doubt_23 rfl rfl ?_
  refine x_iload_n (pc := 24) dX11_doubt_24 rfl rfl ?_
  have td := hA.2.2.2.2.2.2.2.1 h (by omega) (by omega)
  have g := hR.1.1.2.2.2.2.2.2.2.1 h (by omega) (by omega)
  refine x_callV3 (pc := 25) dX11_doubt_25 rfl kX11_292 (s_addDoubt hfl 1 h s c hC.2.1 ⟨by omega, by omega⟩ (by omega)) (hC.2.1).2.1 rfl rfl (Nat.le_of_ble_eq_true rfl) (k_G (fun v9 M9 hM9 => ?_)) n_G
  rcases hM9 with ⟨d1, rfl, rfl⟩ | ⟨d1, rfl, rfl⟩
  · refine x_ireturn (pc := 28) dX11_doubt_28 rfl (by decide) ?_
    have e9 : spDoubt A h s c = (0, -1, A) := by
      unfold spDoubt
      (repeat' split) <;> first | rfl | (exfalso; omega)
    rw [e9]
    exact ⟨rfl, rfl, fun _ _ _ _ => rfl, hR, Or.inl ⟨rfl, rfl⟩⟩
  · refine x_ireturn (pc := 28) dX11_doubt_28 rfl (by decide) ?_
    have e9 : spDoubt A h s c = (0, A 0 (156 + h) + 1, up (up (up A 0 (163 + 4 * h + A 0 (156 + h)) s) 0 (191 + 4 * h + A 0 (156 + h)) c) 0 (156 + h) (A 0 (156 + h) + 1)) := by
      unfold spDoubt
      (repeat' split) <;> first | rfl | (exfalso; omega)
    rw [e9]
    rw [g, show h * 4 + A 0 (156 + h) = 4 * h + A 0 (156 + h) by omega]
    have z1 := RC.free hR t9 (by omega) (by omega) (by omega) (hR.1.1.u13 (i := 4 * h + A 0 (156 + h)) (v := s) (by omega))
    have z2 := RC.free z1 (by rw [up_i (by omega)]; exact t9) (by omega) (by omega) (by omega) (z1.1.1.u14 (i := 4 * h + A 0 (156 + h)) (v := c) (by omega))
    have z3 := RC.free z2 (by rw [up_i (by omega), up_i (by omega)]; exact t9) (by omega) (by omega) (by omega) (z2.1.1.u12 (i := h) (v := A 0 (156 + h) + 1) (by omega))
    rw [← Int.add_assoc, ← Int.add_assoc] at z3
    exact ⟨rfl, rfl, fun b j x y => by rw [up_a (by omega), up_a (by omega), up_a (by omega)], z3, Or.inl ⟨rfl, rfl⟩⟩
