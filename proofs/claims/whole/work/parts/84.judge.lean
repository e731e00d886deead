/-! who leaves; weights -/
def payS (p : Int → Int) (s : Int) : Int := sumN (fun h => if hb s h = 1 then p h else 0) 7
def leavesV (c p : Int → Int) (w s : Int) : Int := firstB (fun x => decide (0 < x ∧ b_and x (b_xor s (-1)) = 0 ∧ c x ≠ -1 ∧ c x * w < payS p x)) (s + 1).toNat
def wgtV (t c : Int → Int) (h : Int) : Int := if t 252 = 0 then sumN (fun m => t (8 + 6 * h + m)) (t 244).toNat else if t 252 = 1 then c (b_shl 1 h) else 1
def wOK (t c : Int → Int) (s : Int) : Bool := !(decide (t 252 = 1)) || allB (fun h => !(decide (hb s h = 1)) || !(decide (c (b_shl 1 h) = -1))) 7
def wV (t c : Int → Int) (s h : Int) : Int := if payS (wgtV t c) s = 0 then 1 else wgtV t c h
theorem wOK_iff {t c : Int → Int} {s : Int} : wOK t c s = true ↔ (t 252 = 1 → ∀ h, 0 ≤ h → h < 7 → hb s h = 1 → c (b_shl 1 h) ≠ -1) := by
  unfold wOK
  rw [Bool.or_eq_true, Bool.not_eq_true', decide_eq_false_iff_not, allB_iff]
  constructor
  · rintro (q | q) w h a b d
    · exact absurd w q
    · have := q h a (by omega)
      rw [Bool.or_eq_true, Bool.not_eq_true', Bool.not_eq_true', decide_eq_false_iff_not, decide_eq_false_iff_not] at this
      exact this.resolve_left (fun z => z d)
  · intro q
    by_cases w : t 252 = 1
    · right
      intro h a b
      rw [Bool.or_eq_true, Bool.not_eq_true', Bool.not_eq_true', decide_eq_false_iff_not, decide_eq_false_iff_not]
      by_cases d : hb s h = 1
      · exact Or.inr (q w h a (by omega) d)
      · exact Or.inl d
    · exact Or.inl w
theorem payS_r {p : Int → Int} {s b : Int} (h : ∀ i, 0 ≤ i → i < 7 → hb s i = 1 → 0 ≤ p i ∧ p i ≤ b) (hb9 : 0 ≤ b) (n : Nat) (hn : n ≤ 7) : 0 ≤ sumN (fun h => if hb s h = 1 then p h else 0) n ∧ sumN (fun h => if hb s h = 1 then p h else 0) n ≤ n * b := sumN_le fun i x y => by
  by_cases e : hb s i = 1
  · rw [if_pos e]; exact h i x (by omega) e
  · rw [if_neg e]; exact ⟨Int.le_refl 0, hb9⟩
theorem payS_cg {p q : Int → Int} {s : Int} (h : ∀ i, 0 ≤ i → i < 7 → hb s i = 1 → p i = q i) : payS p s = payS q s := sumN_congr fun i a b => by
  by_cases e : hb s i = 1
  · rw [if_pos e, if_pos e, h i a (by omega) e]
  · rw [if_neg e, if_neg e]
theorem payS_mul {p : Int → Int} {s k : Int} : payS (fun h => p h * k) s = k * payS p s := by
  have key : ∀ n : Nat, sumN (fun h => if hb s h = 1 then p h * k else 0) n = k * sumN (fun h => if hb s h = 1 then p h else 0) n := by
    intro n
    induction n with
    | zero => show (0 : Int) = k * 0; omega
    | succ n ih =>
      unfold sumN
      rw [ih, Int.mul_add]
      split
      · rw [Int.mul_comm k (p n)]
      · omega
  exact key 7
theorem wgtV_r {t c : Int → Int} (hK : TQ t) (hr : 0 ≤ t 252 ∧ t 252 ≤ 2) (hc : costs9 c) {s h : Int} (hh : 0 ≤ h ∧ h < 7) (hs : hb s h = 1) (hw : wOK t c s = true) : 0 ≤ wgtV t c h ∧ wgtV t c h ≤ 233442 := by
  unfold wgtV
  have h6 := hK.2.2.2.2.2.1
  split
  · have z := sumN_le (f := fun m => t (8 + 6 * h + m)) (c := 8) (n := (t 244).toNat) (fun m a b => by
      have := hK.2.2.1 (6 * h + m) (by omega) (by omega)
      rw [show 8 + (6 * h + m) = 8 + 6 * h + m by omega] at this
      exact this)
    omega
  · split
    · rename_i q
      have z := wOK_iff.mp hw q h hh.1 hh.2 hs
      have w := shl_pos hh
      have := hc _ w.1 w.2
      omega
    · omega
theorem wV_r {t c : Int → Int} (hK : TQ t) (hr : 0 ≤ t 252 ∧ t 252 ≤ 2) (hc : costs9 c) {s h : Int} (hh : 0 ≤ h ∧ h < 7) (hs : hb s h = 1) (hw : wOK t c s = true) : 0 ≤ wV t c s h ∧ wV t c s h ≤ 233442 := by
  have := wgtV_r hK hr hc hh hs hw
  unfold wV
  split <;> omega
theorem wV_pos {t c : Int → Int} (hK : TQ t) (hr : 0 ≤ t 252 ∧ t 252 ≤ 2) (hc : costs9 c) {s : Int} (hs : 0 < s ∧ s < 128) (hw : wOK t c s = true) : 1 ≤ payS (wV t c s) s ∧ payS (wV t c s) s ≤ 1634094 := by
  have z := payS_r (p := wV t c s) (s := s) (b := 233442) (fun i a b w => wV_r hK hr hc ⟨a, b⟩ w hw) (by omega) 7 (by omega)
  have e : payS (wV t c s) s = sumN (fun h => if hb s h = 1 then wV t c s h else 0) 7 := rfl
  by_cases q : payS (wgtV t c) s = 0
  · have e2 : payS (wV t c s) s = sumN (hb s) 7 := sumN_congr fun i a b => by
      have := hb01 (x := s) (by omega) (h := i) ⟨a, by omega⟩
      unfold wV
      rw [if_pos q]
      split <;> omega
    have := size_pos hs
    omega
  · have e2 : payS (wV t c s) s = payS (wgtV t c) s := payS_cg fun i a b w => by
      unfold wV
      rw [if_neg q]
    have z2 := payS_r (p := wgtV t c) (s := s) (b := 233442) (fun i a b w => wgtV_r hK hr hc ⟨a, b⟩ w hw) (by omega) 7 (by omega)
    have e3 : payS (wgtV t c) s = sumN (fun h => if hb s h = 1 then wgtV t c h else 0) 7 := rfl
    omega
theorem core_252 (t : Int → Int) : core t 252 = t 252 := core_hi (by omega)
/-- ends if c, else throws x; behind it post -/
def aW (post : aM → Prop) (c : Prop) (x : Nat) (N : Nat) (S : aS) : aQ := fun o N' S' M' => N' = N ∧ S' = S ∧ post M' ∧ ((c ∧ o = .inl none) ∨ (¬ c ∧ o = .inr x))
section AX84
variable {l : Launch} {E : aE} {P : aP} {Q : aQ} {kc ks N : Nat} {S : aS} {M : aM} {pc : Nat} {lo : List (Nat × aV)} {st : List aV}
theorem k_W {P' : aP} {post : aM → Prop} {c : Prop} {x : Nat} (k : ∀ M', post M' → c → aX l E P Q (kc + P'.2.2.2.2.1.cells) (ks + P'.2.2.2.2.1.slots) N S M' (pc + 3) lo st) : ∀ (r : Option aV) (N' : Nat) (S' : aS) (M' : aM), aW post c x N S (.inl r) N' S' M' → a_ex N N' S S' → aX l E P Q (kc + P'.2.2.2.2.1.cells) (ks + P'.2.2.2.2.1.slots) N' S' M' (pc + 3) lo (r.toList ++ st) := by
  intro r N' S' M' h _
  obtain ⟨rfl, rfl, hp, h⟩ := h
  rcases h with ⟨hc, e⟩ | ⟨hc, e⟩
  · cases e; exact k M' hp hc
  · cases e
theorem n_W {post : aM → Prop} {c : Prop} {x : Nat} (k : ∀ M', post M' → ¬ c → Q (.inr x) N S M') : ∀ (x9 N' : Nat) (S' : aS) (M' : aM), aW post c x N S (.inr x9) N' S' M' → a_ex N N' S S' → Q (.inr x9) N' S' M' := by
  intro x9 N' S' M' h _
  obtain ⟨rfl, rfl, hp, h⟩ := h
  rcases h with ⟨hc, e⟩ | ⟨hc, e⟩
  · cases e
  · cases e; exact k M' hp hc
end AX84
theorem dX1_judged_0 : decode cX1_judged 0 = .ok (.aload_n 0, 1) := by decide +kernel
theorem dX1_judged_1 : decode cX1_judged 1 = .ok (.getfield 27, 3) := by decide +kernel
theorem dX1_judged_4 : decode cX1_judged 4 = .ok (.getfield 61, 3) := by decide +kernel
theorem dX1_judged_7 : decode cX1_judged 7 = .ok (.getfield 65, 3) := by decide +kernel
theorem dX1_judged_10 : decode cX1_judged 10 = .ok (.i2l, 1) := by decide +kernel
theorem dX1_judged_11 : decode cX1_judged 11 = .ok (.lstore_n 2, 1) := by decide +kernel
theorem dX1_judged_12 : decode cX1_judged 12 = .ok (.aload_n 0, 1) := by decide +kernel
theorem dX1_judged_13 : decode cX1_judged 13 = .ok (.iload_n 1, 1) := by decide +kernel
theorem dX1_judged_14 : decode cX1_judged 14 = .ok (.invokevirtual 71, 3) := by decide +kernel
theorem dX1_judged_17 : decode cX1_judged 17 = .ok (.aload_n 0, 1) := by decide +kernel
theorem dX1_judged_18 : decode cX1_judged 18 = .ok (.getfield 15, 3) := by decide +kernel
theorem dX1_judged_21 : decode cX1_judged 21 = .ok (.iload_n 1, 1) := by decide +kernel
theorem dX1_judged_22 : decode cX1_judged 22 = .ok (.iaload, 1) := by decide +kernel
theorem dX1_judged_23 : decode cX1_judged 23 = .ok (.i2l, 1) := by decide +kernel
theorem dX1_judged_24 : decode cX1_judged 24 = .ok (.lload_n 2, 1) := by decide +kernel
theorem dX1_judged_25 : decode cX1_judged 25 = .ok (.lmul, 1) := by decide +kernel
theorem dX1_judged_26 : decode cX1_judged 26 = .ok (.lcmp, 1) := by decide +kernel
theorem dX1_judged_27 : decode cX1_judged 27 = .ok (.ifCond .eq 6, 3) := by decide +kernel
theorem dX1_judged_30 : decode cX1_judged 30 = .ok (.bipush (-2), 2) := by decide +kernel
theorem dX1_judged_32 : decode cX1_judged 32 = .ok (.ireturn, 1) := by decide +kernel
theorem dX1_judged_33 : decode cX1_judged 33 = .ok (.iconst 1, 1) := by decide +kernel
theorem dX1_judged_34 : decode cX1_judged 34 = .ok (.istore 4, 2) := by decide +kernel
theorem dX1_judged_36 : decode cX1_judged 36 = .ok (.iload 4, 2) := by decide +kernel
theorem dX1_judged_38 : decode cX1_judged 38 = .ok (.iload_n 1, 1) := by decide +kernel
theorem dX1_judged_39 : decode cX1_judged 39 = .ok (.if_icmp .gt 52, 3) := by decide +kernel
theorem dX1_judged_42 : decode cX1_judged 42 = .ok (.iload 4, 2) := by decide +kernel
theorem dX1_judged_44 : decode cX1_judged 44 = .ok (.iload_n 1, 1) := by decide +kernel
theorem dX1_judged_45 : decode cX1_judged 45 = .ok (.iconst (-1), 1) := by decide +kernel
theorem dX1_judged_46 : decode cX1_judged 46 = .ok (.ixor, 1) := by decide +kernel
theorem dX1_judged_47 : decode cX1_judged 47 = .ok (.iand, 1) := by decide +kernel
theorem dX1_judged_48 : decode cX1_judged 48 = .ok (.ifCond .ne 37, 3) := by decide +kernel
theorem dX1_judged_51 : decode cX1_judged 51 = .ok (.aload_n 0, 1) := by decide +kernel
theorem dX1_judged_52 : decode cX1_judged 52 = .ok (.getfield 11, 3) := by decide +kernel
theorem dX1_judged_55 : decode cX1_judged 55 = .ok (.iload 4, 2) := by decide +kernel
theorem dX1_judged_57 : decode cX1_judged 57 = .ok (.iaload, 1) := by decide +kernel
theorem dX1_judged_58 : decode cX1_judged 58 = .ok (.iconst (-1), 1) := by decide +kernel
theorem dX1_judged_59 : decode cX1_judged 59 = .ok (.if_icmp .eq 26, 3) := by decide +kernel
theorem dX1_judged_62 : decode cX1_judged 62 = .ok (.aload_n 0, 1) := by decide +kernel
theorem dX1_judged_63 : decode cX1_judged 63 = .ok (.iload 4, 2) := by decide +kernel
theorem dX1_judged_65 : decode cX1_judged 65 = .ok (.invokevirtual 71, 3) := by decide +kernel
theorem dX1_judged_68 : decode cX1_judged 68 = .ok (.aload_n 0, 1) := by decide +kernel
theorem dX1_judged_69 : decode cX1_judged 69 = .ok (.getfield 11, 3) := by decide +kernel
theorem dX1_judged_72 : decode cX1_judged 72 = .ok (.iload 4, 2) := by decide +kernel
theorem dX1_judged_74 : decode cX1_judged 74 = .ok (.iaload, 1) := by decide +kernel
theorem dX1_judged_75 : decode cX1_judged 75 = .ok (.i2l, 1) := by decide +kernel
theorem dX1_judged_76 : decode cX1_judged 76 = .ok (.lload_n 2, 1) := by decide +kernel
theorem dX1_judged_77 : decode cX1_judged 77 = .ok (.lmul, 1) := by decide +kernel
theorem dX1_judged_78 : decode cX1_judged 78 = .ok (.lcmp, 1) := by decide +kernel
theorem dX1_judged_79 : decode cX1_judged 79 = .ok (.ifCond .le 6, 3) := by decide +kernel
theorem dX1_judged_82 : decode cX1_judged 82 = .ok (.iload 4, 2) := by decide +kernel
theorem dX1_judged_84 : decode cX1_judged 84 = .ok (.ireturn, 1) := by decide +kernel
theorem dX1_judged_85 : decode cX1_judged 85 = .ok (.iinc 4 1, 3) := by decide +kernel
theorem dX1_judged_88 : decode cX1_judged 88 = .ok (.goto (-52), 3) := by decide +kernel
theorem dX1_judged_91 : decode cX1_judged 91 = .ok (.iconst (-1), 1) := by decide +kernel
theorem dX1_judged_92 : decode cX1_judged 92 = .ok (.ireturn, 1) := by decide +kernel
theorem dX1_paidBy_0 : decode cX1_paidBy 0 = .ok (.lconst 0, 1) := by decide +kernel
theorem dX1_paidBy_1 : decode cX1_paidBy 1 = .ok (.lstore_n 2, 1) := by decide +kernel
theorem dX1_paidBy_2 : decode cX1_paidBy 2 = .ok (.iconst 0, 1) := by decide +kernel
theorem dX1_paidBy_3 : decode cX1_paidBy 3 = .ok (.istore 4, 2) := by decide +kernel
theorem dX1_paidBy_5 : decode cX1_paidBy 5 = .ok (.iload 4, 2) := by decide +kernel
theorem dX1_paidBy_7 : decode cX1_paidBy 7 = .ok (.bipush 7, 2) := by decide +kernel
theorem dX1_paidBy_9 : decode cX1_paidBy 9 = .ok (.if_icmp .ge 35, 3) := by decide +kernel
theorem dX1_paidBy_12 : decode cX1_paidBy 12 = .ok (.iload_n 1, 1) := by decide +kernel
theorem dX1_paidBy_13 : decode cX1_paidBy 13 = .ok (.iload 4, 2) := by decide +kernel
theorem dX1_paidBy_15 : decode cX1_paidBy 15 = .ok (.invokestatic 54, 3) := by decide +kernel
theorem dX1_paidBy_18 : decode cX1_paidBy 18 = .ok (.ifCond .eq 20, 3) := by decide +kernel
theorem dX1_paidBy_21 : decode cX1_paidBy 21 = .ok (.lload_n 2, 1) := by decide +kernel
theorem dX1_paidBy_22 : decode cX1_paidBy 22 = .ok (.aload_n 0, 1) := by decide +kernel
theorem dX1_paidBy_23 : decode cX1_paidBy 23 = .ok (.getfield 27, 3) := by decide +kernel
theorem dX1_paidBy_26 : decode cX1_paidBy 26 = .ok (.getfield 61, 3) := by decide +kernel
theorem dX1_paidBy_29 : decode cX1_paidBy 29 = .ok (.getfield 75, 3) := by decide +kernel
theorem dX1_paidBy_32 : decode cX1_paidBy 32 = .ok (.iload 4, 2) := by decide +kernel
theorem dX1_paidBy_34 : decode cX1_paidBy 34 = .ok (.iaload, 1) := by decide +kernel
theorem dX1_paidBy_35 : decode cX1_paidBy 35 = .ok (.i2l, 1) := by decide +kernel
theorem dX1_paidBy_36 : decode cX1_paidBy 36 = .ok (.ladd, 1) := by decide +kernel
theorem dX1_paidBy_37 : decode cX1_paidBy 37 = .ok (.lstore_n 2, 1) := by decide +kernel
theorem dX1_paidBy_38 : decode cX1_paidBy 38 = .ok (.iinc 4 1, 3) := by decide +kernel
theorem dX1_paidBy_41 : decode cX1_paidBy 41 = .ok (.goto (-36), 3) := by decide +kernel
theorem dX1_paidBy_44 : decode cX1_paidBy 44 = .ok (.lload_n 2, 1) := by decide +kernel
theorem dX1_paidBy_45 : decode cX1_paidBy 45 = .ok (.lreturn, 1) := by decide +kernel
theorem dX11_judge_0 : decode cX11_judge 0 = .ok (.aload_n 0, 1) := by decide +kernel
theorem dX11_judge_1 : decode cX11_judge 1 = .ok (.iload_n 1, 1) := by decide +kernel
theorem dX11_judge_2 : decode cX11_judge 2 = .ok (.invokevirtual 131, 3) := by decide +kernel
theorem dX11_judge_5 : decode cX11_judge 5 = .ok (.aload_n 0, 1) := by decide +kernel
theorem dX11_judge_6 : decode cX11_judge 6 = .ok (.iload_n 1, 1) := by decide +kernel
theorem dX11_judge_7 : decode cX11_judge 7 = .ok (.invokevirtual 234, 3) := by decide +kernel
theorem dX11_judge_10 : decode cX11_judge 10 = .ok (.aload_n 0, 1) := by decide +kernel
theorem dX11_judge_11 : decode cX11_judge 11 = .ok (.getfield 54, 3) := by decide +kernel
theorem dX11_judge_14 : decode cX11_judge 14 = .ok (.iload_n 1, 1) := by decide +kernel
theorem dX11_judge_15 : decode cX11_judge 15 = .ok (.invokevirtual 237, 3) := by decide +kernel
theorem dX11_judge_18 : decode cX11_judge 18 = .ok (.ireturn, 1) := by decide +kernel
theorem dX12_judge_0 : decode cX12_judge 0 = .ok (.aload_n 0, 1) := by decide +kernel
theorem dX12_judge_1 : decode cX12_judge 1 = .ok (.iconst 0, 1) := by decide +kernel
theorem dX12_judge_2 : decode cX12_judge 2 = .ok (.putfield 103, 3) := by decide +kernel
theorem dX12_judge_5 : decode cX12_judge 5 = .ok (.aload_n 0, 1) := by decide +kernel
theorem dX12_judge_6 : decode cX12_judge 6 = .ok (.iload_n 1, 1) := by decide +kernel
theorem dX12_judge_7 : decode cX12_judge 7 = .ok (.invokevirtual 143, 3) := by decide +kernel
theorem dX12_judge_10 : decode cX12_judge 10 = .ok (.ifCond .ne 9, 3) := by decide +kernel
theorem dX12_judge_13 : decode cX12_judge 13 = .ok (.aload_n 0, 1) := by decide +kernel
theorem dX12_judge_14 : decode cX12_judge 14 = .ok (.iconst 1, 1) := by decide +kernel
theorem dX12_judge_15 : decode cX12_judge 15 = .ok (.invokevirtual 116, 3) := by decide +kernel
theorem dX12_judge_18 : decode cX12_judge 18 = .ok (.ireturn, 1) := by decide +kernel
theorem dX12_judge_19 : decode cX12_judge 19 = .ok (.aload_n 0, 1) := by decide +kernel
theorem dX12_judge_20 : decode cX12_judge 20 = .ok (.iload_n 1, 1) := by decide +kernel
theorem dX12_judge_21 : decode cX12_judge 21 = .ok (.invokevirtual 328, 3) := by decide +kernel
theorem dX12_judge_24 : decode cX12_judge 24 = .ok (.istore_n 2, 1) := by decide +kernel
theorem dX12_judge_25 : decode cX12_judge 25 = .ok (.iload_n 2, 1) := by decide +kernel
theorem dX12_judge_26 : decode cX12_judge 26 = .ok (.iconst (-1), 1) := by decide +kernel
theorem dX12_judge_27 : decode cX12_judge 27 = .ok (.if_icmp .ne 9, 3) := by decide +kernel
theorem dX12_judge_30 : decode cX12_judge 30 = .ok (.aload_n 0, 1) := by decide +kernel
theorem dX12_judge_31 : decode cX12_judge 31 = .ok (.iconst 2, 1) := by decide +kernel
theorem dX12_judge_32 : decode cX12_judge 32 = .ok (.invokevirtual 116, 3) := by decide +kernel
theorem dX12_judge_35 : decode cX12_judge 35 = .ok (.ireturn, 1) := by decide +kernel
theorem dX12_judge_36 : decode cX12_judge 36 = .ok (.iconst 0, 1) := by decide +kernel
theorem dX12_judge_37 : decode cX12_judge 37 = .ok (.istore_n 3, 1) := by decide +kernel
theorem dX12_judge_38 : decode cX12_judge 38 = .ok (.iload_n 3, 1) := by decide +kernel
theorem dX12_judge_39 : decode cX12_judge 39 = .ok (.bipush 7, 2) := by decide +kernel
theorem dX12_judge_41 : decode cX12_judge 41 = .ok (.if_icmp .ge 26, 3) := by decide +kernel
theorem dX12_judge_44 : decode cX12_judge 44 = .ok (.aload_n 0, 1) := by decide +kernel
theorem dX12_judge_45 : decode cX12_judge 45 = .ok (.getfield 69, 3) := by decide +kernel
theorem dX12_judge_48 : decode cX12_judge 48 = .ok (.iload_n 3, 1) := by decide +kernel
theorem dX12_judge_49 : decode cX12_judge 49 = .ok (.aload_n 0, 1) := by decide +kernel
theorem dX12_judge_50 : decode cX12_judge 50 = .ok (.getfield 9, 3) := by decide +kernel
theorem dX12_judge_53 : decode cX12_judge 53 = .ok (.sipush 148, 3) := by decide +kernel
theorem dX12_judge_56 : decode cX12_judge 56 = .ok (.iload_n 3, 1) := by decide +kernel
theorem dX12_judge_57 : decode cX12_judge 57 = .ok (.iadd, 1) := by decide +kernel
theorem dX12_judge_58 : decode cX12_judge 58 = .ok (.iaload, 1) := by decide +kernel
theorem dX12_judge_59 : decode cX12_judge 59 = .ok (.i2l, 1) := by decide +kernel
theorem dX12_judge_60 : decode cX12_judge 60 = .ok (.lastore, 1) := by decide +kernel
theorem dX12_judge_61 : decode cX12_judge 61 = .ok (.iinc 3 1, 3) := by decide +kernel
theorem dX12_judge_64 : decode cX12_judge 64 = .ok (.goto (-26), 3) := by decide +kernel
theorem dX12_judge_67 : decode cX12_judge 67 = .ok (.aload_n 0, 1) := by decide +kernel
theorem dX12_judge_68 : decode cX12_judge 68 = .ok (.iload_n 1, 1) := by decide +kernel
theorem dX12_judge_69 : decode cX12_judge 69 = .ok (.invokevirtual 348, 3) := by decide +kernel
theorem dX12_judge_72 : decode cX12_judge 72 = .ok (.iload_n 2, 1) := by decide +kernel
theorem dX12_judge_73 : decode cX12_judge 73 = .ok (.i2l, 1) := by decide +kernel
theorem dX12_judge_74 : decode cX12_judge 74 = .ok (.aload_n 0, 1) := by decide +kernel
theorem dX12_judge_75 : decode cX12_judge 75 = .ok (.getfield 9, 3) := by decide +kernel
theorem dX12_judge_78 : decode cX12_judge 78 = .ok (.sipush 155, 3) := by decide +kernel
theorem dX12_judge_81 : decode cX12_judge 81 = .ok (.iaload, 1) := by decide +kernel
theorem dX12_judge_82 : decode cX12_judge 82 = .ok (.i2l, 1) := by decide +kernel
theorem dX12_judge_83 : decode cX12_judge 83 = .ok (.lmul, 1) := by decide +kernel
theorem dX12_judge_84 : decode cX12_judge 84 = .ok (.lcmp, 1) := by decide +kernel
theorem dX12_judge_85 : decode cX12_judge 85 = .ok (.ifCond .eq 8, 3) := by decide +kernel
theorem dX12_judge_88 : decode cX12_judge 88 = .ok (.bipush (-2), 2) := by decide +kernel
theorem dX12_judge_90 : decode cX12_judge 90 = .ok (.goto 17, 3) := by decide +kernel
theorem dX12_judge_93 : decode cX12_judge 93 = .ok (.aload_n 0, 1) := by decide +kernel
theorem dX12_judge_94 : decode cX12_judge 94 = .ok (.iload_n 1, 1) := by decide +kernel
theorem dX12_judge_95 : decode cX12_judge 95 = .ok (.aload_n 0, 1) := by decide +kernel
theorem dX12_judge_96 : decode cX12_judge 96 = .ok (.getfield 9, 3) := by decide +kernel
theorem dX12_judge_99 : decode cX12_judge 99 = .ok (.sipush 155, 3) := by decide +kernel
theorem dX12_judge_102 : decode cX12_judge 102 = .ok (.iaload, 1) := by decide +kernel
theorem dX12_judge_103 : decode cX12_judge 103 = .ok (.i2l, 1) := by decide +kernel
theorem dX12_judge_104 : decode cX12_judge 104 = .ok (.invokevirtual 352, 3) := by decide +kernel
theorem dX12_judge_107 : decode cX12_judge 107 = .ok (.ireturn, 1) := by decide +kernel
theorem dX12_paid_0 : decode cX12_paid 0 = .ok (.lconst 0, 1) := by decide +kernel
theorem dX12_paid_1 : decode cX12_paid 1 = .ok (.lstore_n 2, 1) := by decide +kernel
theorem dX12_paid_2 : decode cX12_paid 2 = .ok (.iconst 0, 1) := by decide +kernel
theorem dX12_paid_3 : decode cX12_paid 3 = .ok (.istore 4, 2) := by decide +kernel
theorem dX12_paid_5 : decode cX12_paid 5 = .ok (.iload 4, 2) := by decide +kernel
theorem dX12_paid_7 : decode cX12_paid 7 = .ok (.bipush 7, 2) := by decide +kernel
theorem dX12_paid_9 : decode cX12_paid 9 = .ok (.if_icmp .ge 32, 3) := by decide +kernel
theorem dX12_paid_12 : decode cX12_paid 12 = .ok (.lload_n 2, 1) := by decide +kernel
theorem dX12_paid_13 : decode cX12_paid 13 = .ok (.iload_n 1, 1) := by decide +kernel
theorem dX12_paid_14 : decode cX12_paid 14 = .ok (.iload 4, 2) := by decide +kernel
theorem dX12_paid_16 : decode cX12_paid 16 = .ok (.invokestatic 136, 3) := by decide +kernel
theorem dX12_paid_19 : decode cX12_paid 19 = .ok (.ifCond .eq 13, 3) := by decide +kernel
theorem dX12_paid_22 : decode cX12_paid 22 = .ok (.aload_n 0, 1) := by decide +kernel
theorem dX12_paid_23 : decode cX12_paid 23 = .ok (.getfield 69, 3) := by decide +kernel
theorem dX12_paid_26 : decode cX12_paid 26 = .ok (.iload 4, 2) := by decide +kernel
theorem dX12_paid_28 : decode cX12_paid 28 = .ok (.laload, 1) := by decide +kernel
theorem dX12_paid_29 : decode cX12_paid 29 = .ok (.goto 4, 3) := by decide +kernel
theorem dX12_paid_32 : decode cX12_paid 32 = .ok (.lconst 0, 1) := by decide +kernel
theorem dX12_paid_33 : decode cX12_paid 33 = .ok (.ladd, 1) := by decide +kernel
theorem dX12_paid_34 : decode cX12_paid 34 = .ok (.lstore_n 2, 1) := by decide +kernel
theorem dX12_paid_35 : decode cX12_paid 35 = .ok (.iinc 4 1, 3) := by decide +kernel
theorem dX12_paid_38 : decode cX12_paid 38 = .ok (.goto (-33), 3) := by decide +kernel
theorem dX12_paid_41 : decode cX12_paid 41 = .ok (.lload_n 2, 1) := by decide +kernel
theorem dX12_paid_42 : decode cX12_paid 42 = .ok (.lreturn, 1) := by decide +kernel
theorem dX12_leaves_0 : decode cX12_leaves 0 = .ok (.iconst 1, 1) := by decide +kernel
theorem dX12_leaves_1 : decode cX12_leaves 1 = .ok (.istore 4, 2) := by decide +kernel
theorem dX12_leaves_3 : decode cX12_leaves 3 = .ok (.iload 4, 2) := by decide +kernel
theorem dX12_leaves_5 : decode cX12_leaves 5 = .ok (.iload_n 1, 1) := by decide +kernel
theorem dX12_leaves_6 : decode cX12_leaves 6 = .ok (.if_icmp .gt 53, 3) := by decide +kernel
theorem dX12_leaves_9 : decode cX12_leaves 9 = .ok (.iload 4, 2) := by decide +kernel
theorem dX12_leaves_11 : decode cX12_leaves 11 = .ok (.iload_n 1, 1) := by decide +kernel
theorem dX12_leaves_12 : decode cX12_leaves 12 = .ok (.iconst (-1), 1) := by decide +kernel
theorem dX12_leaves_13 : decode cX12_leaves 13 = .ok (.ixor, 1) := by decide +kernel
theorem dX12_leaves_14 : decode cX12_leaves 14 = .ok (.iand, 1) := by decide +kernel
theorem dX12_leaves_15 : decode cX12_leaves 15 = .ok (.ifCond .eq 6, 3) := by decide +kernel
theorem dX12_leaves_18 : decode cX12_leaves 18 = .ok (.goto 35, 3) := by decide +kernel
theorem dX12_leaves_21 : decode cX12_leaves 21 = .ok (.aload_n 0, 1) := by decide +kernel
theorem dX12_leaves_22 : decode cX12_leaves 22 = .ok (.iload 4, 2) := by decide +kernel
theorem dX12_leaves_24 : decode cX12_leaves 24 = .ok (.invokevirtual 307, 3) := by decide +kernel
theorem dX12_leaves_27 : decode cX12_leaves 27 = .ok (.istore 5, 2) := by decide +kernel
theorem dX12_leaves_29 : decode cX12_leaves 29 = .ok (.iload 5, 2) := by decide +kernel
theorem dX12_leaves_31 : decode cX12_leaves 31 = .ok (.iconst (-1), 1) := by decide +kernel
theorem dX12_leaves_32 : decode cX12_leaves 32 = .ok (.if_icmp .eq 21, 3) := by decide +kernel
theorem dX12_leaves_35 : decode cX12_leaves 35 = .ok (.aload_n 0, 1) := by decide +kernel
theorem dX12_leaves_36 : decode cX12_leaves 36 = .ok (.iload 4, 2) := by decide +kernel
theorem dX12_leaves_38 : decode cX12_leaves 38 = .ok (.invokevirtual 348, 3) := by decide +kernel
theorem dX12_leaves_41 : decode cX12_leaves 41 = .ok (.iload 5, 2) := by decide +kernel
theorem dX12_leaves_43 : decode cX12_leaves 43 = .ok (.i2l, 1) := by decide +kernel
theorem dX12_leaves_44 : decode cX12_leaves 44 = .ok (.lload_n 2, 1) := by decide +kernel
theorem dX12_leaves_45 : decode cX12_leaves 45 = .ok (.lmul, 1) := by decide +kernel
theorem dX12_leaves_46 : decode cX12_leaves 46 = .ok (.lcmp, 1) := by decide +kernel
theorem dX12_leaves_47 : decode cX12_leaves 47 = .ok (.ifCond .le 6, 3) := by decide +kernel
theorem dX12_leaves_50 : decode cX12_leaves 50 = .ok (.iload 4, 2) := by decide +kernel
theorem dX12_leaves_52 : decode cX12_leaves 52 = .ok (.ireturn, 1) := by decide +kernel
theorem dX12_leaves_53 : decode cX12_leaves 53 = .ok (.iinc 4 1, 3) := by decide +kernel
theorem dX12_leaves_56 : decode cX12_leaves 56 = .ok (.goto (-53), 3) := by decide +kernel
theorem dX12_leaves_59 : decode cX12_leaves 59 = .ok (.iconst (-1), 1) := by decide +kernel
theorem dX12_leaves_60 : decode cX12_leaves 60 = .ok (.ireturn, 1) := by decide +kernel
theorem s_paidBy {l : Launch} {E : aE} {N : Nat} {S : aS} {M : aM} (hfl : l.stackTraces = false) (b u : Int) (r rb rg t : Int → Int) (hG : lyG S b u r rb rg) (hH : RHs M 1 t) (hPy : ∀ h, 0 ≤ h → h < 7 → 0 ≤ t (148 + h) ∧ t (148 + h) ≤ 100000) (s : Int) : aMt l E pX1_paidBy [(2, b + 9), (0, s)] N S M (aR (1, payS (fun h => t (148 + h)) s) N S M) := by
  refine a_met hfl rfl (by decide +kernel) (Nat.le_of_ble_eq_true rfl) ?_
  have loop := a_loop1 (fun h => 0 ≤ h ∧ h ≤ 7) (fun h => (7 - h).toNat) (fun h => aX l E pX1_paidBy (aR (1, payS (fun h => t (148 + h)) s) N S M) 0 0 N S M 5 [(0, (2, b + 9)), (1, (0, s)), (2, (1, sumN (fun h => if hb s h = 1 then t (148 + h) else 0) h.toNat)), (4, (0, h))] []) (by
    intro h hI ih
    have hso := payS_r (p := fun h => t (148 + h)) (s := s) (b := 100000) (fun i a b _ => hPy i a b) (by omega) h.toNat (by omega)
    have hpy := fun (z : h < 7) => hPy h hI.1 z
    have hpy2 : h < 7 → 0 ≤ t (148 + h) ∧ t (148 + h) ≤ 100000 := hpy
    refine x_iload (pc := 5) dX1_paidBy_5 rfl ?_
    refine x_bipush (pc := 7) dX1_paidBy_7 (by decide) ?_
    refine x_icmp_ge (tgt := 44) (pc := 9) dX1_paidBy_9 (by decide) (fun c_9 => ?_) (fun c_9 => ?_)
    · refine x_lload_n (pc := 44) dX1_paidBy_44 rfl rfl ?_
      refine x_lreturn (pc := 45) dX1_paidBy_45 rfl (by decide) ?_
      refine ⟨?_, rfl, rfl, rfl⟩
      rw [show h.toNat = 7 by omega]
      rfl
    · refine x_iload_n (pc := 12) dX1_paidBy_12 rfl rfl ?_
      refine x_iload (pc := 13) dX1_paidBy_13 rfl ?_
      refine x_callSN2 (pc := 15) dX1_paidBy_15 rfl kX1_54 (s_isOf hfl _ _) rfl (Nat.le_of_ble_eq_true rfl) (k_R ?_) n_R
      have his := isOf_iff (x := s) (h := h) ⟨by omega, by omega⟩
      have his1 := isOfV01 s h
      refine x_if_eq (tgt := 38) (pc := 18) dX1_paidBy_18 (by decide) (fun c_18 => ?_) (fun c_18 => ?_)
      · refine x_iinc (pc := 38) dX1_paidBy_38 rfl (by omega) (by decide) rfl ?_
        refine x_goto (tgt := 5) (pc := 41) dX1_paidBy_41 (by decide) ?_
        have e := sumN_1 (fun h => if hb s h = 1 then t (148 + h) else 0) hI.1
        rw [if_neg (by first | assumption | omega), Int.add_zero] at e
        refine x_lo (lo' := [(0, (2, b + 9)), (1, (0, s)), (2, (1, sumN (fun h => if hb s h = 1 then t (148 + h) else 0) h.toNat)), (4, (0, h + 1))]) ⟨rfl, rfl, rfl, rfl, trivial⟩ ?_
        have z := ih (h + 1) ⟨by omega, by omega⟩ (by omega)
        rw [e] at z
        exact z
      · refine x_lload_n (pc := 21) dX1_paidBy_21 rfl rfl ?_
        refine x_aload_n (pc := 22) dX1_paidBy_22 rfl rfl ?_
        refine x_getR (jj := 0) (pc := 23) dX1_paidBy_23 fX1_27 hG.1 rfl (by decide) rfl hG.2.1.1 ?_
        refine x_getfieldN (j := 0) (host := "CoalStreet") (pc := 26) dX1_paidBy_26 klX3 (by decide) (List.mem_filter.mpr ⟨List.mem_of_getElem? (i := 365) (by decide +kernel), rfl⟩) rfl hG.2.2.2.2.2.2.2.1 (by omega) rfl hG.2.2.2.2.2.2.2.2.1.1 ?_
        refine x_getR (jj := 6) (pc := 29) dX1_paidBy_29 fX1_75 (hG.2.2.2.2.2.2.2.2.2.2.2.2.1).2.1 rfl (by decide) rfl rS_6 ?_
        refine x_iload (pc := 32) dX1_paidBy_32 rfl ?_
        refine x_ialoadV (pc := 34) dX1_paidBy_34 (hG.2.2.2.2.2.2.2.2.2.2.2.2.1).2.2.2.2.2.2.1 (by omega) (by (repeat (first | rewrite [up_s] | rewrite [up_i (by omega)] | rewrite [up_a (by omega)])); first | exact hH.2.2.2.2.2.1 h hI.1 (by omega) | rfl) (fun g_34 => ?_)
        refine x_i2l (pc := 35) dX1_paidBy_35 ?_
        refine x_ladd (pc := 36) dX1_paidBy_36 (by omega) ?_
        refine x_lstore_n (pc := 37) dX1_paidBy_37 rfl (by decide) rfl ?_
        refine x_iinc (pc := 38) dX1_paidBy_38 rfl (by omega) (by decide) rfl ?_
        refine x_goto (tgt := 5) (pc := 41) dX1_paidBy_41 (by decide) ?_
        have e := sumN_1 (fun h => if hb s h = 1 then t (148 + h) else 0) hI.1
        rw [if_pos (by first | assumption | omega)] at e
        refine x_lo (lo' := [(0, (2, b + 9)), (1, (0, s)), (2, (1, sumN (fun h => if hb s h = 1 then t (148 + h) else 0) h.toNat + t (148 + h))), (4, (0, h + 1))]) ⟨rfl, rfl, rfl, rfl, trivial⟩ ?_
        have z := ih (h + 1) ⟨by omega, by omega⟩ (by omega)
        rw [e] at z
        exact z)
  refine x_lconst0 (pc := 0) dX1_paidBy_0 ?_
  refine x_lstore_n (pc := 1) dX1_paidBy_1 rfl (by decide) rfl ?_
  refine x_iconst (pc := 2) dX1_paidBy_2 (by decide) ?_
  refine x_istore (pc := 3) dX1_paidBy_3 (by decide) rfl ?_
  refine x_lo (lo' := [(0, (2, b + 9)), (1, (0, s)), (2, (1, sumN (fun h => if hb s h = 1 then t (148 + h) else 0) (0 : Int).toNat)), (4, (0, 0))]) ⟨rfl, rfl, rfl, rfl, trivial⟩ (loop (0) ⟨by omega, by omega⟩)
theorem s_judged {l : Launch} {E : aE} {N : Nat} {S : aS} {M : aM} (hfl : l.stackTraces = false) (b u : Int) (r rb rg t : Int → Int) (hG : lyG S b u r rb rg) (hK : TQ t) (hH : RHs M 1 t) (hPy : ∀ h, 0 ≤ h → h < 7 → 0 ≤ t (148 + h) ∧ t (148 + h) ≤ 100000) (hov : 1 ≤ t 155 ∧ t 155 ≤ 1000) (s : Int) (hs : 0 < s ∧ s < 128) (ht : totE (costV t) s ≠ -1) (hA : GA M b t s) : aMt l E pX1_judged [(2, b + 9), (0, s)] N S M (aR (0, if payS (fun h => t (148 + h)) s ≠ totV (costV t) s * t 155 then -2 else leavesV (costV t) (fun h => t (148 + h)) (t 155) s) N S M) := by
  refine a_met hfl rfl (by decide +kernel) (Nat.le_of_ble_eq_true rfl) ?_
  have hgs := hA s hs.1 (Int.le_refl s) (sub_rf (by omega))
  have hto := totV_or (c := costV t) s
  have hlt := totE_lt (costs_t hK) (s := s) (by omega)
  have hm3 : totV (costV t) s * t 155 ≤ totV (costV t) s * 1000 := Int.mul_le_mul_of_nonneg_left hov.2 (by omega)
  have hm4 : 0 ≤ totV (costV t) s * t 155 := Int.mul_nonneg (by omega) (by omega)
  have het : encT (totE (costV t) s) = totV (costV t) s := by omega
  refine x_aload_n (pc := 0) dX1_judged_0 rfl rfl ?_
  refine x_getR (jj := 0) (pc := 1) dX1_judged_1 fX1_27 hG.1 rfl (by decide) rfl hG.2.1.1 ?_
  refine x_getfieldN (j := 0) (host := "CoalStreet") (pc := 4) dX1_judged_4 klX3 (by decide) (List.mem_filter.mpr ⟨List.mem_of_getElem? (i := 365) (by decide +kernel), rfl⟩) rfl hG.2.2.2.2.2.2.2.1 (by omega) rfl hG.2.2.2.2.2.2.2.2.1.1 ?_
  refine x_getIV (jj := 7) (pc := 7) dX1_judged_7 fX1_65 (hG.2.2.2.2.2.2.2.2.2.2.2.2.1).2.1 rfl (by decide) rfl (by (repeat (first | rewrite [up_s] | rewrite [up_i (by omega)] | rewrite [up_a (by omega)])); first | exact hH.2.2.2.2.2.2.1 | exact hgs.1.2.1.trans het | rfl) ?_
  refine x_i2l (pc := 10) dX1_judged_10 ?_
  refine x_lstore_n (pc := 11) dX1_judged_11 rfl (by decide) rfl ?_
  refine x_aload_n (pc := 12) dX1_judged_12 rfl rfl ?_
  refine x_iload_n (pc := 13) dX1_judged_13 rfl rfl ?_
  refine x_callV1 (pc := 14) dX1_judged_14 rfl kX1_71 (s_paidBy hfl b u r rb rg t hG hH hPy s) hG.1 rfl rfl (Nat.le_of_ble_eq_true rfl) (k_R ?_) n_R
  refine x_aload_n (pc := 17) dX1_judged_17 rfl rfl ?_
  refine x_getR (jj := 2) (pc := 18) dX1_judged_18 fX1_15 hG.1 rfl (by decide) rfl hG.2.1.2.2.1 ?_
  refine x_iload_n (pc := 21) dX1_judged_21 rfl rfl ?_
  refine x_ialoadV (pc := 22) dX1_judged_22 hG.2.2.2.1 (by omega) (by (repeat (first | rewrite [up_s] | rewrite [up_i (by omega)] | rewrite [up_a (by omega)])); first | exact hH.2.2.2.2.2.2.1 | exact hgs.1.2.1.trans het | rfl) (fun g_22 => ?_)
  refine x_i2l (pc := 23) dX1_judged_23 ?_
  refine x_lload_n (pc := 24) dX1_judged_24 rfl rfl ?_
  refine x_lmul (pc := 25) dX1_judged_25 (by omega) ?_
  refine x_leq (tgt := 33) (pc := 26) dX1_judged_26 dX1_judged_27 (by decide) (fun c_26 => ?_) (fun c_26 => ?_)
  · refine x_iconst (pc := 33) dX1_judged_33 (by decide) ?_
    refine x_istore (pc := 34) dX1_judged_34 (by decide) rfl ?_
    have loop := a_loop1 (fun x => 1 ≤ x ∧ x ≤ s + 1 ∧ ∀ j, 0 ≤ j → j < x → (fun x => decide (0 < x ∧ b_and x (b_xor s (-1)) = 0 ∧ costV t x ≠ -1 ∧ costV t x * t 155 < payS (fun h => t (148 + h)) x)) j = false) (fun x => (s + 1 - x).toNat) (fun x => aX l E pX1_judged (aR (0, if payS (fun h => t (148 + h)) s ≠ totV (costV t) s * t 155 then -2 else leavesV (costV t) (fun h => t (148 + h)) (t 155) s) N S M) 0 0 N S M 36 [(0, (2, b + 9)), (1, (0, s)), (2, (1, t 155)), (4, (0, x))] []) (by
      intro x hI ih
      obtain ⟨h1, h2, h3⟩ := hI
      refine x_iload (pc := 36) dX1_judged_36 rfl ?_
      refine x_iload_n (pc := 38) dX1_judged_38 rfl rfl ?_
      refine x_icmp_gt (tgt := 91) (pc := 39) dX1_judged_39 (by decide) (fun c_39 => ?_) (fun c_39 => ?_)
      · refine x_iconst (pc := 91) dX1_judged_91 (by decide) ?_
        refine x_ireturn (pc := 92) dX1_judged_92 rfl (by decide) ?_
        refine ⟨?_, rfl, rfl, rfl⟩
        rw [if_neg (by omega)]
        unfold leavesV
        rw [firstB_none.mpr fun j p q => h3 j p (by omega)]
      · refine x_iload (pc := 42) dX1_judged_42 rfl ?_
        refine x_iload_n (pc := 44) dX1_judged_44 rfl rfl ?_
        refine x_iconst (pc := 45) dX1_judged_45 (by decide) ?_
        refine x_ixor (pc := 46) dX1_judged_46 ?_
        refine x_iand (pc := 47) dX1_judged_47 ?_
        refine x_if_ne (tgt := 85) (pc := 48) dX1_judged_48 (by decide) (fun c_48 => ?_) (fun c_48 => ?_)
        · refine x_iinc (pc := 85) dX1_judged_85 rfl (by omega) (by decide) rfl ?_
          refine x_goto (tgt := 36) (pc := 88) dX1_judged_88 (by decide) ?_
          refine x_lo (lo' := [(0, (2, b + 9)), (1, (0, s)), (2, (1, t 155)), (4, (0, (x + 1)))]) ⟨rfl, rfl, rfl, rfl, trivial⟩ (ih (x + 1) ⟨by omega, by omega, fun j p q => ?_⟩ (by omega))
          by_cases e : j = x
          · subst e
            refine decide_eq_false ?_
            rintro ⟨u1, u2, u3, u4⟩
            exact absurd u2 (by assumption)
          · exact h3 j p (by omega)
        · have hgx := hA x (by omega) (by omega) (by assumption)
          have hcx := costs_m hK x ⟨by omega, by omega⟩
          have hm1 : costV t x * t 155 ≤ costV t x * 1000 ∨ costV t x = -1 := by
            by_cases q : costV t x = -1
            · exact Or.inr q
            · exact Or.inl (Int.mul_le_mul_of_nonneg_left hov.2 (by omega))
          have hm2 : 0 ≤ costV t x * t 155 ∨ costV t x = -1 := by
            by_cases q : costV t x = -1
            · exact Or.inr q
            · exact Or.inl (Int.mul_nonneg (by omega) (by omega))
          refine x_aload_n (pc := 51) dX1_judged_51 rfl rfl ?_
          refine x_getR (jj := 1) (pc := 52) dX1_judged_52 fX1_11 hG.1 rfl (by decide) rfl hG.2.1.2.1 ?_
          refine x_iload (pc := 55) dX1_judged_55 rfl ?_
          refine x_ialoadV (pc := 57) dX1_judged_57 hG.2.2.1 (by omega) (by (repeat (first | rewrite [up_s] | rewrite [up_i (by omega)] | rewrite [up_a (by omega)])); first | exact hgx.1.1 | rfl) (fun g_57 => ?_)
          refine x_iconst (pc := 58) dX1_judged_58 (by decide) ?_
          refine x_icmp_eq (tgt := 85) (pc := 59) dX1_judged_59 (by decide) (fun c_59 => ?_) (fun c_59 => ?_)
          · refine x_iinc (pc := 85) dX1_judged_85 rfl (by omega) (by decide) rfl ?_
            refine x_goto (tgt := 36) (pc := 88) dX1_judged_88 (by decide) ?_
            refine x_lo (lo' := [(0, (2, b + 9)), (1, (0, s)), (2, (1, t 155)), (4, (0, (x + 1)))]) ⟨rfl, rfl, rfl, rfl, trivial⟩ (ih (x + 1) ⟨by omega, by omega, fun j p q => ?_⟩ (by omega))
            by_cases e : j = x
            · subst e
              refine decide_eq_false ?_
              rintro ⟨u1, u2, u3, u4⟩
              exact absurd (by assumption) u3
            · exact h3 j p (by omega)
          · refine x_aload_n (pc := 62) dX1_judged_62 rfl rfl ?_
            refine x_iload (pc := 63) dX1_judged_63 rfl ?_
            refine x_callV1 (pc := 65) dX1_judged_65 rfl kX1_71 (s_paidBy hfl b u r rb rg t hG hH hPy x) hG.1 rfl rfl (Nat.le_of_ble_eq_true rfl) (k_R ?_) n_R
            refine x_aload_n (pc := 68) dX1_judged_68 rfl rfl ?_
            refine x_getR (jj := 1) (pc := 69) dX1_judged_69 fX1_11 hG.1 rfl (by decide) rfl hG.2.1.2.1 ?_
            refine x_iload (pc := 72) dX1_judged_72 rfl ?_
            refine x_ialoadV (pc := 74) dX1_judged_74 hG.2.2.1 (by omega) (by (repeat (first | rewrite [up_s] | rewrite [up_i (by omega)] | rewrite [up_a (by omega)])); first | exact hgx.1.1 | rfl) (fun g_74 => ?_)
            refine x_i2l (pc := 75) dX1_judged_75 ?_
            refine x_lload_n (pc := 76) dX1_judged_76 rfl rfl ?_
            refine x_lmul (pc := 77) dX1_judged_77 (by omega) ?_
            refine x_lle (tgt := 85) (pc := 78) dX1_judged_78 dX1_judged_79 (by decide) (fun c_78 => ?_) (fun c_78 => ?_)
            · refine x_iinc (pc := 85) dX1_judged_85 rfl (by omega) (by decide) rfl ?_
              refine x_goto (tgt := 36) (pc := 88) dX1_judged_88 (by decide) ?_
              refine x_lo (lo' := [(0, (2, b + 9)), (1, (0, s)), (2, (1, t 155)), (4, (0, (x + 1)))]) ⟨rfl, rfl, rfl, rfl, trivial⟩ (ih (x + 1) ⟨by omega, by omega, fun j p q => ?_⟩ (by omega))
              by_cases e : j = x
              · subst e
                refine decide_eq_false ?_
                rintro ⟨u1, u2, u3, u4⟩
                omega
              · exact h3 j p (by omega)
            · refine x_iload (pc := 82) dX1_judged_82 rfl ?_
              refine x_ireturn (pc := 84) dX1_judged_84 rfl (by decide) ?_
              refine ⟨?_, rfl, rfl, rfl⟩
              rw [if_neg (by omega)]
              unfold leavesV
              rw [firstB_some (v := x) (by omega) (by omega) (decide_eq_true ⟨by omega, by assumption, by assumption, by omega⟩) h3])
    refine x_lo (lo' := [(0, (2, b + 9)), (1, (0, s)), (2, (1, t 155)), (4, (0, 1))]) ⟨rfl, rfl, rfl, rfl, trivial⟩ (loop (1) ⟨by omega, by omega, fun j p q => decide_eq_false (by rintro ⟨u1, u2, u3, u4⟩; omega)⟩)
  · refine x_bipush (pc := 30) dX1_judged_30 (by decide) ?_
    refine x_ireturn (pc := 32) dX1_judged_32 rfl (by decide) ?_
    refine ⟨?_, rfl, rfl, rfl⟩
    rw [if_pos (by omega)]
theorem s_needTotal {l : Launch} {E : aE} {N : Nat} {S : aS} {M : aM} (hfl : l.stackTraces = false) (s : Int) (hC : lyC S) (A : aM) (hR : RC M N S A) (hA : TOK (A 0)) (hB : TB (A 0)) (hs : 0 < s ∧ s < 128) : aMt l E pX11_needTotal [(2, 0), (0, s)] N S M (aW (fun M' => RC M' N S A ∧ frC M M' ∧ GA M' 25 (A 0) s) (totE (costV (A 0)) s ≠ -1) 1 N S) := by
  refine a_met hfl rfl (by decide +kernel) (Nat.le_of_ble_eq_true rfl) ?_
  refine x_aload_n (pc := 0) dX11_needTotal_0 rfl rfl ?_
  refine x_getR (jj := 5) (pc := 1) dX11_needTotal_1 fX11_54 (sC_0 hC) rfl (by decide) rfl rC_0_5 ?_
  refine x_iload_n (pc := 4) dX11_needTotal_4 rfl rfl ?_
  refine x_callV1 (pc := 5) dX11_needTotal_5 rfl kX11_203 (s_reckon hfl 25 (1 + 1) rC_30 rC_25 rC_34 (A 0) hC.gr (by omega) hA.tq hB hR.1.1 hR.1.2 hR.2.2.2.2.2.1 hR.2.2.2.2.2.2.1 hR.oz s hs) (sC_34 hC) rfl rfl (Nat.le_of_ble_eq_true rfl) (k_G (fun v9 M9 hM9 => ?_)) n_G
  obtain ⟨rfl, f9, p9, w9, z9, g9⟩ := hM9
  have hR9 := hR.gg f9 p9 w9 z9
  have FC9 : frC M M9 := fun a j x y => f9 a j (by omega)
  refine x_if_ne (tgt := 19) (pc := 8) dX11_needTotal_8 (by decide) (fun c_8 => ?_) (fun c_8 => ?_)
  · refine x_return (pc := 19) dX11_needTotal_19 rfl (by decide) ?_
    refine ⟨rfl, rfl, ⟨hR9, FC9, g9⟩, Or.inl ⟨fun q => ?_, rfl⟩⟩
    rw [if_pos q] at c_8
    omega
  · refine x_throw (pc := 11) thX11_352_354 rfl trivial dX11_needTotal_11 dX11_needTotal_14 dX11_needTotal_15 dX11_needTotal_18 (by decide) ?_
    refine ⟨rfl, rfl, ⟨hR9, FC9, g9⟩, Or.inr ⟨fun q => ?_, rfl⟩⟩
    rw [if_neg q] at c_8
    omega
def spJudge (A : aM) (s : Int) : Int × Int × aM := if ¬ (0 < s ∧ s < b_shl 1 (A 0 0)) then (1, 0, A) else if totE (costV (A 0)) s = -1 then (2, 0, A) else (0, if payS (fun h => A 0 (148 + h)) s ≠ totV (costV (A 0)) s * A 0 155 then -2 else leavesV (costV (A 0)) (fun h => A 0 (148 + h)) (A 0 155) s, A)
theorem s_Cjudge {l : Launch} {E : aE} {N : Nat} {S : aS} {M : aM} (hfl : l.stackTraces = false) (s : Int) (hC : lyC S) (A : aM) (hR : RC M N S A) (hA : TOK (A 0)) (hB : TB (A 0)) : aMt l E pX11_judge [(2, 0), (0, s)] N S M (opC M N S 0 (spJudge A s) (fun k => if k = 1 then 0 else 1)) := by
  refine a_met hfl rfl (by decide +kernel) (Nat.le_of_ble_eq_true rfl) ?_
  have c0 : M 1 1 = A 0 0 := hR.1.1.1
  have t0 := hA.1
  have t9 := hA.2.2.2.2.2.2.2.2.2.2.2.2.2.2.2.2.2.1
  refine x_aload_n (pc := 0) dX11_judge_0 rfl rfl ?_
  refine x_iload_n (pc := 1) dX11_judge_1 rfl rfl ?_
  refine x_callV1 (pc := 2) dX11_judge_2 rfl kX11_131 (s_needSet hfl _ hC (by omega)) (sC_0 hC) rfl rfl (Nat.le_of_ble_eq_true rfl) (k_N (fun h_2 => ?_)) (n_N (fun h_2 => (by rw [c0] at h_2; have e9 : spJudge A s = (1, 0, A) := (by unfold spJudge; (repeat' split) <;> first | rfl | (exfalso; omega)); rw [e9]; exact ⟨rfl, rfl, fun _ _ _ _ => rfl, hR, Or.inr ⟨show ¬ (1 : Int) = 0 by decide, rfl⟩⟩)))
  rw [c0] at h_2
  have hsl := isSet_lt hA h_2
  refine x_aload_n (pc := 5) dX11_judge_5 rfl rfl ?_
  refine x_iload_n (pc := 6) dX11_judge_6 rfl rfl ?_
  refine x_callV1 (pc := 7) dX11_judge_7 rfl kX11_234 (s_needTotal hfl s hC A hR hA hB hsl) (sC_0 hC) rfl rfl (Nat.le_of_ble_eq_true rfl) (k_W (fun M9 h9 ht9 => ?_)) (n_W (fun M9 h9 h8 => by obtain ⟨hR9, FC9, g9⟩ := h9; have e9 : spJudge A s = (2, 0, A) := (by unfold spJudge; rw [if_neg (by omega), if_pos (by omega)]); rw [e9]; exact ⟨rfl, rfl, FC9, hR9, Or.inr ⟨show ¬ (2 : Int) = 0 by decide, rfl⟩⟩))
  obtain ⟨hR9, FC9, g9⟩ := h9
  refine x_aload_n (pc := 10) dX11_judge_10 rfl rfl ?_
  refine x_getR (jj := 5) (pc := 11) dX11_judge_11 fX11_54 (sC_0 hC) rfl (by decide) rfl rC_0_5 ?_
  refine x_iload_n (pc := 14) dX11_judge_14 rfl rfl ?_
  refine x_callV1 (pc := 15) dX11_judge_15 rfl kX11_237 (s_judged hfl 25 (1 + 1) rC_30 rC_25 rC_34 (A 0) hC.gr hA.tq hR9.1.1 hA.2.2.2.2.2.1 hA.2.2.2.2.2.2.1 s hsl ht9 g9) (sC_34 hC) rfl rfl (Nat.le_of_ble_eq_true rfl) (k_R ?_) n_R
  refine x_ireturn (pc := 18) dX11_judge_18 rfl (by decide) ?_
  have e9 : spJudge A s = (0, if payS (fun h => A 0 (148 + h)) s ≠ totV (costV (A 0)) s * A 0 155 then -2 else leavesV (costV (A 0)) (fun h => A 0 (148 + h)) (A 0 155) s, A) := by
    unfold spJudge
    rw [if_neg (by omega), if_neg ht9]
  rw [e9]
  exact ⟨rfl, rfl, FC9, hR9, Or.inl ⟨rfl, rfl⟩⟩
theorem s_paid {l : Launch} {E : aE} {N : Nat} {S : aS} {M : aM} (hfl : l.stackTraces = false) (m s : Int) (p : Int → Int) (hS : lyM S m) (hp : ∀ i, 0 ≤ i → i < 7 → hb s i = 1 → 0 ≤ p i ∧ p i ≤ 1000000000000) (hP0 : ∀ i, 0 ≤ i → i < 7 → hb s i = 1 → M (m + 19) i = p i) : aMt l E pX12_paid [(2, m), (0, s)] N S M (aR (1, payS p s) N S M) := by
  refine a_met hfl rfl (by decide +kernel) (Nat.le_of_ble_eq_true rfl) ?_
  have loop := a_loop1 (fun h => 0 ≤ h ∧ h ≤ 7) (fun h => (7 - h).toNat) (fun h => aX l E pX12_paid (aR (1, payS p s) N S M) 0 0 N S M 5 [(0, (2, m)), (1, (0, s)), (2, (1, sumN (fun h => if hb s h = 1 then p h else 0) h.toNat)), (4, (0, h))] []) (by
    intro h hI ih
    have hso := payS_r (p := p) (s := s) (b := 1000000000000) hp (by omega) h.toNat (by omega)
    have hpz := fun (z : h < 7) (y : hb s h = 1) => hp h hI.1 z y
    refine x_iload (pc := 5) dX12_paid_5 rfl ?_
    refine x_bipush (pc := 7) dX12_paid_7 (by decide) ?_
    refine x_icmp_ge (tgt := 41) (pc := 9) dX12_paid_9 (by decide) (fun c_9 => ?_) (fun c_9 => ?_)
    · refine x_lload_n (pc := 41) dX12_paid_41 rfl rfl ?_
      refine x_lreturn (pc := 42) dX12_paid_42 rfl (by decide) ?_
      refine ⟨?_, rfl, rfl, rfl⟩
      rw [show h.toNat = 7 by omega]
      rfl
    · refine x_lload_n (pc := 12) dX12_paid_12 rfl rfl ?_
      refine x_iload_n (pc := 13) dX12_paid_13 rfl rfl ?_
      refine x_iload (pc := 14) dX12_paid_14 rfl ?_
      refine x_callS2 (pc := 16) dX12_paid_16 rfl kX12_136 (s_hasM hfl _ _) rfl (Nat.le_of_ble_eq_true rfl) (k_B (fun q_16 => ?_) (fun q_16 => ?_)) n_B
      · refine x_if_eq (tgt := 32) (pc := 19) dX12_paid_19 (by decide) (fun c => absurd c (by decide)) (fun _ => ?_)
        refine x_aload_n (pc := 22) dX12_paid_22 rfl rfl ?_
        refine x_getR (jj := 36) (pc := 23) dX12_paid_23 fX12_69 hS.1 rfl (by decide) rfl rM_36 ?_
        refine x_iload (pc := 26) dX12_paid_26 rfl ?_
        refine x_laloadV (pc := 28) dX12_paid_28 (sM_36 hS) (by omega) (by (repeat (first | rewrite [up_s] | rewrite [up_i (by omega)] | rewrite [up_a (by omega)] | rewrite [stM_a (by omega) (by omega)])); first | exact hP0 h hI.1 (by omega) (by assumption) | rfl) (fun g_28 => ?_)
        refine x_goto (tgt := 33) (pc := 29) dX12_paid_29 (by decide) ?_
        refine x_ladd (pc := 33) dX12_paid_33 (by first | omega | (have := hpz (by omega) (by assumption); omega)) ?_
        try rewrite [Int.add_zero]
        refine x_lstore_n (pc := 34) dX12_paid_34 rfl (by decide) rfl ?_
        refine x_iinc (pc := 35) dX12_paid_35 rfl (by omega) (by decide) rfl ?_
        refine x_goto (tgt := 5) (pc := 38) dX12_paid_38 (by decide) ?_
        have e := sumN_1 (fun h => if hb s h = 1 then p h else 0) hI.1
        rw [if_pos (by first | assumption | omega)] at e
        refine x_lo (lo' := [(0, (2, m)), (1, (0, s)), (2, (1, sumN (fun h => if hb s h = 1 then p h else 0) h.toNat + p h)), (4, (0, h + 1))]) ⟨rfl, rfl, rfl, rfl, trivial⟩ ?_
        have z := ih (h + 1) ⟨by omega, by omega⟩ (by omega)
        rw [e] at z
        exact z
      · refine x_if_eq (tgt := 32) (pc := 19) dX12_paid_19 (by decide) (fun _ => ?_) (fun c => absurd c (by decide))
        refine x_lconst0 (pc := 32) dX12_paid_32 ?_
        refine x_ladd (pc := 33) dX12_paid_33 (by first | omega | (have := hpz (by omega) (by assumption); omega)) ?_
        try rewrite [Int.add_zero]
        refine x_lstore_n (pc := 34) dX12_paid_34 rfl (by decide) rfl ?_
        refine x_iinc (pc := 35) dX12_paid_35 rfl (by omega) (by decide) rfl ?_
        refine x_goto (tgt := 5) (pc := 38) dX12_paid_38 (by decide) ?_
        have e := sumN_1 (fun h => if hb s h = 1 then p h else 0) hI.1
        rw [if_neg (by first | assumption | omega), Int.add_zero] at e
        refine x_lo (lo' := [(0, (2, m)), (1, (0, s)), (2, (1, sumN (fun h => if hb s h = 1 then p h else 0) h.toNat)), (4, (0, h + 1))]) ⟨rfl, rfl, rfl, rfl, trivial⟩ ?_
        have z := ih (h + 1) ⟨by omega, by omega⟩ (by omega)
        rw [e] at z
        exact z)
  refine x_lconst0 (pc := 0) dX12_paid_0 ?_
  refine x_lstore_n (pc := 1) dX12_paid_1 rfl (by decide) rfl ?_
  refine x_iconst (pc := 2) dX12_paid_2 (by decide) ?_
  refine x_istore (pc := 3) dX12_paid_3 (by decide) rfl ?_
  refine x_lo (lo' := [(0, (2, m)), (1, (0, s)), (2, (1, sumN (fun h => if hb s h = 1 then p h else 0) (0 : Int).toNat)), (4, (0, 0))]) ⟨rfl, rfl, rfl, rfl, trivial⟩ (loop (0) ⟨by omega, by omega⟩)
theorem s_leaves {l : Launch} {E : aE} {N : Nat} {S : aS} {M : aM} (hfl : l.stackTraces = false) (m : Int) (A : aM) (hS : lyM S m) (hR : RM M m A) (hA : TOK (A 0)) (s w : Int) (p : Int → Int) (hs : 0 < s ∧ s < 128) (hn : A 0 0 ≠ 0) (hw : 0 ≤ w ∧ w ≤ 10000000) (hp : ∀ i, 0 ≤ i → i < 7 → hb s i = 1 → 0 ≤ p i ∧ p i ≤ 1000000000000) (hP0 : ∀ i, 0 ≤ i → i < 7 → hb s i = 1 → M (m + 19) i = p i) : aMt l E pX12_leaves [(2, m), (0, s), (1, w)] N S M (aG N S (fun v M' => v = (0, leavesV (costV (A 0)) p w s) ∧ frL M M' m ∧ RM M' m A)) := by
  refine a_met hfl rfl (by decide +kernel) (Nat.le_of_ble_eq_true rfl) ?_
  have loop := a_loop2 (fun x M1 => 1 ≤ x ∧ x ≤ s + 1 ∧ (∀ j, 0 ≤ j → j < x → (fun x => decide (0 < x ∧ b_and x (b_xor s (-1)) = 0 ∧ costV (A 0) x ≠ -1 ∧ costV (A 0) x * w < payS p x)) j = false) ∧ frL M M1 m ∧ RM M1 m A) (fun x M1 => (s + 1 - x).toNat) (fun x M1 => aX l E pX12_leaves (aG N S (fun v M' => v = (0, leavesV (costV (A 0)) p w s) ∧ frL M M' m ∧ RM M' m A)) 0 0 N S M1 3 [(0, (2, m)), (1, (0, s)), (2, (1, w)), (4, (0, x))] []) (by
    intro x M1 hI ih
    obtain ⟨h1, h2, h3, h4, h5⟩ := hI
    refine x_iload (pc := 3) dX12_leaves_3 rfl ?_
    refine x_iload_n (pc := 5) dX12_leaves_5 rfl rfl ?_
    refine x_icmp_gt (tgt := 59) (pc := 6) dX12_leaves_6 (by decide) (fun c_6 => ?_) (fun c_6 => ?_)
    · refine x_iconst (pc := 59) dX12_leaves_59 (by decide) ?_
      refine x_ireturn (pc := 60) dX12_leaves_60 rfl (by decide) ?_
      refine ⟨_, rfl, rfl, rfl, ?_, h4, h5⟩
      unfold leavesV
      rw [firstB_none.mpr fun j a q => h3 j a (by omega)]
    · refine x_iload (pc := 9) dX12_leaves_9 rfl ?_
      refine x_iload_n (pc := 11) dX12_leaves_11 rfl rfl ?_
      refine x_iconst (pc := 12) dX12_leaves_12 (by decide) ?_
      refine x_ixor (pc := 13) dX12_leaves_13 ?_
      refine x_iand (pc := 14) dX12_leaves_14 ?_
      refine x_if_eq (tgt := 21) (pc := 15) dX12_leaves_15 (by decide) (fun c_15 => ?_) (fun c_15 => ?_)
      · refine x_aload_n (pc := 21) dX12_leaves_21 rfl rfl ?_
        refine x_iload (pc := 22) dX12_leaves_22 rfl ?_
        refine x_callV1 (pc := 24) dX12_leaves_24 rfl kX12_307 (s_MWcostOf hfl m (core (A 0)) hS h5.re (core_tq hA.tq) h5.rp0 (h5.2.2.1.st (by first | omega | exact isSet_0 (by omega) | exact isSet_0 (s := s) (by omega) | exact isSet_0 (s := x) (by omega))) x ⟨by omega, by omega⟩) hS.1 rfl rfl (Nat.le_of_ble_eq_true rfl) (k_G (fun v9 M9 hM9 => ?_)) n_G
        obtain ⟨rfl, f9, p9, c9⟩ := hM9
        have R9 : RM M9 m A := h5.mk9 f9.k p9 c9
        have hcc : costV (core (A 0)) = costV (A 0) := costV_fun (core_same (A 0)) (by have := hA.tq.2.2.2.2.2.1; rw [core_hi (by omega)]; omega)
        rewrite [hcc]
        have hcx := costs_m hA.tq x ⟨by omega, by omega⟩
        have hm1 : costV (A 0) x * w ≤ costV (A 0) x * 10000000 ∨ costV (A 0) x = -1 := by
          by_cases q : costV (A 0) x = -1
          · exact Or.inr q
          · exact Or.inl (Int.mul_le_mul_of_nonneg_left hw.2 (by omega))
        have hm2 : 0 ≤ costV (A 0) x * w ∨ costV (A 0) x = -1 := by
          by_cases q : costV (A 0) x = -1
          · exact Or.inr q
          · exact Or.inl (Int.mul_nonneg (by omega) (by omega))
        refine x_istore (pc := 27) dX12_leaves_27 (by decide) rfl ?_
        refine x_iload (pc := 29) dX12_leaves_29 rfl ?_
        refine x_iconst (pc := 31) dX12_leaves_31 (by decide) ?_
        refine x_icmp_eq (tgt := 53) (pc := 32) dX12_leaves_32 (by decide) (fun c_32 => ?_) (fun c_32 => ?_)
        · refine x_iinc (pc := 53) dX12_leaves_53 rfl (by omega) (by decide) rfl ?_
          refine x_goto (tgt := 3) (pc := 56) dX12_leaves_56 (by decide) ?_
          refine x_lo (lo' := [(0, (2, m)), (1, (0, s)), (2, (1, w)), (4, (0, (x + 1)))]) ⟨rfl, rfl, rfl, rfl, trivial⟩ (ih (x + 1) _ ⟨by omega, by omega, fun j a q => ?_, h4.tr f9, R9⟩ (by omega))
          by_cases e : j = x
          · subst e
            refine decide_eq_false ?_
            rintro ⟨u1, u2, u3, u4⟩
            exact absurd (by assumption) u3
          · exact h3 j a (by omega)
        · refine x_aload_n (pc := 35) dX12_leaves_35 rfl rfl ?_
          refine x_iload (pc := 36) dX12_leaves_36 rfl ?_
          have hxs := (sub_iff (g := x) (s := s) ⟨by omega, by omega⟩ ⟨by omega, by omega⟩).mp (by assumption)
          refine x_callV1 (pc := 38) dX12_leaves_38 rfl kX12_348 (s_paid hfl m x p hS (fun i a b z => hp i a b (hxs i a b z)) (fun i a b z => ((h4.tr f9) _ _ (by omega) (by omega) (by omega)).trans (hP0 i a b (hxs i a b z)))) hS.1 rfl rfl (Nat.le_of_ble_eq_true rfl) (k_R ?_) n_R
          refine x_iload (pc := 41) dX12_leaves_41 rfl ?_
          refine x_i2l (pc := 43) dX12_leaves_43 ?_
          refine x_lload_n (pc := 44) dX12_leaves_44 rfl rfl ?_
          refine x_lmul (pc := 45) dX12_leaves_45 (by omega) ?_
          refine x_lle (tgt := 53) (pc := 46) dX12_leaves_46 dX12_leaves_47 (by decide) (fun c_46 => ?_) (fun c_46 => ?_)
          · refine x_iinc (pc := 53) dX12_leaves_53 rfl (by omega) (by decide) rfl ?_
            refine x_goto (tgt := 3) (pc := 56) dX12_leaves_56 (by decide) ?_
            refine x_lo (lo' := [(0, (2, m)), (1, (0, s)), (2, (1, w)), (4, (0, (x + 1)))]) ⟨rfl, rfl, rfl, rfl, trivial⟩ (ih (x + 1) _ ⟨by omega, by omega, fun j a q => ?_, h4.tr f9, R9⟩ (by omega))
            by_cases e : j = x
            · subst e
              refine decide_eq_false ?_
              rintro ⟨u1, u2, u3, u4⟩
              omega
            · exact h3 j a (by omega)
          · refine x_iload (pc := 50) dX12_leaves_50 rfl ?_
            refine x_ireturn (pc := 52) dX12_leaves_52 rfl (by decide) ?_
            refine ⟨_, rfl, rfl, rfl, ?_, h4.tr f9, R9⟩
            unfold leavesV
            rw [firstB_some (v := x) (by omega) (by omega) (decide_eq_true ⟨by omega, by assumption, by assumption, by omega⟩) h3]
      · refine x_goto (tgt := 53) (pc := 18) dX12_leaves_18 (by decide) ?_
        refine x_iinc (pc := 53) dX12_leaves_53 rfl (by omega) (by decide) rfl ?_
        refine x_goto (tgt := 3) (pc := 56) dX12_leaves_56 (by decide) ?_
        refine x_lo (lo' := [(0, (2, m)), (1, (0, s)), (2, (1, w)), (4, (0, (x + 1)))]) ⟨rfl, rfl, rfl, rfl, trivial⟩ (ih (x + 1) _ ⟨by omega, by omega, fun j a q => ?_, h4, h5⟩ (by omega))
        by_cases e : j = x
        · subst e
          refine decide_eq_false ?_
          rintro ⟨u1, u2, u3, u4⟩
          exact absurd u2 (by assumption)
        · exact h3 j a (by omega))
  refine x_iconst (pc := 0) dX12_leaves_0 (by decide) ?_
  refine x_istore (pc := 1) dX12_leaves_1 (by decide) rfl ?_
  refine x_lo (lo' := [(0, (2, m)), (1, (0, s)), (2, (1, w)), (4, (0, 1))]) ⟨rfl, rfl, rfl, rfl, trivial⟩ (loop (1) _ ⟨by omega, by omega, fun j a q => decide_eq_false (by rintro ⟨u1, u2, u3, u4⟩; omega), frL.rf, hR⟩)
theorem s_Mjudge {l : Launch} {E : aE} {N : Nat} {S : aS} {M : aM} (hfl : l.stackTraces = false) (s : Int) (m : Int) (A : aM) (hS : lyM S m) (hR : RM M m A) (hA : TOK (A 0)) : aMt l E pX12_judge [(2, m), (0, s)] N S M (aG N S (opM M m 0 (spJudge A s))) := by
  refine a_met hfl rfl (by decide +kernel) (Nat.le_of_ble_eq_true rfl) ?_
  refine x_aload_n (pc := 0) dX12_judge_0 rfl rfl ?_
  refine x_iconst (pc := 1) dX12_judge_1 (by decide) ?_
  refine x_putI (jj := 3) (pc := 2) dX12_judge_2 fX12_103 hS.1 rfl (by decide) rfl ?_
  refine x_memI (fun M1 hM1 => ?_)
  have R1 : RM M1 m A := by rw [hM1]; exact hR.up3
  have F1 : frM M M1 m := by rw [hM1]; exact frM.rf.up (by omega)
  have T1 : M1 m 3 = 0 := by rw [hM1]; exact up_s
  clear hM1
  have e0 : M1 (m + 1) 0 = A 0 0 := R1.1.1 0 (by omega) (by omega)
  have t0 := hA.1
  refine x_aload_n (pc := 5) dX12_judge_5 rfl rfl ?_
  refine x_iload_n (pc := 6) dX12_judge_6 rfl rfl ?_
  refine x_callV1 (pc := 7) dX12_judge_7 rfl kX12_143 (s_isSet hfl m s hS) hS.1 rfl rfl (Nat.le_of_ble_eq_true rfl) (k_B (fun q_7 => ?_) (fun q_7 => ?_)) n_B
  · rw [e0] at q_7
    refine x_if_ne (tgt := 19) (pc := 10) dX12_judge_10 (by decide) (fun _ => ?_) (fun c => absurd c (by decide))
    have h6 := hA.tq.2.2.2.2.2.1
    have hcc : costV (core (A 0)) = costV (A 0) := costV_fun (core_same (A 0)) (by rw [core_hi (by omega)]; omega)
    have hc := costs_t hA.tq
    refine x_aload_n (pc := 19) dX12_judge_19 rfl rfl ?_
    refine x_iload_n (pc := 20) dX12_judge_20 rfl rfl ?_
    refine x_callV1 (pc := 21) dX12_judge_21 rfl kX12_328 (s_totalOf hfl m (core (A 0)) hS R1.re (core_tq hA.tq) R1.rp0 (R1.2.2.1.st (by first | omega | exact isSet_0 (by omega) | exact isSet_0 (s := s) (by omega) | exact isSet_0 (s := x) (by omega))) s ⟨by have := isSet_lt hA (s := s) (by omega); omega, by have := isSet_lt hA (s := s) (by omega); omega⟩) hS.1 rfl rfl (Nat.le_of_ble_eq_true rfl) (k_G (fun v9 M9 hM9 => ?_)) n_G
    obtain ⟨rfl, f9, p9, c9, b9⟩ := hM9
    have R9 : RM M9 m A := R1.mk9 f9.k p9 c9
    have T9 : M9 m 3 = 0 := (f9 m 3 (by omega) (by omega) (by omega)).trans T1
    have F9 : frM M M9 m := F1.tr f9.k.fr
    rewrite [hcc]
    rewrite [hcc] at b9
    have hto := totV_or (c := costV (A 0)) s
    have hsl := isSet_lt hA (s := s) (by omega)
    have hlt := totE_lt hc (s := s) (by omega)
    refine x_istore_n (pc := 24) dX12_judge_24 rfl (by decide) rfl ?_
    refine x_iload_n (pc := 25) dX12_judge_25 rfl rfl ?_
    refine x_iconst (pc := 26) dX12_judge_26 (by decide) ?_
    refine x_icmp_ne (tgt := 36) (pc := 27) dX12_judge_27 (by decide) (fun c_27 => ?_) (fun c_27 => ?_)
    · refine x_iconst (pc := 36) dX12_judge_36 (by decide) ?_
      refine x_istore_n (pc := 37) dX12_judge_37 rfl (by decide) rfl ?_
      have loop := a_loop2 (fun h M2 => (0 ≤ h ∧ h ≤ 7) ∧ (∀ a i, a ≠ m + 19 → M2 a i = M9 a i) ∧ ∀ i, 0 ≤ i → i < h → M2 (m + 19) i = A 0 (148 + i)) (fun h M2 => (7 - h).toNat) (fun h M2 => aX l E pX12_judge (aG N S (opM M m 0 (spJudge A s))) 0 0 N S M2 38 [(0, (2, m)), (1, (0, s)), (2, (0, totV (costV (A 0)) s)), (3, (0, h))] []) (by
        intro h M2 hI ih
        obtain ⟨k1, k2, k3⟩ := hI
        refine x_iload_n (pc := 38) dX12_judge_38 rfl rfl ?_
        refine x_bipush (pc := 39) dX12_judge_39 (by decide) ?_
        refine x_icmp_ge (tgt := 67) (pc := 41) dX12_judge_41 (by decide) (fun c_41 => ?_) (fun c_41 => ?_)
        · have K8 : frK M9 M2 m := fun a i x y z => k2 a i (by omega)
          have R8 : RM M2 m A := R9.mk9w K8 (RP0.cg R9.rp0 fun a i x => k2 a i (by omega)) (RCw.cg R9.2.2.1 fun i => k2 _ i (by omega))
          have T8 : M2 m 3 = 0 := (k2 m 3 (by omega)).trans T9
          have F8 : frM M M2 m := F9.tr K8.fr
          have hpy := hA.2.2.2.2.2.1
          have hov := hA.2.2.2.2.2.2.1
          have hm3 : totV (costV (A 0)) s * A 0 155 ≤ totV (costV (A 0)) s * 1000 := Int.mul_le_mul_of_nonneg_left hov.2 (by omega)
          have hm4 : 0 ≤ totV (costV (A 0)) s * A 0 155 := Int.mul_nonneg (by omega) (by omega)
          refine x_aload_n (pc := 67) dX12_judge_67 rfl rfl ?_
          refine x_iload_n (pc := 68) dX12_judge_68 rfl rfl ?_
          refine x_callV1 (pc := 69) dX12_judge_69 rfl kX12_348 (s_paid hfl m s (fun h => A 0 (148 + h)) hS (fun i a b _ => by have := hpy i a b; omega) (fun i a b _ => k3 i a (by omega))) hS.1 rfl rfl (Nat.le_of_ble_eq_true rfl) (k_R ?_) n_R
          refine x_iload_n (pc := 72) dX12_judge_72 rfl rfl ?_
          refine x_i2l (pc := 73) dX12_judge_73 ?_
          refine x_aload_n (pc := 74) dX12_judge_74 rfl rfl ?_
          refine x_getR (jj := 0) (pc := 75) dX12_judge_75 fX12_9 hS.1 rfl (by decide) rfl rM_0 ?_
          refine x_sipush (pc := 78) dX12_judge_78 (by decide) ?_
          refine x_ialoadV (pc := 81) dX12_judge_81 (sM_0 hS) (by omega) (by (repeat (first | rewrite [up_s] | rewrite [up_i (by omega)] | rewrite [up_a (by omega)] | rewrite [stM_a (by omega) (by omega)])); first | exact R9.1.1 _ (by omega) (by omega) | exact (k2 _ _ (by omega)).trans (R9.1.1 _ (by omega) (by omega)) | rfl) (fun g_81 => ?_)
          refine x_i2l (pc := 82) dX12_judge_82 ?_
          refine x_lmul (pc := 83) dX12_judge_83 (by omega) ?_
          refine x_leq (tgt := 93) (pc := 84) dX12_judge_84 dX12_judge_85 (by decide) (fun c_84 => ?_) (fun c_84 => ?_)
          · refine x_aload_n (pc := 93) dX12_judge_93 rfl rfl ?_
            refine x_iload_n (pc := 94) dX12_judge_94 rfl rfl ?_
            refine x_aload_n (pc := 95) dX12_judge_95 rfl rfl ?_
            refine x_getR (jj := 0) (pc := 96) dX12_judge_96 fX12_9 hS.1 rfl (by decide) rfl rM_0 ?_
            refine x_sipush (pc := 99) dX12_judge_99 (by decide) ?_
            refine x_ialoadV (pc := 102) dX12_judge_102 (sM_0 hS) (by omega) (by (repeat (first | rewrite [up_s] | rewrite [up_i (by omega)] | rewrite [up_a (by omega)] | rewrite [stM_a (by omega) (by omega)])); first | exact R9.1.1 _ (by omega) (by omega) | exact (k2 _ _ (by omega)).trans (R9.1.1 _ (by omega) (by omega)) | rfl) (fun g_102 => ?_)
            refine x_i2l (pc := 103) dX12_judge_103 ?_
            refine x_callV2 (pc := 104) dX12_judge_104 rfl kX12_352 (s_leaves hfl m A hS R8 hA s (A 0 155) (fun h => A 0 (148 + h)) ⟨by omega, by omega⟩ (by first | omega | exact isSet_0 (by omega) | exact isSet_0 (s := s) (by omega)) ⟨by omega, by omega⟩ (fun i a b _ => by have := hpy i a b; omega) (fun i a b _ => k3 i a (by omega))) hS.1 rfl rfl (Nat.le_of_ble_eq_true rfl) (k_G (fun v7 M7 hM7 => ?_)) n_G
            obtain ⟨rfl, f7, R7⟩ := hM7
            have T7 : M7 m 3 = 0 := (f7 m 3 (by omega) (by omega) (by omega)).trans T8
            have F7 : frM M M7 m := F8.tr f7.k.fr
            refine x_ireturn (pc := 107) dX12_judge_107 rfl (by decide) ?_
            have e9 : spJudge A s = (0, if payS (fun h => A 0 (148 + h)) s ≠ totV (costV (A 0)) s * A 0 155 then -2 else leavesV (costV (A 0)) (fun h => A 0 (148 + h)) (A 0 155) s, A) := by
              unfold spJudge
              rw [if_neg (by omega), if_neg (by omega)]
            rw [e9]
            exact ⟨_, rfl, rfl, rfl, rfl, T7, fun _ => by rw [if_neg (by omega)], R7, F7⟩
          · refine x_bipush (pc := 88) dX12_judge_88 (by decide) ?_
            refine x_goto (tgt := 107) (pc := 90) dX12_judge_90 (by decide) ?_
            refine x_ireturn (pc := 107) dX12_judge_107 rfl (by decide) ?_
            have e9 : spJudge A s = (0, if payS (fun h => A 0 (148 + h)) s ≠ totV (costV (A 0)) s * A 0 155 then -2 else leavesV (costV (A 0)) (fun h => A 0 (148 + h)) (A 0 155) s, A) := by
              unfold spJudge
              rw [if_neg (by omega), if_neg (by omega)]
            rw [e9]
            exact ⟨_, rfl, rfl, rfl, rfl, T8, fun _ => by rw [if_pos (by omega)], R8, F8⟩
        · refine x_aload_n (pc := 44) dX12_judge_44 rfl rfl ?_
          refine x_getR (jj := 36) (pc := 45) dX12_judge_45 fX12_69 hS.1 rfl (by decide) rfl rM_36 ?_
          refine x_iload_n (pc := 48) dX12_judge_48 rfl rfl ?_
          refine x_aload_n (pc := 49) dX12_judge_49 rfl rfl ?_
          refine x_getR (jj := 0) (pc := 50) dX12_judge_50 fX12_9 hS.1 rfl (by decide) rfl rM_0 ?_
          refine x_sipush (pc := 53) dX12_judge_53 (by decide) ?_
          refine x_iload_n (pc := 56) dX12_judge_56 rfl rfl ?_
          refine x_iadd (pc := 57) dX12_judge_57 (by omega) ?_
          refine x_ialoadV (pc := 58) dX12_judge_58 (sM_0 hS) (by omega) (by (repeat (first | rewrite [up_s] | rewrite [up_i (by omega)] | rewrite [up_a (by omega)] | rewrite [stM_a (by omega) (by omega)])); first | exact R9.1.1 _ (by omega) (by omega) | exact (k2 _ _ (by omega)).trans (R9.1.1 _ (by omega) (by omega)) | rfl) (fun g_58 => ?_)
          refine x_i2l (pc := 59) dX12_judge_59 ?_
          refine x_lastore (pc := 60) dX12_judge_60 (sM_36 hS) (by omega) ?_
          refine x_iinc (pc := 61) dX12_judge_61 rfl (by omega) (by decide) rfl ?_
          refine x_goto (tgt := 38) (pc := 64) dX12_judge_64 (by decide) ?_
          refine x_lo (lo' := [(0, (2, m)), (1, (0, s)), (2, (0, totV (costV (A 0)) s)), (3, (0, (h + 1)))]) ⟨rfl, rfl, rfl, rfl, trivial⟩ (ih (h + 1) _ ⟨by omega, fun a i x => (up_a x).trans (k2 a i x), fun i x y => ?_⟩ (by omega))
          by_cases e : i = h
          · subst e; exact up_s
          · exact (up_i e).trans (k3 i x (by omega)))
      refine x_lo (lo' := [(0, (2, m)), (1, (0, s)), (2, (0, totV (costV (A 0)) s)), (3, (0, 0))]) ⟨rfl, rfl, rfl, rfl, trivial⟩ (loop (0) _ ⟨by omega, fun _ _ _ => rfl, fun i x y => by omega⟩)
    · refine x_aload_n (pc := 30) dX12_judge_30 rfl rfl ?_
      refine x_iconst (pc := 31) dX12_judge_31 (by decide) ?_
      refine x_callV1 (pc := 32) dX12_judge_32 rfl kX12_116 (s_fails hfl m _ hS) hS.1 rfl rfl (Nat.le_of_ble_eq_true rfl) (k_G (fun v9 M9 hM9 => ?_)) n_G
      obtain ⟨rfl, rfl⟩ := hM9
      refine x_ireturn (pc := 35) dX12_judge_35 rfl (by decide) ?_
      have e9 : spJudge A s = (2, 0, A) := by
        unfold spJudge
        rw [if_neg (by omega), if_pos (by omega)]
      rw [e9]
      exact ⟨_, rfl, rfl, rfl, rfl, up_s, fun q => absurd q (show ¬ (2 : Int) = 0 by decide), R9.up3, F9.up (by omega)⟩
  · rw [e0] at q_7
    refine x_if_ne (tgt := 19) (pc := 10) dX12_judge_10 (by decide) (fun c => absurd c (by decide)) (fun _ => ?_)
    refine x_aload_n (pc := 13) dX12_judge_13 rfl rfl ?_
    refine x_iconst (pc := 14) dX12_judge_14 (by decide) ?_
    refine x_callV1 (pc := 15) dX12_judge_15 rfl kX12_116 (s_fails hfl m _ hS) hS.1 rfl rfl (Nat.le_of_ble_eq_true rfl) (k_G (fun v9 M9 hM9 => ?_)) n_G
    obtain ⟨rfl, rfl⟩ := hM9
    refine x_ireturn (pc := 18) dX12_judge_18 rfl (by decide) ?_
    have e9 : spJudge A s = (1, 0, A) := by
      unfold spJudge
      (repeat' split) <;> first | rfl | (exfalso; omega)
    rw [e9]
    exact ⟨_, rfl, rfl, rfl, rfl, up_s, fun q => absurd q (show ¬ (1 : Int) = 0 by decide), R1.up3, F1.up (by omega)⟩
