/-! the class's plans: at b + 5, with prices at b, of the tariff at u -/
def lyL (S : aS) (b u : Int) (r rb : Int → Int) : Prop := S (b + 5) = (3, 6, r) ∧ (r 0 = 1 ∧ r 1 = u ∧ r 2 = b ∧ r 3 = b + 6 ∧ r 4 = b + 7 ∧ r 5 = b + 8) ∧ S (b + 6) = (13, 128, rN) ∧ S (b + 7) = (13, 399, rN) ∧ S (b + 8) = (13, 114, rN) ∧ lyS S 1 ∧ lyP S b u rb
def mnV (t : Int → Int) (k q : Int) : Int := if buysV t q k = -1 then 536870912 else buysV t q k * 512 + q
def tbV (t : Int → Int) (v left : Int) : Int := if v = -1 then 536870912 else v + left * t 243 * 512
theorem mnV_or (t : Int → Int) (k q : Int) : (buysV t q k = -1 ∧ mnV t k q = 536870912) ∨ (buysV t q k ≠ -1 ∧ mnV t k q = buysV t q k * 512 + q) := by
  unfold mnV
  by_cases e : buysV t q k = -1
  · rw [if_pos e]; exact Or.inl ⟨e, rfl⟩
  · rw [if_neg e]; exact Or.inr ⟨e, rfl⟩
theorem tbV_or (t : Int → Int) (v left : Int) : (v = -1 ∧ tbV t v left = 536870912) ∨ (v ≠ -1 ∧ tbV t v left = v + left * t 243 * 512) := by
  unfold tbV
  by_cases e : v = -1
  · rw [if_pos e]; exact Or.inl ⟨e, rfl⟩
  · rw [if_neg e]; exact Or.inr ⟨e, rfl⟩
/-- the class's sum for a way to go on -/
theorem cand_sum {t : Int → Int} {set k kept left : Int} (hK : TQ t) (hs : 0 ≤ set ∧ set < 128) (hk : 0 ≤ k ∧ k < t 244) (hkp : 0 ≤ kept ∧ kept ≤ roomV t set) (hl : 0 ≤ left ∧ left ≤ roomV t set) (hq : 0 ≤ wantV t set k + left - kept) : (candV t set k kept (planV t set (t 244 - (k + 1)).toNat) left = -1 ∧ 536870912 ≤ mnV t k (wantV t set k + left - kept) + tbV t (planV t set (t 244 - (k + 1)).toNat left) left ∧ mnV t k (wantV t set k + left - kept) + tbV t (planV t set (t 244 - (k + 1)).toNat left) left ≤ 1073741824) ∨ (candV t set k kept (planV t set (t 244 - (k + 1)).toNat) left ≠ -1 ∧ candV t set k kept (planV t set (t 244 - (k + 1)).toNat) left < 536870912 ∧ 0 ≤ candV t set k kept (planV t set (t 244 - (k + 1)).toNat) left ∧ mnV t k (wantV t set k + left - kept) + tbV t (planV t set (t 244 - (k + 1)).toNat left) left = candV t set k kept (planV t set (t 244 - (k + 1)).toNat) left) := by
  have h6 := hK.2.2.2.2.2.1
  have hr := roomV_r hK hs
  have hwr := wantV_r hK hs (m := k) (by omega)
  have hp := planV_r1 (k := t 244 - (k + 1)) (kept := left) hK hs (by omega) hl
  have hcr := candV_r (m := k) (kept := kept) (left := left) (k := t 244 - (k + 1)) (nxt := planV t set (t 244 - (k + 1)).toNat) hK hs (by omega) (by omega) hkp hl hp
  have hbr := buysV_r (q := wantV t set k + left - kept) (m := k) hK hq (by omega)
  have a1 : 0 ≤ t 243 * left := Int.mul_nonneg hK.2.2.2.2.1.1 hl.1
  have a2 : t 243 * left ≤ 99 * left := Int.mul_le_mul_of_nonneg_right hK.2.2.2.2.1.2 hl.1
  have a3 : left * t 243 = t 243 * left := Int.mul_comm _ _
  have e1 := mnV_or t k (wantV t set k + left - kept)
  have e2 := tbV_or t (planV t set (t 244 - (k + 1)).toNat left) left
  rw [a3] at e2
  have hco : candV t set k kept (planV t set (t 244 - (k + 1)).toNat) left = (if wantV t set k + left - kept < 0 ∨ buysV t (wantV t set k + left - kept) k = -1 ∨ planV t set (t 244 - (k + 1)).toNat left = -1 then -1 else (buysV t (wantV t set k + left - kept) k + t 243 * left) * 512 + (wantV t set k + left - kept) + planV t set (t 244 - (k + 1)).toNat left) := rfl
  unfold okP at hp hcr
  by_cases g : wantV t set k + left - kept < 0 ∨ buysV t (wantV t set k + left - kept) k = -1 ∨ planV t set (t 244 - (k + 1)).toNat left = -1
  · rw [if_pos g] at hco
    left
    omega
  · rw [if_neg g] at hco
    right
    omega
theorem RHs.room {M : aM} {s set : Int} {t : Int → Int} (h : RHs M s t) : sumN (fun i => if hb set i = 1 then M (s + 7) i else 0) 7 = roomV t set := sumN_congr fun i a b => by rw [h.2.1 i a (by omega)]
theorem RHs.want {M : aM} {s set m : Int} {t : Int → Int} (h : RHs M s t) (hm : 0 ≤ m ∧ m < 6) : sumN (fun i => if hb set i = 1 then M (s + 8) (i * 6 + m) else 0) 7 = wantV t set m := sumN_congr fun i a b => by rw [h.2.2.1 (i * 6 + m) (by omega) (by omega), show 8 + (i * 6 + m) = 8 + 6 * i + m by omega]
theorem RHs.c7 {M : aM} {s : Int} {t : Int → Int} (h : RHs M s t) (hK : TQ t) : ∀ i, 0 ≤ i → i < 7 → 0 ≤ M (s + 7) i ∧ M (s + 7) i ≤ 8 := fun i a b => by rw [h.2.1 i a b]; exact hK.2.1 i a b
theorem RHs.c8 {M : aM} {s : Int} {t : Int → Int} (h : RHs M s t) (hK : TQ t) : ∀ i, 0 ≤ i → i < 42 → 0 ≤ M (s + 8) i ∧ M (s + 8) i ≤ 8 := fun i a b => by rw [h.2.2.1 i a b]; exact hK.2.2.1 i a b
/-- just the plans' rows from lo on -/
def frB (M M' : aM) (lo hi : Int) : Prop := ∀ a i : Int, ¬ (lo ≤ a ∧ a < hi) → M' a i = M a i
theorem frB.rf {M : aM} {lo hi : Int} : frB M M lo hi := fun _ _ _ => rfl
theorem frB.tr {M M' M'' : aM} {lo hi : Int} (h : frB M M' lo hi) (h' : frB M' M'' lo hi) : frB M M'' lo hi := fun a i x => (h' a i x).trans (h a i x)
theorem frB.wd {M M' : aM} {lo hi lo' hi' : Int} (h : frB M M' lo hi) (h1 : lo' ≤ lo) (h2 : hi ≤ hi') : frB M M' lo' hi' := fun a i x => h a i (by omega)
theorem frB.up1 {M M' : aM} {lo hi a i v : Int} (h : frB M M' lo hi) (ha : lo ≤ a ∧ a < hi) : frB M (up M' a i v) lo hi := fun b j x => (if_neg (by omega)).trans (h b j x)
theorem firstB_mono {p : Int → Bool} {n : Nat} {i : Int} (h0 : 0 ≤ i) (h1 : i < n) (hp : p i = true) : firstB p n ≤ i ∧ firstB p n ≠ -1 := by
  have e : firstB p n ≠ -1 := fun q => by
    have := firstB_none.mp q i h0 h1
    rw [hp] at this
    cases this
  refine ⟨?_, e⟩
  by_cases g : firstB p n ≤ i
  · exact g
  · have := firstB_lt (p := p) n i h0 (by omega)
    rw [hp] at this
    cases this
theorem dX3_costOf_0 : decode cX3_costOf 0 = .ok (.iload_n 1, 1) := by decide +kernel
theorem dX3_costOf_1 : decode cX3_costOf 1 = .ok (.iconst 1, 1) := by decide +kernel
theorem dX3_costOf_2 : decode cX3_costOf 2 = .ok (.if_icmp .lt 21, 3) := by decide +kernel
theorem dX3_costOf_5 : decode cX3_costOf 5 = .ok (.iload_n 1, 1) := by decide +kernel
theorem dX3_costOf_6 : decode cX3_costOf 6 = .ok (.sipush 128, 3) := by decide +kernel
theorem dX3_costOf_9 : decode cX3_costOf 9 = .ok (.if_icmp .ge 14, 3) := by decide +kernel
theorem dX3_costOf_12 : decode cX3_costOf 12 = .ok (.aload_n 0, 1) := by decide +kernel
theorem dX3_costOf_13 : decode cX3_costOf 13 = .ok (.getfield 21, 3) := by decide +kernel
theorem dX3_costOf_16 : decode cX3_costOf 16 = .ok (.iload_n 1, 1) := by decide +kernel
theorem dX3_costOf_17 : decode cX3_costOf 17 = .ok (.invokevirtual 43, 3) := by decide +kernel
theorem dX3_costOf_20 : decode cX3_costOf 20 = .ok (.ifCond .ne 5, 3) := by decide +kernel
theorem dX3_costOf_23 : decode cX3_costOf 23 = .ok (.iconst (-1), 1) := by decide +kernel
theorem dX3_costOf_24 : decode cX3_costOf 24 = .ok (.ireturn, 1) := by decide +kernel
theorem dX3_costOf_25 : decode cX3_costOf 25 = .ok (.aload_n 0, 1) := by decide +kernel
theorem dX3_costOf_26 : decode cX3_costOf 26 = .ok (.getfield 29, 3) := by decide +kernel
theorem dX3_costOf_29 : decode cX3_costOf 29 = .ok (.bipush 16, 2) := by decide +kernel
theorem dX3_costOf_31 : decode cX3_costOf 31 = .ok (.iload_n 1, 1) := by decide +kernel
theorem dX3_costOf_32 : decode cX3_costOf 32 = .ok (.invokestatic 49, 3) := by decide +kernel
theorem dX3_costOf_35 : decode cX3_costOf 35 = .ok (.imul, 1) := by decide +kernel
theorem dX3_costOf_36 : decode cX3_costOf 36 = .ok (.invokevirtual 55, 3) := by decide +kernel
theorem dX3_costOf_39 : decode cX3_costOf 39 = .ok (.aload_n 0, 1) := by decide +kernel
theorem dX3_costOf_40 : decode cX3_costOf 40 = .ok (.iload_n 1, 1) := by decide +kernel
theorem dX3_costOf_41 : decode cX3_costOf 41 = .ok (.invokevirtual 61, 3) := by decide +kernel
theorem dX3_costOf_44 : decode cX3_costOf 44 = .ok (.istore_n 2, 1) := by decide +kernel
theorem dX3_costOf_45 : decode cX3_costOf 45 = .ok (.iload_n 2, 1) := by decide +kernel
theorem dX3_costOf_46 : decode cX3_costOf 46 = .ok (.ldc 64, 2) := by decide +kernel
theorem dX3_costOf_48 : decode cX3_costOf 48 = .ok (.if_icmp .lt 7, 3) := by decide +kernel
theorem dX3_costOf_51 : decode cX3_costOf 51 = .ok (.iconst (-1), 1) := by decide +kernel
theorem dX3_costOf_52 : decode cX3_costOf 52 = .ok (.goto 23, 3) := by decide +kernel
theorem dX3_costOf_55 : decode cX3_costOf 55 = .ok (.iload_n 2, 1) := by decide +kernel
theorem dX3_costOf_56 : decode cX3_costOf 56 = .ok (.sipush 512, 3) := by decide +kernel
theorem dX3_costOf_59 : decode cX3_costOf 59 = .ok (.idiv, 1) := by decide +kernel
theorem dX3_costOf_60 : decode cX3_costOf 60 = .ok (.aload_n 0, 1) := by decide +kernel
theorem dX3_costOf_61 : decode cX3_costOf 61 = .ok (.getfield 25, 3) := by decide +kernel
theorem dX3_costOf_64 : decode cX3_costOf 64 = .ok (.getfield 65, 3) := by decide +kernel
theorem dX3_costOf_67 : decode cX3_costOf 67 = .ok (.iload_n 1, 1) := by decide +kernel
theorem dX3_costOf_68 : decode cX3_costOf 68 = .ok (.invokestatic 49, 3) := by decide +kernel
theorem dX3_costOf_71 : decode cX3_costOf 71 = .ok (.iconst 1, 1) := by decide +kernel
theorem dX3_costOf_72 : decode cX3_costOf 72 = .ok (.isub, 1) := by decide +kernel
theorem dX3_costOf_73 : decode cX3_costOf 73 = .ok (.imul, 1) := by decide +kernel
theorem dX3_costOf_74 : decode cX3_costOf 74 = .ok (.iadd, 1) := by decide +kernel
theorem dX3_costOf_75 : decode cX3_costOf 75 = .ok (.ireturn, 1) := by decide +kernel
theorem dX3_sacksOf_0 : decode cX3_sacksOf 0 = .ok (.aload_n 0, 1) := by decide +kernel
theorem dX3_sacksOf_1 : decode cX3_sacksOf 1 = .ok (.iload_n 1, 1) := by decide +kernel
theorem dX3_sacksOf_2 : decode cX3_sacksOf 2 = .ok (.invokevirtual 61, 3) := by decide +kernel
theorem dX3_sacksOf_5 : decode cX3_sacksOf 5 = .ok (.sipush 512, 3) := by decide +kernel
theorem dX3_sacksOf_8 : decode cX3_sacksOf 8 = .ok (.irem, 1) := by decide +kernel
theorem dX3_sacksOf_9 : decode cX3_sacksOf 9 = .ok (.ireturn, 1) := by decide +kernel
theorem dX3_sacksIn_0 : decode cX3_sacksIn 0 = .ok (.aload_n 0, 1) := by decide +kernel
theorem dX3_sacksIn_1 : decode cX3_sacksIn 1 = .ok (.getfield 21, 3) := by decide +kernel
theorem dX3_sacksIn_4 : decode cX3_sacksIn 4 = .ok (.iload_n 1, 1) := by decide +kernel
theorem dX3_sacksIn_5 : decode cX3_sacksIn 5 = .ok (.invokevirtual 71, 3) := by decide +kernel
theorem dX3_sacksIn_8 : decode cX3_sacksIn 8 = .ok (.istore_n 3, 1) := by decide +kernel
theorem dX3_sacksIn_9 : decode cX3_sacksIn 9 = .ok (.aload_n 0, 1) := by decide +kernel
theorem dX3_sacksIn_10 : decode cX3_sacksIn 10 = .ok (.getfield 9, 3) := by decide +kernel
theorem dX3_sacksIn_13 : decode cX3_sacksIn 13 = .ok (.iload_n 1, 1) := by decide +kernel
theorem dX3_sacksIn_14 : decode cX3_sacksIn 14 = .ok (.iconst (-1), 1) := by decide +kernel
theorem dX3_sacksIn_15 : decode cX3_sacksIn 15 = .ok (.iastore, 1) := by decide +kernel
theorem dX3_sacksIn_16 : decode cX3_sacksIn 16 = .ok (.aload_n 0, 1) := by decide +kernel
theorem dX3_sacksIn_17 : decode cX3_sacksIn 17 = .ok (.iload_n 1, 1) := by decide +kernel
theorem dX3_sacksIn_18 : decode cX3_sacksIn 18 = .ok (.invokevirtual 61, 3) := by decide +kernel
theorem dX3_sacksIn_21 : decode cX3_sacksIn 21 = .ok (.pop, 1) := by decide +kernel
theorem dX3_sacksIn_22 : decode cX3_sacksIn 22 = .ok (.iconst 0, 1) := by decide +kernel
theorem dX3_sacksIn_23 : decode cX3_sacksIn 23 = .ok (.istore 4, 2) := by decide +kernel
theorem dX3_sacksIn_25 : decode cX3_sacksIn 25 = .ok (.iconst 0, 1) := by decide +kernel
theorem dX3_sacksIn_26 : decode cX3_sacksIn 26 = .ok (.istore 5, 2) := by decide +kernel
theorem dX3_sacksIn_28 : decode cX3_sacksIn 28 = .ok (.iconst 0, 1) := by decide +kernel
theorem dX3_sacksIn_29 : decode cX3_sacksIn 29 = .ok (.istore 6, 2) := by decide +kernel
theorem dX3_sacksIn_31 : decode cX3_sacksIn 31 = .ok (.iload 6, 2) := by decide +kernel
theorem dX3_sacksIn_33 : decode cX3_sacksIn 33 = .ok (.iload_n 2, 1) := by decide +kernel
theorem dX3_sacksIn_34 : decode cX3_sacksIn 34 = .ok (.if_icmp .gt 65, 3) := by decide +kernel
theorem dX3_sacksIn_37 : decode cX3_sacksIn 37 = .ok (.iload 6, 2) := by decide +kernel
theorem dX3_sacksIn_39 : decode cX3_sacksIn 39 = .ok (.bipush 6, 2) := by decide +kernel
theorem dX3_sacksIn_41 : decode cX3_sacksIn 41 = .ok (.if_icmp .ge 58, 3) := by decide +kernel
theorem dX3_sacksIn_44 : decode cX3_sacksIn 44 = .ok (.aload_n 0, 1) := by decide +kernel
theorem dX3_sacksIn_45 : decode cX3_sacksIn 45 = .ok (.getfield 21, 3) := by decide +kernel
theorem dX3_sacksIn_48 : decode cX3_sacksIn 48 = .ok (.iload_n 1, 1) := by decide +kernel
theorem dX3_sacksIn_49 : decode cX3_sacksIn 49 = .ok (.iload 6, 2) := by decide +kernel
theorem dX3_sacksIn_51 : decode cX3_sacksIn 51 = .ok (.invokevirtual 74, 3) := by decide +kernel
theorem dX3_sacksIn_54 : decode cX3_sacksIn 54 = .ok (.istore 7, 2) := by decide +kernel
theorem dX3_sacksIn_56 : decode cX3_sacksIn 56 = .ok (.aload_n 0, 1) := by decide +kernel
theorem dX3_sacksIn_57 : decode cX3_sacksIn 57 = .ok (.iload 6, 2) := by decide +kernel
theorem dX3_sacksIn_59 : decode cX3_sacksIn 59 = .ok (.iload 7, 2) := by decide +kernel
theorem dX3_sacksIn_61 : decode cX3_sacksIn 61 = .ok (.iload_n 3, 1) := by decide +kernel
theorem dX3_sacksIn_62 : decode cX3_sacksIn 62 = .ok (.iadd, 1) := by decide +kernel
theorem dX3_sacksIn_63 : decode cX3_sacksIn 63 = .ok (.invokevirtual 78, 3) := by decide +kernel
theorem dX3_sacksIn_66 : decode cX3_sacksIn 66 = .ok (.aload_n 0, 1) := by decide +kernel
theorem dX3_sacksIn_67 : decode cX3_sacksIn 67 = .ok (.iload 6, 2) := by decide +kernel
theorem dX3_sacksIn_69 : decode cX3_sacksIn 69 = .ok (.iload 4, 2) := by decide +kernel
theorem dX3_sacksIn_71 : decode cX3_sacksIn 71 = .ok (.iload 7, 2) := by decide +kernel
theorem dX3_sacksIn_73 : decode cX3_sacksIn 73 = .ok (.iload_n 3, 1) := by decide +kernel
theorem dX3_sacksIn_74 : decode cX3_sacksIn 74 = .ok (.invokevirtual 82, 3) := by decide +kernel
theorem dX3_sacksIn_77 : decode cX3_sacksIn 77 = .ok (.istore 8, 2) := by decide +kernel
theorem dX3_sacksIn_79 : decode cX3_sacksIn 79 = .ok (.iload 7, 2) := by decide +kernel
theorem dX3_sacksIn_81 : decode cX3_sacksIn 81 = .ok (.iload 8, 2) := by decide +kernel
theorem dX3_sacksIn_83 : decode cX3_sacksIn 83 = .ok (.iadd, 1) := by decide +kernel
theorem dX3_sacksIn_84 : decode cX3_sacksIn 84 = .ok (.iload 4, 2) := by decide +kernel
theorem dX3_sacksIn_86 : decode cX3_sacksIn 86 = .ok (.isub, 1) := by decide +kernel
theorem dX3_sacksIn_87 : decode cX3_sacksIn 87 = .ok (.istore 5, 2) := by decide +kernel
theorem dX3_sacksIn_89 : decode cX3_sacksIn 89 = .ok (.iload 8, 2) := by decide +kernel
theorem dX3_sacksIn_91 : decode cX3_sacksIn 91 = .ok (.istore 4, 2) := by decide +kernel
theorem dX3_sacksIn_93 : decode cX3_sacksIn 93 = .ok (.iinc 6 1, 3) := by decide +kernel
theorem dX3_sacksIn_96 : decode cX3_sacksIn 96 = .ok (.goto (-65), 3) := by decide +kernel
theorem dX3_sacksIn_99 : decode cX3_sacksIn 99 = .ok (.iload 5, 2) := by decide +kernel
theorem dX3_sacksIn_101 : decode cX3_sacksIn 101 = .ok (.ireturn, 1) := by decide +kernel
theorem dX3_worthOf_0 : decode cX3_worthOf 0 = .ok (.aload_n 0, 1) := by decide +kernel
theorem dX3_worthOf_1 : decode cX3_worthOf 1 = .ok (.getfield 9, 3) := by decide +kernel
theorem dX3_worthOf_4 : decode cX3_worthOf 4 = .ok (.iload_n 1, 1) := by decide +kernel
theorem dX3_worthOf_5 : decode cX3_worthOf 5 = .ok (.iaload, 1) := by decide +kernel
theorem dX3_worthOf_6 : decode cX3_worthOf 6 = .ok (.iconst (-1), 1) := by decide +kernel
theorem dX3_worthOf_7 : decode cX3_worthOf 7 = .ok (.if_icmp .eq 10, 3) := by decide +kernel
theorem dX3_worthOf_10 : decode cX3_worthOf 10 = .ok (.aload_n 0, 1) := by decide +kernel
theorem dX3_worthOf_11 : decode cX3_worthOf 11 = .ok (.getfield 9, 3) := by decide +kernel
theorem dX3_worthOf_14 : decode cX3_worthOf 14 = .ok (.iload_n 1, 1) := by decide +kernel
theorem dX3_worthOf_15 : decode cX3_worthOf 15 = .ok (.iaload, 1) := by decide +kernel
theorem dX3_worthOf_16 : decode cX3_worthOf 16 = .ok (.ireturn, 1) := by decide +kernel
theorem dX3_worthOf_17 : decode cX3_worthOf 17 = .ok (.aload_n 0, 1) := by decide +kernel
theorem dX3_worthOf_18 : decode cX3_worthOf 18 = .ok (.getfield 21, 3) := by decide +kernel
theorem dX3_worthOf_21 : decode cX3_worthOf 21 = .ok (.iload_n 1, 1) := by decide +kernel
theorem dX3_worthOf_22 : decode cX3_worthOf 22 = .ok (.invokevirtual 71, 3) := by decide +kernel
theorem dX3_worthOf_25 : decode cX3_worthOf 25 = .ok (.istore_n 2, 1) := by decide +kernel
theorem dX3_worthOf_26 : decode cX3_worthOf 26 = .ok (.aload_n 0, 1) := by decide +kernel
theorem dX3_worthOf_27 : decode cX3_worthOf 27 = .ok (.getfield 25, 3) := by decide +kernel
theorem dX3_worthOf_30 : decode cX3_worthOf 30 = .ok (.getfield 86, 3) := by decide +kernel
theorem dX3_worthOf_33 : decode cX3_worthOf 33 = .ok (.bipush 6, 2) := by decide +kernel
theorem dX3_worthOf_35 : decode cX3_worthOf 35 = .ok (.invokestatic 89, 3) := by decide +kernel
theorem dX3_worthOf_38 : decode cX3_worthOf 38 = .ok (.istore_n 3, 1) := by decide +kernel
theorem dX3_worthOf_39 : decode cX3_worthOf 39 = .ok (.iconst 0, 1) := by decide +kernel
theorem dX3_worthOf_40 : decode cX3_worthOf 40 = .ok (.istore 4, 2) := by decide +kernel
theorem dX3_worthOf_42 : decode cX3_worthOf 42 = .ok (.iload 4, 2) := by decide +kernel
theorem dX3_worthOf_44 : decode cX3_worthOf 44 = .ok (.iload_n 2, 1) := by decide +kernel
theorem dX3_worthOf_45 : decode cX3_worthOf 45 = .ok (.if_icmp .gt 35, 3) := by decide +kernel
theorem dX3_worthOf_48 : decode cX3_worthOf 48 = .ok (.aload_n 0, 1) := by decide +kernel
theorem dX3_worthOf_49 : decode cX3_worthOf 49 = .ok (.getfield 15, 3) := by decide +kernel
theorem dX3_worthOf_52 : decode cX3_worthOf 52 = .ok (.iload_n 3, 1) := by decide +kernel
theorem dX3_worthOf_53 : decode cX3_worthOf 53 = .ok (.bipush 57, 2) := by decide +kernel
theorem dX3_worthOf_55 : decode cX3_worthOf 55 = .ok (.imul, 1) := by decide +kernel
theorem dX3_worthOf_56 : decode cX3_worthOf 56 = .ok (.iload 4, 2) := by decide +kernel
theorem dX3_worthOf_58 : decode cX3_worthOf 58 = .ok (.iadd, 1) := by decide +kernel
theorem dX3_worthOf_59 : decode cX3_worthOf 59 = .ok (.iload 4, 2) := by decide +kernel
theorem dX3_worthOf_61 : decode cX3_worthOf 61 = .ok (.aload_n 0, 1) := by decide +kernel
theorem dX3_worthOf_62 : decode cX3_worthOf 62 = .ok (.getfield 25, 3) := by decide +kernel
theorem dX3_worthOf_65 : decode cX3_worthOf 65 = .ok (.getfield 94, 3) := by decide +kernel
theorem dX3_worthOf_68 : decode cX3_worthOf 68 = .ok (.imul, 1) := by decide +kernel
theorem dX3_worthOf_69 : decode cX3_worthOf 69 = .ok (.sipush 512, 3) := by decide +kernel
theorem dX3_worthOf_72 : decode cX3_worthOf 72 = .ok (.imul, 1) := by decide +kernel
theorem dX3_worthOf_73 : decode cX3_worthOf 73 = .ok (.iastore, 1) := by decide +kernel
theorem dX3_worthOf_74 : decode cX3_worthOf 74 = .ok (.iinc 4 1, 3) := by decide +kernel
theorem dX3_worthOf_77 : decode cX3_worthOf 77 = .ok (.goto (-35), 3) := by decide +kernel
theorem dX3_worthOf_80 : decode cX3_worthOf 80 = .ok (.iload_n 3, 1) := by decide +kernel
theorem dX3_worthOf_81 : decode cX3_worthOf 81 = .ok (.iconst 1, 1) := by decide +kernel
theorem dX3_worthOf_82 : decode cX3_worthOf 82 = .ok (.isub, 1) := by decide +kernel
theorem dX3_worthOf_83 : decode cX3_worthOf 83 = .ok (.istore 4, 2) := by decide +kernel
theorem dX3_worthOf_85 : decode cX3_worthOf 85 = .ok (.iload 4, 2) := by decide +kernel
theorem dX3_worthOf_87 : decode cX3_worthOf 87 = .ok (.ifCond .lt 114, 3) := by decide +kernel
theorem dX3_worthOf_90 : decode cX3_worthOf 90 = .ok (.aload_n 0, 1) := by decide +kernel
theorem dX3_worthOf_91 : decode cX3_worthOf 91 = .ok (.getfield 21, 3) := by decide +kernel
theorem dX3_worthOf_94 : decode cX3_worthOf 94 = .ok (.iload_n 1, 1) := by decide +kernel
theorem dX3_worthOf_95 : decode cX3_worthOf 95 = .ok (.iload 4, 2) := by decide +kernel
theorem dX3_worthOf_97 : decode cX3_worthOf 97 = .ok (.invokevirtual 74, 3) := by decide +kernel
theorem dX3_worthOf_100 : decode cX3_worthOf 100 = .ok (.istore 5, 2) := by decide +kernel
theorem dX3_worthOf_102 : decode cX3_worthOf 102 = .ok (.aload_n 0, 1) := by decide +kernel
theorem dX3_worthOf_103 : decode cX3_worthOf 103 = .ok (.iload 4, 2) := by decide +kernel
theorem dX3_worthOf_105 : decode cX3_worthOf 105 = .ok (.iload 5, 2) := by decide +kernel
theorem dX3_worthOf_107 : decode cX3_worthOf 107 = .ok (.iload_n 2, 1) := by decide +kernel
theorem dX3_worthOf_108 : decode cX3_worthOf 108 = .ok (.iadd, 1) := by decide +kernel
theorem dX3_worthOf_109 : decode cX3_worthOf 109 = .ok (.invokevirtual 78, 3) := by decide +kernel
theorem dX3_worthOf_112 : decode cX3_worthOf 112 = .ok (.iload 4, 2) := by decide +kernel
theorem dX3_worthOf_114 : decode cX3_worthOf 114 = .ok (.ifCond .ne 7, 3) := by decide +kernel
theorem dX3_worthOf_117 : decode cX3_worthOf 117 = .ok (.iconst 0, 1) := by decide +kernel
theorem dX3_worthOf_118 : decode cX3_worthOf 118 = .ok (.goto 4, 3) := by decide +kernel
theorem dX3_worthOf_121 : decode cX3_worthOf 121 = .ok (.iload_n 2, 1) := by decide +kernel
theorem dX3_worthOf_122 : decode cX3_worthOf 122 = .ok (.istore 6, 2) := by decide +kernel
theorem dX3_worthOf_124 : decode cX3_worthOf 124 = .ok (.iconst 0, 1) := by decide +kernel
theorem dX3_worthOf_125 : decode cX3_worthOf 125 = .ok (.istore 7, 2) := by decide +kernel
theorem dX3_worthOf_127 : decode cX3_worthOf 127 = .ok (.iload 7, 2) := by decide +kernel
theorem dX3_worthOf_129 : decode cX3_worthOf 129 = .ok (.iload 6, 2) := by decide +kernel
theorem dX3_worthOf_131 : decode cX3_worthOf 131 = .ok (.if_icmp .gt 64, 3) := by decide +kernel
theorem dX3_worthOf_134 : decode cX3_worthOf 134 = .ok (.aload_n 0, 1) := by decide +kernel
theorem dX3_worthOf_135 : decode cX3_worthOf 135 = .ok (.iload 4, 2) := by decide +kernel
theorem dX3_worthOf_137 : decode cX3_worthOf 137 = .ok (.iload 7, 2) := by decide +kernel
theorem dX3_worthOf_139 : decode cX3_worthOf 139 = .ok (.iload 5, 2) := by decide +kernel
theorem dX3_worthOf_141 : decode cX3_worthOf 141 = .ok (.iload_n 2, 1) := by decide +kernel
theorem dX3_worthOf_142 : decode cX3_worthOf 142 = .ok (.invokevirtual 97, 3) := by decide +kernel
theorem dX3_worthOf_145 : decode cX3_worthOf 145 = .ok (.istore 8, 2) := by decide +kernel
theorem dX3_worthOf_147 : decode cX3_worthOf 147 = .ok (.aload_n 0, 1) := by decide +kernel
theorem dX3_worthOf_148 : decode cX3_worthOf 148 = .ok (.getfield 15, 3) := by decide +kernel
theorem dX3_worthOf_151 : decode cX3_worthOf 151 = .ok (.iload 4, 2) := by decide +kernel
theorem dX3_worthOf_153 : decode cX3_worthOf 153 = .ok (.bipush 57, 2) := by decide +kernel
theorem dX3_worthOf_155 : decode cX3_worthOf 155 = .ok (.imul, 1) := by decide +kernel
theorem dX3_worthOf_156 : decode cX3_worthOf 156 = .ok (.iload 7, 2) := by decide +kernel
theorem dX3_worthOf_158 : decode cX3_worthOf 158 = .ok (.iadd, 1) := by decide +kernel
theorem dX3_worthOf_159 : decode cX3_worthOf 159 = .ok (.iload 8, 2) := by decide +kernel
theorem dX3_worthOf_161 : decode cX3_worthOf 161 = .ok (.ldc 64, 2) := by decide +kernel
theorem dX3_worthOf_163 : decode cX3_worthOf 163 = .ok (.if_icmp .lt 8, 3) := by decide +kernel
theorem dX3_worthOf_166 : decode cX3_worthOf 166 = .ok (.ldc 64, 2) := by decide +kernel
theorem dX3_worthOf_168 : decode cX3_worthOf 168 = .ok (.goto 20, 3) := by decide +kernel
theorem dX3_worthOf_171 : decode cX3_worthOf 171 = .ok (.iload 8, 2) := by decide +kernel
theorem dX3_worthOf_173 : decode cX3_worthOf 173 = .ok (.iload 7, 2) := by decide +kernel
theorem dX3_worthOf_175 : decode cX3_worthOf 175 = .ok (.aload_n 0, 1) := by decide +kernel
theorem dX3_worthOf_176 : decode cX3_worthOf 176 = .ok (.getfield 25, 3) := by decide +kernel
theorem dX3_worthOf_179 : decode cX3_worthOf 179 = .ok (.getfield 94, 3) := by decide +kernel
theorem dX3_worthOf_182 : decode cX3_worthOf 182 = .ok (.imul, 1) := by decide +kernel
theorem dX3_worthOf_183 : decode cX3_worthOf 183 = .ok (.sipush 512, 3) := by decide +kernel
theorem dX3_worthOf_186 : decode cX3_worthOf 186 = .ok (.imul, 1) := by decide +kernel
theorem dX3_worthOf_187 : decode cX3_worthOf 187 = .ok (.iadd, 1) := by decide +kernel
theorem dX3_worthOf_188 : decode cX3_worthOf 188 = .ok (.iastore, 1) := by decide +kernel
theorem dX3_worthOf_189 : decode cX3_worthOf 189 = .ok (.iinc 7 1, 3) := by decide +kernel
theorem dX3_worthOf_192 : decode cX3_worthOf 192 = .ok (.goto (-65), 3) := by decide +kernel
theorem dX3_worthOf_195 : decode cX3_worthOf 195 = .ok (.iinc 4 (-1), 3) := by decide +kernel
theorem dX3_worthOf_198 : decode cX3_worthOf 198 = .ok (.goto (-113), 3) := by decide +kernel
theorem dX3_worthOf_201 : decode cX3_worthOf 201 = .ok (.aload_n 0, 1) := by decide +kernel
theorem dX3_worthOf_202 : decode cX3_worthOf 202 = .ok (.getfield 9, 3) := by decide +kernel
theorem dX3_worthOf_205 : decode cX3_worthOf 205 = .ok (.iload_n 1, 1) := by decide +kernel
theorem dX3_worthOf_206 : decode cX3_worthOf 206 = .ok (.aload_n 0, 1) := by decide +kernel
theorem dX3_worthOf_207 : decode cX3_worthOf 207 = .ok (.getfield 15, 3) := by decide +kernel
theorem dX3_worthOf_210 : decode cX3_worthOf 210 = .ok (.iconst 0, 1) := by decide +kernel
theorem dX3_worthOf_211 : decode cX3_worthOf 211 = .ok (.iaload, 1) := by decide +kernel
theorem dX3_worthOf_212 : decode cX3_worthOf 212 = .ok (.iastore, 1) := by decide +kernel
theorem dX3_worthOf_213 : decode cX3_worthOf 213 = .ok (.aload_n 0, 1) := by decide +kernel
theorem dX3_worthOf_214 : decode cX3_worthOf 214 = .ok (.getfield 15, 3) := by decide +kernel
theorem dX3_worthOf_217 : decode cX3_worthOf 217 = .ok (.iconst 0, 1) := by decide +kernel
theorem dX3_worthOf_218 : decode cX3_worthOf 218 = .ok (.iaload, 1) := by decide +kernel
theorem dX3_worthOf_219 : decode cX3_worthOf 219 = .ok (.ireturn, 1) := by decide +kernel
theorem dX3_priceMonth_0 : decode cX3_priceMonth 0 = .ok (.aload_n 0, 1) := by decide +kernel
theorem dX3_priceMonth_1 : decode cX3_priceMonth 1 = .ok (.getfield 25, 3) := by decide +kernel
theorem dX3_priceMonth_4 : decode cX3_priceMonth 4 = .ok (.getfield 100, 3) := by decide +kernel
theorem dX3_priceMonth_7 : decode cX3_priceMonth 7 = .ok (.iload_n 1, 1) := by decide +kernel
theorem dX3_priceMonth_8 : decode cX3_priceMonth 8 = .ok (.iaload, 1) := by decide +kernel
theorem dX3_priceMonth_9 : decode cX3_priceMonth 9 = .ok (.istore_n 3, 1) := by decide +kernel
theorem dX3_priceMonth_10 : decode cX3_priceMonth 10 = .ok (.iconst 0, 1) := by decide +kernel
theorem dX3_priceMonth_11 : decode cX3_priceMonth 11 = .ok (.istore 4, 2) := by decide +kernel
theorem dX3_priceMonth_13 : decode cX3_priceMonth 13 = .ok (.iload 4, 2) := by decide +kernel
theorem dX3_priceMonth_15 : decode cX3_priceMonth 15 = .ok (.iload_n 2, 1) := by decide +kernel
theorem dX3_priceMonth_16 : decode cX3_priceMonth 16 = .ok (.if_icmp .gt 64, 3) := by decide +kernel
theorem dX3_priceMonth_19 : decode cX3_priceMonth 19 = .ok (.iload 4, 2) := by decide +kernel
theorem dX3_priceMonth_21 : decode cX3_priceMonth 21 = .ok (.aload_n 0, 1) := by decide +kernel
theorem dX3_priceMonth_22 : decode cX3_priceMonth 22 = .ok (.getfield 18, 3) := by decide +kernel
theorem dX3_priceMonth_25 : decode cX3_priceMonth 25 = .ok (.arraylength, 1) := by decide +kernel
theorem dX3_priceMonth_26 : decode cX3_priceMonth 26 = .ok (.if_icmp .ge 54, 3) := by decide +kernel
theorem dX3_priceMonth_29 : decode cX3_priceMonth 29 = .ok (.aload_n 0, 1) := by decide +kernel
theorem dX3_priceMonth_30 : decode cX3_priceMonth 30 = .ok (.getfield 29, 3) := by decide +kernel
theorem dX3_priceMonth_33 : decode cX3_priceMonth 33 = .ok (.getfield 103, 3) := by decide +kernel
theorem dX3_priceMonth_36 : decode cX3_priceMonth 36 = .ok (.iload 4, 2) := by decide +kernel
theorem dX3_priceMonth_38 : decode cX3_priceMonth 38 = .ok (.iaload, 1) := by decide +kernel
theorem dX3_priceMonth_39 : decode cX3_priceMonth 39 = .ok (.istore 5, 2) := by decide +kernel
theorem dX3_priceMonth_41 : decode cX3_priceMonth 41 = .ok (.aload_n 0, 1) := by decide +kernel
theorem dX3_priceMonth_42 : decode cX3_priceMonth 42 = .ok (.getfield 18, 3) := by decide +kernel
theorem dX3_priceMonth_45 : decode cX3_priceMonth 45 = .ok (.iload 4, 2) := by decide +kernel
theorem dX3_priceMonth_47 : decode cX3_priceMonth 47 = .ok (.iload 5, 2) := by decide +kernel
theorem dX3_priceMonth_49 : decode cX3_priceMonth 49 = .ok (.ldc 64, 2) := by decide +kernel
theorem dX3_priceMonth_51 : decode cX3_priceMonth 51 = .ok (.if_icmp .lt 8, 3) := by decide +kernel
theorem dX3_priceMonth_54 : decode cX3_priceMonth 54 = .ok (.ldc 64, 2) := by decide +kernel
theorem dX3_priceMonth_56 : decode cX3_priceMonth 56 = .ok (.goto 17, 3) := by decide +kernel
theorem dX3_priceMonth_59 : decode cX3_priceMonth 59 = .ok (.iload 5, 2) := by decide +kernel
theorem dX3_priceMonth_61 : decode cX3_priceMonth 61 = .ok (.iload 4, 2) := by decide +kernel
theorem dX3_priceMonth_63 : decode cX3_priceMonth 63 = .ok (.iload_n 3, 1) := by decide +kernel
theorem dX3_priceMonth_64 : decode cX3_priceMonth 64 = .ok (.imul, 1) := by decide +kernel
theorem dX3_priceMonth_65 : decode cX3_priceMonth 65 = .ok (.iadd, 1) := by decide +kernel
theorem dX3_priceMonth_66 : decode cX3_priceMonth 66 = .ok (.sipush 512, 3) := by decide +kernel
theorem dX3_priceMonth_69 : decode cX3_priceMonth 69 = .ok (.imul, 1) := by decide +kernel
theorem dX3_priceMonth_70 : decode cX3_priceMonth 70 = .ok (.iload 4, 2) := by decide +kernel
theorem dX3_priceMonth_72 : decode cX3_priceMonth 72 = .ok (.iadd, 1) := by decide +kernel
theorem dX3_priceMonth_73 : decode cX3_priceMonth 73 = .ok (.iastore, 1) := by decide +kernel
theorem dX3_priceMonth_74 : decode cX3_priceMonth 74 = .ok (.iinc 4 1, 3) := by decide +kernel
theorem dX3_priceMonth_77 : decode cX3_priceMonth 77 = .ok (.goto (-64), 3) := by decide +kernel
theorem dX3_priceMonth_80 : decode cX3_priceMonth 80 = .ok (.return_, 1) := by decide +kernel
theorem dX3_leastFrom_0 : decode cX3_leastFrom 0 = .ok (.ldc 64, 2) := by decide +kernel
theorem dX3_leastFrom_2 : decode cX3_leastFrom 2 = .ok (.istore 5, 2) := by decide +kernel
theorem dX3_leastFrom_4 : decode cX3_leastFrom 4 = .ok (.iload_n 3, 1) := by decide +kernel
theorem dX3_leastFrom_5 : decode cX3_leastFrom 5 = .ok (.iload_n 2, 1) := by decide +kernel
theorem dX3_leastFrom_6 : decode cX3_leastFrom 6 = .ok (.isub, 1) := by decide +kernel
theorem dX3_leastFrom_7 : decode cX3_leastFrom 7 = .ok (.istore 6, 2) := by decide +kernel
theorem dX3_leastFrom_9 : decode cX3_leastFrom 9 = .ok (.iload_n 1, 1) := by decide +kernel
theorem dX3_leastFrom_10 : decode cX3_leastFrom 10 = .ok (.iconst 1, 1) := by decide +kernel
theorem dX3_leastFrom_11 : decode cX3_leastFrom 11 = .ok (.iadd, 1) := by decide +kernel
theorem dX3_leastFrom_12 : decode cX3_leastFrom 12 = .ok (.bipush 57, 2) := by decide +kernel
theorem dX3_leastFrom_14 : decode cX3_leastFrom 14 = .ok (.imul, 1) := by decide +kernel
theorem dX3_leastFrom_15 : decode cX3_leastFrom 15 = .ok (.istore 7, 2) := by decide +kernel
theorem dX3_leastFrom_17 : decode cX3_leastFrom 17 = .ok (.iconst 0, 1) := by decide +kernel
theorem dX3_leastFrom_18 : decode cX3_leastFrom 18 = .ok (.iload 6, 2) := by decide +kernel
theorem dX3_leastFrom_20 : decode cX3_leastFrom 20 = .ok (.ineg, 1) := by decide +kernel
theorem dX3_leastFrom_21 : decode cX3_leastFrom 21 = .ok (.invokestatic 106, 3) := by decide +kernel
theorem dX3_leastFrom_24 : decode cX3_leastFrom 24 = .ok (.istore 8, 2) := by decide +kernel
theorem dX3_leastFrom_26 : decode cX3_leastFrom 26 = .ok (.iload 8, 2) := by decide +kernel
theorem dX3_leastFrom_28 : decode cX3_leastFrom 28 = .ok (.iload 4, 2) := by decide +kernel
theorem dX3_leastFrom_30 : decode cX3_leastFrom 30 = .ok (.if_icmp .gt 43, 3) := by decide +kernel
theorem dX3_leastFrom_33 : decode cX3_leastFrom 33 = .ok (.aload_n 0, 1) := by decide +kernel
theorem dX3_leastFrom_34 : decode cX3_leastFrom 34 = .ok (.getfield 18, 3) := by decide +kernel
theorem dX3_leastFrom_37 : decode cX3_leastFrom 37 = .ok (.iload 6, 2) := by decide +kernel
theorem dX3_leastFrom_39 : decode cX3_leastFrom 39 = .ok (.iload 8, 2) := by decide +kernel
theorem dX3_leastFrom_41 : decode cX3_leastFrom 41 = .ok (.iadd, 1) := by decide +kernel
theorem dX3_leastFrom_42 : decode cX3_leastFrom 42 = .ok (.iaload, 1) := by decide +kernel
theorem dX3_leastFrom_43 : decode cX3_leastFrom 43 = .ok (.aload_n 0, 1) := by decide +kernel
theorem dX3_leastFrom_44 : decode cX3_leastFrom 44 = .ok (.getfield 15, 3) := by decide +kernel
theorem dX3_leastFrom_47 : decode cX3_leastFrom 47 = .ok (.iload 7, 2) := by decide +kernel
theorem dX3_leastFrom_49 : decode cX3_leastFrom 49 = .ok (.iload 8, 2) := by decide +kernel
theorem dX3_leastFrom_51 : decode cX3_leastFrom 51 = .ok (.iadd, 1) := by decide +kernel
theorem dX3_leastFrom_52 : decode cX3_leastFrom 52 = .ok (.iaload, 1) := by decide +kernel
theorem dX3_leastFrom_53 : decode cX3_leastFrom 53 = .ok (.iadd, 1) := by decide +kernel
theorem dX3_leastFrom_54 : decode cX3_leastFrom 54 = .ok (.istore 9, 2) := by decide +kernel
theorem dX3_leastFrom_56 : decode cX3_leastFrom 56 = .ok (.iload 9, 2) := by decide +kernel
theorem dX3_leastFrom_58 : decode cX3_leastFrom 58 = .ok (.iload 5, 2) := by decide +kernel
theorem dX3_leastFrom_60 : decode cX3_leastFrom 60 = .ok (.if_icmp .ge 7, 3) := by decide +kernel
theorem dX3_leastFrom_63 : decode cX3_leastFrom 63 = .ok (.iload 9, 2) := by decide +kernel
theorem dX3_leastFrom_65 : decode cX3_leastFrom 65 = .ok (.istore 5, 2) := by decide +kernel
theorem dX3_leastFrom_67 : decode cX3_leastFrom 67 = .ok (.iinc 8 1, 3) := by decide +kernel
theorem dX3_leastFrom_70 : decode cX3_leastFrom 70 = .ok (.goto (-44), 3) := by decide +kernel
theorem dX3_leastFrom_73 : decode cX3_leastFrom 73 = .ok (.iload 5, 2) := by decide +kernel
theorem dX3_leastFrom_75 : decode cX3_leastFrom 75 = .ok (.ireturn, 1) := by decide +kernel
theorem dX3_leftIn_0 : decode cX3_leftIn 0 = .ok (.aload_n 0, 1) := by decide +kernel
theorem dX3_leftIn_1 : decode cX3_leftIn 1 = .ok (.iload_n 1, 1) := by decide +kernel
theorem dX3_leftIn_2 : decode cX3_leftIn 2 = .ok (.iload_n 2, 1) := by decide +kernel
theorem dX3_leftIn_3 : decode cX3_leftIn 3 = .ok (.iload_n 3, 1) := by decide +kernel
theorem dX3_leftIn_4 : decode cX3_leftIn 4 = .ok (.iload 4, 2) := by decide +kernel
theorem dX3_leftIn_6 : decode cX3_leftIn 6 = .ok (.invokevirtual 97, 3) := by decide +kernel
theorem dX3_leftIn_9 : decode cX3_leftIn 9 = .ok (.istore 5, 2) := by decide +kernel
theorem dX3_leftIn_11 : decode cX3_leftIn 11 = .ok (.iload_n 1, 1) := by decide +kernel
theorem dX3_leftIn_12 : decode cX3_leftIn 12 = .ok (.iconst 1, 1) := by decide +kernel
theorem dX3_leftIn_13 : decode cX3_leftIn 13 = .ok (.iadd, 1) := by decide +kernel
theorem dX3_leftIn_14 : decode cX3_leftIn 14 = .ok (.bipush 57, 2) := by decide +kernel
theorem dX3_leftIn_16 : decode cX3_leftIn 16 = .ok (.imul, 1) := by decide +kernel
theorem dX3_leftIn_17 : decode cX3_leftIn 17 = .ok (.istore 6, 2) := by decide +kernel
theorem dX3_leftIn_19 : decode cX3_leftIn 19 = .ok (.iconst 0, 1) := by decide +kernel
theorem dX3_leftIn_20 : decode cX3_leftIn 20 = .ok (.iload_n 2, 1) := by decide +kernel
theorem dX3_leftIn_21 : decode cX3_leftIn 21 = .ok (.iload_n 3, 1) := by decide +kernel
theorem dX3_leftIn_22 : decode cX3_leftIn 22 = .ok (.isub, 1) := by decide +kernel
theorem dX3_leftIn_23 : decode cX3_leftIn 23 = .ok (.invokestatic 106, 3) := by decide +kernel
theorem dX3_leftIn_26 : decode cX3_leftIn 26 = .ok (.istore 7, 2) := by decide +kernel
theorem dX3_leftIn_28 : decode cX3_leftIn 28 = .ok (.iload 7, 2) := by decide +kernel
theorem dX3_leftIn_30 : decode cX3_leftIn 30 = .ok (.istore 8, 2) := by decide +kernel
theorem dX3_leftIn_32 : decode cX3_leftIn 32 = .ok (.iload 8, 2) := by decide +kernel
theorem dX3_leftIn_34 : decode cX3_leftIn 34 = .ok (.iload 4, 2) := by decide +kernel
theorem dX3_leftIn_36 : decode cX3_leftIn 36 = .ok (.if_icmp .gt 39, 3) := by decide +kernel
theorem dX3_leftIn_39 : decode cX3_leftIn 39 = .ok (.aload_n 0, 1) := by decide +kernel
theorem dX3_leftIn_40 : decode cX3_leftIn 40 = .ok (.getfield 18, 3) := by decide +kernel
theorem dX3_leftIn_43 : decode cX3_leftIn 43 = .ok (.iload_n 3, 1) := by decide +kernel
theorem dX3_leftIn_44 : decode cX3_leftIn 44 = .ok (.iload 8, 2) := by decide +kernel
theorem dX3_leftIn_46 : decode cX3_leftIn 46 = .ok (.iadd, 1) := by decide +kernel
theorem dX3_leftIn_47 : decode cX3_leftIn 47 = .ok (.iload_n 2, 1) := by decide +kernel
theorem dX3_leftIn_48 : decode cX3_leftIn 48 = .ok (.isub, 1) := by decide +kernel
theorem dX3_leftIn_49 : decode cX3_leftIn 49 = .ok (.iaload, 1) := by decide +kernel
theorem dX3_leftIn_50 : decode cX3_leftIn 50 = .ok (.aload_n 0, 1) := by decide +kernel
theorem dX3_leftIn_51 : decode cX3_leftIn 51 = .ok (.getfield 15, 3) := by decide +kernel
theorem dX3_leftIn_54 : decode cX3_leftIn 54 = .ok (.iload 6, 2) := by decide +kernel
theorem dX3_leftIn_56 : decode cX3_leftIn 56 = .ok (.iload 8, 2) := by decide +kernel
theorem dX3_leftIn_58 : decode cX3_leftIn 58 = .ok (.iadd, 1) := by decide +kernel
theorem dX3_leftIn_59 : decode cX3_leftIn 59 = .ok (.iaload, 1) := by decide +kernel
theorem dX3_leftIn_60 : decode cX3_leftIn 60 = .ok (.iadd, 1) := by decide +kernel
theorem dX3_leftIn_61 : decode cX3_leftIn 61 = .ok (.iload 5, 2) := by decide +kernel
theorem dX3_leftIn_63 : decode cX3_leftIn 63 = .ok (.if_icmp .ne 6, 3) := by decide +kernel
theorem dX3_leftIn_66 : decode cX3_leftIn 66 = .ok (.iload 8, 2) := by decide +kernel
theorem dX3_leftIn_68 : decode cX3_leftIn 68 = .ok (.ireturn, 1) := by decide +kernel
theorem dX3_leftIn_69 : decode cX3_leftIn 69 = .ok (.iinc 8 1, 3) := by decide +kernel
theorem dX3_leftIn_72 : decode cX3_leftIn 72 = .ok (.goto (-40), 3) := by decide +kernel
theorem dX3_leftIn_75 : decode cX3_leftIn 75 = .ok (.iload 7, 2) := by decide +kernel
theorem dX3_leftIn_77 : decode cX3_leftIn 77 = .ok (.ireturn, 1) := by decide +kernel
theorem dX11_cost_0 : decode cX11_cost 0 = .ok (.aload_n 0, 1) := by decide +kernel
theorem dX11_cost_1 : decode cX11_cost 1 = .ok (.iload_n 1, 1) := by decide +kernel
theorem dX11_cost_2 : decode cX11_cost 2 = .ok (.invokevirtual 131, 3) := by decide +kernel
theorem dX11_cost_5 : decode cX11_cost 5 = .ok (.aload_n 0, 1) := by decide +kernel
theorem dX11_cost_6 : decode cX11_cost 6 = .ok (.getfield 45, 3) := by decide +kernel
theorem dX11_cost_9 : decode cX11_cost 9 = .ok (.iload_n 1, 1) := by decide +kernel
theorem dX11_cost_10 : decode cX11_cost 10 = .ok (.invokevirtual 191, 3) := by decide +kernel
theorem dX11_cost_13 : decode cX11_cost 13 = .ok (.ireturn, 1) := by decide +kernel
theorem dX11_bought_0 : decode cX11_bought 0 = .ok (.iload_n 2, 1) := by decide +kernel
theorem dX11_bought_1 : decode cX11_bought 1 = .ok (.iconst (-1), 1) := by decide +kernel
theorem dX11_bought_2 : decode cX11_bought 2 = .ok (.if_icmp .eq 18, 3) := by decide +kernel
theorem dX11_bought_5 : decode cX11_bought 5 = .ok (.aload_n 0, 1) := by decide +kernel
theorem dX11_bought_6 : decode cX11_bought 6 = .ok (.iload_n 2, 1) := by decide +kernel
theorem dX11_bought_7 : decode cX11_bought 7 = .ok (.aload_n 0, 1) := by decide +kernel
theorem dX11_bought_8 : decode cX11_bought 8 = .ok (.getfield 10, 3) := by decide +kernel
theorem dX11_bought_11 : decode cX11_bought 11 = .ok (.getfield 29, 3) := by decide +kernel
theorem dX11_bought_14 : decode cX11_bought 14 = .ok (.getfield 194, 3) := by decide +kernel
theorem dX11_bought_17 : decode cX11_bought 17 = .ok (.invokevirtual 104, 3) := by decide +kernel
theorem dX11_bought_20 : decode cX11_bought 20 = .ok (.aload_n 0, 1) := by decide +kernel
theorem dX11_bought_21 : decode cX11_bought 21 = .ok (.iload_n 1, 1) := by decide +kernel
theorem dX11_bought_22 : decode cX11_bought 22 = .ok (.invokevirtual 131, 3) := by decide +kernel
theorem dX11_bought_25 : decode cX11_bought 25 = .ok (.aload_n 0, 1) := by decide +kernel
theorem dX11_bought_26 : decode cX11_bought 26 = .ok (.getfield 45, 3) := by decide +kernel
theorem dX11_bought_29 : decode cX11_bought 29 = .ok (.iload_n 1, 1) := by decide +kernel
theorem dX11_bought_30 : decode cX11_bought 30 = .ok (.invokevirtual 191, 3) := by decide +kernel
theorem dX11_bought_33 : decode cX11_bought 33 = .ok (.iconst (-1), 1) := by decide +kernel
theorem dX11_bought_34 : decode cX11_bought 34 = .ok (.if_icmp .ne 5, 3) := by decide +kernel
theorem dX11_bought_37 : decode cX11_bought 37 = .ok (.iconst (-1), 1) := by decide +kernel
theorem dX11_bought_38 : decode cX11_bought 38 = .ok (.ireturn, 1) := by decide +kernel
theorem dX11_bought_39 : decode cX11_bought 39 = .ok (.iload_n 2, 1) := by decide +kernel
theorem dX11_bought_40 : decode cX11_bought 40 = .ok (.iconst (-1), 1) := by decide +kernel
theorem dX11_bought_41 : decode cX11_bought 41 = .ok (.if_icmp .ne 14, 3) := by decide +kernel
theorem dX11_bought_44 : decode cX11_bought 44 = .ok (.aload_n 0, 1) := by decide +kernel
theorem dX11_bought_45 : decode cX11_bought 45 = .ok (.getfield 45, 3) := by decide +kernel
theorem dX11_bought_48 : decode cX11_bought 48 = .ok (.iload_n 1, 1) := by decide +kernel
theorem dX11_bought_49 : decode cX11_bought 49 = .ok (.invokevirtual 197, 3) := by decide +kernel
theorem dX11_bought_52 : decode cX11_bought 52 = .ok (.goto 12, 3) := by decide +kernel
theorem dX11_bought_55 : decode cX11_bought 55 = .ok (.aload_n 0, 1) := by decide +kernel
theorem dX11_bought_56 : decode cX11_bought 56 = .ok (.getfield 45, 3) := by decide +kernel
theorem dX11_bought_59 : decode cX11_bought 59 = .ok (.iload_n 1, 1) := by decide +kernel
theorem dX11_bought_60 : decode cX11_bought 60 = .ok (.iload_n 2, 1) := by decide +kernel
theorem dX11_bought_61 : decode cX11_bought 61 = .ok (.invokevirtual 200, 3) := by decide +kernel
theorem dX11_bought_64 : decode cX11_bought 64 = .ok (.ireturn, 1) := by decide +kernel
theorem s_priceMonth {l : Launch} {E : aE} {N : Nat} {S : aS} {M : aM} (hfl : l.stackTraces = false) (b u : Int) (r rb t : Int → Int) (hL : lyL S b u r rb) (hT : RTar M u t) (hK : TQ t) (k n : Int) (hk : 0 ≤ k ∧ k < 6) (hn : 0 ≤ n ∧ n ≤ 112) (hpr : ∀ q, 0 ≤ q → q ≤ n → M (b + 4) q = encF FAR1 (sevV t q)) : aMt l E pX3_priceMonth [(2, b + 5), (0, k), (0, n)] N S M (aU N S (fun M' => frB M M' (b + 8) (b + 9) ∧ ∀ q, 0 ≤ q → q ≤ n → M' (b + 8) q = mnV t k q)) := by
  refine a_met hfl rfl (by decide +kernel) (Nat.le_of_ble_eq_true rfl) ?_
  have hr9 := hK.2.2.2.2.2.2 k hk.1 hk.2
  have loop := a_loop2 (fun q M1 => 0 ≤ q ∧ q ≤ n + 1 ∧ frB M M1 (b + 8) (b + 9) ∧ ∀ j, 0 ≤ j → j < q → M1 (b + 8) j = mnV t k j) (fun q M1 => (n + 1 - q).toNat) (fun q M1 => aX l E pX3_priceMonth (aU N S (fun M' => frB M M' (b + 8) (b + 9) ∧ ∀ q, 0 ≤ q → q ≤ n → M' (b + 8) q = mnV t k q)) 0 0 N S M1 13 [(0, (2, b + 5)), (1, (0, k)), (2, (0, n)), (3, (0, t (245 + k))), (4, (0, q))] []) (by
    intro q M1 hI ih
    obtain ⟨h1, h2, h3, h4⟩ := hI
    have hsr := fun z : q ≤ n => sevV_r (t := t) hK.1 q.toNat q h1 (by omega)
    have hse := encF_or (sevV t q)
    have hm := mnV_or t k q
    have a1 : q * t (245 + k) ≤ q * 99 := Int.mul_le_mul_of_nonneg_left hr9.2 h1
    have a2 : 0 ≤ q * t (245 + k) := Int.mul_nonneg h1 hr9.1
    have hb9 : buysV t q k = if sevV t q = -1 then -1 else sevV t q + q * t (245 + k) := rfl
    have hb8 : (sevV t q = -1 ∧ buysV t q k = -1) ∨ (sevV t q ≠ -1 ∧ buysV t q k = sevV t q + q * t (245 + k)) := by
      by_cases e : sevV t q = -1
      · rw [if_pos e] at hb9; exact Or.inl ⟨e, hb9⟩
      · rw [if_neg e] at hb9; exact Or.inr ⟨e, hb9⟩
    refine x_iload (pc := 13) dX3_priceMonth_13 rfl ?_
    refine x_iload_n (pc := 15) dX3_priceMonth_15 rfl rfl ?_
    refine x_icmp_gt (tgt := 80) (pc := 16) dX3_priceMonth_16 (by decide) (fun c_16 => ?_) (fun c_16 => ?_)
    · refine x_return (pc := 80) dX3_priceMonth_80 rfl (by decide) ?_
      exact ⟨rfl, rfl, rfl, h3, fun j x y => h4 j x (by omega)⟩
    · refine x_iload (pc := 19) dX3_priceMonth_19 rfl ?_
      refine x_aload_n (pc := 21) dX3_priceMonth_21 rfl rfl ?_
      refine x_getR (jj := 5) (pc := 22) dX3_priceMonth_22 fX3_18 hL.1 rfl (by decide) rfl hL.2.1.2.2.2.2.2 ?_
      refine x_alen (pc := 25) dX3_priceMonth_25 hL.2.2.2.2.1 (by decide) (by first | decide | omega) ?_
      refine x_icmp_ge (tgt := 80) (pc := 26) dX3_priceMonth_26 (by decide) (fun c_26 => ?_) (fun c_26 => ?_)
      · refine x_return (pc := 80) dX3_priceMonth_80 rfl (by decide) ?_
        exact ⟨rfl, rfl, rfl, h3, fun j x y => h4 j x (by omega)⟩
      · refine x_aload_n (pc := 29) dX3_priceMonth_29 rfl rfl ?_
        refine x_getR (jj := 2) (pc := 30) dX3_priceMonth_30 fX3_29 hL.1 rfl (by decide) rfl hL.2.1.2.2.1 ?_
        refine x_getR (jj := 4) (pc := 33) dX3_priceMonth_33 fX3_103 hL.2.2.2.2.2.2.1 rfl (by decide) rfl hL.2.2.2.2.2.2.2.1.2.2.2.2 ?_
        refine x_iload (pc := 36) dX3_priceMonth_36 rfl ?_
        refine x_ialoadV (pc := 38) dX3_priceMonth_38 hL.2.2.2.2.2.2.2.2.2.2.2.1 (by omega) (by (repeat (first | rewrite [up_s] | rewrite [up_i (by omega)] | rewrite [up_a (by omega)])); first | exact (h3 _ _ (by omega)).trans (hpr _ (by omega) (by omega)) | rfl) (fun g_38 => ?_)
        refine x_istore (pc := 39) dX3_priceMonth_39 (by decide) rfl ?_
        refine x_aload_n (pc := 41) dX3_priceMonth_41 rfl rfl ?_
        refine x_getR (jj := 5) (pc := 42) dX3_priceMonth_42 fX3_18 hL.1 rfl (by decide) rfl hL.2.1.2.2.2.2.2 ?_
        refine x_iload (pc := 45) dX3_priceMonth_45 rfl ?_
        refine x_iload (pc := 47) dX3_priceMonth_47 rfl ?_
        refine x_ldc (n := 536870912) (pc := 49) cX3_64 (by decide) dX3_priceMonth_49 ?_
        refine x_icmp_lt (tgt := 59) (pc := 51) dX3_priceMonth_51 (by decide) (fun c_51 => ?_) (fun c_51 => ?_)
        · refine x_iload (pc := 59) dX3_priceMonth_59 rfl ?_
          refine x_iload (pc := 61) dX3_priceMonth_61 rfl ?_
          refine x_iload_n (pc := 63) dX3_priceMonth_63 rfl rfl ?_
          refine x_imul (pc := 64) dX3_priceMonth_64 (by omega) ?_
          refine x_iadd (pc := 65) dX3_priceMonth_65 (by omega) ?_
          refine x_sipush (pc := 66) dX3_priceMonth_66 (by decide) ?_
          refine x_imul (pc := 69) dX3_priceMonth_69 (by omega) ?_
          refine x_iload (pc := 70) dX3_priceMonth_70 rfl ?_
          refine x_iadd (pc := 72) dX3_priceMonth_72 (by omega) ?_
          refine x_iastore (pc := 73) dX3_priceMonth_73 hL.2.2.2.2.1 (by omega) ?_
          refine x_iinc (pc := 74) dX3_priceMonth_74 rfl (by omega) (by decide) rfl ?_
          refine x_goto (tgt := 13) (pc := 77) dX3_priceMonth_77 (by decide) ?_
          refine x_lo (lo' := [(0, (2, b + 5)), (1, (0, k)), (2, (0, n)), (3, (0, t (245 + k))), (4, (0, (q + 1)))]) ⟨rfl, rfl, rfl, rfl, rfl, trivial⟩ (ih (q + 1) _ ⟨by omega, by omega, h3.up1 (by omega), fun j x y => ?_⟩ (by omega))
          by_cases e : j = q
          · subst e
            rw [up_s]
            omega
          · rw [up_i e]; exact h4 j x (by omega)
        · refine x_ldc (n := 536870912) (pc := 54) cX3_64 (by decide) dX3_priceMonth_54 ?_
          refine x_goto (tgt := 73) (pc := 56) dX3_priceMonth_56 (by decide) ?_
          refine x_iastore (pc := 73) dX3_priceMonth_73 hL.2.2.2.2.1 (by omega) ?_
          refine x_iinc (pc := 74) dX3_priceMonth_74 rfl (by omega) (by decide) rfl ?_
          refine x_goto (tgt := 13) (pc := 77) dX3_priceMonth_77 (by decide) ?_
          refine x_lo (lo' := [(0, (2, b + 5)), (1, (0, k)), (2, (0, n)), (3, (0, t (245 + k))), (4, (0, (q + 1)))]) ⟨rfl, rfl, rfl, rfl, rfl, trivial⟩ (ih (q + 1) _ ⟨by omega, by omega, h3.up1 (by omega), fun j x y => ?_⟩ (by omega))
          by_cases e : j = q
          · subst e
            rw [up_s]
            omega
          · rw [up_i e]; exact h4 j x (by omega))
  refine x_aload_n (pc := 0) dX3_priceMonth_0 rfl rfl ?_
  refine x_getR (jj := 1) (pc := 1) dX3_priceMonth_1 fX3_25 hL.1 rfl (by decide) rfl hL.2.1.2.1 ?_
  refine x_getR (jj := 10) (pc := 4) dX3_priceMonth_4 fX3_100 (hL.2.2.2.2.2.2.2.2.2.2.2.2).1 rfl (by decide) rfl rT_10 ?_
  refine x_iload_n (pc := 7) dX3_priceMonth_7 rfl rfl ?_
  refine x_ialoadV (pc := 8) dX3_priceMonth_8 (hL.2.2.2.2.2.2.2.2.2.2.2.2).2.2.2.2.2 (by omega) (by (repeat (first | rewrite [up_s] | rewrite [up_i (by omega)] | rewrite [up_a (by omega)])); first | exact hT.2.2.2.2.2.2.2.2.1 _ (by omega) (by omega) | rfl) (fun g_8 => ?_)
  refine x_istore_n (pc := 9) dX3_priceMonth_9 rfl (by decide) rfl ?_
  refine x_iconst (pc := 10) dX3_priceMonth_10 (by decide) ?_
  refine x_istore (pc := 11) dX3_priceMonth_11 (by decide) rfl ?_
  refine x_lo (lo' := [(0, (2, b + 5)), (1, (0, k)), (2, (0, n)), (3, (0, t (245 + k))), (4, (0, 0))]) ⟨rfl, rfl, rfl, rfl, rfl, trivial⟩ (loop (0) _ ⟨by omega, by omega, frB.rf, fun j x y => by omega⟩)
theorem s_leastFrom {l : Launch} {E : aE} {N : Nat} {S : aS} {M : aM} (hfl : l.stackTraces = false) (b u : Int) (r rb t : Int → Int) (hL : lyL S b u r rb) (hT : RTar M u t) (hK : TQ t) (set k kept : Int) (hs : 0 ≤ set ∧ set < 128) (hk : 0 ≤ k ∧ k < t 244) (hkp : 0 ≤ kept ∧ kept ≤ roomV t set) (hmn : ∀ q, 0 ≤ q → q ≤ wantV t set k + roomV t set → M (b + 8) q = mnV t k q) (htb : ∀ i, 0 ≤ i → i ≤ roomV t set → M (b + 7) (57 * (k + 1) + i) = tbV t (planV t set (t 244 - (k + 1)).toNat i) i) : aMt l E pX3_leastFrom [(2, b + 5), (0, k), (0, kept), (0, wantV t set k), (0, roomV t set)] N S M (aR (0, encF FAR1 (bestL (candV t set k kept (planV t set (t 244 - (k + 1)).toNat)) (roomV t set + 1).toNat)) N S M) := by
  refine a_met hfl rfl (by decide +kernel) (Nat.le_of_ble_eq_true rfl) ?_
  have h6 := hK.2.2.2.2.2.1
  have hr := roomV_r hK hs
  have hwr := wantV_r hK hs (m := k) (by omega)
  have loop := a_loop2 (fun l9 x => max 0 (kept - wantV t set k) ≤ l9 ∧ l9 ≤ roomV t set + 1 ∧ x = encF FAR1 (bestL (candV t set k kept (planV t set (t 244 - (k + 1)).toNat)) l9.toNat)) (fun l9 x => (roomV t set + 1 - l9).toNat) (fun l9 x => aX l E pX3_leastFrom (aR (0, encF FAR1 (bestL (candV t set k kept (planV t set (t 244 - (k + 1)).toNat)) (roomV t set + 1).toNat)) N S M) 0 0 N S M 26 [(0, (2, b + 5)), (4, (0, roomV t set)), (5, (0, x)), (6, (0, wantV t set k - kept)), (7, (0, (k + 1) * 57)), (8, (0, l9))] []) (by
    intro l9 x hI ih
    obtain ⟨h1, h2, h3⟩ := hI
    have hcs := fun z : l9 ≤ roomV t set => cand_sum (t := t) (set := set) (k := k) (kept := kept) (left := l9) hK hs hk hkp ⟨by omega, z⟩ (by omega)
    rw [show wantV t set k + l9 - kept = wantV t set k - kept + l9 by omega] at hcs
    have htb9 : l9 ≤ roomV t set → M (b + 7) ((k + 1) * 57 + l9) = tbV t (planV t set (t 244 - (k + 1)).toNat l9) l9 := fun z => by rw [show (k + 1) * 57 + l9 = 57 * (k + 1) + l9 by omega]; exact htb l9 (by omega) z
    have hbr := bestC_r (t := t) (set := set) (m := k) (kept := kept) (k := t 244 - (k + 1)) (nxt := planV t set (t 244 - (k + 1)).toNat) (n := l9.toNat) hK hs (by omega) (by omega) hkp (by omega) (fun l x y => planV_r1 hK hs (by omega) ⟨x, y⟩)
    refine x_iload (pc := 26) dX3_leastFrom_26 rfl ?_
    refine x_iload (pc := 28) dX3_leastFrom_28 rfl ?_
    refine x_icmp_gt (tgt := 73) (pc := 30) dX3_leastFrom_30 (by decide) (fun c_30 => ?_) (fun c_30 => ?_)
    · refine x_iload (pc := 73) dX3_leastFrom_73 rfl ?_
      refine x_ireturn (pc := 75) dX3_leastFrom_75 rfl (by decide) ?_
      refine ⟨?_, rfl, rfl, rfl⟩
      rw [h3, show l9 = roomV t set + 1 by omega]
    · refine x_aload_n (pc := 33) dX3_leastFrom_33 rfl rfl ?_
      refine x_getR (jj := 5) (pc := 34) dX3_leastFrom_34 fX3_18 hL.1 rfl (by decide) rfl hL.2.1.2.2.2.2.2 ?_
      refine x_iload (pc := 37) dX3_leastFrom_37 rfl ?_
      refine x_iload (pc := 39) dX3_leastFrom_39 rfl ?_
      refine x_iadd (pc := 41) dX3_leastFrom_41 (by omega) ?_
      refine x_ialoadV (pc := 42) dX3_leastFrom_42 hL.2.2.2.2.1 (by omega) (by (repeat (first | rewrite [up_s] | rewrite [up_i (by omega)] | rewrite [up_a (by omega)])); first | exact hmn _ (by omega) (by omega) | exact htb9 (by omega) | rfl) (fun g_42 => ?_)
      refine x_aload_n (pc := 43) dX3_leastFrom_43 rfl rfl ?_
      refine x_getR (jj := 4) (pc := 44) dX3_leastFrom_44 fX3_15 hL.1 rfl (by decide) rfl hL.2.1.2.2.2.2.1 ?_
      refine x_iload (pc := 47) dX3_leastFrom_47 rfl ?_
      refine x_iload (pc := 49) dX3_leastFrom_49 rfl ?_
      refine x_iadd (pc := 51) dX3_leastFrom_51 (by omega) ?_
      refine x_ialoadV (pc := 52) dX3_leastFrom_52 hL.2.2.2.1 (by omega) (by (repeat (first | rewrite [up_s] | rewrite [up_i (by omega)] | rewrite [up_a (by omega)])); first | exact hmn _ (by omega) (by omega) | exact htb9 (by omega) | rfl) (fun g_52 => ?_)
      refine x_iadd (pc := 53) dX3_leastFrom_53 (by have := hcs (by omega); omega) ?_
      refine x_istore (pc := 54) dX3_leastFrom_54 (by decide) rfl ?_
      refine x_iload (pc := 56) dX3_leastFrom_56 rfl ?_
      have hcs := hcs (by omega)
      refine x_iload (pc := 58) dX3_leastFrom_58 rfl ?_
      refine x_icmp_ge (tgt := 67) (pc := 60) dX3_leastFrom_60 (by decide) (fun c_60 => ?_) (fun c_60 => ?_)
      · refine x_iinc (pc := 67) dX3_leastFrom_67 rfl (by omega) (by decide) rfl ?_
        refine x_goto (tgt := 26) (pc := 70) dX3_leastFrom_70 (by decide) ?_
        refine x_lo (lo' := [(0, (2, b + 5)), (4, (0, roomV t set)), (5, (0, x)), (6, (0, wantV t set k - kept)), (7, (0, (k + 1) * 57)), (8, (0, l9 + 1))]) ⟨rfl, rfl, rfl, rfl, rfl, rfl, trivial⟩ (ih (l9 + 1) _ ⟨by omega, by omega, ?_⟩ (by omega))
        have hz : bestL (candV t set k kept (planV t set (t 244 - (k + 1)).toNat)) (l9 + 1).toNat = omin (bestL (candV t set k kept (planV t set (t 244 - (k + 1)).toNat)) l9.toNat) (candV t set k kept (planV t set (t 244 - (k + 1)).toNat) l9) := bestL_1 _ (by omega)
        rw [hz]
        have z := encF_or (bestL (candV t set k kept (planV t set (t 244 - (k + 1)).toNat)) l9.toNat)
        have z2 := encF_or (omin (bestL (candV t set k kept (planV t set (t 244 - (k + 1)).toNat)) l9.toNat) (candV t set k kept (planV t set (t 244 - (k + 1)).toNat) l9))
        have z3 : omin (bestL (candV t set k kept (planV t set (t 244 - (k + 1)).toNat)) l9.toNat) (candV t set k kept (planV t set (t 244 - (k + 1)).toNat) l9) = (if bestL (candV t set k kept (planV t set (t 244 - (k + 1)).toNat)) l9.toNat = -1 then candV t set k kept (planV t set (t 244 - (k + 1)).toNat) l9 else if candV t set k kept (planV t set (t 244 - (k + 1)).toNat) l9 = -1 then bestL (candV t set k kept (planV t set (t 244 - (k + 1)).toNat)) l9.toNat else min (bestL (candV t set k kept (planV t set (t 244 - (k + 1)).toNat)) l9.toNat) (candV t set k kept (planV t set (t 244 - (k + 1)).toNat) l9)) := rfl
        rw [← h3] at z
        (repeat' split at z3) <;> omega
      · refine x_iload (pc := 63) dX3_leastFrom_63 rfl ?_
        refine x_istore (pc := 65) dX3_leastFrom_65 (by decide) rfl ?_
        refine x_iinc (pc := 67) dX3_leastFrom_67 rfl (by omega) (by decide) rfl ?_
        refine x_goto (tgt := 26) (pc := 70) dX3_leastFrom_70 (by decide) ?_
        refine x_lo (lo' := [(0, (2, b + 5)), (4, (0, roomV t set)), (5, (0, mnV t k (wantV t set k - kept + l9) + tbV t (planV t set (t 244 - (k + 1)).toNat l9) l9)), (6, (0, wantV t set k - kept)), (7, (0, (k + 1) * 57)), (8, (0, l9 + 1))]) ⟨rfl, rfl, rfl, rfl, rfl, rfl, trivial⟩ (ih (l9 + 1) _ ⟨by omega, by omega, ?_⟩ (by omega))
        have hz : bestL (candV t set k kept (planV t set (t 244 - (k + 1)).toNat)) (l9 + 1).toNat = omin (bestL (candV t set k kept (planV t set (t 244 - (k + 1)).toNat)) l9.toNat) (candV t set k kept (planV t set (t 244 - (k + 1)).toNat) l9) := bestL_1 _ (by omega)
        rw [hz]
        have z := encF_or (bestL (candV t set k kept (planV t set (t 244 - (k + 1)).toNat)) l9.toNat)
        have z2 := encF_or (omin (bestL (candV t set k kept (planV t set (t 244 - (k + 1)).toNat)) l9.toNat) (candV t set k kept (planV t set (t 244 - (k + 1)).toNat) l9))
        have z3 : omin (bestL (candV t set k kept (planV t set (t 244 - (k + 1)).toNat)) l9.toNat) (candV t set k kept (planV t set (t 244 - (k + 1)).toNat) l9) = (if bestL (candV t set k kept (planV t set (t 244 - (k + 1)).toNat)) l9.toNat = -1 then candV t set k kept (planV t set (t 244 - (k + 1)).toNat) l9 else if candV t set k kept (planV t set (t 244 - (k + 1)).toNat) l9 = -1 then bestL (candV t set k kept (planV t set (t 244 - (k + 1)).toNat)) l9.toNat else min (bestL (candV t set k kept (planV t set (t 244 - (k + 1)).toNat)) l9.toNat) (candV t set k kept (planV t set (t 244 - (k + 1)).toNat) l9)) := rfl
        rw [← h3] at z
        (repeat' split at z3) <;> omega)
  refine x_ldc (n := 536870912) (pc := 0) cX3_64 (by decide) dX3_leastFrom_0 ?_
  refine x_istore (pc := 2) dX3_leastFrom_2 (by decide) rfl ?_
  refine x_iload_n (pc := 4) dX3_leastFrom_4 rfl rfl ?_
  refine x_iload_n (pc := 5) dX3_leastFrom_5 rfl rfl ?_
  refine x_isub (pc := 6) dX3_leastFrom_6 (by omega) ?_
  refine x_istore (pc := 7) dX3_leastFrom_7 (by decide) rfl ?_
  refine x_iload_n (pc := 9) dX3_leastFrom_9 rfl rfl ?_
  refine x_iconst (pc := 10) dX3_leastFrom_10 (by decide) ?_
  refine x_iadd (pc := 11) dX3_leastFrom_11 (by omega) ?_
  refine x_bipush (pc := 12) dX3_leastFrom_12 (by decide) ?_
  refine x_imul (pc := 14) dX3_leastFrom_14 (by omega) ?_
  refine x_istore (pc := 15) dX3_leastFrom_15 (by decide) rfl ?_
  refine x_iconst (pc := 17) dX3_leastFrom_17 (by decide) ?_
  refine x_iload (pc := 18) dX3_leastFrom_18 rfl ?_
  refine x_ineg (pc := 20) dX3_leastFrom_20 (by omega) ?_
  refine x_max (pc := 21) mtX3_106 dX3_leastFrom_21 (by decide) (Nat.le_of_ble_eq_true rfl) ?_
  rewrite [show max 0 (-(wantV t set k - kept)) = max 0 (kept - wantV t set k) by omega]
  refine x_istore (pc := 24) dX3_leastFrom_24 (by decide) rfl ?_
  refine x_lo (lo' := [(0, (2, b + 5)), (4, (0, roomV t set)), (5, (0, 536870912)), (6, (0, wantV t set k - kept)), (7, (0, (k + 1) * 57)), (8, (0, (max 0 (kept - wantV t set k))))]) ⟨rfl, rfl, rfl, rfl, rfl, rfl, trivial⟩ (loop (max 0 (kept - wantV t set k)) (536870912) ⟨by omega, by omega, ?_⟩)
  rw [bestL_none fun i x y => ?_]
  · rfl
  · unfold candV
    rw [if_pos (by omega)]
theorem s_leftIn {l : Launch} {E : aE} {N : Nat} {S : aS} {M : aM} (hfl : l.stackTraces = false) (b u : Int) (r rb t : Int → Int) (hL : lyL S b u r rb) (hT : RTar M u t) (hK : TQ t) (set k kept : Int) (hs : 0 ≤ set ∧ set < 128) (hk : 0 ≤ k ∧ k < t 244) (hkp : 0 ≤ kept ∧ kept ≤ roomV t set) (hmn : ∀ q, 0 ≤ q → q ≤ wantV t set k + roomV t set → M (b + 8) q = mnV t k q) (htb : ∀ i, 0 ≤ i → i ≤ roomV t set → M (b + 7) (57 * (k + 1) + i) = tbV t (planV t set (t 244 - (k + 1)).toNat i) i) (hp : planV t set (t 244 - k).toNat kept ≠ -1) : aMt l E pX3_leftIn [(2, b + 5), (0, k), (0, kept), (0, wantV t set k), (0, roomV t set)] N S M (aR (0, leftV t set (t 244 - k) kept) N S M) := by
  refine a_met hfl rfl (by decide +kernel) (Nat.le_of_ble_eq_true rfl) ?_
  have h6 := hK.2.2.2.2.2.1
  have hr := roomV_r hK hs
  have hwr := wantV_r hK hs (m := k) (by omega)
  have hV := planV_1 (t := t) (set := set) (k := t 244 - k) (kept := kept) (by omega)
  rw [show t 244 - (t 244 - k) = k by omega, show t 244 - k - 1 = t 244 - (k + 1) by omega] at hV
  have hpr := planV_r1 (t := t) (k := t 244 - k) (kept := kept) hK hs (by omega) hkp
  unfold okP at hpr
  have hlv := leftV_r (k := t 244 - k) hK hs (by omega) hp
  rw [show t 244 - (t 244 - k) = k by omega, show t 244 - k - 1 = t 244 - (k + 1) by omega] at hlv
  obtain ⟨z1, z2, z3, z4, z5⟩ := hlv
  have loop := a_loop1 (fun l9 => max 0 (kept - wantV t set k) ≤ l9 ∧ l9 ≤ leftV t set (t 244 - k) kept) (fun l9 => (leftV t set (t 244 - k) kept - l9).toNat) (fun l9 => aX l E pX3_leftIn (aR (0, leftV t set (t 244 - k) kept) N S M) 0 0 N S M 32 [(0, (2, b + 5)), (2, (0, kept)), (3, (0, wantV t set k)), (4, (0, roomV t set)), (5, (0, planV t set (t 244 - k).toNat kept)), (6, (0, (k + 1) * 57)), (7, (0, max 0 (kept - wantV t set k))), (8, (0, l9))] []) (by
    intro l9 hI ih
    obtain ⟨h1, h2⟩ := hI
    have hcs := cand_sum (t := t) (set := set) (k := k) (kept := kept) (left := l9) hK hs hk hkp ⟨by omega, by omega⟩ (by omega)
    have htb9 : M (b + 7) ((k + 1) * 57 + l9) = tbV t (planV t set (t 244 - (k + 1)).toNat l9) l9 := by rw [show (k + 1) * 57 + l9 = 57 * (k + 1) + l9 by omega]; exact htb l9 (by omega) (by omega)
    refine x_iload (pc := 32) dX3_leftIn_32 rfl ?_
    refine x_iload (pc := 34) dX3_leftIn_34 rfl ?_
    refine x_icmp_gt (tgt := 75) (pc := 36) dX3_leftIn_36 (by decide) (fun c_36 => ?_) (fun c_36 => ?_)
    · refine x_iload (pc := 75) dX3_leftIn_75 rfl ?_
      refine x_ireturn (pc := 77) dX3_leftIn_77 rfl (by decide) ?_
      exfalso; omega
    · refine x_aload_n (pc := 39) dX3_leftIn_39 rfl rfl ?_
      refine x_getR (jj := 5) (pc := 40) dX3_leftIn_40 fX3_18 hL.1 rfl (by decide) rfl hL.2.1.2.2.2.2.2 ?_
      refine x_iload_n (pc := 43) dX3_leftIn_43 rfl rfl ?_
      refine x_iload (pc := 44) dX3_leftIn_44 rfl ?_
      refine x_iadd (pc := 46) dX3_leftIn_46 (by omega) ?_
      refine x_iload_n (pc := 47) dX3_leftIn_47 rfl rfl ?_
      refine x_isub (pc := 48) dX3_leftIn_48 (by omega) ?_
      refine x_ialoadV (pc := 49) dX3_leftIn_49 hL.2.2.2.2.1 (by omega) (by (repeat (first | rewrite [up_s] | rewrite [up_i (by omega)] | rewrite [up_a (by omega)])); first | exact hmn _ (by omega) (by omega) | exact htb9 | rfl) (fun g_49 => ?_)
      refine x_aload_n (pc := 50) dX3_leftIn_50 rfl rfl ?_
      refine x_getR (jj := 4) (pc := 51) dX3_leftIn_51 fX3_15 hL.1 rfl (by decide) rfl hL.2.1.2.2.2.2.1 ?_
      refine x_iload (pc := 54) dX3_leftIn_54 rfl ?_
      refine x_iload (pc := 56) dX3_leftIn_56 rfl ?_
      refine x_iadd (pc := 58) dX3_leftIn_58 (by omega) ?_
      refine x_ialoadV (pc := 59) dX3_leftIn_59 hL.2.2.2.1 (by omega) (by (repeat (first | rewrite [up_s] | rewrite [up_i (by omega)] | rewrite [up_a (by omega)])); first | exact hmn _ (by omega) (by omega) | exact htb9 | rfl) (fun g_59 => ?_)
      refine x_iadd (pc := 60) dX3_leftIn_60 (by omega) ?_
      refine x_iload (pc := 61) dX3_leftIn_61 rfl ?_
      refine x_icmp_ne (tgt := 69) (pc := 63) dX3_leftIn_63 (by decide) (fun c_63 => ?_) (fun c_63 => ?_)
      · refine x_iinc (pc := 69) dX3_leftIn_69 rfl (by omega) (by decide) rfl ?_
        refine x_goto (tgt := 32) (pc := 72) dX3_leftIn_72 (by decide) ?_
        have hlt : l9 + 1 ≤ leftV t set (t 244 - k) kept := by
          by_cases e : l9 = leftV t set (t 244 - k) kept
          · exfalso
            have zz := z2
            rw [← e] at zz
            omega
          · omega
        refine x_lo (lo' := [(0, (2, b + 5)), (2, (0, kept)), (3, (0, wantV t set k)), (4, (0, roomV t set)), (5, (0, planV t set (t 244 - k).toNat kept)), (6, (0, (k + 1) * 57)), (7, (0, max 0 (kept - wantV t set k))), (8, (0, (l9 + 1)))]) ⟨rfl, rfl, rfl, rfl, rfl, rfl, rfl, rfl, trivial⟩ (ih (l9 + 1) ⟨by omega, hlt⟩ (by omega))
      · refine x_iload (pc := 66) dX3_leftIn_66 rfl ?_
        refine x_ireturn (pc := 68) dX3_leftIn_68 rfl (by decide) ?_
        have e : l9 = leftV t set (t 244 - k) kept := by
          by_cases e : l9 = leftV t set (t 244 - k) kept
          · exact e
          · exfalso
            have q := firstB_lt _ l9 (by omega) (show l9 < leftV t set (t 244 - k) kept by omega)
            have q := of_decide_eq_false q
            rw [show t 244 - (t 244 - k) = k by omega, show t 244 - k - 1 = t 244 - (k + 1) by omega] at q
            omega
        rw [← e]
        exact ⟨rfl, rfl, rfl, rfl⟩)
  refine x_aload_n (pc := 0) dX3_leftIn_0 rfl rfl ?_
  refine x_iload_n (pc := 1) dX3_leftIn_1 rfl rfl ?_
  refine x_iload_n (pc := 2) dX3_leftIn_2 rfl rfl ?_
  refine x_iload_n (pc := 3) dX3_leftIn_3 rfl rfl ?_
  refine x_iload (pc := 4) dX3_leftIn_4 rfl ?_
  refine x_callV4 (pc := 6) dX3_leftIn_6 rfl kX3_97 (s_leastFrom hfl b u r rb t hL hT hK set k kept hs hk hkp hmn htb) hL.1 rfl rfl (Nat.le_of_ble_eq_true rfl) (k_R ?_) n_R
  rewrite [show encF FAR1 (bestL (candV t set k kept (planV t set (t 244 - (k + 1)).toNat)) (roomV t set + 1).toNat) = planV t set (t 244 - k).toNat kept by rw [← hV]; have z := encF_or (planV t set (t 244 - k).toNat kept); omega]
  refine x_istore (pc := 9) dX3_leftIn_9 (by decide) rfl ?_
  refine x_iload_n (pc := 11) dX3_leftIn_11 rfl rfl ?_
  refine x_iconst (pc := 12) dX3_leftIn_12 (by decide) ?_
  refine x_iadd (pc := 13) dX3_leftIn_13 (by omega) ?_
  refine x_bipush (pc := 14) dX3_leftIn_14 (by decide) ?_
  refine x_imul (pc := 16) dX3_leftIn_16 (by omega) ?_
  refine x_istore (pc := 17) dX3_leftIn_17 (by decide) rfl ?_
  refine x_iconst (pc := 19) dX3_leftIn_19 (by decide) ?_
  refine x_iload_n (pc := 20) dX3_leftIn_20 rfl rfl ?_
  refine x_iload_n (pc := 21) dX3_leftIn_21 rfl rfl ?_
  refine x_isub (pc := 22) dX3_leftIn_22 (by omega) ?_
  refine x_max (pc := 23) mtX3_106 dX3_leftIn_23 (by decide) (Nat.le_of_ble_eq_true rfl) ?_
  refine x_istore (pc := 26) dX3_leftIn_26 (by decide) rfl ?_
  refine x_iload (pc := 28) dX3_leftIn_28 rfl ?_
  refine x_istore (pc := 30) dX3_leftIn_30 (by decide) rfl ?_
  refine x_lo (lo' := [(0, (2, b + 5)), (2, (0, kept)), (3, (0, wantV t set k)), (4, (0, roomV t set)), (5, (0, planV t set (t 244 - k).toNat kept)), (6, (0, (k + 1) * 57)), (7, (0, max 0 (kept - wantV t set k))), (8, (0, (max 0 (kept - wantV t set k))))]) ⟨rfl, rfl, rfl, rfl, rfl, rfl, rfl, rfl, trivial⟩ (loop (max 0 (kept - wantV t set k)) ⟨by omega, by omega⟩)
