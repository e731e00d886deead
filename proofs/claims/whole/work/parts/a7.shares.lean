/-! the class's partings: aims, calls -/
/-- where a name is -/
def rowP (h : Nat) (st : sx) (v9 : Nat) (x : Int) : Prop := (∃ i : Nat, i < h ∧ x = i ∧ st.2.1 i = v9) ∨ (x = -1 ∧ ∀ i, i < h → st.2.1 i ≠ v9)
/-- what a push may change -/
def frY (M M' : aM) : Prop := ∀ a i, ¬ (42 ≤ a ∧ a < 77) → ¬ (a = 40 ∧ i = 10) → M' a i = M a i
theorem frX.y {M M' : aM} (h : frX M M') : frY M M' := fun a i x y => h a i (by omega) y
theorem frY.tr {M M' M'' : aM} (h : frY M M') (h' : frY M' M'') : frY M M'' := fun a i x y => (h' a i x y).trans (h a i x y)
/-- the state behind can() -/
def can1 (c : Int → Int) (s : Int) : sx := sxD (wN s) (hN c s) (FV c s) (zA (wN s)) (fun _ => false) (st0 (wN s))
def mssV (c : Int → Int) (s : Int) : Int := totV c s * ov (wN s) (FV c s) (can1 c s) - ta (wN s) (FV c s) (can1 c s) (zA (wN s)) (wN s)
def shV (c : Int → Int) (s most : Int) (v : Nat) : sx := sxD (wN s) (hN c s) (FV c s) (sgV most v) (fxN (wN s) (FV c s) (can1 c s) (zA (wN s)) (fun _ => false)) (can1 c s)
/-- FIRST ROW: the states when n households have been seen to -/
def rwS (c : Int → Int) (s : Int) : Nat → sx × (Nat → Int) × (Nat → Bool)
  | 0 => (can1 c s, zA (wN s), fun _ => false)
  | n + 1 => (sxD (wN s) (hN c s) (FV c s) (sgV 0 n) (fxN (wN s) (FV c s) (rwS c s n).1 (rwS c s n).2.1 (rwS c s n).2.2) (rwS c s n).1, sgV 0 n, fxN (wN s) (FV c s) (rwS c s n).1 (rwS c s n).2.1 (rwS c s n).2.2)
def fewP (A : aM) (s : Int) : Prop := (0 < s ∧ s < b_shl 1 (A 0 0)) ∧ 2 ≤ sumN (hb s) 7 ∧ sumN (hb s) 7 ≤ 5
def spCan (A : aM) (s : Int) : Int × Int × aM := if ¬ ((0 < s ∧ s < b_shl 1 (A 0 0)) ∧ 2 ≤ sumN (hb s) 7 ∧ sumN (hb s) 7 ≤ 5) then (1, 0, A) else if totE (costV (A 0)) s = -1 then (2, 0, A) else (0, if mssV (costV (A 0)) s = 0 then 1 else 0, frA A (mssV (costV (A 0)) s) (ov (wN s) (FV (costV (A 0)) s) (can1 (costV (A 0)) s)))
def spShare (A : aM) (s h most : Int) : Int × Int × aM := if ¬ ((0 < s ∧ s < b_shl 1 (A 0 0)) ∧ 2 ≤ sumN (hb s) 7 ∧ sumN (hb s) 7 ≤ 5) ∨ isOfV s h ≠ 1 then (1, 0, A) else if totE (costV (A 0)) s = -1 ∨ mssV (costV (A 0)) s ≠ 0 then (2, 0, A) else (0, 0, frA A (ta (wN s) (FV (costV (A 0)) s) (shV (costV (A 0)) s most (colV s h)) (iM (colV s h)) (wN s)) (ov (wN s) (FV (costV (A 0)) s) (shV (costV (A 0)) s most (colV s h))))
def spRow (A : aM) (s h : Int) : Int × Int × aM := if ¬ ((0 < s ∧ s < b_shl 1 (A 0 0)) ∧ 2 ≤ sumN (hb s) 7 ∧ sumN (hb s) 7 ≤ 5) ∨ isOfV s h ≠ 1 then (1, 0, A) else if totE (costV (A 0)) s = -1 ∨ mssV (costV (A 0)) s ≠ 0 then (2, 0, A) else (0, 0, frA A (ta (wN s) (FV (costV (A 0)) s) (rwS (costV (A 0)) s (colV s h + 1)).1 (iM (colV s h)) (wN s)) (ov (wN s) (FV (costV (A 0)) s) (rwS (costV (A 0)) s (colV s h + 1)).1))
section PT
variable {c : Int → Int} {s : Int}
theorem can1_ok (hc : costs9 c) (hs : 0 < s ∧ s < 128) (h5 : sumN (hb s) 7 ≤ 5) (ht : totE c s ≠ -1) : OKx (wN s) (hN c s) (FV c s) (can1 c s) := by
  have hP := FV_pb hc hs ht
  have hwv := wN_v (s := s) ⟨by omega, hs.2⟩
  obtain ⟨n, -, -, h, -⟩ := sx_end (Z := zA (wN s)) (fx := fun _ => false) hP (by omega) (hN_le (c := c) ⟨by omega, hs.2⟩ h5) (st0_ok hP)
  exact h
theorem sxD_ok (hc : costs9 c) (hs : 0 < s ∧ s < 128) (h5 : sumN (hb s) 7 ≤ 5) (ht : totE c s ≠ -1) {Z : Nat → Int} {fx : Nat → Bool} {st : sx} (hO : OKx (wN s) (hN c s) (FV c s) st) : OKx (wN s) (hN c s) (FV c s) (sxD (wN s) (hN c s) (FV c s) Z fx st) := by
  have hP := FV_pb hc hs ht
  have hwv := wN_v (s := s) ⟨by omega, hs.2⟩
  obtain ⟨n, -, -, h, -⟩ := sx_end (Z := Z) (fx := fx) hP (by omega) (hN_le (c := c) ⟨by omega, hs.2⟩ h5) hO
  exact h
theorem rwS_ok (hc : costs9 c) (hs : 0 < s ∧ s < 128) (h5 : sumN (hb s) 7 ≤ 5) (ht : totE c s ≠ -1) : ∀ n, OKx (wN s) (hN c s) (FV c s) (rwS c s n).1
  | 0 => can1_ok hc hs h5 ht
  | n + 1 => sxD_ok hc hs h5 ht (rwS_ok hc hs h5 ht n)
theorem miss_nn (hc : costs9 c) (hs : 0 < s ∧ s < 128) (h5 : sumN (hb s) 7 ≤ 5) (ht : totE c s ≠ -1) : 0 ≤ mssV c s := by
  have := zA_le hc hs ht (can1_ok hc hs h5 ht)
  unfold mssV
  omega
theorem ov_fr (hc : costs9 c) (hs : 0 < s ∧ s < 128) (h5 : sumN (hb s) 7 ≤ 5) (ht : totE c s ≠ -1) {st : sx} (hO : OKx (wN s) (hN c s) (FV c s) st) : 0 < ov (wN s) (FV c s) st ∧ ov (wN s) (FV c s) st ≤ 754974720 := by
  have hwv := wN_v (s := s) ⟨by omega, hs.2⟩
  exact RTc.bdo (FV_pb hc hs ht) (by omega) hO
theorem val_fr (hc : costs9 c) (hs : 0 < s ∧ s < 128) (h5 : sumN (hb s) 7 ≤ 5) (ht : totE c s ≠ -1) {st : sx} (hO : OKx (wN s) (hN c s) (FV c s) st) {v : Nat} (hv : v < wN s) : 0 ≤ ta (wN s) (FV c s) st (iM v) (wN s) ∧ ta (wN s) (FV c s) st (iM v) (wN s) ≤ 754974720 := by
  have hwv := wN_v (s := s) ⟨by omega, hs.2⟩
  have hP := FV_pb hc hs ht
  have a := val_nn hO (v := v) (by omega)
  have b := ta_bd (C := 1048576) (by omega) (by omega) hP hO (k := wN s) (by omega) (FV_bd hP (by omega) (v := v) (by omega))
  rw [FV_c hv] at a b
  omega
theorem tot_bd (hc : costs9 c) (hs : 0 < s ∧ s < 128) (ht : totE c s ≠ -1) : 0 ≤ totV c s ∧ totV c s ≤ 1634094 := by
  have := totV_or (c := c) s
  have := totE_lt hc (s := s) ⟨by omega, hs.2⟩
  omega
end PT
theorem dX11_can_0 : decode cX11_can 0 = .ok (.aload_n 0, 1) := by decide +kernel
theorem dX11_can_1 : decode cX11_can 1 = .ok (.iload_n 1, 1) := by decide +kernel
theorem dX11_can_2 : decode cX11_can 2 = .ok (.invokevirtual 240, 3) := by decide +kernel
theorem dX11_can_5 : decode cX11_can 5 = .ok (.aload_n 0, 1) := by decide +kernel
theorem dX11_can_6 : decode cX11_can 6 = .ok (.iload_n 1, 1) := by decide +kernel
theorem dX11_can_7 : decode cX11_can 7 = .ok (.invokevirtual 234, 3) := by decide +kernel
theorem dX11_can_10 : decode cX11_can 10 = .ok (.aload_n 0, 1) := by decide +kernel
theorem dX11_can_11 : decode cX11_can 11 = .ok (.getfield 63, 3) := by decide +kernel
theorem dX11_can_14 : decode cX11_can 14 = .ok (.iload_n 1, 1) := by decide +kernel
theorem dX11_can_15 : decode cX11_can 15 = .ok (.invokevirtual 243, 3) := by decide +kernel
theorem dX11_can_18 : decode cX11_can 18 = .ok (.istore_n 2, 1) := by decide +kernel
theorem dX11_can_19 : decode cX11_can 19 = .ok (.aload_n 0, 1) := by decide +kernel
theorem dX11_can_20 : decode cX11_can 20 = .ok (.aload_n 0, 1) := by decide +kernel
theorem dX11_can_21 : decode cX11_can 21 = .ok (.getfield 63, 3) := by decide +kernel
theorem dX11_can_24 : decode cX11_can 24 = .ok (.invokevirtual 246, 3) := by decide +kernel
theorem dX11_can_27 : decode cX11_can 27 = .ok (.aload_n 0, 1) := by decide +kernel
theorem dX11_can_28 : decode cX11_can 28 = .ok (.getfield 63, 3) := by decide +kernel
theorem dX11_can_31 : decode cX11_can 31 = .ok (.getfield 250, 3) := by decide +kernel
theorem dX11_can_34 : decode cX11_can 34 = .ok (.invokevirtual 252, 3) := by decide +kernel
theorem dX11_can_37 : decode cX11_can 37 = .ok (.iload_n 2, 1) := by decide +kernel
theorem dX11_can_38 : decode cX11_can 38 = .ok (.ireturn, 1) := by decide +kernel
theorem dX11_share_0 : decode cX11_share 0 = .ok (.aload_n 0, 1) := by decide +kernel
theorem dX11_share_1 : decode cX11_share 1 = .ok (.iload_n 1, 1) := by decide +kernel
theorem dX11_share_2 : decode cX11_share 2 = .ok (.invokevirtual 240, 3) := by decide +kernel
theorem dX11_share_5 : decode cX11_share 5 = .ok (.aload_n 0, 1) := by decide +kernel
theorem dX11_share_6 : decode cX11_share 6 = .ok (.iload_n 1, 1) := by decide +kernel
theorem dX11_share_7 : decode cX11_share 7 = .ok (.iload_n 2, 1) := by decide +kernel
theorem dX11_share_8 : decode cX11_share 8 = .ok (.invokevirtual 256, 3) := by decide +kernel
theorem dX11_share_11 : decode cX11_share 11 = .ok (.aload_n 0, 1) := by decide +kernel
theorem dX11_share_12 : decode cX11_share 12 = .ok (.iload_n 1, 1) := by decide +kernel
theorem dX11_share_13 : decode cX11_share 13 = .ok (.invokevirtual 259, 3) := by decide +kernel
theorem dX11_share_16 : decode cX11_share 16 = .ok (.aload_n 0, 1) := by decide +kernel
theorem dX11_share_17 : decode cX11_share 17 = .ok (.getfield 63, 3) := by decide +kernel
theorem dX11_share_20 : decode cX11_share 20 = .ok (.iload_n 2, 1) := by decide +kernel
theorem dX11_share_21 : decode cX11_share 21 = .ok (.invokevirtual 262, 3) := by decide +kernel
theorem dX11_share_24 : decode cX11_share 24 = .ok (.istore 4, 2) := by decide +kernel
theorem dX11_share_26 : decode cX11_share 26 = .ok (.aload_n 0, 1) := by decide +kernel
theorem dX11_share_27 : decode cX11_share 27 = .ok (.getfield 63, 3) := by decide +kernel
theorem dX11_share_30 : decode cX11_share 30 = .ok (.iload 4, 2) := by decide +kernel
theorem dX11_share_32 : decode cX11_share 32 = .ok (.iload_n 3, 1) := by decide +kernel
theorem dX11_share_33 : decode cX11_share 33 = .ok (.invokevirtual 265, 3) := by decide +kernel
theorem dX11_share_36 : decode cX11_share 36 = .ok (.aload_n 0, 1) := by decide +kernel
theorem dX11_share_37 : decode cX11_share 37 = .ok (.aload_n 0, 1) := by decide +kernel
theorem dX11_share_38 : decode cX11_share 38 = .ok (.getfield 63, 3) := by decide +kernel
theorem dX11_share_41 : decode cX11_share 41 = .ok (.iload 4, 2) := by decide +kernel
theorem dX11_share_43 : decode cX11_share 43 = .ok (.invokevirtual 269, 3) := by decide +kernel
theorem dX11_share_46 : decode cX11_share 46 = .ok (.aload_n 0, 1) := by decide +kernel
theorem dX11_share_47 : decode cX11_share 47 = .ok (.getfield 63, 3) := by decide +kernel
theorem dX11_share_50 : decode cX11_share 50 = .ok (.getfield 250, 3) := by decide +kernel
theorem dX11_share_53 : decode cX11_share 53 = .ok (.invokevirtual 252, 3) := by decide +kernel
theorem dX11_share_56 : decode cX11_share 56 = .ok (.return_, 1) := by decide +kernel
theorem dX11_row_0 : decode cX11_row 0 = .ok (.aload_n 0, 1) := by decide +kernel
theorem dX11_row_1 : decode cX11_row 1 = .ok (.iload_n 1, 1) := by decide +kernel
theorem dX11_row_2 : decode cX11_row 2 = .ok (.invokevirtual 240, 3) := by decide +kernel
theorem dX11_row_5 : decode cX11_row 5 = .ok (.aload_n 0, 1) := by decide +kernel
theorem dX11_row_6 : decode cX11_row 6 = .ok (.iload_n 1, 1) := by decide +kernel
theorem dX11_row_7 : decode cX11_row 7 = .ok (.iload_n 2, 1) := by decide +kernel
theorem dX11_row_8 : decode cX11_row 8 = .ok (.invokevirtual 256, 3) := by decide +kernel
theorem dX11_row_11 : decode cX11_row 11 = .ok (.aload_n 0, 1) := by decide +kernel
theorem dX11_row_12 : decode cX11_row 12 = .ok (.iload_n 1, 1) := by decide +kernel
theorem dX11_row_13 : decode cX11_row 13 = .ok (.invokevirtual 259, 3) := by decide +kernel
theorem dX11_row_16 : decode cX11_row 16 = .ok (.aload_n 0, 1) := by decide +kernel
theorem dX11_row_17 : decode cX11_row 17 = .ok (.getfield 63, 3) := by decide +kernel
theorem dX11_row_20 : decode cX11_row 20 = .ok (.iload_n 2, 1) := by decide +kernel
theorem dX11_row_21 : decode cX11_row 21 = .ok (.invokevirtual 262, 3) := by decide +kernel
theorem dX11_row_24 : decode cX11_row 24 = .ok (.istore_n 3, 1) := by decide +kernel
theorem dX11_row_25 : decode cX11_row 25 = .ok (.iconst 0, 1) := by decide +kernel
theorem dX11_row_26 : decode cX11_row 26 = .ok (.istore 4, 2) := by decide +kernel
theorem dX11_row_28 : decode cX11_row 28 = .ok (.iload 4, 2) := by decide +kernel
theorem dX11_row_30 : decode cX11_row 30 = .ok (.iload_n 3, 1) := by decide +kernel
theorem dX11_row_31 : decode cX11_row 31 = .ok (.if_icmp .gt 19, 3) := by decide +kernel
theorem dX11_row_34 : decode cX11_row 34 = .ok (.aload_n 0, 1) := by decide +kernel
theorem dX11_row_35 : decode cX11_row 35 = .ok (.getfield 63, 3) := by decide +kernel
theorem dX11_row_38 : decode cX11_row 38 = .ok (.iload 4, 2) := by decide +kernel
theorem dX11_row_40 : decode cX11_row 40 = .ok (.iconst 0, 1) := by decide +kernel
theorem dX11_row_41 : decode cX11_row 41 = .ok (.invokevirtual 265, 3) := by decide +kernel
theorem dX11_row_44 : decode cX11_row 44 = .ok (.iinc 4 1, 3) := by decide +kernel
theorem dX11_row_47 : decode cX11_row 47 = .ok (.goto (-19), 3) := by decide +kernel
theorem dX11_row_50 : decode cX11_row 50 = .ok (.aload_n 0, 1) := by decide +kernel
theorem dX11_row_51 : decode cX11_row 51 = .ok (.aload_n 0, 1) := by decide +kernel
theorem dX11_row_52 : decode cX11_row 52 = .ok (.getfield 63, 3) := by decide +kernel
theorem dX11_row_55 : decode cX11_row 55 = .ok (.iload_n 3, 1) := by decide +kernel
theorem dX11_row_56 : decode cX11_row 56 = .ok (.invokevirtual 269, 3) := by decide +kernel
theorem dX11_row_59 : decode cX11_row 59 = .ok (.aload_n 0, 1) := by decide +kernel
theorem dX11_row_60 : decode cX11_row 60 = .ok (.getfield 63, 3) := by decide +kernel
theorem dX11_row_63 : decode cX11_row 63 = .ok (.getfield 250, 3) := by decide +kernel
theorem dX11_row_66 : decode cX11_row 66 = .ok (.invokevirtual 252, 3) := by decide +kernel
theorem dX11_row_69 : decode cX11_row 69 = .ok (.return_, 1) := by decide +kernel
theorem dX11_needParting_0 : decode cX11_needParting 0 = .ok (.aload_n 0, 1) := by decide +kernel
theorem dX11_needParting_1 : decode cX11_needParting 1 = .ok (.iload_n 1, 1) := by decide +kernel
theorem dX11_needParting_2 : decode cX11_needParting 2 = .ok (.invokevirtual 234, 3) := by decide +kernel
theorem dX11_needParting_5 : decode cX11_needParting 5 = .ok (.aload_n 0, 1) := by decide +kernel
theorem dX11_needParting_6 : decode cX11_needParting 6 = .ok (.getfield 63, 3) := by decide +kernel
theorem dX11_needParting_9 : decode cX11_needParting 9 = .ok (.iload_n 1, 1) := by decide +kernel
theorem dX11_needParting_10 : decode cX11_needParting 10 = .ok (.invokevirtual 243, 3) := by decide +kernel
theorem dX11_needParting_13 : decode cX11_needParting 13 = .ok (.ifCond .ne 11, 3) := by decide +kernel
theorem dX11_needParting_16 : decode cX11_needParting 16 = .ok (.new 352, 3) := by decide +kernel
theorem dX11_needParting_19 : decode cX11_needParting 19 = .ok (.dup, 1) := by decide +kernel
theorem dX11_needParting_20 : decode cX11_needParting 20 = .ok (.invokespecial 354, 3) := by decide +kernel
theorem dX11_needParting_23 : decode cX11_needParting 23 = .ok (.athrow, 1) := by decide +kernel
theorem dX11_needParting_24 : decode cX11_needParting 24 = .ok (.return_, 1) := by decide +kernel
theorem s_push {l : Launch} {E : aE} {N : Nat} {S : aS} {M : aM} (hfl : l.stackTraces = false) {w h : Nat} {F : Nat → Nat → Int} {st : sx} {Z : Nat → Int} {fx : Nat → Bool} (hC : lyC S) (hR : RTc M w h F st Z fx) (hP : PBx w h F 1048576) (hw : w ≤ 5) (hh : h ≤ 31) (hZ : bdV w Z) (hO : OKx w h F st) (v9 : Nat) (most : Int) (hv : v9 < w) (hm : most = 0 ∨ most = 1) : aMt l E pX2_push [(2, 40), (0, (v9 : Int)), (0, most)] N S M (aU N S (fun M' => RTc M' w h F (sxD w h F (sgV most v9) (fxN w F st Z fx) st) (sgV most v9) (fxN w F st Z fx) ∧ frY M M')) := by
  refine a_met hfl rfl (by decide +kernel) (Nat.le_of_ble_eq_true rfl) ?_
  have hg1 := hR.1.1
  have hg2 := hR.1.2.1
  have hg3 := hR.1.2.2

  have lpA := a_loop2 (α := Nat) (β := aM) (fun j M1 => j ≤ w ∧ (∀ a i : Int, a ≠ 76 → M1 a i = M a i) ∧ ∀ i : Nat, i < w → M1 76 i = if i < j then (if fxN w F st Z fx i = true then 1 else 0) else (if fx i = true then 1 else 0)) (fun j M1 => w - j) (fun j M1 => aX l E pX2_push (aU N S (fun M' => RTc M' w h F (sxD w h F (sgV most v9) (fxN w F st Z fx) st) (sgV most v9) (fxN w F st Z fx) ∧ frY M M')) 0 0 N S M1 2 [(0, (2, 40)), (1, (0, (v9 : Int))), (2, (0, most)), (3, (0, (j : Int)))] []) (by
    intro j M1 hI ih
    obtain ⟨k1, k2, k3⟩ := hI
    refine x_iload_n (pc := 2) dX2_push_2 rfl rfl ?_
    refine x_aload_n (pc := 3) dX2_push_3 rfl rfl ?_
    refine x_getIV (jj := 7) (pc := 4) dX2_push_4 fX2_68 (sC_40 hC) rfl (by decide) rfl (by (repeat (first | rewrite [up_s] | rewrite [up_i (by omega)] | rewrite [up_a (by omega)])); first | exact (k2 40 7 (by omega)).trans hg1 | exact (k2 40 8 (by omega)).trans hg2 | exact (k3 j (by omega)).trans (if_neg (by omega)) | exact (k2 _ _ (by omega)).trans (hR.2.2.1 j (by omega)) | rfl) ?_
    refine x_icmp_ge (tgt := 52) (pc := 7) dX2_push_7 (by decide) (fun c_7 => ?_) (fun c_7 => ?_)
    · have RT1 : RTc M1 w h F st Z (fxN w F st Z fx) := by
        refine ⟨⟨?_, ?_, ?_⟩, fun i k a b => ?_, fun k b => ?_, fun i a => ?_, fun j a => ?_, fun j a => ?_⟩
        · exact (k2 _ _ (by omega)).trans hg1
        · exact (k2 _ _ (by omega)).trans hg2
        · exact (k2 _ _ (by omega)).trans hg3
        · rw [k2 _ _ (by omega)]; exact hR.2.1 i k a b
        · rw [k2 _ _ (by omega)]; exact hR.2.2.1 k b
        · rw [k2 _ _ (by omega)]; exact hR.2.2.2.1 i a
        · rw [k2 _ _ (by omega)]; exact hR.2.2.2.2.1 j a
        · rw [k3 j a, if_pos (by omega)]
      refine x_aload_n (pc := 52) dX2_push_52 rfl rfl ?_
      refine x_iload_n (pc := 53) dX2_push_53 rfl rfl ?_
      refine x_callV1 (pc := 54) dX2_push_54 rfl kX2_89 (s_rowOf hfl hC RT1 hP hw hh hZ hO v9) (sC_40 hC) rfl rfl (Nat.le_of_ble_eq_true rfl) (k_G (fun v9 M9 hM9 => ?_)) n_G
      obtain ⟨e9, x, rfl, hx0⟩ := hM9
      subst e9
      have hx : rowP h st v9 x := hx0
      clear hx0
      have k2' := k2
      have hg1 := RT1.1.1
      have hg2 := RT1.1.2.1
      have hg3 := RT1.1.2.2
      have hT : ∀ {i k : Nat}, i < h → k < w + 1 → M9 (42 + i) k = ta w F st (F (st.2.1 i)) k := fun {i k} a b => RT1.2.1 i k a b
      have hNU : ∀ {j : Nat}, j < w → M9 75 j = st.1 j := fun {j} a => RT1.2.2.2.2.1 j a
      have lpB := a_loop2 (α := Nat) (β := aM) (fun k M2 => k ≤ w + 1 ∧ (∀ a i : Int, a ≠ 42 + h → M2 a i = M9 a i) ∧ ∀ i : Nat, i < k → M2 (42 + h) i = ta w F st (sgV most v9) i) (fun k M2 => w + 1 - k) (fun k M2 => aX l E pX2_push (aU N S (fun M' => RTc M' w h F (sxD w h F (sgV most v9) (fxN w F st Z fx) st) (sgV most v9) (fxN w F st Z fx) ∧ frY M M')) 0 0 N S M2 61 [(0, (2, 40)), (1, (0, (v9 : Int))), (2, (0, most)), (3, (0, x)), (4, (0, (k : Int)))] []) (by
        intro k M2 hJ ih2
        obtain ⟨j1, j2, j3⟩ := hJ
        have at122 : ∀ p : Int, k < w + 1 → p = ta w F st (F v9) k → aX l E pX2_push (aU N S (fun M' => RTc M' w h F (sxD w h F (sgV most v9) (fxN w F st Z fx) st) (sgV most v9) (fxN w F st Z fx) ∧ frY M M')) 0 0 N S M2 122 [(0, (2, 40)), (1, (0, (v9 : Int))), (2, (0, most)), (3, (0, x)), (4, (0, (k : Int))), (5, (1, p))] [] := by
          intro p hkw hp
          have p1 := hP.1
          have hpb : p.natAbs ≤ 754974720 := by
            rw [hp]; exact ta_bd (C := 1048576) hw (by omega) hP hO (by omega) (FV_bd hP (by omega) (v := v9) (by omega))
          refine x_aload_n (pc := 122) dX2_push_122 rfl rfl ?_
          refine x_getR (jj := 2) (pc := 123) dX2_push_123 fX2_13 (sC_40 hC) rfl (by decide) rfl rC_40_2 ?_
          refine x_aload_n (pc := 126) dX2_push_126 rfl rfl ?_
          refine x_getIV (jj := 8) (pc := 127) dX2_push_127 fX2_65 (sC_40 hC) rfl (by decide) rfl (by (repeat (first | rewrite [up_s] | rewrite [up_i (by omega)] | rewrite [up_a (by omega)])); first | exact (j2 40 8 (by omega)).trans hg2 | rfl) ?_
          refine x_raload (pc := 130) dX2_push_130 (sC_41 hC) (by omega) ?_
          rewrite [r41_v (by omega)]
          refine x_iload (pc := 131) dX2_push_131 rfl ?_
          refine x_iload_n (pc := 133) dX2_push_133 rfl rfl ?_
          refine x_if_eq (tgt := 142) (pc := 134) dX2_push_134 (by decide) (fun c_134 => ?_) (fun c_134 => ?_)
          · refine x_lload (pc := 142) dX2_push_142 rfl ?_
            refine x_lneg (pc := 144) dX2_push_144 (by have := hpb; omega) ?_
            refine x_lastore (pc := 145) dX2_push_145 (hC.1 _ (by omega) (by omega)) (by omega) ?_
            refine x_iinc (pc := 146) dX2_push_146 rfl (by omega) (by decide) rfl ?_
            refine x_goto (tgt := 61) (pc := 149) dX2_push_149 (by decide) ?_
            refine x_lo (lo' := [(0, (2, 40)), (1, (0, (v9 : Int))), (2, (0, most)), (3, (0, x)), (4, (0, ((k + 1 : Nat) : Int)))]) ⟨rfl, rfl, rfl, rfl, rfl, trivial⟩ (ih2 (k + 1) _ ⟨by omega, fun a i q => (up_a q).trans (j2 a i q), fun i hi => ?_⟩ (by omega))
            by_cases e : i = k
            · subst e; rw [up_s, ta_sg (by omega), if_neg (by omega), hp, p1 v9 hv]
            · rw [up_i (by omega)]; exact j3 i (by omega)
          · refine x_lload (pc := 137) dX2_push_137 rfl ?_
            refine x_goto (tgt := 145) (pc := 139) dX2_push_139 (by decide) ?_
            refine x_lastore (pc := 145) dX2_push_145 (hC.1 _ (by omega) (by omega)) (by omega) ?_
            refine x_iinc (pc := 146) dX2_push_146 rfl (by omega) (by decide) rfl ?_
            refine x_goto (tgt := 61) (pc := 149) dX2_push_149 (by decide) ?_
            refine x_lo (lo' := [(0, (2, 40)), (1, (0, (v9 : Int))), (2, (0, most)), (3, (0, x)), (4, (0, ((k + 1 : Nat) : Int)))]) ⟨rfl, rfl, rfl, rfl, rfl, trivial⟩ (ih2 (k + 1) _ ⟨by omega, fun a i q => (up_a q).trans (j2 a i q), fun i hi => ?_⟩ (by omega))
            by_cases e : i = k
            · subst e; rw [up_s, ta_sg (by omega), if_pos (by omega), hp, p1 v9 hv]
            · rw [up_i (by omega)]; exact j3 i (by omega)
        refine x_iload (pc := 61) dX2_push_61 rfl ?_
        refine x_aload_n (pc := 63) dX2_push_63 rfl rfl ?_
        refine x_getIV (jj := 7) (pc := 64) dX2_push_64 fX2_68 (sC_40 hC) rfl (by decide) rfl (by (repeat (first | rewrite [up_s] | rewrite [up_i (by omega)] | rewrite [up_a (by omega)])); first | exact (j2 40 7 (by omega)).trans hg1 | exact (j2 40 8 (by omega)).trans hg2 | exact (j2 40 10 (by omega)).trans hg3 | exact (j2 75 k (by omega)).trans (hNU (by omega)) | rfl) ?_
        refine x_icmp_gt (tgt := 152) (pc := 67) dX2_push_67 (by decide) (fun c_67 => ?_) (fun c_67 => ?_)
        · have e61 : k = w + 1 := by omega
          have RT2 : RTc M2 w h F st (sgV most v9) (fxN w F st Z fx) := by
            refine ⟨⟨?_, ?_, ?_⟩, fun i k2 a b => ?_, fun k2 b => j3 k2 (by omega), fun i a => ?_, fun j a => ?_, fun j a => ?_⟩
            · exact (j2 _ _ (by omega)).trans hg1
            · exact (j2 _ _ (by omega)).trans hg2
            · exact (j2 _ _ (by omega)).trans hg3
            · rw [j2 _ _ (by omega)]; exact hT a b
            · rw [j2 _ _ (by omega), k2' _ _ (by omega)]; exact hR.2.2.2.1 i a
            · rw [j2 _ _ (by omega)]; exact hNU a
            · rw [j2 _ _ (by omega), k3 j a, if_pos (by omega)]
          refine x_aload_n (pc := 152) dX2_push_152 rfl rfl ?_
          refine x_callV0 (pc := 153) dX2_push_153 rfl kX2_45 (s_climb hfl hC RT2 hP hw hh (sgV_bd hv) hO) (sC_40 hC) rfl rfl (Nat.le_of_ble_eq_true rfl) (k_U (fun M3 hM9 => ?_)) n_U
          obtain ⟨f1, f2⟩ := hM9
          refine x_return (pc := 156) dX2_push_156 rfl (by decide) ?_
          exact ⟨rfl, rfl, rfl, f1, fun a i x y => (f2.y a i x y).trans ((j2 a i (by omega)).trans (k2' a i (by omega)))⟩
        · refine x_iload_n (pc := 70) dX2_push_70 rfl rfl ?_
          refine x_iconst (pc := 71) dX2_push_71 (by decide) ?_
          refine x_icmp_eq (tgt := 87) (pc := 72) dX2_push_72 (by decide) (fun c_72 => ?_) (fun c_72 => ?_)
          · refine x_lconst0 (pc := 87) dX2_push_87 ?_
            refine x_lstore (pc := 88) dX2_push_88 (by decide) rfl ?_
            refine x_iload_n (pc := 90) dX2_push_90 rfl rfl ?_
            refine x_iconst (pc := 91) dX2_push_91 (by decide) ?_
            refine x_icmp_ne (tgt := 122) (pc := 92) dX2_push_92 (by decide) (fun c_92 => ?_) (fun c_92 => ?_)
            · exfalso
              omega
            · refine x_iload (pc := 95) dX2_push_95 rfl ?_
              refine x_aload_n (pc := 97) dX2_push_97 rfl rfl ?_
              refine x_getIV (jj := 7) (pc := 98) dX2_push_98 fX2_68 (sC_40 hC) rfl (by decide) rfl (by (repeat (first | rewrite [up_s] | rewrite [up_i (by omega)] | rewrite [up_a (by omega)])); first | exact (j2 40 7 (by omega)).trans hg1 | exact (j2 40 8 (by omega)).trans hg2 | exact (j2 40 10 (by omega)).trans hg3 | exact (j2 75 k (by omega)).trans (hNU (by omega)) | rfl) ?_
              refine x_icmp_ge (tgt := 122) (pc := 101) dX2_push_101 (by decide) (fun c_101 => ?_) (fun c_101 => ?_)
              · exact x_lo (lo' := [(0, (2, 40)), (1, (0, (v9 : Int))), (2, (0, most)), (3, (0, x)), (4, (0, (k : Int))), (5, (1, _))]) ⟨rfl, rfl, rfl, rfl, rfl, rfl, trivial⟩ (at122 _ (by omega) (by
                  obtain ⟨j0, hj0, ej0⟩ : ∃ j0, j0 < w ∧ st.1 j0 = v9 := by
                    rcases hO.2.2.2.1.2.2.1 v9 (by omega) with q | ⟨i, hi, e⟩
                    · exact q
                    · rcases hx with ⟨i2, q1, q2, q3⟩ | ⟨q1, q2⟩
                      · omega
                      · exact absurd e (q2 i hi)
                  rw [← ej0, ta_nu hj0 (by omega)]
                  rw [if_neg (by omega)]))
              · refine x_aload_n (pc := 104) dX2_push_104 rfl rfl ?_
                refine x_getR (jj := 4) (pc := 105) dX2_push_105 fX2_20 (sC_40 hC) rfl (by decide) rfl rC_40_4 ?_
                refine x_iload (pc := 108) dX2_push_108 rfl ?_
                refine x_ialoadV (pc := 110) dX2_push_110 (sC_75 hC) (by omega) (by (repeat (first | rewrite [up_s] | rewrite [up_i (by omega)] | rewrite [up_a (by omega)])); first | exact (j2 40 7 (by omega)).trans hg1 | exact (j2 40 8 (by omega)).trans hg2 | exact (j2 40 10 (by omega)).trans hg3 | exact (j2 75 k (by omega)).trans (hNU (by omega)) | rfl) (fun g_110 => ?_)
                refine x_iload_n (pc := 111) dX2_push_111 rfl rfl ?_
                refine x_icmp_ne (tgt := 122) (pc := 112) dX2_push_112 (by decide) (fun c_112 => ?_) (fun c_112 => ?_)
                · exact x_lo (lo' := [(0, (2, 40)), (1, (0, (v9 : Int))), (2, (0, most)), (3, (0, x)), (4, (0, (k : Int))), (5, (1, _))]) ⟨rfl, rfl, rfl, rfl, rfl, rfl, trivial⟩ (at122 _ (by omega) (by
                    obtain ⟨j0, hj0, ej0⟩ : ∃ j0, j0 < w ∧ st.1 j0 = v9 := by
                      rcases hO.2.2.2.1.2.2.1 v9 (by omega) with q | ⟨i, hi, e⟩
                      · exact q
                      · rcases hx with ⟨i2, q1, q2, q3⟩ | ⟨q1, q2⟩
                        · omega
                        · exact absurd e (q2 i hi)
                    rw [← ej0, ta_nu hj0 (by omega)]
                    rw [if_neg (fun q => by
                      subst q
                      omega)]))
                · refine x_aload_n (pc := 115) dX2_push_115 rfl rfl ?_
                  refine x_getJV (jj := 10) (pc := 116) dX2_push_116 fX2_61 (sC_40 hC) rfl (by decide) rfl (by (repeat (first | rewrite [up_s] | rewrite [up_i (by omega)] | rewrite [up_a (by omega)])); first | exact (j2 40 7 (by omega)).trans hg1 | exact (j2 40 8 (by omega)).trans hg2 | exact (j2 40 10 (by omega)).trans hg3 | exact (j2 75 k (by omega)).trans (hNU (by omega)) | rfl) ?_
                  refine x_lneg (pc := 119) dX2_push_119 (by have := RTc.bdo hP hw hO; omega) ?_
                  refine x_lstore (pc := 120) dX2_push_120 (by decide) rfl ?_
                  exact x_lo (lo' := [(0, (2, 40)), (1, (0, (v9 : Int))), (2, (0, most)), (3, (0, x)), (4, (0, (k : Int))), (5, (1, _))]) ⟨rfl, rfl, rfl, rfl, rfl, rfl, trivial⟩ (at122 _ (by omega) (by
                    obtain ⟨j0, hj0, ej0⟩ : ∃ j0, j0 < w ∧ st.1 j0 = v9 := by
                      rcases hO.2.2.2.1.2.2.1 v9 (by omega) with q | ⟨i, hi, e⟩
                      · exact q
                      · rcases hx with ⟨i2, q1, q2, q3⟩ | ⟨q1, q2⟩
                        · omega
                        · exact absurd e (q2 i hi)
                    rw [← ej0, ta_nu hj0 (by omega)]
                    rw [if_pos (hO.2.2.2.1.2.2.2.1 k j0 (by omega) hj0 (by omega))]))
          · refine x_aload_n (pc := 75) dX2_push_75 rfl rfl ?_
            refine x_getR (jj := 2) (pc := 76) dX2_push_76 fX2_13 (sC_40 hC) rfl (by decide) rfl rC_40_2 ?_
            refine x_iload_n (pc := 79) dX2_push_79 rfl rfl ?_
            have hxr : 0 ≤ x ∧ x < 32 := by rcases hx with ⟨i2, q1, q2, q3⟩ | q <;> omega
            refine x_raload (pc := 80) dX2_push_80 (sC_41 hC) (by rcases hx with ⟨i2, q1, q2, q3⟩ | q <;> omega) ?_
            rewrite [r41_v (by omega)]
            refine x_iload (pc := 81) dX2_push_81 rfl ?_
            refine x_laloadV (pc := 83) dX2_push_83 (hC.1 _ (by omega) (by omega)) (by omega) (by (repeat (first | rewrite [up_s] | rewrite [up_i (by omega)] | rewrite [up_a (by omega)])); first | exact (j2 40 7 (by omega)).trans hg1 | exact (j2 40 8 (by omega)).trans hg2 | exact (j2 40 10 (by omega)).trans hg3 | exact (j2 75 k (by omega)).trans (hNU (by omega)) | rfl) (fun g_83 => ?_)
            refine x_goto (tgt := 88) (pc := 84) dX2_push_84 (by decide) ?_
            refine x_lstore (pc := 88) dX2_push_88 (by decide) rfl ?_
            refine x_iload_n (pc := 90) dX2_push_90 rfl rfl ?_
            refine x_iconst (pc := 91) dX2_push_91 (by decide) ?_
            refine x_icmp_ne (tgt := 122) (pc := 92) dX2_push_92 (by decide) (fun c_92 => ?_) (fun c_92 => ?_)
            · exact x_lo (lo' := [(0, (2, 40)), (1, (0, (v9 : Int))), (2, (0, most)), (3, (0, x)), (4, (0, (k : Int))), (5, (1, _))]) ⟨rfl, rfl, rfl, rfl, rfl, rfl, trivial⟩ (at122 _ (by omega) (by
                obtain ⟨i2, q1, q2, q3⟩ : ∃ i : Nat, i < h ∧ x = i ∧ st.2.1 i = v9 := by
                  rcases hx with q | q
                  · exact q
                  · omega
                rw [q2, j2 _ _ (by omega), hT (i := i2) q1 (by omega), q3]))
            · refine x_iload (pc := 95) dX2_push_95 rfl ?_
              refine x_aload_n (pc := 97) dX2_push_97 rfl rfl ?_
              refine x_getIV (jj := 7) (pc := 98) dX2_push_98 fX2_68 (sC_40 hC) rfl (by decide) rfl (by (repeat (first | rewrite [up_s] | rewrite [up_i (by omega)] | rewrite [up_a (by omega)])); first | exact (j2 40 7 (by omega)).trans hg1 | exact (j2 40 8 (by omega)).trans hg2 | exact (j2 40 10 (by omega)).trans hg3 | exact (j2 75 k (by omega)).trans (hNU (by omega)) | rfl) ?_
              refine x_icmp_ge (tgt := 122) (pc := 101) dX2_push_101 (by decide) (fun c_101 => ?_) (fun c_101 => ?_)
              · exfalso
                omega
              · refine x_aload_n (pc := 104) dX2_push_104 rfl rfl ?_
                refine x_getR (jj := 4) (pc := 105) dX2_push_105 fX2_20 (sC_40 hC) rfl (by decide) rfl rC_40_4 ?_
                refine x_iload (pc := 108) dX2_push_108 rfl ?_
                refine x_ialoadV (pc := 110) dX2_push_110 (sC_75 hC) (by omega) (by (repeat (first | rewrite [up_s] | rewrite [up_i (by omega)] | rewrite [up_a (by omega)])); first | exact (j2 40 7 (by omega)).trans hg1 | exact (j2 40 8 (by omega)).trans hg2 | exact (j2 40 10 (by omega)).trans hg3 | exact (j2 75 k (by omega)).trans (hNU (by omega)) | rfl) (fun g_110 => ?_)
                refine x_iload_n (pc := 111) dX2_push_111 rfl rfl ?_
                refine x_icmp_ne (tgt := 122) (pc := 112) dX2_push_112 (by decide) (fun c_112 => ?_) (fun c_112 => ?_)
                · exfalso
                  omega
                · refine x_aload_n (pc := 115) dX2_push_115 rfl rfl ?_
                  refine x_getJV (jj := 10) (pc := 116) dX2_push_116 fX2_61 (sC_40 hC) rfl (by decide) rfl (by (repeat (first | rewrite [up_s] | rewrite [up_i (by omega)] | rewrite [up_a (by omega)])); first | exact (j2 40 7 (by omega)).trans hg1 | exact (j2 40 8 (by omega)).trans hg2 | exact (j2 40 10 (by omega)).trans hg3 | exact (j2 75 k (by omega)).trans (hNU (by omega)) | rfl) ?_
                  refine x_lneg (pc := 119) dX2_push_119 (by have := RTc.bdo hP hw hO; omega) ?_
                  refine x_lstore (pc := 120) dX2_push_120 (by decide) rfl ?_
                  exfalso
                  omega)
      refine x_istore_n (pc := 57) dX2_push_57 rfl (by decide) rfl ?_
      refine x_iconst (pc := 58) dX2_push_58 (by decide) ?_
      refine x_istore (pc := 59) dX2_push_59 (by decide) rfl ?_
      exact x_lo (lo' := [(0, (2, 40)), (1, (0, (v9 : Int))), (2, (0, most)), (3, (0, x)), (4, (0, ((0 : Nat) : Int)))]) ⟨rfl, rfl, rfl, rfl, rfl, trivial⟩ (lpB 0 _ ⟨by omega, fun _ _ _ => rfl, fun i hi => by omega⟩)
    · refine x_aload_n (pc := 10) dX2_push_10 rfl rfl ?_
      refine x_getR (jj := 5) (pc := 11) dX2_push_11 fX2_23 (sC_40 hC) rfl (by decide) rfl rC_40_5 ?_
      refine x_iload_n (pc := 14) dX2_push_14 rfl rfl ?_
      refine x_aload_n (pc := 15) dX2_push_15 rfl rfl ?_
      refine x_getR (jj := 5) (pc := 16) dX2_push_16 fX2_23 (sC_40 hC) rfl (by decide) rfl rC_40_5 ?_
      refine x_iload_n (pc := 19) dX2_push_19 rfl rfl ?_
      refine x_zaloadV (pc := 20) dX2_push_20 (sC_76 hC) (by omega) (by (repeat (first | rewrite [up_s] | rewrite [up_i (by omega)] | rewrite [up_a (by omega)])); first | exact (k2 40 7 (by omega)).trans hg1 | exact (k2 40 8 (by omega)).trans hg2 | exact (k3 j (by omega)).trans (if_neg (by omega)) | exact (k2 _ _ (by omega)).trans (hR.2.2.1 j (by omega)) | rfl) ?_
      refine x_if_ne (tgt := 40) (pc := 21) dX2_push_21 (by decide) (fun c_21 => ?_) (fun c_21 => ?_)
      · refine x_iconst (pc := 40) dX2_push_40 (by decide) ?_
        refine x_goto (tgt := 45) (pc := 41) dX2_push_41 (by decide) ?_
        refine x_zastore (pc := 45) dX2_push_45 (sC_76 hC) (by omega) (by omega) ?_
        refine x_iinc (pc := 46) dX2_push_46 rfl (by omega) (by decide) rfl ?_
        refine x_goto (tgt := 2) (pc := 49) dX2_push_49 (by decide) ?_
        have hfn : fxN w F st Z fx j = true := by
          unfold fxN
          have : fx j = true := by
            cases hq : fx j
            · rw [hq] at c_21; exact absurd rfl c_21
            · rfl
          rw [this]; rfl
        refine x_lo (lo' := [(0, (2, 40)), (1, (0, (v9 : Int))), (2, (0, most)), (3, (0, ((j + 1 : Nat) : Int)))]) ⟨rfl, rfl, rfl, rfl, trivial⟩ (ih (j + 1) _ ⟨by omega, fun a i q => (up_a q).trans (k2 a i q), fun i hi => ?_⟩ (by omega))
        by_cases e : i = j
        · subst e; rw [up_s, if_pos (by omega), hfn]; rfl
        · rw [up_i (by omega), k3 i hi]
          by_cases e2 : i < j
          · rw [if_pos e2, if_pos (show i < j + 1 by omega)]
          · rw [if_neg e2, if_neg (show ¬ i < j + 1 by omega)]
      · refine x_aload_n (pc := 24) dX2_push_24 rfl rfl ?_
        refine x_getR (jj := 2) (pc := 25) dX2_push_25 fX2_13 (sC_40 hC) rfl (by decide) rfl rC_40_2 ?_
        refine x_aload_n (pc := 28) dX2_push_28 rfl rfl ?_
        refine x_getIV (jj := 8) (pc := 29) dX2_push_29 fX2_65 (sC_40 hC) rfl (by decide) rfl (by (repeat (first | rewrite [up_s] | rewrite [up_i (by omega)] | rewrite [up_a (by omega)])); first | exact (k2 40 7 (by omega)).trans hg1 | exact (k2 40 8 (by omega)).trans hg2 | exact (k3 j (by omega)).trans (if_neg (by omega)) | exact (k2 _ _ (by omega)).trans (hR.2.2.1 j (by omega)) | rfl) ?_
        refine x_raload (pc := 32) dX2_push_32 (sC_41 hC) (by omega) ?_
        rewrite [r41_v (by omega)]
        refine x_iload_n (pc := 33) dX2_push_33 rfl rfl ?_
        refine x_laloadV (pc := 34) dX2_push_34 (hC.1 _ (by omega) (by omega)) (by omega) (by (repeat (first | rewrite [up_s] | rewrite [up_i (by omega)] | rewrite [up_a (by omega)])); first | exact (k2 40 7 (by omega)).trans hg1 | exact (k2 40 8 (by omega)).trans hg2 | exact (k3 j (by omega)).trans (if_neg (by omega)) | exact (k2 _ _ (by omega)).trans (hR.2.2.1 j (by omega)) | rfl) (fun g_34 => ?_)
        refine x_lconst0 (pc := 35) dX2_push_35 ?_
        refine x_lle (tgt := 44) (pc := 36) dX2_push_36 dX2_push_37 (by decide) (fun c_36 => ?_) (fun c_36 => ?_)
        · refine x_iconst (pc := 44) dX2_push_44 (by decide) ?_
          refine x_zastore (pc := 45) dX2_push_45 (sC_76 hC) (by omega) (by omega) ?_
          refine x_iinc (pc := 46) dX2_push_46 rfl (by omega) (by decide) rfl ?_
          refine x_goto (tgt := 2) (pc := 49) dX2_push_49 (by decide) ?_
          have hfn : fxN w F st Z fx j = false := by
            unfold fxN
            have hf : fx j = false := by
              cases hq : fx j
              · rfl
              · rw [hq] at c_21; exact absurd c_21 (by decide)
            rw [hf, Bool.false_or]
            exact decide_eq_false (by omega)
          refine x_lo (lo' := [(0, (2, 40)), (1, (0, (v9 : Int))), (2, (0, most)), (3, (0, ((j + 1 : Nat) : Int)))]) ⟨rfl, rfl, rfl, rfl, trivial⟩ (ih (j + 1) _ ⟨by omega, fun a i q => (up_a q).trans (k2 a i q), fun i hi => ?_⟩ (by omega))
          by_cases e : i = j
          · subst e; rw [up_s, if_pos (by omega), hfn]; rfl
          · rw [up_i (by omega), k3 i hi]
            by_cases e2 : i < j
            · rw [if_pos e2, if_pos (show i < j + 1 by omega)]
            · rw [if_neg e2, if_neg (show ¬ i < j + 1 by omega)]
        · refine x_iconst (pc := 40) dX2_push_40 (by decide) ?_
          refine x_goto (tgt := 45) (pc := 41) dX2_push_41 (by decide) ?_
          refine x_zastore (pc := 45) dX2_push_45 (sC_76 hC) (by omega) (by omega) ?_
          refine x_iinc (pc := 46) dX2_push_46 rfl (by omega) (by decide) rfl ?_
          refine x_goto (tgt := 2) (pc := 49) dX2_push_49 (by decide) ?_
          have hfn : fxN w F st Z fx j = true := by
            unfold fxN
            have hf : fx j = false := by
              cases hq : fx j
              · rfl
              · rw [hq] at c_21; exact absurd c_21 (by decide)
            rw [hf, Bool.false_or]
            exact decide_eq_true (by omega)
          refine x_lo (lo' := [(0, (2, 40)), (1, (0, (v9 : Int))), (2, (0, most)), (3, (0, ((j + 1 : Nat) : Int)))]) ⟨rfl, rfl, rfl, rfl, trivial⟩ (ih (j + 1) _ ⟨by omega, fun a i q => (up_a q).trans (k2 a i q), fun i hi => ?_⟩ (by omega))
          by_cases e : i = j
          · subst e; rw [up_s, if_pos (by omega), hfn]; rfl
          · rw [up_i (by omega), k3 i hi]
            by_cases e2 : i < j
            · rw [if_pos e2, if_pos (show i < j + 1 by omega)]
            · rw [if_neg e2, if_neg (show ¬ i < j + 1 by omega)])
  refine x_iconst (pc := 0) dX2_push_0 (by decide) ?_
  refine x_istore_n (pc := 1) dX2_push_1 rfl (by decide) rfl ?_
  exact x_lo (lo' := [(0, (2, 40)), (1, (0, (v9 : Int))), (2, (0, most)), (3, (0, ((0 : Nat) : Int)))]) ⟨rfl, rfl, rfl, rfl, trivial⟩ (lpA 0 M ⟨by omega, fun _ _ _ => rfl, fun i hi => by rw [if_neg (by omega)]; exact hR.2.2.2.2.2 i hi⟩)
theorem s_fillP {l : Launch} {E : aE} {N : Nat} {S : aS} {M : aM} (hfl : l.stackTraces = false) (hC : lyC S) (c : Int → Int) (s : Int) (hs : 0 < s ∧ s < 128) (h5 : sumN (hb s) 7 ≤ 5) (hcs : ∀ x, 0 < x → x ≤ s → b_and x (b_xor s (-1)) = 0 → M 35 x = c x) (hts : M 36 s = totV c s) (hc : costs9 c) (ht : totE c s ≠ -1) : aMt l E pX2_fill [(2, 40), (0, s)] N S M (aG N S (fun v M' => v = (0, if mssV c s = 0 then 1 else 0) ∧ RTc M' (wN s) (hN c s) (FV c s) (can1 c s) (zA (wN s)) (fun _ => false) ∧ M' 40 9 = s ∧ (∀ j : Nat, j < wN s → M' 77 j = whoV s j) ∧ ∀ a i : Int, ¬ (40 ≤ a ∧ a < 78) → M' a i = M a i)) := by
  refine a_met hfl rfl (by decide +kernel) (Nat.le_of_ble_eq_true rfl) ?_
  have hP := FV_pb hc hs ht
  have hwv := wN_v (s := s) ⟨by omega, hs.2⟩
  have hw5 : wN s ≤ 5 := by omega
  have hh31 := hN_le (c := c) (s := s) ⟨by omega, hs.2⟩ h5
  have hok1 := can1_ok hc hs h5 ht
  have htb := tot_bd hc hs ht
  have hmn := miss_nn hc hs h5 ht
  refine x_aload_n (pc := 0) dX2_fill_0 rfl rfl ?_
  refine x_iload_n (pc := 1) dX2_fill_1 rfl rfl ?_
  refine x_callV1 (pc := 2) dX2_fill_2 rfl kX2_41 (s_begin hfl hC c s hs h5 hcs hP) (sC_40 hC) rfl rfl (Nat.le_of_ble_eq_true rfl) (k_U (fun M9 hM9 => ?_)) n_U
  obtain ⟨a1, a2, a3, a4⟩ := hM9
  refine x_aload_n (pc := 5) dX2_fill_5 rfl rfl ?_
  refine x_callV0 (pc := 6) dX2_fill_6 rfl kX2_45 (s_climb hfl hC a1 hP hw5 hh31 (zA_bd _) (st0_ok hP)) (sC_40 hC) rfl rfl (Nat.le_of_ble_eq_true rfl) (k_U (fun M8 hM8 => ?_)) n_U
  obtain ⟨b1, b2⟩ := hM8
  have b1 : RTc M8 (wN s) (hN c s) (FV c s) (can1 c s) (zA (wN s)) (fun _ => false) := b1
  have b4 : ∀ a i : Int, ¬ (40 ≤ a ∧ a < 78) → M8 a i = M a i := fun a i q => (b2 a i (by omega) (by omega)).trans (a4 a i q)
  have b9 : M8 40 9 = s := (b2 _ _ (by omega) (by omega)).trans a2
  have b7 : ∀ j : Nat, j < wN s → M8 77 j = whoV s j := fun j hj => (b2 _ _ (by omega) (by omega)).trans (a3 j hj)
  refine x_aload_n (pc := 9) dX2_fill_9 rfl rfl ?_
  refine x_callV0 (pc := 10) dX2_fill_10 rfl kX2_48 (s_missing hfl hC b1 hP hw5 hh31 (zA_bd _) hok1 s (totV c s) ⟨by omega, by omega⟩ b9 ((b4 _ _ (by omega)).trans hts) (by omega)) (sC_40 hC) rfl rfl (Nat.le_of_ble_eq_true rfl) (k_R ?_) n_R
  refine x_lconst0 (pc := 13) dX2_fill_13 ?_
  refine x_lne (tgt := 22) (pc := 14) dX2_fill_14 dX2_fill_15 (by decide) (fun c_14 => ?_) (fun c_14 => ?_)
  · refine x_iconst (pc := 22) dX2_fill_22 (by decide) ?_
    refine x_zreturn (pc := 23) dX2_fill_23 rfl (by omega) (by decide) ?_
    refine ⟨_, rfl, rfl, rfl, ?_, b1, b9, b7, b4⟩
    rw [if_neg (show ¬ mssV c s = 0 by unfold mssV; omega)]
  · refine x_iconst (pc := 18) dX2_fill_18 (by decide) ?_
    refine x_goto (tgt := 23) (pc := 19) dX2_fill_19 (by decide) ?_
    refine x_zreturn (pc := 23) dX2_fill_23 rfl (by omega) (by decide) ?_
    refine ⟨_, rfl, rfl, rfl, ?_, b1, b9, b7, b4⟩
    rw [if_pos (show mssV c s = 0 by unfold mssV; omega)]
theorem s_needParting {l : Launch} {E : aE} {N : Nat} {S : aS} {M : aM} (hfl : l.stackTraces = false) (s : Int) (hC : lyC S) (A : aM) (hR : RC M N S A) (hA : TOK (A 0)) (hB : TB (A 0)) (hs : 0 < s ∧ s < 128) (h5 : sumN (hb s) 7 ≤ 5) : aMt l E pX11_needParting [(2, 0), (0, s)] N S M (aW (fun M' => RC M' N S A ∧ frC M M' ∧ (totE (costV (A 0)) s ≠ -1 ∧ mssV (costV (A 0)) s = 0 → RTc M' (wN s) (hN (costV (A 0)) s) (FV (costV (A 0)) s) (can1 (costV (A 0)) s) (zA (wN s)) (fun _ => false) ∧ M' 40 9 = s ∧ ∀ j : Nat, j < wN s → M' 77 j = whoV s j)) (totE (costV (A 0)) s ≠ -1 ∧ mssV (costV (A 0)) s = 0) 1 N S) := by
  refine a_met hfl rfl (by decide +kernel) (Nat.le_of_ble_eq_true rfl) ?_
  refine x_aload_n (pc := 0) dX11_needParting_0 rfl rfl ?_
  refine x_iload_n (pc := 1) dX11_needParting_1 rfl rfl ?_
  refine x_callV1 (pc := 2) dX11_needParting_2 rfl kX11_234 (s_needTotal hfl s hC A hR hA hB hs) (sC_0 hC) rfl rfl (Nat.le_of_ble_eq_true rfl) (k_W (fun M9 h9 ht9 => ?_)) (n_W (fun M9 h9 h8 => ⟨rfl, rfl, ⟨h9.1, h9.2.1, fun q => absurd q.1 h8⟩, Or.inr ⟨fun q => h8 q.1, rfl⟩⟩))
  obtain ⟨hR9, FC9, g9⟩ := h9
  refine x_aload_n (pc := 5) dX11_needParting_5 rfl rfl ?_
  refine x_getR (jj := 6) (pc := 6) dX11_needParting_6 fX11_63 (sC_0 hC) rfl (by decide) rfl rC_0_6 ?_
  refine x_iload_n (pc := 9) dX11_needParting_9 rfl rfl ?_
  have hcT := costs_t hA.tq
  have hgs := g9 s hs.1 (Int.le_refl s) (sub_rf (by omega))
  have hto := totV_or (c := costV (A 0)) s
  have het : encT (totE (costV (A 0)) s) = totV (costV (A 0)) s := by omega
  refine x_callV1 (pc := 10) dX11_needParting_10 rfl kX11_243 (s_fillP hfl hC (costV (A 0)) s hs h5 (fun x a b z => (g9 x a b z).1.1) (hgs.1.2.1.trans het) hcT ht9) (sC_40 hC) rfl rfl (Nat.le_of_ble_eq_true rfl) (k_G (fun v8 M8 hM8 => ?_)) n_G
  obtain ⟨rfl, b1, b9, b7, b4⟩ := hM8
  have hR8 := hR9.pt (M' := M8) fun a i x => b4 a i (by omega)
  have FC8 : frC M M8 := fun a j x y => (b4 a j (by omega)).trans (FC9 a j x y)
  refine x_if_ne (tgt := 24) (pc := 13) dX11_needParting_13 (by decide) (fun c_13 => ?_) (fun c_13 => ?_)
  · refine x_return (pc := 24) dX11_needParting_24 rfl (by decide) ?_
    have hok : mssV (costV (A 0)) s = 0 := by
      by_cases q : mssV (costV (A 0)) s = 0
      · exact q
      · rw [if_neg q] at c_13; omega
    exact ⟨rfl, rfl, ⟨hR8, FC8, fun _ => ⟨b1, b9, b7⟩⟩, Or.inl ⟨⟨ht9, hok⟩, rfl⟩⟩
  · refine x_throw (pc := 16) thX11_352_354 rfl trivial dX11_needParting_16 dX11_needParting_19 dX11_needParting_20 dX11_needParting_23 (by decide) ?_
    have hno : ¬ mssV (costV (A 0)) s = 0 := fun q => by rw [if_pos q] at c_13; omega
    exact ⟨rfl, rfl, ⟨hR8, FC8, fun q => absurd q.2 hno⟩, Or.inr ⟨fun q => hno q.2, rfl⟩⟩
theorem s_Ccan {l : Launch} {E : aE} {N : Nat} {S : aS} {M : aM} (hfl : l.stackTraces = false) (s : Int) (hC : lyC S) (A : aM) (hR : RC M N S A) (hA : TOK (A 0)) (hB : TB (A 0)) : aMt l E pX11_can [(2, 0), (0, s)] N S M (opC M N S 0 (spCan A s) (fun k => if k = 1 then 0 else 1)) := by
  refine a_met hfl rfl (by decide +kernel) (Nat.le_of_ble_eq_true rfl) ?_
  have c0 : M 1 1 = A 0 0 := hR.1.1.1
  have t0 := hA.1
  have t9 := hA.2.2.2.2.2.2.2.2.2.2.2.2.2.2.2.2.2.1
  refine x_aload_n (pc := 0) dX11_can_0 rfl rfl ?_
  refine x_iload_n (pc := 1) dX11_can_1 rfl rfl ?_
  refine x_callV1 (pc := 2) dX11_can_2 rfl kX11_240 (s_needFew hfl _ hC (by omega)) (sC_0 hC) rfl rfl (Nat.le_of_ble_eq_true rfl) (k_N (fun h_2 => ?_)) (n_N (fun h_2 => (by rw [c0] at h_2; have e9 : spCan A s = (1, 0, A) := (by unfold spCan; rw [if_pos (by omega)]); rw [e9]; exact ⟨rfl, rfl, fun _ _ _ _ => rfl, hR, Or.inr ⟨show ¬ (1 : Int) = 0 by decide, rfl⟩⟩)))
  rw [c0] at h_2
  have hs := isSet_lt hA h_2.1
  have h5 := h_2.2.2
  refine x_aload_n (pc := 5) dX11_can_5 rfl rfl ?_
  refine x_iload_n (pc := 6) dX11_can_6 rfl rfl ?_
  refine x_callV1 (pc := 7) dX11_can_7 rfl kX11_234 (s_needTotal hfl s hC A hR hA hB hs) (sC_0 hC) rfl rfl (Nat.le_of_ble_eq_true rfl) (k_W (fun M9 h9 ht9 => ?_)) (n_W (fun M9 h9 h8 => by obtain ⟨hR9, FC9, g9⟩ := h9; have e9 : spCan A s = (2, 0, A) := (by unfold spCan; rw [if_neg (by omega), if_pos (by omega)]); rw [e9]; exact ⟨rfl, rfl, FC9, hR9, Or.inr ⟨show ¬ (2 : Int) = 0 by decide, rfl⟩⟩))
  obtain ⟨hR9, FC9, g9⟩ := h9
  refine x_aload_n (pc := 10) dX11_can_10 rfl rfl ?_
  refine x_getR (jj := 6) (pc := 11) dX11_can_11 fX11_63 (sC_0 hC) rfl (by decide) rfl rC_0_6 ?_
  refine x_iload_n (pc := 14) dX11_can_14 rfl rfl ?_
  have hcT := costs_t hA.tq
  have hgs := g9 s hs.1 (Int.le_refl s) (sub_rf (by omega))
  have hto := totV_or (c := costV (A 0)) s
  have het : encT (totE (costV (A 0)) s) = totV (costV (A 0)) s := by omega
  refine x_callV1 (pc := 15) dX11_can_15 rfl kX11_243 (s_fillP hfl hC (costV (A 0)) s hs h5 (fun x a b z => (g9 x a b z).1.1) (hgs.1.2.1.trans het) hcT ht9) (sC_40 hC) rfl rfl (Nat.le_of_ble_eq_true rfl) (k_G (fun v8 M8 hM8 => ?_)) n_G
  obtain ⟨rfl, b1, b9, b7, b4⟩ := hM8
  have hR8 := hR9.pt (M' := M8) fun a i x => b4 a i (by omega)
  have FC8 : frC M M8 := fun a j x y => (b4 a j (by omega)).trans (FC9 a j x y)
  refine x_istore_n (pc := 18) dX11_can_18 rfl (by decide) rfl ?_
  refine x_aload_n (pc := 19) dX11_can_19 rfl rfl ?_
  refine x_aload_n (pc := 20) dX11_can_20 rfl rfl ?_
  refine x_getR (jj := 6) (pc := 21) dX11_can_21 fX11_63 (sC_0 hC) rfl (by decide) rfl rC_0_6 ?_
  have hP := FV_pb hcT hs ht9
  have hwv := wN_v (s := s) ⟨by omega, hs.2⟩
  have hh31 := hN_le (c := costV (A 0)) (s := s) ⟨by omega, hs.2⟩ h5
  have hok1 := can1_ok hcT hs h5 ht9
  have htb := tot_bd hcT hs ht9
  have hmn := miss_nn hcT hs h5 ht9
  have hob := ov_fr hcT hs h5 ht9 hok1
  have hmb := RTc.bdZ hP (by omega) hok1 (zA_bd _) (k := wN s) (by omega)
  have hml := mul_bd (a := totV (costV (A 0)) s) (b := ov (wN s) (FV (costV (A 0)) s) (can1 (costV (A 0)) s)) (by omega) (by omega)
  refine x_callV0 (pc := 24) dX11_can_24 rfl kX11_246 (s_missing hfl hC b1 hP (by omega) hh31 (zA_bd _) hok1 s (totV (costV (A 0)) s) ⟨by omega, by omega⟩ b9 ((b4 _ _ (by omega)).trans (hgs.1.2.1.trans het)) (by omega)) (sC_40 hC) rfl rfl (Nat.le_of_ble_eq_true rfl) (k_R ?_) n_R
  have hmV : totV (costV (A 0)) s * ov (wN s) (FV (costV (A 0)) s) (can1 (costV (A 0)) s) - ta (wN s) (FV (costV (A 0)) s) (can1 (costV (A 0)) s) (zA (wN s)) (wN s) = mssV (costV (A 0)) s := rfl
  rewrite [hmV]
  refine x_aload_n (pc := 27) dX11_can_27 rfl rfl ?_
  refine x_getR (jj := 6) (pc := 28) dX11_can_28 fX11_63 (sC_0 hC) rfl (by decide) rfl rC_0_6 ?_
  refine x_getJV (jj := 10) (pc := 31) dX11_can_31 fX11_250 (sC_40 hC) rfl (by decide) rfl (by (repeat (first | rewrite [up_s] | rewrite [up_i (by omega)] | rewrite [up_a (by omega)])); first | exact b1.1.2.2 | rfl) ?_
  have hmn2 : mssV (costV (A 0)) s ≤ 1139973655678156800 := by
    unfold mssV
    omega
  refine x_callV2 (pc := 34) dX11_can_34 rfl kX11_252 (s_tell hfl (mssV (costV (A 0)) s) (ov (wN s) (FV (costV (A 0)) s) (can1 (costV (A 0)) s)) hC ⟨by omega, by omega⟩ ⟨by omega, by omega⟩) (sC_0 hC) rfl rfl (Nat.le_of_ble_eq_true rfl) (k_U (fun M7 hM7 => ?_)) n_U
  subst hM7
  refine x_iload_n (pc := 37) dX11_can_37 rfl rfl ?_
  refine x_zreturn (pc := 38) dX11_can_38 rfl (by split <;> omega) (by decide) ?_
  have e9 : spCan A s = (0, if mssV (costV (A 0)) s = 0 then 1 else 0, frA A (mssV (costV (A 0)) s) (ov (wN s) (FV (costV (A 0)) s) (can1 (costV (A 0)) s))) := by
    unfold spCan
    rw [if_neg (by omega), if_neg (by omega)]
  rw [e9]
  refine ⟨rfl, rfl, fun a j x y => ?_, hR8.fr, Or.inl ⟨rfl, rfl⟩⟩
  rw [up_a (by omega), up_a (by omega)]
  exact FC8 a j x y
theorem not_part {a b : Int} (h : ¬ (a ≠ -1 ∧ b = 0)) : a = -1 ∨ b ≠ 0 := by omega
theorem s_Cshare {l : Launch} {E : aE} {N : Nat} {S : aS} {M : aM} (hfl : l.stackTraces = false) (s h most : Int) (hm : most = 0 ∨ most = 1) (hC : lyC S) (A : aM) (hR : RC M N S A) (hA : TOK (A 0)) (hB : TB (A 0)) : aMt l E pX11_share [(2, 0), (0, s), (0, h), (0, most)] N S M (opCv M N S (spShare A s h most) (fun k => if k = 1 then 0 else 1)) := by
  refine a_met hfl rfl (by decide +kernel) (Nat.le_of_ble_eq_true rfl) ?_
  have c0 : M 1 1 = A 0 0 := hR.1.1.1
  have t0 := hA.1
  have t9 := hA.2.2.2.2.2.2.2.2.2.2.2.2.2.2.2.2.2.1
  refine x_aload_n (pc := 0) dX11_share_0 rfl rfl ?_
  refine x_iload_n (pc := 1) dX11_share_1 rfl rfl ?_
  refine x_callV1 (pc := 2) dX11_share_2 rfl kX11_240 (s_needFew hfl _ hC (by omega)) (sC_0 hC) rfl rfl (Nat.le_of_ble_eq_true rfl) (k_N (fun h_2 => ?_)) (n_N (fun h_2 => (by rw [c0] at h_2; have e9 : spShare A s h most = (1, 0, A) := (by unfold spShare; rw [if_pos (Or.inl (by assumption))]); rw [e9]; exact ⟨rfl, rfl, fun _ _ _ _ => rfl, hR, Or.inr ⟨show ¬ (1 : Int) = 0 by decide, rfl⟩⟩)))
  rw [c0] at h_2
  have hs := isSet_lt hA h_2.1
  have h5 := h_2.2.2
  refine x_aload_n (pc := 5) dX11_share_5 rfl rfl ?_
  refine x_iload_n (pc := 6) dX11_share_6 rfl rfl ?_
  refine x_iload_n (pc := 7) dX11_share_7 rfl rfl ?_
  refine x_callV2 (pc := 8) dX11_share_8 rfl kX11_256 (s_needMember hfl s h) (sC_0 hC) rfl rfl (Nat.le_of_ble_eq_true rfl) (k_N (fun h_8 => ?_)) (n_N (fun h_8 => (by have e9 : spShare A s h most = (1, 0, A) := (by unfold spShare; rw [if_pos (Or.inr (by assumption))]); rw [e9]; exact ⟨rfl, rfl, fun _ _ _ _ => rfl, hR, Or.inr ⟨show ¬ (1 : Int) = 0 by decide, rfl⟩⟩)))
  have hh9 := isOf_in (s := s) (h := h) (by omega)
  have hhb := (isOf_iff (x := s) hh9).mp (by assumption)
  have hco := colV_p hh9 hhb
  refine x_aload_n (pc := 11) dX11_share_11 rfl rfl ?_
  refine x_iload_n (pc := 12) dX11_share_12 rfl rfl ?_
  refine x_callV1 (pc := 13) dX11_share_13 rfl kX11_259 (s_needParting hfl s hC A hR hA hB hs h5) (sC_0 hC) rfl rfl (Nat.le_of_ble_eq_true rfl) (k_W (fun M9 h9 hcd => ?_)) (n_W (fun M9 h9 h8 => by obtain ⟨hR9, FC9, -⟩ := h9; have e9 : spShare A s h most = (2, 0, A) := (by unfold spShare; rw [if_neg (by omega), if_pos (not_part h8)]); rw [e9]; exact ⟨rfl, rfl, FC9, hR9, Or.inr ⟨show ¬ (2 : Int) = 0 by decide, rfl⟩⟩))
  obtain ⟨hR9, FC9, r9⟩ := h9
  obtain ⟨b1, b9, b7⟩ := r9 hcd
  have ht9 := hcd.1
  have hcT := costs_t hA.tq
  have hP := FV_pb hcT hs ht9
  have hwv := wN_v (s := s) ⟨by omega, hs.2⟩
  have hw5 : wN s ≤ 5 := by omega
  have hh31 := hN_le (c := costV (A 0)) (s := s) ⟨by omega, hs.2⟩ h5
  have hok1 := can1_ok hcT hs h5 ht9
  refine x_aload_n (pc := 16) dX11_share_16 rfl rfl ?_
  refine x_getR (jj := 6) (pc := 17) dX11_share_17 fX11_63 (sC_0 hC) rfl (by decide) rfl rC_0_6 ?_
  refine x_iload_n (pc := 20) dX11_share_20 rfl rfl ?_
  refine x_callV1 (pc := 21) dX11_share_21 rfl kX11_262 (s_placeOf hfl hC (wN s) (colV s h) h hw5 b1.1.1 hco.1 ((b7 _ hco.1).trans hco.2.1) (fun i hi => by rw [b7 i (by omega)]; exact hco.2.2 i hi)) (sC_40 hC) rfl rfl (Nat.le_of_ble_eq_true rfl) (k_R ?_) n_R
  refine x_istore (pc := 24) dX11_share_24 (by decide) rfl ?_
  refine x_aload_n (pc := 26) dX11_share_26 rfl rfl ?_
  refine x_getR (jj := 6) (pc := 27) dX11_share_27 fX11_63 (sC_0 hC) rfl (by decide) rfl rC_0_6 ?_
  refine x_iload (pc := 30) dX11_share_30 rfl ?_
  refine x_iload_n (pc := 32) dX11_share_32 rfl rfl ?_
  refine x_callV2 (pc := 33) dX11_share_33 rfl kX11_265 (s_push hfl hC b1 hP hw5 hh31 (zA_bd _) hok1 (colV s h) most hco.1 hm) (sC_40 hC) rfl rfl (Nat.le_of_ble_eq_true rfl) (k_U (fun M8 hM8 => ?_)) n_U
  obtain ⟨d1, d2⟩ := hM8
  have hok2 : OKx (wN s) (hN (costV (A 0)) s) (FV (costV (A 0)) s) (shV (costV (A 0)) s most (colV s h)) := sxD_ok hcT hs h5 ht9 hok1
  have d1 : RTc M8 (wN s) (hN (costV (A 0)) s) (FV (costV (A 0)) s) (shV (costV (A 0)) s most (colV s h)) (sgV most (colV s h)) _ := d1
  have hR8 := hR9.pt (M' := M8) fun a i x => d2 a i (by omega) (by omega)
  have FC8 : frC M M8 := fun a j x y => (d2 a j (by omega) (by omega)).trans (FC9 a j x y)
  have hob := ov_fr hcT hs h5 ht9 hok2
  have hvb := val_fr hcT hs h5 ht9 hok2 hco.1
  refine x_aload_n (pc := 36) dX11_share_36 rfl rfl ?_
  refine x_aload_n (pc := 37) dX11_share_37 rfl rfl ?_
  refine x_getR (jj := 6) (pc := 38) dX11_share_38 fX11_63 (sC_0 hC) rfl (by decide) rfl rC_0_6 ?_
  refine x_iload (pc := 41) dX11_share_41 rfl ?_
  refine x_callV1 (pc := 43) dX11_share_43 rfl kX11_269 (s_valueOf hfl hC d1 hP hw5 hh31 (sgV_bd hco.1) hok2 (colV s h) (by omega)) (sC_40 hC) rfl rfl (Nat.le_of_ble_eq_true rfl) (k_R ?_) n_R
  rewrite [FV_c hco.1]
  refine x_aload_n (pc := 46) dX11_share_46 rfl rfl ?_
  refine x_getR (jj := 6) (pc := 47) dX11_share_47 fX11_63 (sC_0 hC) rfl (by decide) rfl rC_0_6 ?_
  refine x_getJV (jj := 10) (pc := 50) dX11_share_50 fX11_250 (sC_40 hC) rfl (by decide) rfl (by (repeat (first | rewrite [up_s] | rewrite [up_i (by omega)] | rewrite [up_a (by omega)])); first | exact d1.1.2.2 | rfl) ?_
  refine x_callV2 (pc := 53) dX11_share_53 rfl kX11_252 (s_tell hfl (ta (wN s) (FV (costV (A 0)) s) (shV (costV (A 0)) s most (colV s h)) (iM (colV s h)) (wN s)) (ov (wN s) (FV (costV (A 0)) s) (shV (costV (A 0)) s most (colV s h))) hC ⟨by omega, by omega⟩ ⟨by omega, by omega⟩) (sC_0 hC) rfl rfl (Nat.le_of_ble_eq_true rfl) (k_U (fun M7 hM7 => ?_)) n_U
  subst hM7
  refine x_return (pc := 56) dX11_share_56 rfl (by decide) ?_
  have e9 : spShare A s h most = (0, 0, frA A (ta (wN s) (FV (costV (A 0)) s) (shV (costV (A 0)) s most (colV s h)) (iM (colV s h)) (wN s)) (ov (wN s) (FV (costV (A 0)) s) (shV (costV (A 0)) s most (colV s h)))) := by
    unfold spShare
    rw [if_neg (by omega), if_neg (by omega)]
  rw [e9]
  refine ⟨rfl, rfl, fun a j x y => ?_, hR8.fr, Or.inl ⟨rfl, rfl⟩⟩
  rw [up_a (by omega), up_a (by omega)]
  exact FC8 a j x y
theorem s_Crow {l : Launch} {E : aE} {N : Nat} {S : aS} {M : aM} (hfl : l.stackTraces = false) (s h : Int) (hC : lyC S) (A : aM) (hR : RC M N S A) (hA : TOK (A 0)) (hB : TB (A 0)) : aMt l E pX11_row [(2, 0), (0, s), (0, h)] N S M (opCv M N S (spRow A s h) (fun k => if k = 1 then 0 else 1)) := by
  refine a_met hfl rfl (by decide +kernel) (Nat.le_of_ble_eq_true rfl) ?_
  have c0 : M 1 1 = A 0 0 := hR.1.1.1
  have t0 := hA.1
  have t9 := hA.2.2.2.2.2.2.2.2.2.2.2.2.2.2.2.2.2.1
  refine x_aload_n (pc := 0) dX11_row_0 rfl rfl ?_
  refine x_iload_n (pc := 1) dX11_row_1 rfl rfl ?_
  refine x_callV1 (pc := 2) dX11_row_2 rfl kX11_240 (s_needFew hfl _ hC (by omega)) (sC_0 hC) rfl rfl (Nat.le_of_ble_eq_true rfl) (k_N (fun h_2 => ?_)) (n_N (fun h_2 => (by rw [c0] at h_2; have e9 : spRow A s h = (1, 0, A) := (by unfold spRow; rw [if_pos (Or.inl (by assumption))]); rw [e9]; exact ⟨rfl, rfl, fun _ _ _ _ => rfl, hR, Or.inr ⟨show ¬ (1 : Int) = 0 by decide, rfl⟩⟩)))
  rw [c0] at h_2
  have hs := isSet_lt hA h_2.1
  have h5 := h_2.2.2
  refine x_aload_n (pc := 5) dX11_row_5 rfl rfl ?_
  refine x_iload_n (pc := 6) dX11_row_6 rfl rfl ?_
  refine x_iload_n (pc := 7) dX11_row_7 rfl rfl ?_
  refine x_callV2 (pc := 8) dX11_row_8 rfl kX11_256 (s_needMember hfl s h) (sC_0 hC) rfl rfl (Nat.le_of_ble_eq_true rfl) (k_N (fun h_8 => ?_)) (n_N (fun h_8 => (by have e9 : spRow A s h = (1, 0, A) := (by unfold spRow; rw [if_pos (Or.inr (by assumption))]); rw [e9]; exact ⟨rfl, rfl, fun _ _ _ _ => rfl, hR, Or.inr ⟨show ¬ (1 : Int) = 0 by decide, rfl⟩⟩)))
  have hh9 := isOf_in (s := s) (h := h) (by omega)
  have hhb := (isOf_iff (x := s) hh9).mp (by assumption)
  have hco := colV_p hh9 hhb
  refine x_aload_n (pc := 11) dX11_row_11 rfl rfl ?_
  refine x_iload_n (pc := 12) dX11_row_12 rfl rfl ?_
  refine x_callV1 (pc := 13) dX11_row_13 rfl kX11_259 (s_needParting hfl s hC A hR hA hB hs h5) (sC_0 hC) rfl rfl (Nat.le_of_ble_eq_true rfl) (k_W (fun M9 h9 hcd => ?_)) (n_W (fun M9 h9 h8 => by obtain ⟨hR9, FC9, -⟩ := h9; have e9 : spRow A s h = (2, 0, A) := (by unfold spRow; rw [if_neg (by omega), if_pos (not_part h8)]); rw [e9]; exact ⟨rfl, rfl, FC9, hR9, Or.inr ⟨show ¬ (2 : Int) = 0 by decide, rfl⟩⟩))
  obtain ⟨hR9, FC9, r9⟩ := h9
  obtain ⟨b1, b9, b7⟩ := r9 hcd
  have ht9 := hcd.1
  have hcT := costs_t hA.tq
  have hP := FV_pb hcT hs ht9
  have hwv := wN_v (s := s) ⟨by omega, hs.2⟩
  have hw5 : wN s ≤ 5 := by omega
  have hh31 := hN_le (c := costV (A 0)) (s := s) ⟨by omega, hs.2⟩ h5
  have hok1 := can1_ok hcT hs h5 ht9
  refine x_aload_n (pc := 16) dX11_row_16 rfl rfl ?_
  refine x_getR (jj := 6) (pc := 17) dX11_row_17 fX11_63 (sC_0 hC) rfl (by decide) rfl rC_0_6 ?_
  refine x_iload_n (pc := 20) dX11_row_20 rfl rfl ?_
  refine x_callV1 (pc := 21) dX11_row_21 rfl kX11_262 (s_placeOf hfl hC (wN s) (colV s h) h hw5 b1.1.1 hco.1 ((b7 _ hco.1).trans hco.2.1) (fun i hi => by rw [b7 i (by omega)]; exact hco.2.2 i hi)) (sC_40 hC) rfl rfl (Nat.le_of_ble_eq_true rfl) (k_R ?_) n_R
  refine x_istore_n (pc := 24) dX11_row_24 rfl (by decide) rfl ?_
  have loop := a_loop2 (α := Nat) (β := aM) (fun i M1 => i ≤ colV s h + 1 ∧ RTc M1 (wN s) (hN (costV (A 0)) s) (FV (costV (A 0)) s) (rwS (costV (A 0)) s i).1 (rwS (costV (A 0)) s i).2.1 (rwS (costV (A 0)) s i).2.2 ∧ bdV (wN s) (rwS (costV (A 0)) s i).2.1 ∧ frY M9 M1) (fun i M1 => colV s h + 1 - i) (fun i M1 => aX l E pX11_row (opCv M N S (spRow A s h) (fun k => if k = 1 then 0 else 1)) 5 30 N S M1 28 [(0, (2, 0)), (1, (0, s)), (2, (0, h)), (3, (0, ((colV s h : Nat) : Int))), (4, (0, (i : Int)))] []) (by
    intro i M1 hI ih
    obtain ⟨k1, k2, k3, k4⟩ := hI
    refine x_iload (pc := 28) dX11_row_28 rfl ?_
    refine x_iload_n (pc := 30) dX11_row_30 rfl rfl ?_
    refine x_icmp_gt (tgt := 50) (pc := 31) dX11_row_31 (by decide) (fun c_31 => ?_) (fun c_31 => ?_)
    · have ei : i = colV s h + 1 := by omega
      subst ei
      have hok2 := rwS_ok hcT hs h5 ht9 (colV s h + 1)
      have hR8 := hR9.pt (M' := M1) fun a i x => k4 a i (by omega) (by omega)
      have FC8 : frC M M1 := fun a j x y => (k4 a j (by omega) (by omega)).trans (FC9 a j x y)
      have hob := ov_fr hcT hs h5 ht9 hok2
      have hvb := val_fr hcT hs h5 ht9 hok2 hco.1
      refine x_aload_n (pc := 50) dX11_row_50 rfl rfl ?_
      refine x_aload_n (pc := 51) dX11_row_51 rfl rfl ?_
      refine x_getR (jj := 6) (pc := 52) dX11_row_52 fX11_63 (sC_0 hC) rfl (by decide) rfl rC_0_6 ?_
      refine x_iload_n (pc := 55) dX11_row_55 rfl rfl ?_
      refine x_callV1 (pc := 56) dX11_row_56 rfl kX11_269 (s_valueOf hfl hC k2 hP hw5 hh31 k3 hok2 (colV s h) (by omega)) (sC_40 hC) rfl rfl (Nat.le_of_ble_eq_true rfl) (k_R ?_) n_R
      rewrite [FV_c hco.1]
      refine x_aload_n (pc := 59) dX11_row_59 rfl rfl ?_
      refine x_getR (jj := 6) (pc := 60) dX11_row_60 fX11_63 (sC_0 hC) rfl (by decide) rfl rC_0_6 ?_
      refine x_getJV (jj := 10) (pc := 63) dX11_row_63 fX11_250 (sC_40 hC) rfl (by decide) rfl (by (repeat (first | rewrite [up_s] | rewrite [up_i (by omega)] | rewrite [up_a (by omega)])); first | exact k2.1.2.2 | rfl) ?_
      refine x_callV2 (pc := 66) dX11_row_66 rfl kX11_252 (s_tell hfl (ta (wN s) (FV (costV (A 0)) s) ((rwS (costV (A 0)) s (colV s h + 1)).1) (iM (colV s h)) (wN s)) (ov (wN s) (FV (costV (A 0)) s) ((rwS (costV (A 0)) s (colV s h + 1)).1)) hC ⟨by omega, by omega⟩ ⟨by omega, by omega⟩) (sC_0 hC) rfl rfl (Nat.le_of_ble_eq_true rfl) (k_U (fun M7 hM7 => ?_)) n_U
      subst hM7
      refine x_return (pc := 69) dX11_row_69 rfl (by decide) ?_
      have e9 : spRow A s h = (0, 0, frA A (ta (wN s) (FV (costV (A 0)) s) ((rwS (costV (A 0)) s (colV s h + 1)).1) (iM (colV s h)) (wN s)) (ov (wN s) (FV (costV (A 0)) s) ((rwS (costV (A 0)) s (colV s h + 1)).1))) := by
        unfold spRow
        rw [if_neg (by omega), if_neg (by omega)]
      rw [e9]
      refine ⟨rfl, rfl, fun a j x y => ?_, hR8.fr, Or.inl ⟨rfl, rfl⟩⟩
      rw [up_a (by omega), up_a (by omega)]
      exact FC8 a j x y
    · refine x_aload_n (pc := 34) dX11_row_34 rfl rfl ?_
      refine x_getR (jj := 6) (pc := 35) dX11_row_35 fX11_63 (sC_0 hC) rfl (by decide) rfl rC_0_6 ?_
      refine x_iload (pc := 38) dX11_row_38 rfl ?_
      refine x_iconst (pc := 40) dX11_row_40 (by decide) ?_
      refine x_callV2 (pc := 41) dX11_row_41 rfl kX11_265 (s_push hfl hC k2 hP hw5 hh31 k3 (rwS_ok hcT hs h5 ht9 i) i 0 (by omega) (Or.inl rfl)) (sC_40 hC) rfl rfl (Nat.le_of_ble_eq_true rfl) (k_U (fun M8 hM8 => ?_)) n_U
      obtain ⟨d1, d2⟩ := hM8
      refine x_iinc (pc := 44) dX11_row_44 rfl (by omega) (by decide) rfl ?_
      refine x_goto (tgt := 28) (pc := 47) dX11_row_47 (by decide) ?_
      exact x_lo (lo' := [(0, (2, 0)), (1, (0, s)), (2, (0, h)), (3, (0, ((colV s h : Nat) : Int))), (4, (0, ((i + 1 : Nat) : Int)))]) ⟨rfl, rfl, rfl, rfl, rfl, trivial⟩ (ih (i + 1) M8 ⟨by omega, d1, sgV_bd (by omega), k4.tr d2⟩ (by omega)))
  refine x_iconst (pc := 25) dX11_row_25 (by decide) ?_
  refine x_istore (pc := 26) dX11_row_26 (by decide) rfl ?_
  exact x_lo (lo' := [(0, (2, 0)), (1, (0, s)), (2, (0, h)), (3, (0, ((colV s h : Nat) : Int))), (4, (0, ((0 : Nat) : Int)))]) ⟨rfl, rfl, rfl, rfl, rfl, trivial⟩ (loop 0 M9 ⟨by omega, b1, zA_bd _, fun _ _ _ _ => rfl⟩)
