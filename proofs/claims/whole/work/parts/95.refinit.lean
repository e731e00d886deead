/-! the reference's constructor -/
theorem bd_arrM {S0 S : aS} {M0 M M' : aM} {s : Int} {w : Int → Nat × Int × (Int → Int)} {v : aM} {k N : Nat} {n : Int} {F G : Int → Int} (h : Bd S0 M0 s w v k n F G N S M) {q : Nat × Int × (Int → Int)} (j9 : Int) (hs : s < N) (hw : w N = q) (hM : ∀ i j, i ≠ (N : Int) → M' i j = M i j) (hv : ∀ j, M' N j = v N j) : Bd S0 M0 s w v k n (fun x => if x = j9 then (N : Int) else F x) G (N + 1) (sPut (sAdd S N q) s j9 N) M' := by
  obtain ⟨h1, h2, h3, h4, h5, h6⟩ := h
  refine ⟨sPut_s ((sAdd_o (by omega)).trans h1), fun i a b => ?_, fun i a => ?_, fun i j a => ?_, fun i j a b => ?_, fun j => ?_⟩
  · refine (sPut_o (by omega)).trans ?_
    by_cases e : i = N
    · subst e; exact (sAdd_e rfl).trans hw.symm
    · exact (sAdd_o e).trans (h2 i a (by omega))
  · exact (sPut_o (by omega)).trans ((sAdd_o (by omega)).trans (h3 i a))
  · exact (hM i j (by omega)).trans (h4 i j a)
  · by_cases e : i = N
    · subst e; exact hv j
    · exact (hM i j e).trans (h5 i j a (by omega))
  · exact (hM s j (by omega)).trans (h6 j)
def wM (s i : Int) : Nat × Int × (Int → Int) := if i = s + 1 then (13, 253, rN) else if i = s + 2 then (13, 759, rN) else if i = s + 3 then (15, 3, rN) else if i = s + 4 then (13, 300, rN) else if i = s + 5 then (13, 34, rN) else if i = s + 6 then (13, 201, rN) else if i = s + 7 then (13, 201, rN) else if i = s + 8 then (13, 201, rN) else if i = s + 9 then (13, 2, rN) else if i = s + 10 then (13, 2, rN) else if i = s + 11 then (13, 399, rN) else if i = s + 12 then (13, 399, rN) else if i = s + 13 then (13, 6, rN) else if i = s + 14 then (13, 6, rN) else if i = s + 15 then (13, 128, rN) else if i = s + 16 then (13, 7, rN) else if i = s + 17 then (13, 7, rN) else if i = s + 18 then (13, 7, rN) else if i = s + 19 then (14, 7, rN) else if i = s + 20 then (14, 240, rN) else if i = s + 21 then (13, 5, rN) else if i = s + 22 then (13, 40, rN) else if i = s + 23 then (13, 5, rN) else if i = s + 24 then (15, 5, rN) else if i = s + 25 then (14, 57, rN) else if i = s + 26 then (14, 57, rN) else if i = s + 27 then (13, 4, rN) else if i = s + 28 then (13, 4, rN) else (14, 160, rN)
theorem wM_1 {s i : Int} (h : i = s + 1) : wM s i = (13, 253, rN) := by
  unfold wM
  rw [if_pos h]
theorem wM_2 {s i : Int} (h : i = s + 2) : wM s i = (13, 759, rN) := by
  unfold wM
  rw [if_neg (by omega), if_pos h]
theorem wM_3 {s i : Int} (h : i = s + 3) : wM s i = (15, 3, rN) := by
  unfold wM
  rw [if_neg (by omega), if_neg (by omega), if_pos h]
theorem wM_4 {s i : Int} (h : i = s + 4) : wM s i = (13, 300, rN) := by
  unfold wM
  rw [if_neg (by omega), if_neg (by omega), if_neg (by omega), if_pos h]
theorem wM_5 {s i : Int} (h : i = s + 5) : wM s i = (13, 34, rN) := by
  unfold wM
  rw [if_neg (by omega), if_neg (by omega), if_neg (by omega), if_neg (by omega), if_pos h]
theorem wM_6 {s i : Int} (h : i = s + 6) : wM s i = (13, 201, rN) := by
  unfold wM
  rw [if_neg (by omega), if_neg (by omega), if_neg (by omega), if_neg (by omega), if_neg (by omega), if_pos h]
theorem wM_7 {s i : Int} (h : i = s + 7) : wM s i = (13, 201, rN) := by
  unfold wM
  rw [if_neg (by omega), if_neg (by omega), if_neg (by omega), if_neg (by omega), if_neg (by omega), if_neg (by omega), if_pos h]
theorem wM_8 {s i : Int} (h : i = s + 8) : wM s i = (13, 201, rN) := by
  unfold wM
  rw [if_neg (by omega), if_neg (by omega), if_neg (by omega), if_neg (by omega), if_neg (by omega), if_neg (by omega), if_neg (by omega), if_pos h]
theorem wM_9 {s i : Int} (h : i = s + 9) : wM s i = (13, 2, rN) := by
  unfold wM
  rw [if_neg (by omega), if_neg (by omega), if_neg (by omega), if_neg (by omega), if_neg (by omega), if_neg (by omega), if_neg (by omega), if_neg (by omega), if_pos h]
theorem wM_10 {s i : Int} (h : i = s + 10) : wM s i = (13, 2, rN) := by
  unfold wM
  rw [if_neg (by omega), if_neg (by omega), if_neg (by omega), if_neg (by omega), if_neg (by omega), if_neg (by omega), if_neg (by omega), if_neg (by omega), if_neg (by omega), if_pos h]
theorem wM_11 {s i : Int} (h : i = s + 11) : wM s i = (13, 399, rN) := by
  unfold wM
  rw [if_neg (by omega), if_neg (by omega), if_neg (by omega), if_neg (by omega), if_neg (by omega), if_neg (by omega), if_neg (by omega), if_neg (by omega), if_neg (by omega), if_neg (by omega), if_pos h]
theorem wM_12 {s i : Int} (h : i = s + 12) : wM s i = (13, 399, rN) := by
  unfold wM
  rw [if_neg (by omega), if_neg (by omega), if_neg (by omega), if_neg (by omega), if_neg (by omega), if_neg (by omega), if_neg (by omega), if_neg (by omega), if_neg (by omega), if_neg (by omega), if_neg (by omega), if_pos h]
theorem wM_13 {s i : Int} (h : i = s + 13) : wM s i = (13, 6, rN) := by
  unfold wM
  rw [if_neg (by omega), if_neg (by omega), if_neg (by omega), if_neg (by omega), if_neg (by omega), if_neg (by omega), if_neg (by omega), if_neg (by omega), if_neg (by omega), if_neg (by omega), if_neg (by omega), if_neg (by omega), if_pos h]
theorem wM_14 {s i : Int} (h : i = s + 14) : wM s i = (13, 6, rN) := by
  unfold wM
  rw [if_neg (by omega), if_neg (by omega), if_neg (by omega), if_neg (by omega), if_neg (by omega), if_neg (by omega), if_neg (by omega), if_neg (by omega), if_neg (by omega), if_neg (by omega), if_neg (by omega), if_neg (by omega), if_neg (by omega), if_pos h]
theorem wM_15 {s i : Int} (h : i = s + 15) : wM s i = (13, 128, rN) := by
  unfold wM
  rw [if_neg (by omega), if_neg (by omega), if_neg (by omega), if_neg (by omega), if_neg (by omega), if_neg (by omega), if_neg (by omega), if_neg (by omega), if_neg (by omega), if_neg (by omega), if_neg (by omega), if_neg (by omega), if_neg (by omega), if_neg (by omega), if_pos h]
theorem wM_16 {s i : Int} (h : i = s + 16) : wM s i = (13, 7, rN) := by
  unfold wM
  rw [if_neg (by omega), if_neg (by omega), if_neg (by omega), if_neg (by omega), if_neg (by omega), if_neg (by omega), if_neg (by omega), if_neg (by omega), if_neg (by omega), if_neg (by omega), if_neg (by omega), if_neg (by omega), if_neg (by omega), if_neg (by omega), if_neg (by omega), if_pos h]
theorem wM_17 {s i : Int} (h : i = s + 17) : wM s i = (13, 7, rN) := by
  unfold wM
  rw [if_neg (by omega), if_neg (by omega), if_neg (by omega), if_neg (by omega), if_neg (by omega), if_neg (by omega), if_neg (by omega), if_neg (by omega), if_neg (by omega), if_neg (by omega), if_neg (by omega), if_neg (by omega), if_neg (by omega), if_neg (by omega), if_neg (by omega), if_neg (by omega), if_pos h]
theorem wM_18 {s i : Int} (h : i = s + 18) : wM s i = (13, 7, rN) := by
  unfold wM
  rw [if_neg (by omega), if_neg (by omega), if_neg (by omega), if_neg (by omega), if_neg (by omega), if_neg (by omega), if_neg (by omega), if_neg (by omega), if_neg (by omega), if_neg (by omega), if_neg (by omega), if_neg (by omega), if_neg (by omega), if_neg (by omega), if_neg (by omega), if_neg (by omega), if_neg (by omega), if_pos h]
theorem wM_19 {s i : Int} (h : i = s + 19) : wM s i = (14, 7, rN) := by
  unfold wM
  rw [if_neg (by omega), if_neg (by omega), if_neg (by omega), if_neg (by omega), if_neg (by omega), if_neg (by omega), if_neg (by omega), if_neg (by omega), if_neg (by omega), if_neg (by omega), if_neg (by omega), if_neg (by omega), if_neg (by omega), if_neg (by omega), if_neg (by omega), if_neg (by omega), if_neg (by omega), if_neg (by omega), if_pos h]
theorem wM_20 {s i : Int} (h : i = s + 20) : wM s i = (14, 240, rN) := by
  unfold wM
  rw [if_neg (by omega), if_neg (by omega), if_neg (by omega), if_neg (by omega), if_neg (by omega), if_neg (by omega), if_neg (by omega), if_neg (by omega), if_neg (by omega), if_neg (by omega), if_neg (by omega), if_neg (by omega), if_neg (by omega), if_neg (by omega), if_neg (by omega), if_neg (by omega), if_neg (by omega), if_neg (by omega), if_neg (by omega), if_pos h]
theorem wM_21 {s i : Int} (h : i = s + 21) : wM s i = (13, 5, rN) := by
  unfold wM
  rw [if_neg (by omega), if_neg (by omega), if_neg (by omega), if_neg (by omega), if_neg (by omega), if_neg (by omega), if_neg (by omega), if_neg (by omega), if_neg (by omega), if_neg (by omega), if_neg (by omega), if_neg (by omega), if_neg (by omega), if_neg (by omega), if_neg (by omega), if_neg (by omega), if_neg (by omega), if_neg (by omega), if_neg (by omega), if_neg (by omega), if_pos h]
theorem wM_22 {s i : Int} (h : i = s + 22) : wM s i = (13, 40, rN) := by
  unfold wM
  rw [if_neg (by omega), if_neg (by omega), if_neg (by omega), if_neg (by omega), if_neg (by omega), if_neg (by omega), if_neg (by omega), if_neg (by omega), if_neg (by omega), if_neg (by omega), if_neg (by omega), if_neg (by omega), if_neg (by omega), if_neg (by omega), if_neg (by omega), if_neg (by omega), if_neg (by omega), if_neg (by omega), if_neg (by omega), if_neg (by omega), if_neg (by omega), if_pos h]
theorem wM_23 {s i : Int} (h : i = s + 23) : wM s i = (13, 5, rN) := by
  unfold wM
  rw [if_neg (by omega), if_neg (by omega), if_neg (by omega), if_neg (by omega), if_neg (by omega), if_neg (by omega), if_neg (by omega), if_neg (by omega), if_neg (by omega), if_neg (by omega), if_neg (by omega), if_neg (by omega), if_neg (by omega), if_neg (by omega), if_neg (by omega), if_neg (by omega), if_neg (by omega), if_neg (by omega), if_neg (by omega), if_neg (by omega), if_neg (by omega), if_neg (by omega), if_pos h]
theorem wM_24 {s i : Int} (h : i = s + 24) : wM s i = (15, 5, rN) := by
  unfold wM
  rw [if_neg (by omega), if_neg (by omega), if_neg (by omega), if_neg (by omega), if_neg (by omega), if_neg (by omega), if_neg (by omega), if_neg (by omega), if_neg (by omega), if_neg (by omega), if_neg (by omega), if_neg (by omega), if_neg (by omega), if_neg (by omega), if_neg (by omega), if_neg (by omega), if_neg (by omega), if_neg (by omega), if_neg (by omega), if_neg (by omega), if_neg (by omega), if_neg (by omega), if_neg (by omega), if_pos h]
theorem wM_25 {s i : Int} (h : i = s + 25) : wM s i = (14, 57, rN) := by
  unfold wM
  rw [if_neg (by omega), if_neg (by omega), if_neg (by omega), if_neg (by omega), if_neg (by omega), if_neg (by omega), if_neg (by omega), if_neg (by omega), if_neg (by omega), if_neg (by omega), if_neg (by omega), if_neg (by omega), if_neg (by omega), if_neg (by omega), if_neg (by omega), if_neg (by omega), if_neg (by omega), if_neg (by omega), if_neg (by omega), if_neg (by omega), if_neg (by omega), if_neg (by omega), if_neg (by omega), if_neg (by omega), if_pos h]
theorem wM_26 {s i : Int} (h : i = s + 26) : wM s i = (14, 57, rN) := by
  unfold wM
  rw [if_neg (by omega), if_neg (by omega), if_neg (by omega), if_neg (by omega), if_neg (by omega), if_neg (by omega), if_neg (by omega), if_neg (by omega), if_neg (by omega), if_neg (by omega), if_neg (by omega), if_neg (by omega), if_neg (by omega), if_neg (by omega), if_neg (by omega), if_neg (by omega), if_neg (by omega), if_neg (by omega), if_neg (by omega), if_neg (by omega), if_neg (by omega), if_neg (by omega), if_neg (by omega), if_neg (by omega), if_neg (by omega), if_pos h]
theorem wM_27 {s i : Int} (h : i = s + 27) : wM s i = (13, 4, rN) := by
  unfold wM
  rw [if_neg (by omega), if_neg (by omega), if_neg (by omega), if_neg (by omega), if_neg (by omega), if_neg (by omega), if_neg (by omega), if_neg (by omega), if_neg (by omega), if_neg (by omega), if_neg (by omega), if_neg (by omega), if_neg (by omega), if_neg (by omega), if_neg (by omega), if_neg (by omega), if_neg (by omega), if_neg (by omega), if_neg (by omega), if_neg (by omega), if_neg (by omega), if_neg (by omega), if_neg (by omega), if_neg (by omega), if_neg (by omega), if_neg (by omega), if_pos h]
theorem wM_28 {s i : Int} (h : i = s + 28) : wM s i = (13, 4, rN) := by
  unfold wM
  rw [if_neg (by omega), if_neg (by omega), if_neg (by omega), if_neg (by omega), if_neg (by omega), if_neg (by omega), if_neg (by omega), if_neg (by omega), if_neg (by omega), if_neg (by omega), if_neg (by omega), if_neg (by omega), if_neg (by omega), if_neg (by omega), if_neg (by omega), if_neg (by omega), if_neg (by omega), if_neg (by omega), if_neg (by omega), if_neg (by omega), if_neg (by omega), if_neg (by omega), if_neg (by omega), if_neg (by omega), if_neg (by omega), if_neg (by omega), if_neg (by omega), if_pos h]
theorem wM_29 {s i : Int} (h : i = s + 29) : wM s i = (14, 160, rN) := by
  unfold wM
  rw [if_neg (by omega), if_neg (by omega), if_neg (by omega), if_neg (by omega), if_neg (by omega), if_neg (by omega), if_neg (by omega), if_neg (by omega), if_neg (by omega), if_neg (by omega), if_neg (by omega), if_neg (by omega), if_neg (by omega), if_neg (by omega), if_neg (by omega), if_neg (by omega), if_neg (by omega), if_neg (by omega), if_neg (by omega), if_neg (by omega), if_neg (by omega), if_neg (by omega), if_neg (by omega), if_neg (by omega), if_neg (by omega), if_neg (by omega), if_neg (by omega), if_neg (by omega)]
def vM0 (s : Int) : aM := fun i j => if i = s + 27 ∧ 0 ≤ j ∧ j < 4 then -1 else 0
def vM (s : Int) : aM := fun i j => if i = s + 1 ∧ (j = 155 ∨ j = 244) then 1 else vM0 s i j
def fM (s k : Int) : Int → Int := fun j => if j ≤ k then rM s j else -1
theorem rM_gap {s j : Int} (h : j ≠ 0 ∧ j ≠ 1 ∧ j ≠ 2 ∧ j ≠ 4 ∧ j ≠ 5 ∧ j ≠ 16 ∧ j ≠ 17 ∧ j ≠ 18 ∧ j ≠ 21 ∧ j ≠ 22 ∧ j ≠ 23 ∧ j ≠ 24 ∧ j ≠ 25 ∧ j ≠ 26 ∧ j ≠ 27 ∧ j ≠ 29 ∧ j ≠ 30 ∧ j ≠ 31 ∧ j ≠ 36 ∧ j ≠ 37 ∧ j ≠ 38 ∧ j ≠ 39 ∧ j ≠ 40 ∧ j ≠ 41 ∧ j ≠ 46 ∧ j ≠ 47 ∧ j ≠ 49 ∧ j ≠ 50 ∧ j ≠ 51) : rM s j = -1 := by
  unfold rM
  rw [if_neg (by omega), if_neg (by omega), if_neg (by omega), if_neg (by omega), if_neg (by omega), if_neg (by omega), if_neg (by omega), if_neg (by omega), if_neg (by omega), if_neg (by omega), if_neg (by omega), if_neg (by omega), if_neg (by omega), if_neg (by omega), if_neg (by omega), if_neg (by omega), if_neg (by omega), if_neg (by omega), if_neg (by omega), if_neg (by omega), if_neg (by omega), if_neg (by omega), if_neg (by omega), if_neg (by omega), if_neg (by omega), if_neg (by omega), if_neg (by omega), if_neg (by omega), if_neg (by omega)]
theorem fM_st {s f g u j : Int} (hf : rM s f = u) (hg : ∀ j, g < j → j < f → rM s j = -1) (hgf : g < f) : (if j = f then u else fM s g j) = fM s f j := by
  unfold fM
  by_cases e : j = f
  · rw [if_pos e, if_pos (by omega), e, hf]
  · rw [if_neg e]
    by_cases e2 : j ≤ g
    · rw [if_pos e2, if_pos (by omega)]
    · rw [if_neg e2]
      by_cases e3 : j ≤ f
      · rw [if_pos e3]; exact (hg j (by omega) (by omega)).symm
      · rw [if_neg e3]
theorem dX12_init_0 : decode cX12_init 0 = .ok (.aload_n 0, 1) := by decide +kernel
theorem dX12_init_1 : decode cX12_init 1 = .ok (.invokespecial 3, 3) := by decide +kernel
theorem dX12_init_4 : decode cX12_init 4 = .ok (.aload_n 0, 1) := by decide +kernel
theorem dX12_init_5 : decode cX12_init 5 = .ok (.sipush 253, 3) := by decide +kernel
theorem dX12_init_8 : decode cX12_init 8 = .ok (.newarray .int, 2) := by decide +kernel
theorem dX12_init_10 : decode cX12_init 10 = .ok (.putfield 9, 3) := by decide +kernel
theorem dX12_init_13 : decode cX12_init 13 = .ok (.aload_n 0, 1) := by decide +kernel
theorem dX12_init_14 : decode cX12_init 14 = .ok (.sipush 759, 3) := by decide +kernel
theorem dX12_init_17 : decode cX12_init 17 = .ok (.newarray .int, 2) := by decide +kernel
theorem dX12_init_19 : decode cX12_init 19 = .ok (.putfield 13, 3) := by decide +kernel
theorem dX12_init_22 : decode cX12_init 22 = .ok (.aload_n 0, 1) := by decide +kernel
theorem dX12_init_23 : decode cX12_init 23 = .ok (.iconst 3, 1) := by decide +kernel
theorem dX12_init_24 : decode cX12_init 24 = .ok (.newarray .boolean, 2) := by decide +kernel
theorem dX12_init_26 : decode cX12_init 26 = .ok (.putfield 16, 3) := by decide +kernel
theorem dX12_init_29 : decode cX12_init 29 = .ok (.aload_n 0, 1) := by decide +kernel
theorem dX12_init_30 : decode cX12_init 30 = .ok (.sipush 300, 3) := by decide +kernel
theorem dX12_init_33 : decode cX12_init 33 = .ok (.newarray .int, 2) := by decide +kernel
theorem dX12_init_35 : decode cX12_init 35 = .ok (.putfield 20, 3) := by decide +kernel
theorem dX12_init_38 : decode cX12_init 38 = .ok (.aload_n 0, 1) := by decide +kernel
theorem dX12_init_39 : decode cX12_init 39 = .ok (.bipush 34, 2) := by decide +kernel
theorem dX12_init_41 : decode cX12_init 41 = .ok (.newarray .int, 2) := by decide +kernel
theorem dX12_init_43 : decode cX12_init 43 = .ok (.putfield 23, 3) := by decide +kernel
theorem dX12_init_46 : decode cX12_init 46 = .ok (.aload_n 0, 1) := by decide +kernel
theorem dX12_init_47 : decode cX12_init 47 = .ok (.iconst (-1), 1) := by decide +kernel
theorem dX12_init_48 : decode cX12_init 48 = .ok (.putfield 26, 3) := by decide +kernel
theorem dX12_init_51 : decode cX12_init 51 = .ok (.aload_n 0, 1) := by decide +kernel
theorem dX12_init_52 : decode cX12_init 52 = .ok (.sipush 201, 3) := by decide +kernel
theorem dX12_init_55 : decode cX12_init 55 = .ok (.newarray .int, 2) := by decide +kernel
theorem dX12_init_57 : decode cX12_init 57 = .ok (.putfield 30, 3) := by decide +kernel
theorem dX12_init_60 : decode cX12_init 60 = .ok (.aload_n 0, 1) := by decide +kernel
theorem dX12_init_61 : decode cX12_init 61 = .ok (.sipush 201, 3) := by decide +kernel
theorem dX12_init_64 : decode cX12_init 64 = .ok (.newarray .int, 2) := by decide +kernel
theorem dX12_init_66 : decode cX12_init 66 = .ok (.putfield 33, 3) := by decide +kernel
theorem dX12_init_69 : decode cX12_init 69 = .ok (.aload_n 0, 1) := by decide +kernel
theorem dX12_init_70 : decode cX12_init 70 = .ok (.sipush 201, 3) := by decide +kernel
theorem dX12_init_73 : decode cX12_init 73 = .ok (.newarray .int, 2) := by decide +kernel
theorem dX12_init_75 : decode cX12_init 75 = .ok (.putfield 36, 3) := by decide +kernel
theorem dX12_init_78 : decode cX12_init 78 = .ok (.aload_n 0, 1) := by decide +kernel
theorem dX12_init_79 : decode cX12_init 79 = .ok (.iconst 2, 1) := by decide +kernel
theorem dX12_init_80 : decode cX12_init 80 = .ok (.newarray .int, 2) := by decide +kernel
theorem dX12_init_82 : decode cX12_init 82 = .ok (.putfield 39, 3) := by decide +kernel
theorem dX12_init_85 : decode cX12_init 85 = .ok (.aload_n 0, 1) := by decide +kernel
theorem dX12_init_86 : decode cX12_init 86 = .ok (.iconst 2, 1) := by decide +kernel
theorem dX12_init_87 : decode cX12_init 87 = .ok (.newarray .int, 2) := by decide +kernel
theorem dX12_init_89 : decode cX12_init 89 = .ok (.putfield 42, 3) := by decide +kernel
theorem dX12_init_92 : decode cX12_init 92 = .ok (.aload_n 0, 1) := by decide +kernel
theorem dX12_init_93 : decode cX12_init 93 = .ok (.sipush 399, 3) := by decide +kernel
theorem dX12_init_96 : decode cX12_init 96 = .ok (.newarray .int, 2) := by decide +kernel
theorem dX12_init_98 : decode cX12_init 98 = .ok (.putfield 45, 3) := by decide +kernel
theorem dX12_init_101 : decode cX12_init 101 = .ok (.aload_n 0, 1) := by decide +kernel
theorem dX12_init_102 : decode cX12_init 102 = .ok (.sipush 399, 3) := by decide +kernel
theorem dX12_init_105 : decode cX12_init 105 = .ok (.newarray .int, 2) := by decide +kernel
theorem dX12_init_107 : decode cX12_init 107 = .ok (.putfield 48, 3) := by decide +kernel
theorem dX12_init_110 : decode cX12_init 110 = .ok (.aload_n 0, 1) := by decide +kernel
theorem dX12_init_111 : decode cX12_init 111 = .ok (.bipush 6, 2) := by decide +kernel
theorem dX12_init_113 : decode cX12_init 113 = .ok (.newarray .int, 2) := by decide +kernel
theorem dX12_init_115 : decode cX12_init 115 = .ok (.putfield 51, 3) := by decide +kernel
theorem dX12_init_118 : decode cX12_init 118 = .ok (.aload_n 0, 1) := by decide +kernel
theorem dX12_init_119 : decode cX12_init 119 = .ok (.bipush 6, 2) := by decide +kernel
theorem dX12_init_121 : decode cX12_init 121 = .ok (.newarray .int, 2) := by decide +kernel
theorem dX12_init_123 : decode cX12_init 123 = .ok (.putfield 54, 3) := by decide +kernel
theorem dX12_init_126 : decode cX12_init 126 = .ok (.aload_n 0, 1) := by decide +kernel
theorem dX12_init_127 : decode cX12_init 127 = .ok (.sipush 128, 3) := by decide +kernel
theorem dX12_init_130 : decode cX12_init 130 = .ok (.newarray .int, 2) := by decide +kernel
theorem dX12_init_132 : decode cX12_init 132 = .ok (.putfield 57, 3) := by decide +kernel
theorem dX12_init_135 : decode cX12_init 135 = .ok (.aload_n 0, 1) := by decide +kernel
theorem dX12_init_136 : decode cX12_init 136 = .ok (.bipush 7, 2) := by decide +kernel
theorem dX12_init_138 : decode cX12_init 138 = .ok (.newarray .int, 2) := by decide +kernel
theorem dX12_init_140 : decode cX12_init 140 = .ok (.putfield 60, 3) := by decide +kernel
theorem dX12_init_143 : decode cX12_init 143 = .ok (.aload_n 0, 1) := by decide +kernel
theorem dX12_init_144 : decode cX12_init 144 = .ok (.bipush 7, 2) := by decide +kernel
theorem dX12_init_146 : decode cX12_init 146 = .ok (.newarray .int, 2) := by decide +kernel
theorem dX12_init_148 : decode cX12_init 148 = .ok (.putfield 63, 3) := by decide +kernel
theorem dX12_init_151 : decode cX12_init 151 = .ok (.aload_n 0, 1) := by decide +kernel
theorem dX12_init_152 : decode cX12_init 152 = .ok (.bipush 7, 2) := by decide +kernel
theorem dX12_init_154 : decode cX12_init 154 = .ok (.newarray .int, 2) := by decide +kernel
theorem dX12_init_156 : decode cX12_init 156 = .ok (.putfield 66, 3) := by decide +kernel
theorem dX12_init_159 : decode cX12_init 159 = .ok (.aload_n 0, 1) := by decide +kernel
theorem dX12_init_160 : decode cX12_init 160 = .ok (.bipush 7, 2) := by decide +kernel
theorem dX12_init_162 : decode cX12_init 162 = .ok (.newarray .long, 2) := by decide +kernel
theorem dX12_init_164 : decode cX12_init 164 = .ok (.putfield 69, 3) := by decide +kernel
theorem dX12_init_167 : decode cX12_init 167 = .ok (.aload_n 0, 1) := by decide +kernel
theorem dX12_init_168 : decode cX12_init 168 = .ok (.sipush 240, 3) := by decide +kernel
theorem dX12_init_171 : decode cX12_init 171 = .ok (.newarray .long, 2) := by decide +kernel
theorem dX12_init_173 : decode cX12_init 173 = .ok (.putfield 73, 3) := by decide +kernel
theorem dX12_init_176 : decode cX12_init 176 = .ok (.aload_n 0, 1) := by decide +kernel
theorem dX12_init_177 : decode cX12_init 177 = .ok (.iconst 5, 1) := by decide +kernel
theorem dX12_init_178 : decode cX12_init 178 = .ok (.newarray .int, 2) := by decide +kernel
theorem dX12_init_180 : decode cX12_init 180 = .ok (.putfield 76, 3) := by decide +kernel
theorem dX12_init_183 : decode cX12_init 183 = .ok (.aload_n 0, 1) := by decide +kernel
theorem dX12_init_184 : decode cX12_init 184 = .ok (.bipush 40, 2) := by decide +kernel
theorem dX12_init_186 : decode cX12_init 186 = .ok (.newarray .int, 2) := by decide +kernel
theorem dX12_init_188 : decode cX12_init 188 = .ok (.putfield 79, 3) := by decide +kernel
theorem dX12_init_191 : decode cX12_init 191 = .ok (.aload_n 0, 1) := by decide +kernel
theorem dX12_init_192 : decode cX12_init 192 = .ok (.iconst 5, 1) := by decide +kernel
theorem dX12_init_193 : decode cX12_init 193 = .ok (.newarray .int, 2) := by decide +kernel
theorem dX12_init_195 : decode cX12_init 195 = .ok (.putfield 82, 3) := by decide +kernel
theorem dX12_init_198 : decode cX12_init 198 = .ok (.aload_n 0, 1) := by decide +kernel
theorem dX12_init_199 : decode cX12_init 199 = .ok (.iconst 5, 1) := by decide +kernel
theorem dX12_init_200 : decode cX12_init 200 = .ok (.newarray .boolean, 2) := by decide +kernel
theorem dX12_init_202 : decode cX12_init 202 = .ok (.putfield 85, 3) := by decide +kernel
theorem dX12_init_205 : decode cX12_init 205 = .ok (.aload_n 0, 1) := by decide +kernel
theorem dX12_init_206 : decode cX12_init 206 = .ok (.bipush 57, 2) := by decide +kernel
theorem dX12_init_208 : decode cX12_init 208 = .ok (.newarray .long, 2) := by decide +kernel
theorem dX12_init_210 : decode cX12_init 210 = .ok (.putfield 88, 3) := by decide +kernel
theorem dX12_init_213 : decode cX12_init 213 = .ok (.aload_n 0, 1) := by decide +kernel
theorem dX12_init_214 : decode cX12_init 214 = .ok (.bipush 57, 2) := by decide +kernel
theorem dX12_init_216 : decode cX12_init 216 = .ok (.newarray .long, 2) := by decide +kernel
theorem dX12_init_218 : decode cX12_init 218 = .ok (.putfield 91, 3) := by decide +kernel
theorem dX12_init_221 : decode cX12_init 221 = .ok (.aload_n 0, 1) := by decide +kernel
theorem dX12_init_222 : decode cX12_init 222 = .ok (.iconst 4, 1) := by decide +kernel
theorem dX12_init_223 : decode cX12_init 223 = .ok (.newarray .int, 2) := by decide +kernel
theorem dX12_init_225 : decode cX12_init 225 = .ok (.dup, 1) := by decide +kernel
theorem dX12_init_226 : decode cX12_init 226 = .ok (.iconst 0, 1) := by decide +kernel
theorem dX12_init_227 : decode cX12_init 227 = .ok (.iconst (-1), 1) := by decide +kernel
theorem dX12_init_228 : decode cX12_init 228 = .ok (.iastore, 1) := by decide +kernel
theorem dX12_init_229 : decode cX12_init 229 = .ok (.dup, 1) := by decide +kernel
theorem dX12_init_230 : decode cX12_init 230 = .ok (.iconst 1, 1) := by decide +kernel
theorem dX12_init_231 : decode cX12_init 231 = .ok (.iconst (-1), 1) := by decide +kernel
theorem dX12_init_232 : decode cX12_init 232 = .ok (.iastore, 1) := by decide +kernel
theorem dX12_init_233 : decode cX12_init 233 = .ok (.dup, 1) := by decide +kernel
theorem dX12_init_234 : decode cX12_init 234 = .ok (.iconst 2, 1) := by decide +kernel
theorem dX12_init_235 : decode cX12_init 235 = .ok (.iconst (-1), 1) := by decide +kernel
theorem dX12_init_236 : decode cX12_init 236 = .ok (.iastore, 1) := by decide +kernel
theorem dX12_init_237 : decode cX12_init 237 = .ok (.dup, 1) := by decide +kernel
theorem dX12_init_238 : decode cX12_init 238 = .ok (.iconst 3, 1) := by decide +kernel
theorem dX12_init_239 : decode cX12_init 239 = .ok (.iconst (-1), 1) := by decide +kernel
theorem dX12_init_240 : decode cX12_init 240 = .ok (.iastore, 1) := by decide +kernel
theorem dX12_init_241 : decode cX12_init 241 = .ok (.putfield 94, 3) := by decide +kernel
theorem dX12_init_244 : decode cX12_init 244 = .ok (.aload_n 0, 1) := by decide +kernel
theorem dX12_init_245 : decode cX12_init 245 = .ok (.iconst 4, 1) := by decide +kernel
theorem dX12_init_246 : decode cX12_init 246 = .ok (.newarray .int, 2) := by decide +kernel
theorem dX12_init_248 : decode cX12_init 248 = .ok (.putfield 97, 3) := by decide +kernel
theorem dX12_init_251 : decode cX12_init 251 = .ok (.aload_n 0, 1) := by decide +kernel
theorem dX12_init_252 : decode cX12_init 252 = .ok (.sipush 160, 3) := by decide +kernel
theorem dX12_init_255 : decode cX12_init 255 = .ok (.newarray .long, 2) := by decide +kernel
theorem dX12_init_257 : decode cX12_init 257 = .ok (.putfield 100, 3) := by decide +kernel
theorem dX12_init_260 : decode cX12_init 260 = .ok (.aload_n 0, 1) := by decide +kernel
theorem dX12_init_261 : decode cX12_init 261 = .ok (.getfield 9, 3) := by decide +kernel
theorem dX12_init_264 : decode cX12_init 264 = .ok (.sipush 155, 3) := by decide +kernel
theorem dX12_init_267 : decode cX12_init 267 = .ok (.iconst 1, 1) := by decide +kernel
theorem dX12_init_268 : decode cX12_init 268 = .ok (.iastore, 1) := by decide +kernel
theorem dX12_init_269 : decode cX12_init 269 = .ok (.aload_n 0, 1) := by decide +kernel
theorem dX12_init_270 : decode cX12_init 270 = .ok (.getfield 9, 3) := by decide +kernel
theorem dX12_init_273 : decode cX12_init 273 = .ok (.sipush 244, 3) := by decide +kernel
theorem dX12_init_276 : decode cX12_init 276 = .ok (.iconst 1, 1) := by decide +kernel
theorem dX12_init_277 : decode cX12_init 277 = .ok (.iastore, 1) := by decide +kernel
theorem dX12_init_278 : decode cX12_init 278 = .ok (.return_, 1) := by decide +kernel
theorem s_X12init {l : Launch} {E : aE} {N : Nat} {S : aS} {M : aM} (hfl : l.stackTraces = false) (s : Int) (h0 : 0 ≤ s) (hN : (N : Int) = s + 1) (hS : S s = (11, 52, fun _ => -1)) : aMt l E pX12_init [(2, s)] N S M (aC (fun N' S' M' => N' = N + 29 ∧ Bd S M s (wM s) (vM s) 11 52 (rM s) (fun j => if j = 15 then -1 else M s j) N' S' M')) := by
  refine a_met hfl rfl (by decide +kernel) (Nat.le_of_ble_eq_true rfl) ?_
  have hB0 : Bd S M s (wM s) (vM0 s) 11 52 (fun _ => -1) (M s) N S M := Bd.rf hS hN
  have hB := Bd.F hB0 (F' := fM s (-1)) (fun j => by
    unfold fM
    by_cases e : j ≤ -1
    · rw [if_pos e]; exact (rM_gap (by omega)).symm
    · rw [if_neg e])
  refine x_aload_n (pc := 0) dX12_init_0 rfl rfl ?_
  refine x_objInit (pc := 1) dX12_init_1 obX12_3 (by omega) (by decide) (Nat.le_of_ble_eq_true rfl) ?_
  refine x_aload_n (pc := 4) dX12_init_4 rfl rfl ?_
  refine x_sipush (pc := 5) dX12_init_5 (by decide) ?_
  refine x_newI (pc := 8) dX12_init_8 ac_int (by decide) (by decide) ?_
  refine x_putR (j := 0) (pc := 10) dX12_init_10 fX12_9 (by first | exact hB.1 | exact (sAdd_o (by omega)).trans hB.1) (by decide) rfl (by omega) (fun _ => rfl) (fun _ => rfl) (Or.inr ⟨rfl, own_11⟩) ?_
  refine x_bd (bd_arr hB 0 (by omega) (wM_1 (by omega)) (fun _ => if_neg (by omega))) (fun S0 M0 hB => ?_)
  refine x_bd (Bd.F hB (F' := fM s 0) (fun j => fM_st (show rM s 0 = _ from (show s + 1 = _ by omega)) (fun j a b => by omega) (by omega))) (fun S40 M40 hB => ?_)
  refine x_aload_n (pc := 13) dX12_init_13 rfl rfl ?_
  refine x_sipush (pc := 14) dX12_init_14 (by decide) ?_
  refine x_newI (pc := 17) dX12_init_17 ac_int (by decide) (by decide) ?_
  refine x_putR (j := 1) (pc := 19) dX12_init_19 fX12_13 (by first | exact hB.1 | exact (sAdd_o (by omega)).trans hB.1) (by decide) rfl (by omega) (fun _ => rfl) (fun _ => rfl) (Or.inr ⟨rfl, own_11⟩) ?_
  refine x_bd (bd_arr hB 1 (by omega) (wM_2 (by omega)) (fun _ => if_neg (by omega))) (fun S1 M1 hB => ?_)
  refine x_bd (Bd.F hB (F' := fM s 1) (fun j => fM_st (show rM s 1 = _ from (show s + 2 = _ by omega)) (fun j a b => by omega) (by omega))) (fun S41 M41 hB => ?_)
  refine x_aload_n (pc := 22) dX12_init_22 rfl rfl ?_
  refine x_iconst (pc := 23) dX12_init_23 (by decide) ?_
  refine x_newZ (pc := 24) dX12_init_24 ac_boolean (by decide) (by decide) ?_
  refine x_putR (j := 2) (pc := 26) dX12_init_26 fX12_16 (by first | exact hB.1 | exact (sAdd_o (by omega)).trans hB.1) (by decide) rfl (by omega) (fun _ => rfl) (fun _ => rfl) (Or.inr ⟨rfl, own_11⟩) ?_
  refine x_bd (bd_arr hB 2 (by omega) (wM_3 (by omega)) (fun _ => if_neg (by omega))) (fun S2 M2 hB => ?_)
  refine x_bd (Bd.F hB (F' := fM s 2) (fun j => fM_st (show rM s 2 = _ from (show s + 3 = _ by omega)) (fun j a b => by omega) (by omega))) (fun S42 M42 hB => ?_)
  refine x_aload_n (pc := 29) dX12_init_29 rfl rfl ?_
  refine x_sipush (pc := 30) dX12_init_30 (by decide) ?_
  refine x_newI (pc := 33) dX12_init_33 ac_int (by decide) (by decide) ?_
  refine x_putR (j := 4) (pc := 35) dX12_init_35 fX12_20 (by first | exact hB.1 | exact (sAdd_o (by omega)).trans hB.1) (by decide) rfl (by omega) (fun _ => rfl) (fun _ => rfl) (Or.inr ⟨rfl, own_11⟩) ?_
  refine x_bd (bd_arr hB 4 (by omega) (wM_4 (by omega)) (fun _ => if_neg (by omega))) (fun S3 M3 hB => ?_)
  refine x_bd (Bd.F hB (F' := fM s 4) (fun j => fM_st (show rM s 4 = _ from (show s + 4 = _ by omega)) (fun j a b => rM_gap (by omega)) (by omega))) (fun S43 M43 hB => ?_)
  refine x_aload_n (pc := 38) dX12_init_38 rfl rfl ?_
  refine x_bipush (pc := 39) dX12_init_39 (by decide) ?_
  refine x_newI (pc := 41) dX12_init_41 ac_int (by decide) (by decide) ?_
  refine x_putR (j := 5) (pc := 43) dX12_init_43 fX12_23 (by first | exact hB.1 | exact (sAdd_o (by omega)).trans hB.1) (by decide) rfl (by omega) (fun _ => rfl) (fun _ => rfl) (Or.inr ⟨rfl, own_11⟩) ?_
  refine x_bd (bd_arr hB 5 (by omega) (wM_5 (by omega)) (fun _ => if_neg (by omega))) (fun S4 M4 hB => ?_)
  refine x_bd (Bd.F hB (F' := fM s 5) (fun j => fM_st (show rM s 5 = _ from (show s + 5 = _ by omega)) (fun j a b => by omega) (by omega))) (fun S44 M44 hB => ?_)
  refine x_aload_n (pc := 46) dX12_init_46 rfl rfl ?_
  refine x_iconst (pc := 47) dX12_init_47 (by decide) ?_
  refine x_putI (jj := 15) (pc := 48) dX12_init_48 fX12_26 (by first | exact hB.1 | exact (sAdd_o (by omega)).trans hB.1) rfl (by decide) rfl ?_
  refine x_bd (bd_put hB 15 (-1)) (fun S90 M90 hB => ?_)
  refine x_aload_n (pc := 51) dX12_init_51 rfl rfl ?_
  refine x_sipush (pc := 52) dX12_init_52 (by decide) ?_
  refine x_newI (pc := 55) dX12_init_55 ac_int (by decide) (by decide) ?_
  refine x_putR (j := 16) (pc := 57) dX12_init_57 fX12_30 (by first | exact hB.1 | exact (sAdd_o (by omega)).trans hB.1) (by decide) rfl (by omega) (fun _ => rfl) (fun _ => rfl) (Or.inr ⟨rfl, own_11⟩) ?_
  refine x_bd (bd_arr hB 16 (by omega) (wM_6 (by omega)) (fun _ => if_neg (by omega))) (fun S5 M5 hB => ?_)
  refine x_bd (Bd.F hB (F' := fM s 16) (fun j => fM_st (show rM s 16 = _ from (show s + 6 = _ by omega)) (fun j a b => rM_gap (by omega)) (by omega))) (fun S45 M45 hB => ?_)
  refine x_aload_n (pc := 60) dX12_init_60 rfl rfl ?_
  refine x_sipush (pc := 61) dX12_init_61 (by decide) ?_
  refine x_newI (pc := 64) dX12_init_64 ac_int (by decide) (by decide) ?_
  refine x_putR (j := 17) (pc := 66) dX12_init_66 fX12_33 (by first | exact hB.1 | exact (sAdd_o (by omega)).trans hB.1) (by decide) rfl (by omega) (fun _ => rfl) (fun _ => rfl) (Or.inr ⟨rfl, own_11⟩) ?_
  refine x_bd (bd_arr hB 17 (by omega) (wM_7 (by omega)) (fun _ => if_neg (by omega))) (fun S6 M6 hB => ?_)
  refine x_bd (Bd.F hB (F' := fM s 17) (fun j => fM_st (show rM s 17 = _ from (show s + 7 = _ by omega)) (fun j a b => by omega) (by omega))) (fun S46 M46 hB => ?_)
  refine x_aload_n (pc := 69) dX12_init_69 rfl rfl ?_
  refine x_sipush (pc := 70) dX12_init_70 (by decide) ?_
  refine x_newI (pc := 73) dX12_init_73 ac_int (by decide) (by decide) ?_
  refine x_putR (j := 18) (pc := 75) dX12_init_75 fX12_36 (by first | exact hB.1 | exact (sAdd_o (by omega)).trans hB.1) (by decide) rfl (by omega) (fun _ => rfl) (fun _ => rfl) (Or.inr ⟨rfl, own_11⟩) ?_
  refine x_bd (bd_arr hB 18 (by omega) (wM_8 (by omega)) (fun _ => if_neg (by omega))) (fun S7 M7 hB => ?_)
  refine x_bd (Bd.F hB (F' := fM s 18) (fun j => fM_st (show rM s 18 = _ from (show s + 8 = _ by omega)) (fun j a b => by omega) (by omega))) (fun S47 M47 hB => ?_)
  refine x_aload_n (pc := 78) dX12_init_78 rfl rfl ?_
  refine x_iconst (pc := 79) dX12_init_79 (by decide) ?_
  refine x_newI (pc := 80) dX12_init_80 ac_int (by decide) (by decide) ?_
  refine x_putR (j := 21) (pc := 82) dX12_init_82 fX12_39 (by first | exact hB.1 | exact (sAdd_o (by omega)).trans hB.1) (by decide) rfl (by omega) (fun _ => rfl) (fun _ => rfl) (Or.inr ⟨rfl, own_11⟩) ?_
  refine x_bd (bd_arr hB 21 (by omega) (wM_9 (by omega)) (fun _ => if_neg (by omega))) (fun S8 M8 hB => ?_)
  refine x_bd (Bd.F hB (F' := fM s 21) (fun j => fM_st (show rM s 21 = _ from (show s + 9 = _ by omega)) (fun j a b => rM_gap (by omega)) (by omega))) (fun S48 M48 hB => ?_)
  refine x_aload_n (pc := 85) dX12_init_85 rfl rfl ?_
  refine x_iconst (pc := 86) dX12_init_86 (by decide) ?_
  refine x_newI (pc := 87) dX12_init_87 ac_int (by decide) (by decide) ?_
  refine x_putR (j := 22) (pc := 89) dX12_init_89 fX12_42 (by first | exact hB.1 | exact (sAdd_o (by omega)).trans hB.1) (by decide) rfl (by omega) (fun _ => rfl) (fun _ => rfl) (Or.inr ⟨rfl, own_11⟩) ?_
  refine x_bd (bd_arr hB 22 (by omega) (wM_10 (by omega)) (fun _ => if_neg (by omega))) (fun S9 M9 hB => ?_)
  refine x_bd (Bd.F hB (F' := fM s 22) (fun j => fM_st (show rM s 22 = _ from (show s + 10 = _ by omega)) (fun j a b => by omega) (by omega))) (fun S49 M49 hB => ?_)
  refine x_aload_n (pc := 92) dX12_init_92 rfl rfl ?_
  refine x_sipush (pc := 93) dX12_init_93 (by decide) ?_
  refine x_newI (pc := 96) dX12_init_96 ac_int (by decide) (by decide) ?_
  refine x_putR (j := 23) (pc := 98) dX12_init_98 fX12_45 (by first | exact hB.1 | exact (sAdd_o (by omega)).trans hB.1) (by decide) rfl (by omega) (fun _ => rfl) (fun _ => rfl) (Or.inr ⟨rfl, own_11⟩) ?_
  refine x_bd (bd_arr hB 23 (by omega) (wM_11 (by omega)) (fun _ => if_neg (by omega))) (fun S10 M10 hB => ?_)
  refine x_bd (Bd.F hB (F' := fM s 23) (fun j => fM_st (show rM s 23 = _ from (show s + 11 = _ by omega)) (fun j a b => by omega) (by omega))) (fun S50 M50 hB => ?_)
  refine x_aload_n (pc := 101) dX12_init_101 rfl rfl ?_
  refine x_sipush (pc := 102) dX12_init_102 (by decide) ?_
  refine x_newI (pc := 105) dX12_init_105 ac_int (by decide) (by decide) ?_
  refine x_putR (j := 24) (pc := 107) dX12_init_107 fX12_48 (by first | exact hB.1 | exact (sAdd_o (by omega)).trans hB.1) (by decide) rfl (by omega) (fun _ => rfl) (fun _ => rfl) (Or.inr ⟨rfl, own_11⟩) ?_
  refine x_bd (bd_arr hB 24 (by omega) (wM_12 (by omega)) (fun _ => if_neg (by omega))) (fun S11 M11 hB => ?_)
  refine x_bd (Bd.F hB (F' := fM s 24) (fun j => fM_st (show rM s 24 = _ from (show s + 12 = _ by omega)) (fun j a b => by omega) (by omega))) (fun S51 M51 hB => ?_)
  refine x_aload_n (pc := 110) dX12_init_110 rfl rfl ?_
  refine x_bipush (pc := 111) dX12_init_111 (by decide) ?_
  refine x_newI (pc := 113) dX12_init_113 ac_int (by decide) (by decide) ?_
  refine x_putR (j := 25) (pc := 115) dX12_init_115 fX12_51 (by first | exact hB.1 | exact (sAdd_o (by omega)).trans hB.1) (by decide) rfl (by omega) (fun _ => rfl) (fun _ => rfl) (Or.inr ⟨rfl, own_11⟩) ?_
  refine x_bd (bd_arr hB 25 (by omega) (wM_13 (by omega)) (fun _ => if_neg (by omega))) (fun S12 M12 hB => ?_)
  refine x_bd (Bd.F hB (F' := fM s 25) (fun j => fM_st (show rM s 25 = _ from (show s + 13 = _ by omega)) (fun j a b => by omega) (by omega))) (fun S52 M52 hB => ?_)
  refine x_aload_n (pc := 118) dX12_init_118 rfl rfl ?_
  refine x_bipush (pc := 119) dX12_init_119 (by decide) ?_
  refine x_newI (pc := 121) dX12_init_121 ac_int (by decide) (by decide) ?_
  refine x_putR (j := 26) (pc := 123) dX12_init_123 fX12_54 (by first | exact hB.1 | exact (sAdd_o (by omega)).trans hB.1) (by decide) rfl (by omega) (fun _ => rfl) (fun _ => rfl) (Or.inr ⟨rfl, own_11⟩) ?_
  refine x_bd (bd_arr hB 26 (by omega) (wM_14 (by omega)) (fun _ => if_neg (by omega))) (fun S13 M13 hB => ?_)
  refine x_bd (Bd.F hB (F' := fM s 26) (fun j => fM_st (show rM s 26 = _ from (show s + 14 = _ by omega)) (fun j a b => by omega) (by omega))) (fun S53 M53 hB => ?_)
  refine x_aload_n (pc := 126) dX12_init_126 rfl rfl ?_
  refine x_sipush (pc := 127) dX12_init_127 (by decide) ?_
  refine x_newI (pc := 130) dX12_init_130 ac_int (by decide) (by decide) ?_
  refine x_putR (j := 27) (pc := 132) dX12_init_132 fX12_57 (by first | exact hB.1 | exact (sAdd_o (by omega)).trans hB.1) (by decide) rfl (by omega) (fun _ => rfl) (fun _ => rfl) (Or.inr ⟨rfl, own_11⟩) ?_
  refine x_bd (bd_arr hB 27 (by omega) (wM_15 (by omega)) (fun _ => if_neg (by omega))) (fun S14 M14 hB => ?_)
  refine x_bd (Bd.F hB (F' := fM s 27) (fun j => fM_st (show rM s 27 = _ from (show s + 15 = _ by omega)) (fun j a b => by omega) (by omega))) (fun S54 M54 hB => ?_)
  refine x_aload_n (pc := 135) dX12_init_135 rfl rfl ?_
  refine x_bipush (pc := 136) dX12_init_136 (by decide) ?_
  refine x_newI (pc := 138) dX12_init_138 ac_int (by decide) (by decide) ?_
  refine x_putR (j := 29) (pc := 140) dX12_init_140 fX12_60 (by first | exact hB.1 | exact (sAdd_o (by omega)).trans hB.1) (by decide) rfl (by omega) (fun _ => rfl) (fun _ => rfl) (Or.inr ⟨rfl, own_11⟩) ?_
  refine x_bd (bd_arr hB 29 (by omega) (wM_16 (by omega)) (fun _ => if_neg (by omega))) (fun S15 M15 hB => ?_)
  refine x_bd (Bd.F hB (F' := fM s 29) (fun j => fM_st (show rM s 29 = _ from (show s + 16 = _ by omega)) (fun j a b => rM_gap (by omega)) (by omega))) (fun S55 M55 hB => ?_)
  refine x_aload_n (pc := 143) dX12_init_143 rfl rfl ?_
  refine x_bipush (pc := 144) dX12_init_144 (by decide) ?_
  refine x_newI (pc := 146) dX12_init_146 ac_int (by decide) (by decide) ?_
  refine x_putR (j := 30) (pc := 148) dX12_init_148 fX12_63 (by first | exact hB.1 | exact (sAdd_o (by omega)).trans hB.1) (by decide) rfl (by omega) (fun _ => rfl) (fun _ => rfl) (Or.inr ⟨rfl, own_11⟩) ?_
  refine x_bd (bd_arr hB 30 (by omega) (wM_17 (by omega)) (fun _ => if_neg (by omega))) (fun S16 M16 hB => ?_)
  refine x_bd (Bd.F hB (F' := fM s 30) (fun j => fM_st (show rM s 30 = _ from (show s + 17 = _ by omega)) (fun j a b => by omega) (by omega))) (fun S56 M56 hB => ?_)
  refine x_aload_n (pc := 151) dX12_init_151 rfl rfl ?_
  refine x_bipush (pc := 152) dX12_init_152 (by decide) ?_
  refine x_newI (pc := 154) dX12_init_154 ac_int (by decide) (by decide) ?_
  refine x_putR (j := 31) (pc := 156) dX12_init_156 fX12_66 (by first | exact hB.1 | exact (sAdd_o (by omega)).trans hB.1) (by decide) rfl (by omega) (fun _ => rfl) (fun _ => rfl) (Or.inr ⟨rfl, own_11⟩) ?_
  refine x_bd (bd_arr hB 31 (by omega) (wM_18 (by omega)) (fun _ => if_neg (by omega))) (fun S17 M17 hB => ?_)
  refine x_bd (Bd.F hB (F' := fM s 31) (fun j => fM_st (show rM s 31 = _ from (show s + 18 = _ by omega)) (fun j a b => by omega) (by omega))) (fun S57 M57 hB => ?_)
  refine x_aload_n (pc := 159) dX12_init_159 rfl rfl ?_
  refine x_bipush (pc := 160) dX12_init_160 (by decide) ?_
  refine x_newJ (pc := 162) dX12_init_162 ac_long (by decide) (by decide) ?_
  refine x_putR (j := 36) (pc := 164) dX12_init_164 fX12_69 (by first | exact hB.1 | exact (sAdd_o (by omega)).trans hB.1) (by decide) rfl (by omega) (fun _ => rfl) (fun _ => rfl) (Or.inr ⟨rfl, own_11⟩) ?_
  refine x_bd (bd_arr hB 36 (by omega) (wM_19 (by omega)) (fun _ => if_neg (by omega))) (fun S18 M18 hB => ?_)
  refine x_bd (Bd.F hB (F' := fM s 36) (fun j => fM_st (show rM s 36 = _ from (show s + 19 = _ by omega)) (fun j a b => rM_gap (by omega)) (by omega))) (fun S58 M58 hB => ?_)
  refine x_aload_n (pc := 167) dX12_init_167 rfl rfl ?_
  refine x_sipush (pc := 168) dX12_init_168 (by decide) ?_
  refine x_newJ (pc := 171) dX12_init_171 ac_long (by decide) (by decide) ?_
  refine x_putR (j := 37) (pc := 173) dX12_init_173 fX12_73 (by first | exact hB.1 | exact (sAdd_o (by omega)).trans hB.1) (by decide) rfl (by omega) (fun _ => rfl) (fun _ => rfl) (Or.inr ⟨rfl, own_11⟩) ?_
  refine x_bd (bd_arr hB 37 (by omega) (wM_20 (by omega)) (fun _ => if_neg (by omega))) (fun S19 M19 hB => ?_)
  refine x_bd (Bd.F hB (F' := fM s 37) (fun j => fM_st (show rM s 37 = _ from (show s + 20 = _ by omega)) (fun j a b => by omega) (by omega))) (fun S59 M59 hB => ?_)
  refine x_aload_n (pc := 176) dX12_init_176 rfl rfl ?_
  refine x_iconst (pc := 177) dX12_init_177 (by decide) ?_
  refine x_newI (pc := 178) dX12_init_178 ac_int (by decide) (by decide) ?_
  refine x_putR (j := 38) (pc := 180) dX12_init_180 fX12_76 (by first | exact hB.1 | exact (sAdd_o (by omega)).trans hB.1) (by decide) rfl (by omega) (fun _ => rfl) (fun _ => rfl) (Or.inr ⟨rfl, own_11⟩) ?_
  refine x_bd (bd_arr hB 38 (by omega) (wM_21 (by omega)) (fun _ => if_neg (by omega))) (fun S20 M20 hB => ?_)
  refine x_bd (Bd.F hB (F' := fM s 38) (fun j => fM_st (show rM s 38 = _ from (show s + 21 = _ by omega)) (fun j a b => by omega) (by omega))) (fun S60 M60 hB => ?_)
  refine x_aload_n (pc := 183) dX12_init_183 rfl rfl ?_
  refine x_bipush (pc := 184) dX12_init_184 (by decide) ?_
  refine x_newI (pc := 186) dX12_init_186 ac_int (by decide) (by decide) ?_
  refine x_putR (j := 39) (pc := 188) dX12_init_188 fX12_79 (by first | exact hB.1 | exact (sAdd_o (by omega)).trans hB.1) (by decide) rfl (by omega) (fun _ => rfl) (fun _ => rfl) (Or.inr ⟨rfl, own_11⟩) ?_
  refine x_bd (bd_arr hB 39 (by omega) (wM_22 (by omega)) (fun _ => if_neg (by omega))) (fun S21 M21 hB => ?_)
  refine x_bd (Bd.F hB (F' := fM s 39) (fun j => fM_st (show rM s 39 = _ from (show s + 22 = _ by omega)) (fun j a b => by omega) (by omega))) (fun S61 M61 hB => ?_)
  refine x_aload_n (pc := 191) dX12_init_191 rfl rfl ?_
  refine x_iconst (pc := 192) dX12_init_192 (by decide) ?_
  refine x_newI (pc := 193) dX12_init_193 ac_int (by decide) (by decide) ?_
  refine x_putR (j := 40) (pc := 195) dX12_init_195 fX12_82 (by first | exact hB.1 | exact (sAdd_o (by omega)).trans hB.1) (by decide) rfl (by omega) (fun _ => rfl) (fun _ => rfl) (Or.inr ⟨rfl, own_11⟩) ?_
  refine x_bd (bd_arr hB 40 (by omega) (wM_23 (by omega)) (fun _ => if_neg (by omega))) (fun S22 M22 hB => ?_)
  refine x_bd (Bd.F hB (F' := fM s 40) (fun j => fM_st (show rM s 40 = _ from (show s + 23 = _ by omega)) (fun j a b => by omega) (by omega))) (fun S62 M62 hB => ?_)
  refine x_aload_n (pc := 198) dX12_init_198 rfl rfl ?_
  refine x_iconst (pc := 199) dX12_init_199 (by decide) ?_
  refine x_newZ (pc := 200) dX12_init_200 ac_boolean (by decide) (by decide) ?_
  refine x_putR (j := 41) (pc := 202) dX12_init_202 fX12_85 (by first | exact hB.1 | exact (sAdd_o (by omega)).trans hB.1) (by decide) rfl (by omega) (fun _ => rfl) (fun _ => rfl) (Or.inr ⟨rfl, own_11⟩) ?_
  refine x_bd (bd_arr hB 41 (by omega) (wM_24 (by omega)) (fun _ => if_neg (by omega))) (fun S23 M23 hB => ?_)
  refine x_bd (Bd.F hB (F' := fM s 41) (fun j => fM_st (show rM s 41 = _ from (show s + 24 = _ by omega)) (fun j a b => by omega) (by omega))) (fun S63 M63 hB => ?_)
  refine x_aload_n (pc := 205) dX12_init_205 rfl rfl ?_
  refine x_bipush (pc := 206) dX12_init_206 (by decide) ?_
  refine x_newJ (pc := 208) dX12_init_208 ac_long (by decide) (by decide) ?_
  refine x_putR (j := 46) (pc := 210) dX12_init_210 fX12_88 (by first | exact hB.1 | exact (sAdd_o (by omega)).trans hB.1) (by decide) rfl (by omega) (fun _ => rfl) (fun _ => rfl) (Or.inr ⟨rfl, own_11⟩) ?_
  refine x_bd (bd_arr hB 46 (by omega) (wM_25 (by omega)) (fun _ => if_neg (by omega))) (fun S24 M24 hB => ?_)
  refine x_bd (Bd.F hB (F' := fM s 46) (fun j => fM_st (show rM s 46 = _ from (show s + 25 = _ by omega)) (fun j a b => rM_gap (by omega)) (by omega))) (fun S64 M64 hB => ?_)
  refine x_aload_n (pc := 213) dX12_init_213 rfl rfl ?_
  refine x_bipush (pc := 214) dX12_init_214 (by decide) ?_
  refine x_newJ (pc := 216) dX12_init_216 ac_long (by decide) (by decide) ?_
  refine x_putR (j := 47) (pc := 218) dX12_init_218 fX12_91 (by first | exact hB.1 | exact (sAdd_o (by omega)).trans hB.1) (by decide) rfl (by omega) (fun _ => rfl) (fun _ => rfl) (Or.inr ⟨rfl, own_11⟩) ?_
  refine x_bd (bd_arr hB 47 (by omega) (wM_26 (by omega)) (fun _ => if_neg (by omega))) (fun S25 M25 hB => ?_)
  refine x_bd (Bd.F hB (F' := fM s 47) (fun j => fM_st (show rM s 47 = _ from (show s + 26 = _ by omega)) (fun j a b => by omega) (by omega))) (fun S65 M65 hB => ?_)
  refine x_aload_n (pc := 221) dX12_init_221 rfl rfl ?_
  refine x_iconst (pc := 222) dX12_init_222 (by decide) ?_
  refine x_newI (pc := 223) dX12_init_223 ac_int (by decide) (by decide) ?_
  refine x_dup (pc := 225) dX12_init_225 rfl ?_
  refine x_iconst (pc := 226) dX12_init_226 (by decide) ?_
  refine x_iconst (pc := 227) dX12_init_227 (by decide) ?_
  refine x_iastore (pc := 228) dX12_init_228 (sAdd_e rfl) (by omega) ?_
  refine x_dup (pc := 229) dX12_init_229 rfl ?_
  refine x_iconst (pc := 230) dX12_init_230 (by decide) ?_
  refine x_iconst (pc := 231) dX12_init_231 (by decide) ?_
  refine x_iastore (pc := 232) dX12_init_232 (sAdd_e rfl) (by omega) ?_
  refine x_dup (pc := 233) dX12_init_233 rfl ?_
  refine x_iconst (pc := 234) dX12_init_234 (by decide) ?_
  refine x_iconst (pc := 235) dX12_init_235 (by decide) ?_
  refine x_iastore (pc := 236) dX12_init_236 (sAdd_e rfl) (by omega) ?_
  refine x_dup (pc := 237) dX12_init_237 rfl ?_
  refine x_iconst (pc := 238) dX12_init_238 (by decide) ?_
  refine x_iconst (pc := 239) dX12_init_239 (by decide) ?_
  refine x_iastore (pc := 240) dX12_init_240 (sAdd_e rfl) (by omega) ?_
  refine x_putR (j := 49) (pc := 241) dX12_init_241 fX12_94 (by first | exact hB.1 | exact (sAdd_o (by omega)).trans hB.1) (by decide) rfl (by omega) (fun _ => rfl) (fun _ => rfl) (Or.inr ⟨rfl, own_11⟩) ?_
  refine x_bd (bd_arrM hB 49 (by omega) (wM_27 (by omega)) (fun i j a => ?_) (fun j => ?_)) (fun S26 M26 hB => ?_)
  · rw [up_a a, up_a a, up_a a, up_a a]; exact mAdd_o a
  · unfold vM0
    by_cases e : 0 ≤ j ∧ j < 4
    · rw [if_pos ⟨by omega, e⟩]
      rcases (show j = 0 ∨ j = 1 ∨ j = 2 ∨ j = 3 by omega) with e | e | e | e <;> subst e <;> (repeat (first | exact up_s | rw [up_i (by omega)]))
    · rw [if_neg (by omega), up_i (by omega), up_i (by omega), up_i (by omega), up_i (by omega)]; exact mAdd_e rfl
  refine x_bd (Bd.F hB (F' := fM s 49) (fun j => fM_st (show rM s 49 = _ from (show s + 27 = _ by omega)) (fun j a b => rM_gap (by omega)) (by omega))) (fun S66 M66 hB => ?_)
  refine x_aload_n (pc := 244) dX12_init_244 rfl rfl ?_
  refine x_iconst (pc := 245) dX12_init_245 (by decide) ?_
  refine x_newI (pc := 246) dX12_init_246 ac_int (by decide) (by decide) ?_
  refine x_putR (j := 50) (pc := 248) dX12_init_248 fX12_97 (by first | exact hB.1 | exact (sAdd_o (by omega)).trans hB.1) (by decide) rfl (by omega) (fun _ => rfl) (fun _ => rfl) (Or.inr ⟨rfl, own_11⟩) ?_
  refine x_bd (bd_arr hB 50 (by omega) (wM_28 (by omega)) (fun _ => if_neg (by omega))) (fun S27 M27 hB => ?_)
  refine x_bd (Bd.F hB (F' := fM s 50) (fun j => fM_st (show rM s 50 = _ from (show s + 28 = _ by omega)) (fun j a b => by omega) (by omega))) (fun S67 M67 hB => ?_)
  refine x_aload_n (pc := 251) dX12_init_251 rfl rfl ?_
  refine x_sipush (pc := 252) dX12_init_252 (by decide) ?_
  refine x_newJ (pc := 255) dX12_init_255 ac_long (by decide) (by decide) ?_
  refine x_putR (j := 51) (pc := 257) dX12_init_257 fX12_100 (by first | exact hB.1 | exact (sAdd_o (by omega)).trans hB.1) (by decide) rfl (by omega) (fun _ => rfl) (fun _ => rfl) (Or.inr ⟨rfl, own_11⟩) ?_
  refine x_bd (bd_arr hB 51 (by omega) (wM_29 (by omega)) (fun _ => if_neg (by omega))) (fun S28 M28 hB => ?_)
  refine x_bd (Bd.F hB (F' := fM s 51) (fun j => fM_st (show rM s 51 = _ from (show s + 29 = _ by omega)) (fun j a b => by omega) (by omega))) (fun S68 M68 hB => ?_)
  refine x_bd (Bd.F hB (F' := rM s) (fun j => ?_)) (fun S91 M91 hB => ?_)
  · unfold fM
    by_cases e : j ≤ 51
    · rw [if_pos e]
    · rw [if_neg e]; exact (rM_gap (by omega)).symm
  have hg : rM s 0 = s + 1 := rfl
  have h1 : S91 (s + 1) = (13, 253, rN) := (hB.2.1 _ (by omega) (by omega)).trans (wM_1 rfl)
  refine x_aload_n (pc := 260) dX12_init_260 rfl rfl ?_
  refine x_getR (jj := 0) (pc := 261) dX12_init_261 fX12_9 (by first | exact hB.1 | exact (sAdd_o (by omega)).trans hB.1) rfl (by decide) rfl (by first | assumption | rfl) ?_
  refine x_sipush (pc := 264) dX12_init_264 (by decide) ?_
  refine x_iconst (pc := 267) dX12_init_267 (by decide) ?_
  refine x_iastore (pc := 268) dX12_init_268 (by assumption) (by omega) ?_
  refine x_aload_n (pc := 269) dX12_init_269 rfl rfl ?_
  refine x_getR (jj := 0) (pc := 270) dX12_init_270 fX12_9 (by first | exact hB.1 | exact (sAdd_o (by omega)).trans hB.1) rfl (by decide) rfl (by first | assumption | rfl) ?_
  refine x_sipush (pc := 273) dX12_init_273 (by decide) ?_
  refine x_iconst (pc := 276) dX12_init_276 (by decide) ?_
  refine x_iastore (pc := 277) dX12_init_277 (by assumption) (by omega) ?_
  refine x_return (pc := 278) dX12_init_278 rfl (by decide) ?_
  refine ⟨rfl, rfl, hB.1, hB.2.1, hB.2.2.1, fun i j a => ?_, fun i j a b => ?_, fun j => ?_⟩
  · rw [up_a (by omega), up_a (by omega)]; exact hB.2.2.2.1 i j a
  · unfold vM
    by_cases e : i = s + 1 ∧ (j = 155 ∨ j = 244)
    · rw [if_pos e, e.1]
      rcases e.2 with e2 | e2 <;> subst e2 <;> (repeat (first | exact up_s | rw [up_i (by omega)]))
    · rw [if_neg e]
      refine Eq.trans ?_ (hB.2.2.2.2.1 i j a b)
      unfold up
      rw [if_neg (by omega), if_neg (by omega)]
  · rw [up_a (by omega), up_a (by omega)]; exact hB.2.2.2.2.2 j
