/-! THE HEAP of the abstract machine -/
def up (M : aM) (a i v : Int) : aM := fun b j => if b = a ∧ j = i then v else M b j
theorem up_s {M : aM} {a i v : Int} : up M a i v a i = v := if_pos ⟨rfl, rfl⟩
theorem up_a {M : aM} {a i v b j : Int} (h : b ≠ a) : up M a i v b j = M b j := if_neg fun q => h q.1
theorem up_i {M : aM} {a i v b j : Int} (h : j ≠ i) : up M a i v b j = M b j := if_neg fun q => h q.2
theorem a_ws_get {E : aE} {ad : Nat → Nat} {N : Nat} {S : aS} {M : aM} {i : Nat} (h : i < N) : (a_ws E ad N S M)[i]? = some (ad i, a_ce E ad (S i) (M i)) := by
  unfold a_ws
  rw [List.getElem?_map, List.getElem?_range h]
  rfl
theorem a_ws_len {E : aE} {ad : Nat → Nat} {N : Nat} {S : aS} {M : aM} : (a_ws E ad N S M).length = N := by
  unfold a_ws
  rw [List.length_map, List.length_range]
theorem a_ws_set {E : aE} {ad : Nat → Nat} {N : Nat} {S S' : aS} {M M' : aM} {i : Nat} {w : va_E} (hw : w = a_ce E ad (S' i) (M' i)) (h : ∀ j : Nat, j ≠ i → S' j = S j ∧ M' j = M j) : (a_ws E ad N S M).set i (ad i, w) = a_ws E ad N S' M' := by
  subst hw
  apply List.ext_getElem?
  intro j
  by_cases hj : j < N
  · rw [a_ws_get hj]
    by_cases e : i = j
    · subst e
      rw [List.getElem?_set_self (by rw [a_ws_len]; exact hj)]
    · rw [List.getElem?_set_ne e, a_ws_get hj, (h j (Ne.symm e)).1, (h j (Ne.symm e)).2]
  · rw [List.getElem?_eq_none (by rw [List.length_set, a_ws_len]; omega), List.getElem?_eq_none (by rw [a_ws_len]; omega)]
theorem a_ws_up {E : aE} {ad : Nat → Nat} {N : Nat} {S : aS} {M : aM} {a i v : Int} (h0 : 0 ≤ a) {w : va_E} (hw : w = a_ce E ad (S a) (up M a i v a)) : (a_ws E ad N S M).set a.toNat (ad a.toNat, w) = a_ws E ad N S (up M a i v) := by
  refine a_ws_set (by rw [Int.toNat_of_nonneg h0]; exact hw) (fun j hj => ⟨rfl, ?_⟩)
  funext k
  exact up_a (by omega)
theorem a_in {E : aE} {ad : Nat → Nat} {N : Nat} {S : aS} {M : aM} {H : Heap} {a : Int} {k : Nat} {n : Int} {r : Int → Int} (w : a_w E ad N S M H) (hS : S a = (k, n, r)) (hk : k ≠ 99) : 0 ≤ a ∧ a < N ∧ (a_ws E ad N S M)[a.toNat]? = some (ad a.toNat, a_ce E ad (k, n, r) (M a)) := by
  have h : 0 ≤ a ∧ a < N := by
    by_cases q : 0 ≤ a ∧ a < N
    · exact q
    · have := w.2.2.2.1 a q
      rw [hS] at this
      exact absurd this hk
  refine ⟨h.1, h.2, ?_⟩
  rw [a_ws_get (by omega), Int.toNat_of_nonneg h.1, hS]
theorem a_ro_in {E : aE} {ad : Nat → Nat} {a : Int} (h : 0 ≤ a) : a_ro E ad a = some (ad a.toNat) := by
  unfold a_ro
  rw [if_neg (by omega), if_pos h]
theorem a_cv_in {E : aE} {ad : Nat → Nat} {a : Int} (h : 0 ≤ a) : a_cv E ad (2, a) = .ref (ad a.toNat) := by
  show va_rf (a_ro E ad a) = _
  rw [a_ro_in h]
  rfl
theorem a_idx {N : Nat} {i n : Int} (h : 0 ≤ i ∧ i < n) (hi : a_vok N (0, i)) : vp_in (Int32.ofInt i) n.toNat ∧ (Int32.ofInt i).toNatClampNeg = i.toNat := by
  have e : (Int32.ofInt i).toInt = i := a_i32 hi
  have e2 : (Int32.ofInt i).toNatClampNeg = i.toNat := by
    show (Int32.ofInt i).toInt.toNat = _
    rw [e]
  exact ⟨vp_in_iff.mpr (by rw [e]; omega), e2⟩
theorem a_rg_up {S : aS} {M : aM} {a i v : Int} (h : a_rg S M) (hv : if a_lg (S a).1 i = true then -9223372036854775808 ≤ v ∧ v ≤ 9223372036854775807 else -2147483648 ≤ v ∧ v ≤ 2147483647) : a_rg S (up M a i v) := by
  intro b j
  by_cases e : b = a ∧ j = i
  · obtain ⟨rfl, rfl⟩ := e
    rw [up_s]
    exact hv
  · rw [show up M a i v b j = M b j from if_neg e]
    exact h b j
theorem a_m16 {N : Nat} {S : aS} {M : aM} {a n i v : Int} {r : Int → Int} {k : Nat} (h : ∀ b j : Int, (S b).1 = 16 → M b j < N) (hS : S a = (k, n, r)) (hk : k ≠ 16) : ∀ b j : Int, (S b).1 = 16 → up M a i v b j < N := by
  intro b j hb
  have e : b ≠ a := fun q => by subst q; rw [hS] at hb; exact hk hb
  rw [up_a e]
  exact h b j hb
/-- a class of the worlds -/
def a_kl (ci : Nat) (C : String) (T : u_T) (n : Nat) (ty : Nat → FieldType) : Prop := vwCl[ci]? = some (C, T, n) ∧ ci < 12 ∧ (∀ w ∈ u_ws C T n, w ∈ lw_ok) ∧ (∀ k, k < n → parseFieldDescriptor (T k).2.2.1 = some (ty k)) ∧ ∀ a, a < n → ∀ b, b < n → a ≠ b → (T a).2.1 ≠ (T b).2.1
/-- entry i of own's pool is field j of class ci, of type t -/
def a_fl (own : String) (i ci j : Nat) (t : FieldType) (fin : Bool) : Prop := ∃ C T n ty, a_kl ci C T n ty ∧ j < n ∧ Cond.fieldLink own i C (T j).2.1 (T j).2.2.1 ∈ lw_ok ∧ (T j).1 = C ∧ ty j = t ∧ (T j).2.2.2 = fin
section AX2
variable {l : Launch} {E : aE} {P : aP} {Q : aQ} {kc ks N : Nat} {S : aS} {M : aM} {pc : Nat} {lo : List (Nat × aV)} {st : List aV}
theorem a_fs_get {E : aE} {ad : Nat → Nat} {k : Nat} {n : Int} {r f : Int → Int} {j : Nat} (h : j < n.toNat) : (a_fs E ad k n r f)[j]? = some (a_cv E ad (a_FT k j, if a_FT k j = 2 then r j else f j)) := by
  unfold a_fs
  rw [List.getElem?_map, List.getElem?_range h]
  rfl
theorem x_getfield {i ci j : Nat} {t : FieldType} {fin : Bool} {a n v : Int} {r : Int → Int} {k9 : Nat} (hd : decode P.2.1 pc = .ok (.getfield i, 3)) (hf : a_fl P.1.cls i ci j t fin) (hS : S a = (ci, n, r)) (hj : (j : Int) < n) (ht : a_FT ci j = k9) (h9 : k9 ≤ 2) (hv : (if k9 = 2 then r j else M a j) = v)
    (k : aX l E P Q kc ks N S M (pc + 3) lo ((k9, v) :: st)) : aX l E P Q kc ks N S M pc lo ((2, a) :: st) := by
  obtain ⟨C, T, n9, ty, ⟨g1, g2, g3, g4, g5⟩, f1, f2, f3, f4, f5⟩ := hf
  intro p e s m args below meth c H locs ls ad0 ad N0 S0 B w x hS9 hl h1 h2
  obtain ⟨a1, a2, a3⟩ := a_in w hS (by omega)
  have he : (a_ws E ad N S M)[a.toNat]? = some (ad a.toNat, .inr (ci, a_fs E ad ci n r (M a))) := by
    rw [a3]
    unfold a_ce
    rw [if_pos g2]
  show W _ _ _ _ _ _ _ _ _ _ _ _ _ _ _ (F0 m pc ls (a_cv E ad (2, a) :: st.map (a_cv E ad)))
  rw [a_cv_in a1]
  refine va_get B.1 B.2.1 (fun w hw => B.2.2.2.2.2.1 w hw) g3 B.2.2.2.2.1 B.2.2.2.2.2.2.2.1 w.1 a.toNat he g1 j f1 (B.2.2.2.2.2.1 _ f2) (fun x9 h9 => by rw [f3] at h9; exact h9) (v := a_cv E ad (k9, v)) ?_ hd ?_
  · rw [a_fs_get (by omega), ht, hv]
  · refine k p e s m args below meth c H locs ls ad0 ad N0 S0 B w x hS9 hl (a_cons ?_ (a_tl h1)) h2
    have hr := w.2.2.1 a j
    rw [hS] at hr
    unfold a_lg at hr
    simp only [Int.toNat_natCast, ht] at hr
    have hci : (ci == 14) = false := by
      rw [beq_eq_false_iff_ne]; omega
    have hb : Nat.blt ci 12 = true := by
      rw [Nat.blt_eq]; exact g2
    rw [hci, hb] at hr
    match k9, h9, hv, hr with
    | 0, _, hv, hr => subst hv; exact hr
    | 1, _, hv, hr => subst hv; exact hr
    | 2, _, hv, _ =>
      subst hv
      have := w.2.2.2.2.1 a j
      rw [hS] at this
      exact this
theorem x_put0 {i ci j : Nat} {t : FieldType} {a n v : Int} {r : Int → Int} {k9 : Nat} (hd : decode P.2.1 pc = .ok (.putfield i, 3)) (hf : a_fl P.1.cls i ci j t false) (hS : S a = (ci, n, r)) (hj : (j : Int) < n) (ht : a_FT ci j = k9) (h9 : k9 < 2) (hn : narrow t (a_cv E (fun q => q) (k9, v)) = a_cv E (fun q => q) (k9, v)) (hfit : fits t (a_cv E (fun q => q) (k9, v)) = true)
    (k : aX l E P Q kc ks N S (up M a j v) (pc + 3) lo st) : aX l E P Q kc ks N S M pc lo ((k9, v) :: (2, a) :: st) := by
  obtain ⟨C, T, n9, ty, ⟨g1, g2, g3, g4, g5⟩, f1, f2, f3, f4, f5⟩ := hf
  intro p e s m args below meth c H locs ls ad0 ad N0 S0 B w x hS9 hl h1 h2
  obtain ⟨a1, a2, a3⟩ := a_in w hS (by omega)
  have he : (a_ws E ad N S M)[a.toNat]? = some (ad a.toNat, .inr (ci, a_fs E ad ci n r (M a))) := by
    rw [a3]
    unfold a_ce
    rw [if_pos g2]
  have hcv : a_cv E ad (k9, v) = a_cv E (fun q => q) (k9, v) := by
    match k9, h9 with
    | 0, _ => rfl
    | 1, _ => rfl
  show W _ _ _ _ _ _ _ _ _ _ _ _ _ _ _ (F0 m pc ls (a_cv E ad (k9, v) :: a_cv E ad (2, a) :: st.map (a_cv E ad)))
  rw [a_cv_in a1]
  have hset : (a_ws E ad N S M).set a.toNat (ad a.toNat, .inr (ci, (a_fs E ad ci n r (M a)).set j (a_cv E ad (k9, v)))) = a_ws E ad N S (up M a j v) := by
    refine a_ws_up a1 ?_
    rw [hS]
    unfold a_ce
    rw [if_pos g2]
    congr 2
    apply List.ext_getElem?
    intro q
    by_cases hq : q < n.toNat
    · rw [a_fs_get hq]
      by_cases e9 : j = q
      · subst e9
        rw [List.getElem?_set_self (by unfold a_fs; rw [List.length_map, List.length_range]; exact hq), ht, if_neg (by omega), up_s]
      · rw [List.getElem?_set_ne e9, a_fs_get hq, up_i (by omega)]
    · rw [List.getElem?_eq_none (by rw [List.length_set]; unfold a_fs; rw [List.length_map, List.length_range]; omega), List.getElem?_eq_none (by unfold a_fs; rw [List.length_map, List.length_range]; show n.toNat ≤ q; omega)]
  refine va_put B.1 B.2.1 (fun w hw => B.2.2.2.2.2.1 w hw) g3 ty g4 g5 B.2.2.2.2.1 B.2.2.2.2.2.2.2.1 w.1 w.2.1 hS9 a.toNat he g1 j f1 (B.2.2.2.2.2.1 _ f2) (fun x9 h9 => by rw [f3] at h9; exact h9) f5 (ty := t) (by rw [g4 j f1, f4]) (by rw [hcv]; exact hn) (by rw [hcv]; exact hfit) (by unfold a_fs; rw [List.length_map, List.length_range]; omega) hd (fun H1 locs1 hP hD hS1 => ?_)
  rw [hset] at hP hD
  refine k p e s m args below meth c H1 locs1 ls ad0 ad N0 S0 B ⟨hP, hD, a_rg_up w.2.2.1 ?_, w.2.2.2.1, w.2.2.2.2.1, a_m16 w.2.2.2.2.2 hS (by omega)⟩ x hS1 hl (a_tl (a_tl h1)) h2
  rw [hS]
  unfold a_lg
  simp only [Int.toNat_natCast, ht]
  have hci : (ci == 14) = false := by
    rw [beq_eq_false_iff_ne]; omega
  have hb : Nat.blt ci 12 = true := by
    rw [Nat.blt_eq]; exact g2
  rw [hci, hb]
  have hv := a_hd h1
  match k9, h9, hv with
  | 0, _, hv => exact hv
  | 1, _, hv => exact hv
theorem x_putfield {i ci j : Nat} {a n v : Int} {r : Int → Int} (hd : decode P.2.1 pc = .ok (.putfield i, 3)) (hf : a_fl P.1.cls i ci j .int false) (hS : S a = (ci, n, r)) (hj : (j : Int) < n) (ht : a_FT ci j = 0)
    (k : aX l E P Q kc ks N S (up M a j v) (pc + 3) lo st) : aX l E P Q kc ks N S M pc lo ((0, v) :: (2, a) :: st) := x_put0 hd hf hS hj ht (by decide) rfl rfl k
theorem x_putfieldJ {i ci j : Nat} {a n v : Int} {r : Int → Int} (hd : decode P.2.1 pc = .ok (.putfield i, 3)) (hf : a_fl P.1.cls i ci j .long false) (hS : S a = (ci, n, r)) (hj : (j : Int) < n) (ht : a_FT ci j = 1)
    (k : aX l E P Q kc ks N S (up M a j v) (pc + 3) lo st) : aX l E P Q kc ks N S M pc lo ((1, v) :: (2, a) :: st) := x_put0 hd hf hS hj ht (by decide) rfl rfl k
theorem x_putfieldZ {i ci j : Nat} {a n v : Int} {r : Int → Int} (hd : decode P.2.1 pc = .ok (.putfield i, 3)) (hf : a_fl P.1.cls i ci j .boolean false) (hS : S a = (ci, n, r)) (hj : (j : Int) < n) (ht : a_FT ci j = 0) (hv : v = 0 ∨ v = 1)
    (k : aX l E P Q kc ks N S (up M a j v) (pc + 3) lo st) : aX l E P Q kc ks N S M pc lo ((0, v) :: (2, a) :: st) := x_put0 hd hf hS hj ht (by decide) (by rcases hv with rfl | rfl <;> rfl) (by rcases hv with rfl | rfl <;> rfl) k
end AX2
