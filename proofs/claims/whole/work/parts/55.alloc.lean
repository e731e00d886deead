/-! ALLOCATION: a cell more in the world -/
def adA (ad : Nat → Nat) (N q : Nat) : Nat → Nat := fun i => if i = N then q else ad i
def sAdd (S : aS) (N : Nat) (w : Nat × Int × (Int → Int)) : aS := fun i => if i = N then w else S i
def mAdd (M : aM) (N : Nat) (v : Int) : aM := fun a j => if a = N then v else M a j
theorem sAdd_s {S : aS} {N : Nat} {w : Nat × Int × (Int → Int)} : sAdd S N w N = w := if_pos rfl
theorem sAdd_o {S : aS} {N : Nat} {w : Nat × Int × (Int → Int)} {i : Int} (h : i ≠ N) : sAdd S N w i = S i := if_neg h
theorem mAdd_s {M : aM} {N : Nat} {v j : Int} : mAdd M N v N j = v := if_pos rfl
theorem mAdd_o {M : aM} {N : Nat} {v i j : Int} (h : i ≠ N) : mAdd M N v i j = M i j := if_neg h
theorem adA_o {ad : Nat → Nat} {N q i : Nat} (h : i < N) : adA ad N q i = ad i := if_neg (by omega)
theorem a_ro_ext {E : aE} {ad ad' : Nat → Nat} {N : Nat} {n : Int} (hn : n < N) (h : ∀ i : Nat, i < N → ad' i = ad i) : a_ro E ad' n = a_ro E ad n := by
  unfold a_ro
  by_cases e : n = -1
  · rw [if_pos e, if_pos e]
  · rw [if_neg e, if_neg e]
    by_cases e2 : 0 ≤ n
    · rw [if_pos e2, if_pos e2, h _ (by omega)]
    · rw [if_neg e2, if_neg e2]
theorem a_FT_le : ∀ k j : Nat, a_FT k j ≤ 2 := by
  have h : ∀ l ∈ a_FTL, ∀ x ∈ l, x ≤ 2 := by decide
  intro k j
  unfold a_FT
  rw [List.getD_eq_getElem?_getD, List.getD_eq_getElem?_getD]
  cases e : a_FTL[k]? with
  | none => simp
  | some l =>
    show (l[j]?).getD 0 ≤ 2
    cases e2 : l[j]? with
    | none => simp
    | some x => exact h l (List.mem_of_getElem? e) x (List.mem_of_getElem? e2)
theorem a_fs_ext {E : aE} {ad ad' : Nat → Nat} {N k : Nat} {n : Int} {r f : Int → Int} (hr : ∀ j, r j < N) (h : ∀ i : Nat, i < N → ad' i = ad i) : a_fs E ad' k n r f = a_fs E ad k n r f := by
  unfold a_fs
  refine List.map_congr_left fun j _ => ?_
  have hle := a_FT_le k j
  by_cases e : a_FT k j = 2
  · rw [if_pos e, e]
    show va_rf (a_ro E ad' (r j)) = va_rf (a_ro E ad (r j))
    rw [a_ro_ext (hr j) h]
  · rw [if_neg e]
    rcases (show a_FT k j = 0 ∨ a_FT k j = 1 by omega) with q | q <;> rw [q] <;> rfl
theorem a_ce_ext {E : aE} {ad ad' : Nat → Nat} {N : Nat} {w : Nat × Int × (Int → Int)} {f : Int → Int} (hr : ∀ j, w.2.2 j < N) (hf : w.1 = 16 → ∀ j, f j < N) (h : ∀ i : Nat, i < N → ad' i = ad i) : a_ce E ad' w f = a_ce E ad w f := by
  unfold a_ce
  by_cases e : w.1 < 12
  · rw [if_pos e, if_pos e, a_fs_ext hr h]
  · rw [if_neg e, if_neg e]
    congr 3
    unfold a_arr
    by_cases e14 : w.1 = 14
    · rw [if_pos e14, if_pos e14]
    · rw [if_neg e14, if_neg e14]
      by_cases e16 : w.1 = 16
      · rw [if_pos e16, if_pos e16]
        congr 4
        funext j
        exact a_ro_ext (hf e16 j) h
      · rw [if_neg e16, if_neg e16]
        by_cases e17 : w.1 = 17
        · rw [if_pos e17, if_pos e17]
          congr 4
          funext j
          exact a_ro_ext (hr j) h
        · rw [if_neg e17, if_neg e17]
theorem a_ws_add {E : aE} {ad : Nat → Nat} {N q : Nat} {S : aS} {M : aM} {H : Heap} {v : Int} {W : Nat × Int × (Int → Int)} (w : a_w E ad N S M H) : a_ws E (adA ad N q) (N + 1) (sAdd S N W) (mAdd M N v) = a_ws E ad N S M ++ [(q, a_ce E (adA ad N q) W (fun _ => v))] := by
  unfold a_ws
  rw [List.range_succ, List.map_append]
  congr 1
  · refine List.map_congr_left fun i hi => ?_
    have hi : i < N := List.mem_range.mp hi
    have e1 : adA ad N q i = ad i := if_neg (by omega)
    have e2 : sAdd S N W (i : Int) = S i := sAdd_o (by omega)
    have e3 : mAdd M N v (i : Int) = M i := funext fun j => mAdd_o (by omega)
    rw [e1, e2, e3, a_ce_ext (N := N) (ad := ad) (ad' := adA ad N q) (w := S (i : Int)) (f := M (i : Int)) (fun j => w.2.2.2.2.1 _ j) (fun h j => w.2.2.2.2.2 _ j h) fun i hi => adA_o hi]
  · show [(adA ad N q N, a_ce E (adA ad N q) (sAdd S N W N) (mAdd M N v N))] = _
    rw [sAdd_s, show adA ad N q N = q from if_pos rfl, show mAdd M N v N = fun _ => v from funext fun j => mAdd_s]
theorem a_w_add {E : aE} {ad : Nat → Nat} {N q : Nat} {S : aS} {M : aM} {H H1 : Heap} {v : Int} {W : Nat × Int × (Int → Int)} (w : a_w E ad N S M H)
    (hP : va_P E.1 vwCl (a_ws E ad N S M ++ [(q, a_ce E (adA ad N q) W (fun _ => v))]) H1) (hD : va_D (a_A E) (a_ws E ad N S M ++ [(q, a_ce E (adA ad N q) W (fun _ => v))])) (hW : ∀ j, W.2.2 j < (N : Int) + 1) (hv : v = 0 ∨ v = -1) : a_w E (adA ad N q) (N + 1) (sAdd S N W) (mAdd M N v) H1 := by
  refine ⟨by rw [a_ws_add w]; exact hP, by rw [a_ws_add w]; exact hD, fun a j => ?_, fun i hi => ?_, fun a j => ?_, fun a j h => ?_⟩
  · by_cases e : a = N
    · subst e
      rw [mAdd_s]
      split <;> omega
    · rw [sAdd_o e, mAdd_o e]
      exact w.2.2.1 a j
  · rw [sAdd_o (by omega)]
    exact w.2.2.2.1 i (by omega)
  · by_cases e : a = N
    · subst e
      rw [sAdd_s]
      have := hW j
      omega
    · rw [sAdd_o e]
      have := w.2.2.2.2.1 a j
      omega
  · by_cases e : a = N
    · subst e
      rw [mAdd_s]
      omega
    · rw [sAdd_o e] at h
      rw [mAdd_o e]
      have := w.2.2.2.2.2 a j h
      omega
section AX20
variable {l : Launch} {E : aE} {P : aP} {Q : aQ} {kc ks N : Nat} {S : aS} {M : aM} {pc : Nat} {lo : List (Nat × aV)} {st : List aV}
theorem a_vok_1 {N : Nat} {v : aV} (h : a_vok N v) : a_vok (N + 1) v := by
  obtain ⟨k, n⟩ := v
  match k with
  | 0 => exact h
  | 1 => exact h
  | k + 2 =>
    have h : n < (N : Int) := h
    show n < ((N + 1 : Nat) : Int)
    omega
def a_dv (k : Nat) : Value := match k with
  | 0 => .int 0
  | 1 => .long 0
  | _ => .null
theorem x_new {ik ci : Nat} {C : String} {T : u_T} {n : Nat} {ty : Nat → FieldType} (hd : decode P.2.1 pc = .ok (.new ik, 3)) (hk : a_kl ci C T n ty) (hcl : Cond.classLink P.1.cls ik C ∈ lw_ok) (hin : Cond.instantiable C n ∈ lw_ok) (hini : Cond.initialized C ∈ lw_ok) (hft : ∀ j, j < n → defaultValue (ty j) = a_dv (a_FT ci j)) (hr : kc + 1 ≤ P.2.2.2.2.1.cells ∧ ks + n ≤ P.2.2.2.2.1.slots)
    (k : aX l E P Q (kc + 1) (ks + n) (N + 1) (sAdd S N (ci, n, fun _ => -1)) (mAdd M N 0) (pc + 3) lo ((2, N) :: st)) : aX l E P Q kc ks N S M pc lo st := by
  obtain ⟨g1, g2, g3, g4, g5⟩ := hk
  intro p e s m args below meth c H locs ls ad0 ad N0 S0 B w x hS9 hl h1 h2
  refine va_new (fs := a_fs E ad ci n (fun _ => -1) (fun _ => 0)) B.1 B.2.1 (fun w hw => B.2.2.2.2.2.1 w hw) g3 ty g4 B.2.2.2.2.1 (B.2.2.2.2.2.1 _ hcl) (B.2.2.2.2.2.1 _ hin) (B.2.2.2.2.2.1 _ hini) B.2.2.2.2.2.2.2.1 w.1 w.2.1 hS9 (fun q hq => Nat.le_trans B.2.2.2.2.2.2.2.2.2.2.2.2 hq) g1 (fun j hj => ?_) hr.1 hr.2 hd (fun q H1 hP hD hS1 => ?_)
  · unfold vp_V
    rw [List.getD_eq_getElem?_getD, a_fs_get (show j < ((n : Int)).toNat by omega), hft j hj]
    have hle := a_FT_le ci j
    rcases (show a_FT ci j = 0 ∨ a_FT ci j = 1 ∨ a_FT ci j = 2 by omega) with q | q | q <;> rw [q] <;> rfl
  · have ec : a_ce E (adA ad N q) (ci, (n : Int), fun _ => -1) (fun _ => 0) = .inr (ci, a_fs E ad ci n (fun _ => -1) (fun _ => 0)) := by
      rw [a_ce_ext (N := N) (ad := ad) (ad' := adA ad N q) (w := (ci, (n : Int), fun _ => -1)) (f := fun _ => 0) (fun j => by show (-1 : Int) < N; omega) (fun h => absurd (show ci = 16 from h) (by omega)) fun i hi => adA_o hi]
      unfold a_ce
      rw [if_pos g2]
    rw [← ec] at hP hD
    have had : ∀ i : Nat, i < N → adA ad N q i = ad i := fun i hi => if_neg (by omega)
    have hx : a_ext ad (adA ad N q) N (N + 1) S (sAdd S N (ci, (n : Int), fun _ => -1)) := ⟨by omega, fun i hi => ⟨had i hi, by rw [sAdd_o (by omega)]⟩⟩
    have z := k p e s m args below meth c H1 locs ls ad0 (adA ad N q) N0 S0 B (a_w_add w hP hD (fun j => by show (-1 : Int) < _; omega) (Or.inl rfl)) (a_ext_trans x hx) hS1 (by rw [a_lo_ext h2 had]; exact hl) (a_cons (show ((N : Nat) : Int) < ((N + 1 : Nat) : Int) by omega) fun v hv => a_vok_1 (h1 v hv)) fun v hv => a_vok_1 (h2 v hv)
    rw [List.map_cons, a_cv_in (show (0 : Int) ≤ (N : Int) by omega), a_map_ext h1 had, show adA ad N q ((N : Int)).toNat = q from if_pos (by omega)] at z
    exact z
theorem x_newarr {atype : ArrayType} {kk i9 : Nat} {n : Int} (hd : decode P.2.1 pc = .ok (.newarray atype, 2)) (harr : Cond.arrayClass (newarray.typeOf atype) ∈ lw_ok) (hk : ∀ E : aE, (a_tys E)[i9]? = some (E.2.1 kk, newarray.typeOf atype)) (hkk : kk = 13 ∨ kk = 14 ∨ kk = 15 ∨ kk = 12) (ha : ∀ (E : aE) (ad : Nat → Nat) (cA : ClassId) (N' : Nat), vp_cell cA (N', a_arr E ad kk (fun _ => -1) (fun _ => 0)) = arrV cA N' (fun _ => defaultValue (newarray.typeOf atype))) (hra : ∀ U : State, ∀ c1 c2 : ClassId, va_RA U c1 (newarray.typeOf atype) → va_RA U c2 (newarray.typeOf atype) → c1 = c2) (hn : 0 ≤ n ∧ n.toNat * componentBytes (newarray.typeOf atype) ≤ 536870912) (hr : kc + 1 ≤ P.2.2.2.2.1.cells ∧ ks + n.toNat ≤ P.2.2.2.2.1.slots)
    (k : aX l E P Q (kc + 1) (ks + n.toNat) (N + 1) (sAdd S N (kk, n, fun _ => -1)) (mAdd M N 0) (pc + 2) lo ((2, N) :: st)) : aX l E P Q kc ks N S M pc lo ((0, n) :: st) := by
  intro p e s m args below meth c H locs ls ad0 ad N0 S0 B w x hS9 hl h1 h2
  have hnv : a_vok N (0, n) := a_hd h1
  have en : (Int32.ofInt n).toInt = n := a_i32 hnv
  have en2 : (Int32.ofInt n).toNatClampNeg = n.toNat := by
    show (Int32.ofInt n).toInt.toNat = _
    rw [en]
  refine va_newa (ty := newarray.typeOf atype) (N' := n.toNat) (a0 := (n.toNat, a_arr E ad kk (fun _ => -1) (fun _ => 0))) B.1 B.2.1 (B.2.2.2.2.2.1 _ harr) rfl B.2.2.2.2.2.2.2.1 w.1 w.2.1 hS9 (fun q hq => Nat.le_trans B.2.2.2.2.2.2.2.2.2.2.2.2 hq) (fun cA => ha E ad cA _) (by rw [Int32.lt_iff_toInt_lt, en]; show ¬ n < 0; omega) en2 hn.2 hr.1 hr.2 hd (fun q cA H1 hK hP hD hS1 => ?_)
  have hcA : cA = E.2.1 kk := hra s cA (E.2.1 kk) (hK.2 (a_tys E).length (cA, newarray.typeOf atype) (by simp)).2 (B.2.2.2.2.2.2.2.1.2 i9 _ (hk E)).2
  subst hcA
  have had : ∀ i : Nat, i < N → adA ad N q i = ad i := fun i hi => if_neg (by omega)
  have ec : a_ce E (adA ad N q) (kk, n, fun _ => -1) (fun _ => 0) = .inl (E.2.1 kk, n.toNat, a_arr E ad kk (fun _ => -1) (fun _ => 0)) := by
    rw [a_ce_ext (N := N) (ad := ad) (ad' := adA ad N q) (w := (kk, n, fun _ => -1)) (f := fun _ => 0) (fun j => by show (-1 : Int) < N; omega) (fun h => absurd (show kk = 16 from h) (by omega)) had]
    unfold a_ce
    rw [if_neg (by omega)]
  rw [← ec] at hP hD
  have hx : a_ext ad (adA ad N q) N (N + 1) S (sAdd S N (kk, n, fun _ => -1)) := ⟨by omega, fun i hi => ⟨had i hi, by rw [sAdd_o (by omega)]⟩⟩
  have z := k p e s m args below meth c H1 locs ls ad0 (adA ad N q) N0 S0 B (a_w_add w hP hD (fun j => by show (-1 : Int) < _; omega) (Or.inl rfl)) (a_ext_trans x hx) hS1 (by rw [a_lo_ext h2 had]; exact hl) (a_cons (show ((N : Nat) : Int) < ((N + 1 : Nat) : Int) by omega) fun v hv => a_vok_1 (a_tl h1 v hv)) fun v hv => a_vok_1 (h2 v hv)
  rw [List.map_cons, a_cv_in (show (0 : Int) ≤ (N : Int) by omega), a_map_ext (a_tl h1) had, show adA ad N q ((N : Int)).toNat = q from if_pos (by omega)] at z
  exact z
theorem x_newI {n : Int} (hd : decode P.2.1 pc = .ok (.newarray .int, 2)) (harr : Cond.arrayClass .int ∈ lw_ok) (hn : 0 ≤ n ∧ n ≤ 10000) (hr : kc + 1 ≤ P.2.2.2.2.1.cells ∧ ks + n.toNat ≤ P.2.2.2.2.1.slots)
    (k : aX l E P Q (kc + 1) (ks + n.toNat) (N + 1) (sAdd S N (13, n, fun _ => -1)) (mAdd M N 0) (pc + 2) lo ((2, N) :: st)) : aX l E P Q kc ks N S M pc lo ((0, n) :: st) :=
  x_newarr (i9 := 1) hd harr (fun _ => rfl) (Or.inl rfl) (fun _ _ _ _ => rfl) (fun _ _ _ h1 h2 => Option.some.inj (h1.symm.trans h2)) ⟨hn.1, by show n.toNat * 4 ≤ _; omega⟩ hr k
theorem x_newJ {n : Int} (hd : decode P.2.1 pc = .ok (.newarray .long, 2)) (harr : Cond.arrayClass .long ∈ lw_ok) (hn : 0 ≤ n ∧ n ≤ 10000) (hr : kc + 1 ≤ P.2.2.2.2.1.cells ∧ ks + n.toNat ≤ P.2.2.2.2.1.slots)
    (k : aX l E P Q (kc + 1) (ks + n.toNat) (N + 1) (sAdd S N (14, n, fun _ => -1)) (mAdd M N 0) (pc + 2) lo ((2, N) :: st)) : aX l E P Q kc ks N S M pc lo ((0, n) :: st) :=
  x_newarr (i9 := 2) hd harr (fun _ => rfl) (Or.inr (Or.inl rfl)) (fun _ _ _ _ => rfl) (fun _ _ _ h1 h2 => Option.some.inj (h1.symm.trans h2)) ⟨hn.1, by show n.toNat * 8 ≤ _; omega⟩ hr k
theorem x_newZ {n : Int} (hd : decode P.2.1 pc = .ok (.newarray .boolean, 2)) (harr : Cond.arrayClass .boolean ∈ lw_ok) (hn : 0 ≤ n ∧ n ≤ 10000) (hr : kc + 1 ≤ P.2.2.2.2.1.cells ∧ ks + n.toNat ≤ P.2.2.2.2.1.slots)
    (k : aX l E P Q (kc + 1) (ks + n.toNat) (N + 1) (sAdd S N (15, n, fun _ => -1)) (mAdd M N 0) (pc + 2) lo ((2, N) :: st)) : aX l E P Q kc ks N S M pc lo ((0, n) :: st) :=
  x_newarr (i9 := 3) hd harr (fun _ => rfl) (Or.inr (Or.inr (Or.inl rfl))) (fun _ _ _ _ => rfl) (fun _ _ _ h1 h2 => Option.some.inj (h1.symm.trans h2)) ⟨hn.1, by show n.toNat * 1 ≤ _; omega⟩ hr k
theorem x_newB {n : Int} (hd : decode P.2.1 pc = .ok (.newarray .byte, 2)) (harr : Cond.arrayClass .byte ∈ lw_ok) (hn : 0 ≤ n ∧ n ≤ 10000) (hr : kc + 1 ≤ P.2.2.2.2.1.cells ∧ ks + n.toNat ≤ P.2.2.2.2.1.slots)
    (k : aX l E P Q (kc + 1) (ks + n.toNat) (N + 1) (sAdd S N (12, n, fun _ => -1)) (mAdd M N 0) (pc + 2) lo ((2, N) :: st)) : aX l E P Q kc ks N S M pc lo ((0, n) :: st) :=
  x_newarr (i9 := 0) hd harr (fun _ => rfl) (Or.inr (Or.inr (Or.inr rfl))) (fun _ _ _ _ => rfl) (fun _ _ _ h1 h2 => Option.some.inj (h1.symm.trans h2)) ⟨hn.1, by show n.toNat * 1 ≤ _; omega⟩ hr k
end AX20
/-- a reference is put into a field -/
def sPut (S : aS) (a j v : Int) : aS := fun i => if i = a then ((S a).1, (S a).2.1, fun q => if q = j then v else (S a).2.2 q) else S i
theorem sPut_s {S : aS} {a j v n : Int} {k : Nat} {r : Int → Int} (h : S a = (k, n, r)) : sPut S a j v a = (k, n, fun q => if q = j then v else r q) := by
  unfold sPut
  rw [if_pos rfl, h]
theorem sPut_o {S : aS} {a j v i : Int} (h : i ≠ a) : sPut S a j v i = S i := if_neg h
theorem sPut_1 {S : aS} {a j v i : Int} : (sPut S a j v i).1 = (S i).1 := by
  unfold sPut
  by_cases e : i = a
  · rw [if_pos e, e]
  · rw [if_neg e]
theorem a_w_put {E : aE} {ad : Nat → Nat} {N : Nat} {S : aS} {M : aM} {H H1 : Heap} {a j v n : Int} {ci : Nat} {r : Int → Int} (w : a_w E ad N S M H) (hS : S a = (ci, n, r)) (hv : v < N) (hP : va_P E.1 vwCl (a_ws E ad N (sPut S a j v) M) H1) (hD : va_D (a_A E) (a_ws E ad N (sPut S a j v) M)) : a_w E ad N (sPut S a j v) M H1 := by
  refine ⟨hP, hD, fun b q => ?_, fun i hi => ?_, fun b q => ?_, fun b q h => ?_⟩
  · rw [sPut_1]
    exact w.2.2.1 b q
  · rw [sPut_1]
    exact w.2.2.2.1 i hi
  · by_cases e : b = a
    · subst e
      rw [sPut_s hS]
      show (if q = j then v else r q) < _
      have := w.2.2.2.2.1 b q
      rw [hS] at this
      split
      · exact hv
      · exact this
    · rw [sPut_o e]
      exact w.2.2.2.2.1 b q
  · rw [sPut_1] at h
    exact w.2.2.2.2.2 b q h
theorem a_ws_put {E : aE} {ad : Nat → Nat} {N : Nat} {S : aS} {M : aM} {a n v : Int} {ci j : Nat} {r : Int → Int} (hS : S a = (ci, n, r)) (g2 : ci < 12) (ht : a_FT ci j = 2) (a1 : 0 ≤ a) : (a_ws E ad N S M).set a.toNat (ad a.toNat, .inr (ci, (a_fs E ad ci n r (M a)).set j (a_cv E ad (2, v)))) = a_ws E ad N (sPut S a j v) M := by
  refine a_ws_set ?_ (fun i hi => ⟨sPut_o (by omega), rfl⟩)
  rw [Int.toNat_of_nonneg a1, sPut_s hS]
  unfold a_ce
  rw [if_pos g2]
  congr 2
  apply List.ext_getElem?
  intro q
  by_cases hq : q < n.toNat
  · rw [a_fs_get hq]
    by_cases e9 : j = q
    · subst e9
      rw [List.getElem?_set_self (by unfold a_fs; rw [List.length_map, List.length_range]; exact hq), ht]
      dsimp only
      rw [if_pos rfl, if_pos rfl]
    · rw [List.getElem?_set_ne e9, a_fs_get hq]
      dsimp only
      rw [if_neg (show ¬ ((q : Int) = j) by omega)]
  · rw [List.getElem?_eq_none (by rw [List.length_set]; unfold a_fs; rw [List.length_map, List.length_range]; omega), List.getElem?_eq_none (by unfold a_fs; rw [List.length_map, List.length_range]; show n.toNat ≤ q; omega)]
section AX21
variable {l : Launch} {E : aE} {P : aP} {Q : aQ} {kc ks N : Nat} {S : aS} {M : aM} {pc : Nat} {lo : List (Nat × aV)} {st : List aV}
theorem x_putR {i ci j : Nat} {t : FieldType} {fin : Bool} {a n v : Int} {r : Int → Int} (hd : decode P.2.1 pc = .ok (.putfield i, 3)) (hf : a_fl P.1.cls i ci j t fin) (hS : S a = (ci, n, r)) (hj : (j : Int) < n) (ht : a_FT ci j = 2) (hv : 0 ≤ v) (hn : ∀ x, narrow t (.ref x) = .ref x) (hfit : ∀ x, fits t (.ref x) = true) (hfin : fin = false ∨ P.1.name = "<init>" ∧ ∀ C T n, vwCl[ci]? = some (C, T, n) → C = P.1.cls)
    (k : aX l E P Q kc ks N (sPut S a j v) M (pc + 3) lo st) : aX l E P Q kc ks N S M pc lo ((2, v) :: (2, a) :: st) := by
  obtain ⟨C, T, n9, ty, ⟨g1, g2, g3, g4, g5⟩, f1, f2, f3, f4, f5⟩ := hf
  intro p e s m args below meth c H locs ls ad0 ad N0 S0 B w x hS9 hl h1 h2
  obtain ⟨a1, a2, a3⟩ := a_in w hS (by omega)
  have he : (a_ws E ad N S M)[a.toNat]? = some (ad a.toNat, .inr (ci, a_fs E ad ci n r (M a))) := by
    rw [a3]
    unfold a_ce
    rw [if_pos g2]
  have hvN : v < N := a_hd h1
  have hset := a_ws_put (E := E) (ad := ad) (N := N) (M := M) (v := v) hS g2 ht a1
  have hx : a_ext ad ad N N S (sPut S a j v) := ⟨Nat.le_refl _, fun i hi => ⟨rfl, sPut_1⟩⟩
  have fin9 : ∀ (H1 : Heap) (locs1 : List Loc), va_P E.1 vwCl (a_ws E ad N (sPut S a j v) M) H1 → va_D (a_A E) (a_ws E ad N (sPut S a j v) M) → va_S (a_A E) s.heap H1 locs1 → W p l e P.2.2.2.2.1 s m args below meth c H1 locs1 kc ks (vx_MQ below (a_Qc E ad0 N0 S0 Q) (a_XC E ad0 N0 S0 Q) args s P.2.2.2.2.1.cells P.2.2.2.2.1.slots (a_A E)) (F0 m (pc + 3) ls (st.map (a_cv E ad))) := fun H1 locs1 hP hD hS1 =>
    k p e s m args below meth c H1 locs1 ls ad0 ad N0 S0 B (a_w_put w hS hvN hP hD) (a_ext_trans x hx) hS1 hl (a_tl (a_tl h1)) h2
  show W _ _ _ _ _ _ _ _ _ _ _ _ _ _ _ (F0 m pc ls (a_cv E ad (2, v) :: a_cv E ad (2, a) :: st.map (a_cv E ad)))
  rw [a_cv_in a1]
  have hn9 : narrow t (a_cv E ad (2, v)) = a_cv E ad (2, v) := by rw [a_cv_in hv]; exact hn _
  have hf9 : fits t (a_cv E ad (2, v)) = true := by rw [a_cv_in hv]; exact hfit _
  have hlen : j < (a_fs E ad ci n r (M a)).length := by unfold a_fs; rw [List.length_map, List.length_range]; omega
  rcases hfin with hfin | ⟨hin, hC⟩
  · refine va_put B.1 B.2.1 (fun w hw => B.2.2.2.2.2.1 w hw) g3 ty g4 g5 B.2.2.2.2.1 B.2.2.2.2.2.2.2.1 w.1 w.2.1 hS9 a.toNat he g1 j f1 (B.2.2.2.2.2.1 _ f2) (fun x9 h9 => by rw [f3] at h9; exact h9) (f5.trans hfin) (ty := t) (by rw [g4 j f1, f4]) hn9 hf9 hlen hd (fun H1 locs1 hP hD hS1 => ?_)
    rw [hset] at hP hD
    exact fin9 H1 locs1 hP hD hS1
  · cases e9 : fin with
    | false =>
      refine va_put B.1 B.2.1 (fun w hw => B.2.2.2.2.2.1 w hw) g3 ty g4 g5 B.2.2.2.2.1 B.2.2.2.2.2.2.2.1 w.1 w.2.1 hS9 a.toNat he g1 j f1 (B.2.2.2.2.2.1 _ f2) (fun x9 h9 => by rw [f3] at h9; exact h9) (f5.trans e9) (ty := t) (by rw [g4 j f1, f4]) hn9 hf9 hlen hd (fun H1 locs1 hP hD hS1 => ?_)
      rw [hset] at hP hD
      exact fin9 H1 locs1 hP hD hS1
    | true =>
      refine va_putF B.1 B.2.1 (fun w hw => B.2.2.2.2.2.1 w hw) g3 ty g4 g5 B.2.2.2.2.1 B.2.2.2.2.2.2.2.1 w.1 w.2.1 hS9 a.toNat he g1 j f1 (B.2.2.2.2.2.1 _ f2) (fun x9 h9 => by rw [f3] at h9; exact h9) (f5.trans e9) (B.2.2.2.2.2.2.2.2.2.2.1 hin) (f3.trans (hC _ _ _ g1)) (ty := t) (by rw [g4 j f1, f4]) hn9 hf9 hlen hd (fun H1 locs1 hP hD hS1 => ?_)
      rw [hset] at hP hD
      exact fin9 H1 locs1 hP hD hS1
end AX21
def a_nw (own : String) (ik ci n : Nat) : Prop := ∃ C T ty, a_kl ci C T n ty ∧ Cond.classLink own ik C ∈ lw_ok ∧ Cond.instantiable C n ∈ lw_ok ∧ Cond.initialized C ∈ lw_ok ∧ ∀ j, j < n → defaultValue (ty j) = a_dv (a_FT ci j)
def a_ob (own : String) (i : Nat) : Prop := Cond.methodLink own i objectInit ∈ lw_ok ∧ Cond.instanceMethod objectInit ∈ lw_ok ∧ Cond.code objectInit ⟨#[0xb1]⟩ 1 none ∈ lw_ok
section AX22
variable {l : Launch} {E : aE} {P : aP} {Q : aQ} {kc ks N : Nat} {S : aS} {M : aM} {pc : Nat} {lo : List (Nat × aV)} {st : List aV}
theorem x_newO {ik ci n : Nat} (hd : decode P.2.1 pc = .ok (.new ik, 3)) (hk : a_nw P.1.cls ik ci n) (hr : kc + 1 ≤ P.2.2.2.2.1.cells ∧ ks + n ≤ P.2.2.2.2.1.slots)
    (k : aX l E P Q (kc + 1) (ks + n) (N + 1) (sAdd S N (ci, n, fun _ => -1)) (mAdd M N 0) (pc + 3) lo ((2, N) :: st)) : aX l E P Q kc ks N S M pc lo st := by
  obtain ⟨C, T, ty, g1, g2, g3, g4, g5⟩ := hk
  exact x_new hd g1 g2 g3 g4 g5 hr k
theorem x_objInit {i : Nat} {o : Int} (hd : decode P.2.1 pc = .ok (.invokespecial i, 3)) (hk : a_ob P.1.cls i) (ho : 0 ≤ o) (hr : 1 ≤ P.2.2.2.2.1.frames ∧ 40 ≤ P.2.2.2.2.1.locals) (hlen : a_len st ≤ 8) (k : aX l E P Q kc ks N S M (pc + 3) lo st) : aX l E P Q kc ks N S M pc lo ((2, o) :: st) :=
  aX.pure k (fun h1 _ => a_tl h1) fun p e s m args below meth c H locs ls ad Z B w hl h1 z => by
    show W _ _ _ _ _ _ _ _ _ _ _ _ _ _ _ (F0 m pc ls (a_cv E ad (2, o) :: st.map (a_cv E ad)))
    have hmon : 2 * (F0 m pc ls ([] : List Value)).monitorRoom + ((st.map (a_cv E ad)).map fun v => v.category).sum ≤ 8 := lv_room (by rw [a_len_sum]; exact hlen)
    have hmon2 : (F0 m pc ls (Value.ref (ad o.toNat) :: st.map (a_cv E ad))).monitorRoom = (F0 m pc ls ([] : List Value)).monitorRoom := rfl
    rw [a_cv_in ho]
    refine W.objInit B.1 B.2.1 B.2.2.2.2.1 (B.2.2.2.2.2.1 _ hk.1) (B.2.2.2.2.2.1 _ hk.2.1) (B.2.2.2.2.2.1 _ hk.2.2) rfl (by rw [B.2.2.2.1]; exact hl.1) rfl hd (by omega) (by omega) ?_
    exact W.eq (g2 := F0 m (pc + 3) ls (st.map (a_cv E ad))) rfl z
end AX22
