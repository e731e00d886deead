/-! an array of streets; constructors' last rules -/
section AX96
variable {l : Launch} {E : aE} {P : aP} {Q : aQ} {kc ks N : Nat} {S : aS} {M : aM} {pc : Nat} {lo : List (Nat × aV)} {st : List aV}
theorem x_anew16 {i9 : Nat} {n : Int} (hd : decode P.2.1 pc = .ok (.anewarray i9, 3)) (hcl : Cond.classLink P.1.cls i9 "CoalStreet$Street" ∈ lw_ok) (hn : 0 ≤ n ∧ n ≤ 10000) (hr : kc + 1 ≤ P.2.2.2.2.1.cells ∧ ks + n.toNat ≤ P.2.2.2.2.1.slots)
    (k : aX l E P Q (kc + 1) (ks + n.toNat) (N + 1) (sAdd S N (16, n, fun _ => -1)) (mAdd M N (-1)) (pc + 3) lo ((2, N) :: st)) : aX l E P Q kc ks N S M pc lo ((0, n) :: st) := by
  intro p e s m args below meth c H locs ls ad0 ad N0 S0 B w x hS9 hl h1 h2
  have hnv : a_vok N (0, n) := a_hd h1
  have en : (Int32.ofInt n).toInt = n := a_i32 hnv
  have en2 : (Int32.ofInt n).toNatClampNeg = n.toNat := by
    show (Int32.ofInt n).toInt.toNat = _
    rw [en]
  refine va_newq B.1 B.2.1 B.2.2.2.2.1 (B.2.2.2.2.2.1 _ hcl) B.2.2.2.2.2.2.2.2.1.2.2.2.1.1 B.2.2.2.2.2.2.2.1 w.1 w.2.1 hS9 (fun q hq => Nat.le_trans B.2.2.2.2.2.2.2.2.2.2.2.2 hq) (by rw [Int32.lt_iff_toInt_lt, en]; show ¬ n < 0; omega) en2 (by omega) hr.1 hr.2 hd (fun q cA H1 hK hP hD hS1 => ?_)
  have hcA : cA = E.2.1 16 := by
    obtain ⟨-, -, -, -, -, h4⟩ := (hK.2 (a_tys E).length (cA, .object "CoalStreet$Street") (by simp)).2
    obtain ⟨-, -, -, -, -, g4⟩ := (B.2.2.2.2.2.2.2.1.2 4 (E.2.1 16, .object "CoalStreet$Street") rfl).2
    exact Option.some.inj (h4.symm.trans g4)
  subst hcA
  have had : ∀ i : Nat, i < N → adA ad N q i = ad i := fun i hi => if_neg (by omega)
  have ec : a_ce E (adA ad N q) (16, n, fun _ => -1) (fun _ => -1) = .inl (E.2.1 16, n.toNat, .inr (.inr (.inr (.inr fun _ => none)))) := rfl
  rw [← ec] at hP hD
  have hx : a_ext ad (adA ad N q) N (N + 1) S (sAdd S N (16, n, fun _ => -1)) := ⟨by omega, fun i hi => ⟨had i hi, by rw [sAdd_o (by omega)]⟩⟩
  have z := k p e s m args below meth c H1 locs ls ad0 (adA ad N q) N0 S0 B (a_w_add w hP hD (fun j => by show (-1 : Int) < _; omega) (Or.inr rfl)) (a_ext_trans x hx) hS1 (by rw [a_lo_ext h2 had]; exact hl) (a_cons (show ((N : Nat) : Int) < ((N + 1 : Nat) : Int) by omega) fun v hv => a_vok_1 (a_tl h1 v hv)) fun v hv => a_vok_1 (h2 v hv)
  rw [List.map_cons, a_cv_in (show (0 : Int) ≤ (N : Int) by omega), a_map_ext (a_tl h1) had, show adA ad N q ((N : Int)).toNat = q from if_pos (by omega)] at z
  exact z
end AX96
