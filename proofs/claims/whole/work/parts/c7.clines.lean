/-! TEXT: the class's lines -/
def wT : List (List Int) := [[0, 0, 0, 0, 0, -1], [0, 0, 0, 0, 0, -1], [2, 1, 60, 1, 99, -1], [2, 1, 60, 0, 99, -1], [1, 0, 99, 0, 0, -1], [1, 0, 99, 0, 0, -1], [1, 1, 6, 0, 0, -1], [2, 0, 5, 0, 99, -1], [1, 0, 999, 0, 0, -1], [0, 0, 0, 0, 0, -1], [0, 0, 0, 0, 0, 0], [0, 0, 0, 0, 0, 1], [0, 0, 0, 0, 0, 2]]
def wW (k j : Nat) : Int := (wT.getD k []).getD j 0
theorem wW_r : ∀ k, k < 13 → ∀ j, j < 6 → -1 ≤ wW k j ∧ wW k j ≤ 999 := by decide
theorem wok (k : Nat) (hk : k < 13) (j : Nat) (hj : j < 6) : a_kok (0, wW k j) := Or.inl ⟨rfl, by
  have h := wW_r k hk j hj
  show -2147483648 ≤ wW k j ∧ wW k j ≤ 2147483647
  omega⟩
theorem wW_n : ∀ k, k < 9 → (wW k 0 = 0 ∧ k < 2) ∨ (wW k 0 = 1 ∧ 4 ≤ k ∧ k ≠ 7) ∨ (wW k 0 = 2 ∧ (k = 2 ∨ k = 3 ∨ k = 7)) := by decide
theorem wW_u : ∀ k, k < 13 → (k < 10 ∧ wW k 5 = -1) ∨ (10 ≤ k ∧ wW k 5 = (k : Int) - 10) := by decide
theorem hkW0 : ∀ k : Nat, k < 13 → ("CoalStreet$Word", "numbers", "I", k, ((0 : Nat), wW k 0)) ∈ a_kF := fun k hk => match k, hk with
  | 0, _ => List.mem_of_getElem? (i := 0) rfl
  | 1, _ => List.mem_of_getElem? (i := 7) rfl
  | 2, _ => List.mem_of_getElem? (i := 14) rfl
  | 3, _ => List.mem_of_getElem? (i := 21) rfl
  | 4, _ => List.mem_of_getElem? (i := 28) rfl
  | 5, _ => List.mem_of_getElem? (i := 35) rfl
  | 6, _ => List.mem_of_getElem? (i := 42) rfl
  | 7, _ => List.mem_of_getElem? (i := 49) rfl
  | 8, _ => List.mem_of_getElem? (i := 56) rfl
  | 9, _ => List.mem_of_getElem? (i := 63) rfl
  | 10, _ => List.mem_of_getElem? (i := 70) rfl
  | 11, _ => List.mem_of_getElem? (i := 77) rfl
  | 12, _ => List.mem_of_getElem? (i := 84) rfl
  | k + 13, h => absurd h (by omega)
theorem hkW1 : ∀ k : Nat, k < 13 → ("CoalStreet$Word", "low", "I", k, ((0 : Nat), wW k 1)) ∈ a_kF := fun k hk => match k, hk with
  | 0, _ => List.mem_of_getElem? (i := 1) rfl
  | 1, _ => List.mem_of_getElem? (i := 8) rfl
  | 2, _ => List.mem_of_getElem? (i := 15) rfl
  | 3, _ => List.mem_of_getElem? (i := 22) rfl
  | 4, _ => List.mem_of_getElem? (i := 29) rfl
  | 5, _ => List.mem_of_getElem? (i := 36) rfl
  | 6, _ => List.mem_of_getElem? (i := 43) rfl
  | 7, _ => List.mem_of_getElem? (i := 50) rfl
  | 8, _ => List.mem_of_getElem? (i := 57) rfl
  | 9, _ => List.mem_of_getElem? (i := 64) rfl
  | 10, _ => List.mem_of_getElem? (i := 71) rfl
  | 11, _ => List.mem_of_getElem? (i := 78) rfl
  | 12, _ => List.mem_of_getElem? (i := 85) rfl
  | k + 13, h => absurd h (by omega)
theorem hkW2 : ∀ k : Nat, k < 13 → ("CoalStreet$Word", "high", "I", k, ((0 : Nat), wW k 2)) ∈ a_kF := fun k hk => match k, hk with
  | 0, _ => List.mem_of_getElem? (i := 2) rfl
  | 1, _ => List.mem_of_getElem? (i := 9) rfl
  | 2, _ => List.mem_of_getElem? (i := 16) rfl
  | 3, _ => List.mem_of_getElem? (i := 23) rfl
  | 4, _ => List.mem_of_getElem? (i := 30) rfl
  | 5, _ => List.mem_of_getElem? (i := 37) rfl
  | 6, _ => List.mem_of_getElem? (i := 44) rfl
  | 7, _ => List.mem_of_getElem? (i := 51) rfl
  | 8, _ => List.mem_of_getElem? (i := 58) rfl
  | 9, _ => List.mem_of_getElem? (i := 65) rfl
  | 10, _ => List.mem_of_getElem? (i := 72) rfl
  | 11, _ => List.mem_of_getElem? (i := 79) rfl
  | 12, _ => List.mem_of_getElem? (i := 86) rfl
  | k + 13, h => absurd h (by omega)
theorem hkW3 : ∀ k : Nat, k < 13 → ("CoalStreet$Word", "secondLow", "I", k, ((0 : Nat), wW k 3)) ∈ a_kF := fun k hk => match k, hk with
  | 0, _ => List.mem_of_getElem? (i := 3) rfl
  | 1, _ => List.mem_of_getElem? (i := 10) rfl
  | 2, _ => List.mem_of_getElem? (i := 17) rfl
  | 3, _ => List.mem_of_getElem? (i := 24) rfl
  | 4, _ => List.mem_of_getElem? (i := 31) rfl
  | 5, _ => List.mem_of_getElem? (i := 38) rfl
  | 6, _ => List.mem_of_getElem? (i := 45) rfl
  | 7, _ => List.mem_of_getElem? (i := 52) rfl
  | 8, _ => List.mem_of_getElem? (i := 59) rfl
  | 9, _ => List.mem_of_getElem? (i := 66) rfl
  | 10, _ => List.mem_of_getElem? (i := 73) rfl
  | 11, _ => List.mem_of_getElem? (i := 80) rfl
  | 12, _ => List.mem_of_getElem? (i := 87) rfl
  | k + 13, h => absurd h (by omega)
theorem hkW4 : ∀ k : Nat, k < 13 → ("CoalStreet$Word", "secondHigh", "I", k, ((0 : Nat), wW k 4)) ∈ a_kF := fun k hk => match k, hk with
  | 0, _ => List.mem_of_getElem? (i := 4) rfl
  | 1, _ => List.mem_of_getElem? (i := 11) rfl
  | 2, _ => List.mem_of_getElem? (i := 18) rfl
  | 3, _ => List.mem_of_getElem? (i := 25) rfl
  | 4, _ => List.mem_of_getElem? (i := 32) rfl
  | 5, _ => List.mem_of_getElem? (i := 39) rfl
  | 6, _ => List.mem_of_getElem? (i := 46) rfl
  | 7, _ => List.mem_of_getElem? (i := 53) rfl
  | 8, _ => List.mem_of_getElem? (i := 60) rfl
  | 9, _ => List.mem_of_getElem? (i := 67) rfl
  | 10, _ => List.mem_of_getElem? (i := 74) rfl
  | 11, _ => List.mem_of_getElem? (i := 81) rfl
  | 12, _ => List.mem_of_getElem? (i := 88) rfl
  | k + 13, h => absurd h (by omega)
theorem hkW5 : ∀ k : Nat, k < 13 → ("CoalStreet$Word", "rule", "I", k, ((0 : Nat), wW k 5)) ∈ a_kF := fun k hk => match k, hk with
  | 0, _ => List.mem_of_getElem? (i := 5) rfl
  | 1, _ => List.mem_of_getElem? (i := 12) rfl
  | 2, _ => List.mem_of_getElem? (i := 19) rfl
  | 3, _ => List.mem_of_getElem? (i := 26) rfl
  | 4, _ => List.mem_of_getElem? (i := 33) rfl
  | 5, _ => List.mem_of_getElem? (i := 40) rfl
  | 6, _ => List.mem_of_getElem? (i := 47) rfl
  | 7, _ => List.mem_of_getElem? (i := 54) rfl
  | 8, _ => List.mem_of_getElem? (i := 61) rfl
  | 9, _ => List.mem_of_getElem? (i := 68) rfl
  | 10, _ => List.mem_of_getElem? (i := 75) rfl
  | 11, _ => List.mem_of_getElem? (i := 82) rfl
  | 12, _ => List.mem_of_getElem? (i := 89) rfl
  | k + 13, h => absurd h (by omega)
/-- what a line notes -/
def noteF (f : Int → Int) (v u : Int) : Nat → Int → Int
  | 0 => fU f 0 0
  | 1 => fU f 0 1
  | 2 => fU (fU (fU f (2 + f 1) v) (8 + f 1) u) 1 (f 1 + 1)
  | 3 => fU (fU (fU f (15 + f 14) v) (19 + f 14) u) 14 (f 14 + 1)
  | 4 => fU f 23 v
  | 5 => fU f 24 v
  | 6 => fU f 25 v
  | 7 => fU f (26 + v) u
  | 8 => fU f 32 v
  | _ => f
def genM (T : Int → Int) (n e : Int) (f : Int → Int) (k : Nat) : tR := if wW k 0 = 0 then okM e (noteF f 0 0 k) else numR T n e (wW k 1) (wW k 2) fun v e1 => if k = 2 ∧ hasS f v (f 1).toNat = true then badR 4 (tB T n e) else if wW k 0 = 1 then okM e1 (noteF f v 0 k) else numR T n e1 (wW k 3) (wW k 4) fun u e2 => okM e2 (noteF f v u k)
theorem gen2 {T f : Int → Int} {n e : Int} : stepM T n e f = genM T n e f 2 := by
  show stepM T n e f = numR T n e 1 60 fun v e1 => if (2 : Nat) = 2 ∧ hasS f v (f 1).toNat = true then badR 4 (tB T n e) else numR T n e1 1 99 fun u e2 => okM e2 (noteF f v u 2)
  unfold stepM
  refine congrArg _ (funext fun v => funext fun e => ?_)
  by_cases z : hasS f v (f 1).toNat = true
  · rw [if_pos z, if_pos (show (2 : Nat) = 2 ∧ hasS f v (f 1).toNat = true from ⟨rfl, z⟩)]
  · rw [if_neg z, if_neg (show ¬ ((2 : Nat) = 2 ∧ hasS f v (f 1).toNat = true) from fun q => z q.2)]; rfl
theorem gen_line {T f : Int → Int} {n a : Int} {k : Nat} (hk : k < 9) (h : tK T n a = 1) (e : wIx T (tB T n a) (tE T n a) = (k : Int)) (h2 : k = 2 → f 1 ≠ 6) (h3 : k = 3 → f 14 ≠ 4) : lineM T n a f = genM T n (tE T n a) f k := by
  unfold lineM
  rw [if_neg (fun q => q h), e]
  clear e
  match k, hk with
  | 0, _ => rw [if_pos (by decide)]; rfl
  | 1, _ => rw [if_neg (by decide), if_pos (by decide)]; rfl
  | 2, _ => rw [if_neg (by decide), if_neg (by decide), if_pos (by decide), if_neg (h2 rfl)]; exact gen2
  | 3, _ => rw [if_neg (by decide), if_neg (by decide), if_neg (by decide), if_pos (by decide), if_neg (h3 rfl)]; rfl
  | 4, _ => rw [if_neg (by decide), if_neg (by decide), if_neg (by decide), if_neg (by decide), if_pos (by decide)]; rfl
  | 5, _ => rw [if_neg (by decide), if_neg (by decide), if_neg (by decide), if_neg (by decide), if_neg (by decide), if_pos (by decide)]; rfl
  | 6, _ => rw [if_neg (by decide), if_neg (by decide), if_neg (by decide), if_neg (by decide), if_neg (by decide), if_neg (by decide), if_pos (by decide)]; rfl
  | 7, _ => rw [if_neg (by decide), if_neg (by decide), if_neg (by decide), if_neg (by decide), if_neg (by decide), if_neg (by decide), if_neg (by decide), if_pos (by decide)]; rfl
  | 8, _ => rw [if_neg (by decide), if_neg (by decide), if_neg (by decide), if_neg (by decide), if_neg (by decide), if_neg (by decide), if_neg (by decide), if_neg (by decide), if_pos (by decide)]; rfl
  | k + 9, q => exact absurd q (by omega)
/-- what a part of a line leaves in the class -/
def RESc (M : aM) (r : tR) : Prop := M 17 2 = r.1 ∧ (r.1 ≠ 0 → M 17 3 = r.2.1) ∧ (r.1 = 0 → M 17 9 = r.2.2.1 ∧ CF M r.2.2.2 ∧ M 17 3 = -1)
theorem RESc.bad {M : aM} {r : tR} {k p : Int} (hr : r = badR k p) (h : k ≠ 0) (h1 : M 17 2 = k) (h2 : M 17 3 = p) : RESc M r := by
  rw [hr]; exact ⟨h1, fun _ => h2, fun q => absurd q h⟩
theorem RESc.ok {M : aM} {r : tR} {a : Int} {f : Int → Int} (hr : r = okM a f) (h1 : M 17 2 = 0) (h2 : M 17 9 = a) (h3 : CF M f) (h4 : M 17 3 = -1) : RESc M r := by
  rw [hr]; exact ⟨h1, fun q => absurd rfl q, fun _ => ⟨h2, h3, h4⟩⟩
def frZc (M M' : aM) : Prop := ∀ x y : Int, ¬ (x = 17 ∧ (y = 2 ∨ y = 3 ∨ (7 ≤ y ∧ y ≤ 10))) → ¬ (19 ≤ x ∧ x < 25) → M' x y = M x y
theorem frZc.tr {M M' M'' : aM} (h : frZc M M') (h' : frZc M' M'') : frZc M M'' := fun x y a b => (h' x y a b).trans (h x y a b)
theorem frZc.rf {M : aM} : frZc M M := fun _ _ _ _ => rfl
theorem frR.k {M M' : aM} (h : frR M M') : frZc M M' := fun x y a _ => h x y a
theorem CB.k {M M' : aM} {T : Int → Int} {n : Int} (h : CB M T n) (f : frZc M M') : CB M' T n := ⟨(f _ _ (by omega) (by omega)).trans h.1, fun i a b => ⟨(f _ _ (by omega) (by omega)).trans (h.2 i a b).1, (h.2 i a b).2⟩⟩
theorem CF.r {M M' : aM} {f : Int → Int} (h : CF M f) (e : frR M M') : CF M' f := h.fr fun x y a b => e x y (by omega)
theorem frZc.bl {M M' : aM} {w p : Int} (h : frZc M M') : frZc M (up (up M' 17 2 w) 17 3 p) := fun x y a b => by rw [up_w (by omega), up_w (by omega)]; exact h x y a b
theorem dX5_note_0 : decode cX5_note 0 = .ok (.aload_n 1, 1) := by decide +kernel
theorem dX5_note_1 : decode cX5_note 1 = .ok (.getstatic 129, 3) := by decide +kernel
theorem dX5_note_4 : decode cX5_note 4 = .ok (.if_acmp .ne 14, 3) := by decide +kernel
theorem dX5_note_7 : decode cX5_note 7 = .ok (.aload_n 0, 1) := by decide +kernel
theorem dX5_note_8 : decode cX5_note 8 = .ok (.getfield 22, 3) := by decide +kernel
theorem dX5_note_11 : decode cX5_note 11 = .ok (.iconst 0, 1) := by decide +kernel
theorem dX5_note_12 : decode cX5_note 12 = .ok (.putfield 132, 3) := by decide +kernel
theorem dX5_note_15 : decode cX5_note 15 = .ok (.goto 148, 3) := by decide +kernel
theorem dX5_note_18 : decode cX5_note 18 = .ok (.aload_n 1, 1) := by decide +kernel
theorem dX5_note_19 : decode cX5_note 19 = .ok (.getstatic 136, 3) := by decide +kernel
theorem dX5_note_22 : decode cX5_note 22 = .ok (.if_acmp .ne 14, 3) := by decide +kernel
theorem dX5_note_25 : decode cX5_note 25 = .ok (.aload_n 0, 1) := by decide +kernel
theorem dX5_note_26 : decode cX5_note 26 = .ok (.getfield 22, 3) := by decide +kernel
theorem dX5_note_29 : decode cX5_note 29 = .ok (.iconst 1, 1) := by decide +kernel
theorem dX5_note_30 : decode cX5_note 30 = .ok (.putfield 132, 3) := by decide +kernel
theorem dX5_note_33 : decode cX5_note 33 = .ok (.goto 130, 3) := by decide +kernel
theorem dX5_note_36 : decode cX5_note 36 = .ok (.aload_n 1, 1) := by decide +kernel
theorem dX5_note_37 : decode cX5_note 37 = .ok (.getstatic 87, 3) := by decide +kernel
theorem dX5_note_40 : decode cX5_note 40 = .ok (.if_acmp .ne 15, 3) := by decide +kernel
theorem dX5_note_43 : decode cX5_note 43 = .ok (.aload_n 0, 1) := by decide +kernel
theorem dX5_note_44 : decode cX5_note 44 = .ok (.getfield 22, 3) := by decide +kernel
theorem dX5_note_47 : decode cX5_note 47 = .ok (.iload_n 2, 1) := by decide +kernel
theorem dX5_note_48 : decode cX5_note 48 = .ok (.iload_n 3, 1) := by decide +kernel
theorem dX5_note_49 : decode cX5_note 49 = .ok (.invokevirtual 139, 3) := by decide +kernel
theorem dX5_note_52 : decode cX5_note 52 = .ok (.goto 111, 3) := by decide +kernel
theorem dX5_note_55 : decode cX5_note 55 = .ok (.aload_n 1, 1) := by decide +kernel
theorem dX5_note_56 : decode cX5_note 56 = .ok (.getstatic 93, 3) := by decide +kernel
theorem dX5_note_59 : decode cX5_note 59 = .ok (.if_acmp .ne 15, 3) := by decide +kernel
theorem dX5_note_62 : decode cX5_note 62 = .ok (.aload_n 0, 1) := by decide +kernel
theorem dX5_note_63 : decode cX5_note 63 = .ok (.getfield 22, 3) := by decide +kernel
theorem dX5_note_66 : decode cX5_note 66 = .ok (.iload_n 2, 1) := by decide +kernel
theorem dX5_note_67 : decode cX5_note 67 = .ok (.iload_n 3, 1) := by decide +kernel
theorem dX5_note_68 : decode cX5_note 68 = .ok (.invokevirtual 143, 3) := by decide +kernel
theorem dX5_note_71 : decode cX5_note 71 = .ok (.goto 92, 3) := by decide +kernel
theorem dX5_note_74 : decode cX5_note 74 = .ok (.aload_n 1, 1) := by decide +kernel
theorem dX5_note_75 : decode cX5_note 75 = .ok (.getstatic 146, 3) := by decide +kernel
theorem dX5_note_78 : decode cX5_note 78 = .ok (.if_acmp .ne 14, 3) := by decide +kernel
theorem dX5_note_81 : decode cX5_note 81 = .ok (.aload_n 0, 1) := by decide +kernel
theorem dX5_note_82 : decode cX5_note 82 = .ok (.getfield 22, 3) := by decide +kernel
theorem dX5_note_85 : decode cX5_note 85 = .ok (.iload_n 2, 1) := by decide +kernel
theorem dX5_note_86 : decode cX5_note 86 = .ok (.putfield 149, 3) := by decide +kernel
theorem dX5_note_89 : decode cX5_note 89 = .ok (.goto 74, 3) := by decide +kernel
theorem dX5_note_92 : decode cX5_note 92 = .ok (.aload_n 1, 1) := by decide +kernel
theorem dX5_note_93 : decode cX5_note 93 = .ok (.getstatic 152, 3) := by decide +kernel
theorem dX5_note_96 : decode cX5_note 96 = .ok (.if_acmp .ne 14, 3) := by decide +kernel
theorem dX5_note_99 : decode cX5_note 99 = .ok (.aload_n 0, 1) := by decide +kernel
theorem dX5_note_100 : decode cX5_note 100 = .ok (.getfield 22, 3) := by decide +kernel
theorem dX5_note_103 : decode cX5_note 103 = .ok (.iload_n 2, 1) := by decide +kernel
theorem dX5_note_104 : decode cX5_note 104 = .ok (.putfield 155, 3) := by decide +kernel
theorem dX5_note_107 : decode cX5_note 107 = .ok (.goto 56, 3) := by decide +kernel
theorem dX5_note_110 : decode cX5_note 110 = .ok (.aload_n 1, 1) := by decide +kernel
theorem dX5_note_111 : decode cX5_note 111 = .ok (.getstatic 158, 3) := by decide +kernel
theorem dX5_note_114 : decode cX5_note 114 = .ok (.if_acmp .ne 14, 3) := by decide +kernel
theorem dX5_note_117 : decode cX5_note 117 = .ok (.aload_n 0, 1) := by decide +kernel
theorem dX5_note_118 : decode cX5_note 118 = .ok (.getfield 22, 3) := by decide +kernel
theorem dX5_note_121 : decode cX5_note 121 = .ok (.iload_n 2, 1) := by decide +kernel
theorem dX5_note_122 : decode cX5_note 122 = .ok (.putfield 161, 3) := by decide +kernel
theorem dX5_note_125 : decode cX5_note 125 = .ok (.goto 38, 3) := by decide +kernel
theorem dX5_note_128 : decode cX5_note 128 = .ok (.aload_n 1, 1) := by decide +kernel
theorem dX5_note_129 : decode cX5_note 129 = .ok (.getstatic 164, 3) := by decide +kernel
theorem dX5_note_132 : decode cX5_note 132 = .ok (.if_acmp .ne 16, 3) := by decide +kernel
theorem dX5_note_135 : decode cX5_note 135 = .ok (.aload_n 0, 1) := by decide +kernel
theorem dX5_note_136 : decode cX5_note 136 = .ok (.getfield 22, 3) := by decide +kernel
theorem dX5_note_139 : decode cX5_note 139 = .ok (.getfield 167, 3) := by decide +kernel
theorem dX5_note_142 : decode cX5_note 142 = .ok (.iload_n 2, 1) := by decide +kernel
theorem dX5_note_143 : decode cX5_note 143 = .ok (.iload_n 3, 1) := by decide +kernel
theorem dX5_note_144 : decode cX5_note 144 = .ok (.iastore, 1) := by decide +kernel
theorem dX5_note_145 : decode cX5_note 145 = .ok (.goto 18, 3) := by decide +kernel
theorem dX5_note_148 : decode cX5_note 148 = .ok (.aload_n 1, 1) := by decide +kernel
theorem dX5_note_149 : decode cX5_note 149 = .ok (.getstatic 171, 3) := by decide +kernel
theorem dX5_note_152 : decode cX5_note 152 = .ok (.if_acmp .ne 11, 3) := by decide +kernel
theorem dX5_note_155 : decode cX5_note 155 = .ok (.aload_n 0, 1) := by decide +kernel
theorem dX5_note_156 : decode cX5_note 156 = .ok (.getfield 22, 3) := by decide +kernel
theorem dX5_note_159 : decode cX5_note 159 = .ok (.iload_n 2, 1) := by decide +kernel
theorem dX5_note_160 : decode cX5_note 160 = .ok (.putfield 174, 3) := by decide +kernel
theorem dX5_note_163 : decode cX5_note 163 = .ok (.return_, 1) := by decide +kernel
theorem dX5_readRule_0 : decode cX5_readRule 0 = .ok (.aload_n 0, 1) := by decide +kernel
theorem dX5_readRule_1 : decode cX5_readRule 1 = .ok (.invokevirtual 50, 3) := by decide +kernel
theorem dX5_readRule_4 : decode cX5_readRule 4 = .ok (.aload_n 0, 1) := by decide +kernel
theorem dX5_readRule_5 : decode cX5_readRule 5 = .ok (.getfield 38, 3) := by decide +kernel
theorem dX5_readRule_8 : decode cX5_readRule 8 = .ok (.ifCond .eq 4, 3) := by decide +kernel
theorem dX5_readRule_11 : decode cX5_readRule 11 = .ok (.return_, 1) := by decide +kernel
theorem dX5_readRule_12 : decode cX5_readRule 12 = .ok (.aload_n 0, 1) := by decide +kernel
theorem dX5_readRule_13 : decode cX5_readRule 13 = .ok (.invokevirtual 59, 3) := by decide +kernel
theorem dX5_readRule_16 : decode cX5_readRule 16 = .ok (.astore_n 1, 1) := by decide +kernel
theorem dX5_readRule_17 : decode cX5_readRule 17 = .ok (.aload_n 1, 1) := by decide +kernel
theorem dX5_readRule_18 : decode cX5_readRule 18 = .ok (.ifnull 11, 3) := by decide +kernel
theorem dX5_readRule_21 : decode cX5_readRule 21 = .ok (.aload_n 1, 1) := by decide +kernel
theorem dX5_readRule_22 : decode cX5_readRule 22 = .ok (.getfield 63, 3) := by decide +kernel
theorem dX5_readRule_25 : decode cX5_readRule 25 = .ok (.iconst (-1), 1) := by decide +kernel
theorem dX5_readRule_26 : decode cX5_readRule 26 = .ok (.if_icmp .ne 11, 3) := by decide +kernel
theorem dX5_readRule_29 : decode cX5_readRule 29 = .ok (.aload_n 0, 1) := by decide +kernel
theorem dX5_readRule_30 : decode cX5_readRule 30 = .ok (.iconst 2, 1) := by decide +kernel
theorem dX5_readRule_31 : decode cX5_readRule 31 = .ok (.invokevirtual 68, 3) := by decide +kernel
theorem dX5_readRule_34 : decode cX5_readRule 34 = .ok (.goto 14, 3) := by decide +kernel
theorem dX5_readRule_37 : decode cX5_readRule 37 = .ok (.aload_n 0, 1) := by decide +kernel
theorem dX5_readRule_38 : decode cX5_readRule 38 = .ok (.getfield 22, 3) := by decide +kernel
theorem dX5_readRule_41 : decode cX5_readRule 41 = .ok (.aload_n 1, 1) := by decide +kernel
theorem dX5_readRule_42 : decode cX5_readRule 42 = .ok (.getfield 63, 3) := by decide +kernel
theorem dX5_readRule_45 : decode cX5_readRule 45 = .ok (.putfield 99, 3) := by decide +kernel
theorem dX5_readRule_48 : decode cX5_readRule 48 = .ok (.return_, 1) := by decide +kernel
theorem dX5_readNumbers_0 : decode cX5_readNumbers 0 = .ok (.aload_n 1, 1) := by decide +kernel
theorem dX5_readNumbers_1 : decode cX5_readNumbers 1 = .ok (.getfield 100, 3) := by decide +kernel
theorem dX5_readNumbers_4 : decode cX5_readNumbers 4 = .ok (.ifCond .le 18, 3) := by decide +kernel
theorem dX5_readNumbers_7 : decode cX5_readNumbers 7 = .ok (.aload_n 0, 1) := by decide +kernel
theorem dX5_readNumbers_8 : decode cX5_readNumbers 8 = .ok (.aload_n 1, 1) := by decide +kernel
theorem dX5_readNumbers_9 : decode cX5_readNumbers 9 = .ok (.getfield 103, 3) := by decide +kernel
theorem dX5_readNumbers_12 : decode cX5_readNumbers 12 = .ok (.aload_n 1, 1) := by decide +kernel
theorem dX5_readNumbers_13 : decode cX5_readNumbers 13 = .ok (.getfield 106, 3) := by decide +kernel
theorem dX5_readNumbers_16 : decode cX5_readNumbers 16 = .ok (.invokevirtual 109, 3) := by decide +kernel
theorem dX5_readNumbers_19 : decode cX5_readNumbers 19 = .ok (.goto 4, 3) := by decide +kernel
theorem dX5_readNumbers_22 : decode cX5_readNumbers 22 = .ok (.iconst 0, 1) := by decide +kernel
theorem dX5_readNumbers_23 : decode cX5_readNumbers 23 = .ok (.istore_n 2, 1) := by decide +kernel
theorem dX5_readNumbers_24 : decode cX5_readNumbers 24 = .ok (.aload_n 0, 1) := by decide +kernel
theorem dX5_readNumbers_25 : decode cX5_readNumbers 25 = .ok (.getfield 38, 3) := by decide +kernel
theorem dX5_readNumbers_28 : decode cX5_readNumbers 28 = .ok (.ifCond .ne 26, 3) := by decide +kernel
theorem dX5_readNumbers_31 : decode cX5_readNumbers 31 = .ok (.aload_n 1, 1) := by decide +kernel
theorem dX5_readNumbers_32 : decode cX5_readNumbers 32 = .ok (.getstatic 87, 3) := by decide +kernel
theorem dX5_readNumbers_35 : decode cX5_readNumbers 35 = .ok (.if_acmp .ne 19, 3) := by decide +kernel
theorem dX5_readNumbers_38 : decode cX5_readNumbers 38 = .ok (.aload_n 0, 1) := by decide +kernel
theorem dX5_readNumbers_39 : decode cX5_readNumbers 39 = .ok (.getfield 22, 3) := by decide +kernel
theorem dX5_readNumbers_42 : decode cX5_readNumbers 42 = .ok (.iload_n 2, 1) := by decide +kernel
theorem dX5_readNumbers_43 : decode cX5_readNumbers 43 = .ok (.invokevirtual 112, 3) := by decide +kernel
theorem dX5_readNumbers_46 : decode cX5_readNumbers 46 = .ok (.ifCond .eq 8, 3) := by decide +kernel
theorem dX5_readNumbers_49 : decode cX5_readNumbers 49 = .ok (.aload_n 0, 1) := by decide +kernel
theorem dX5_readNumbers_50 : decode cX5_readNumbers 50 = .ok (.iconst 4, 1) := by decide +kernel
theorem dX5_readNumbers_51 : decode cX5_readNumbers 51 = .ok (.invokevirtual 68, 3) := by decide +kernel
theorem dX5_readNumbers_54 : decode cX5_readNumbers 54 = .ok (.aload_n 0, 1) := by decide +kernel
theorem dX5_readNumbers_55 : decode cX5_readNumbers 55 = .ok (.getfield 38, 3) := by decide +kernel
theorem dX5_readNumbers_58 : decode cX5_readNumbers 58 = .ok (.ifCond .ne 26, 3) := by decide +kernel
theorem dX5_readNumbers_61 : decode cX5_readNumbers 61 = .ok (.aload_n 1, 1) := by decide +kernel
theorem dX5_readNumbers_62 : decode cX5_readNumbers 62 = .ok (.getfield 100, 3) := by decide +kernel
theorem dX5_readNumbers_65 : decode cX5_readNumbers 65 = .ok (.iconst 1, 1) := by decide +kernel
theorem dX5_readNumbers_66 : decode cX5_readNumbers 66 = .ok (.if_icmp .le 18, 3) := by decide +kernel
theorem dX5_readNumbers_69 : decode cX5_readNumbers 69 = .ok (.aload_n 0, 1) := by decide +kernel
theorem dX5_readNumbers_70 : decode cX5_readNumbers 70 = .ok (.aload_n 1, 1) := by decide +kernel
theorem dX5_readNumbers_71 : decode cX5_readNumbers 71 = .ok (.getfield 116, 3) := by decide +kernel
theorem dX5_readNumbers_74 : decode cX5_readNumbers 74 = .ok (.aload_n 1, 1) := by decide +kernel
theorem dX5_readNumbers_75 : decode cX5_readNumbers 75 = .ok (.getfield 119, 3) := by decide +kernel
theorem dX5_readNumbers_78 : decode cX5_readNumbers 78 = .ok (.invokevirtual 109, 3) := by decide +kernel
theorem dX5_readNumbers_81 : decode cX5_readNumbers 81 = .ok (.goto 4, 3) := by decide +kernel
theorem dX5_readNumbers_84 : decode cX5_readNumbers 84 = .ok (.iconst 0, 1) := by decide +kernel
theorem dX5_readNumbers_85 : decode cX5_readNumbers 85 = .ok (.istore_n 3, 1) := by decide +kernel
theorem dX5_readNumbers_86 : decode cX5_readNumbers 86 = .ok (.aload_n 0, 1) := by decide +kernel
theorem dX5_readNumbers_87 : decode cX5_readNumbers 87 = .ok (.getfield 38, 3) := by decide +kernel
theorem dX5_readNumbers_90 : decode cX5_readNumbers 90 = .ok (.ifCond .ne 10, 3) := by decide +kernel
theorem dX5_readNumbers_93 : decode cX5_readNumbers 93 = .ok (.aload_n 0, 1) := by decide +kernel
theorem dX5_readNumbers_94 : decode cX5_readNumbers 94 = .ok (.aload_n 1, 1) := by decide +kernel
theorem dX5_readNumbers_95 : decode cX5_readNumbers 95 = .ok (.iload_n 2, 1) := by decide +kernel
theorem dX5_readNumbers_96 : decode cX5_readNumbers 96 = .ok (.iload_n 3, 1) := by decide +kernel
theorem dX5_readNumbers_97 : decode cX5_readNumbers 97 = .ok (.invokevirtual 122, 3) := by decide +kernel
theorem dX5_readNumbers_100 : decode cX5_readNumbers 100 = .ok (.return_, 1) := by decide +kernel
theorem dX5_readLine_0 : decode cX5_readLine 0 = .ok (.aload_n 0, 1) := by decide +kernel
theorem dX5_readLine_1 : decode cX5_readLine 1 = .ok (.invokevirtual 59, 3) := by decide +kernel
theorem dX5_readLine_4 : decode cX5_readLine 4 = .ok (.astore_n 1, 1) := by decide +kernel
theorem dX5_readLine_5 : decode cX5_readLine 5 = .ok (.aload_n 1, 1) := by decide +kernel
theorem dX5_readLine_6 : decode cX5_readLine 6 = .ok (.ifnull 11, 3) := by decide +kernel
theorem dX5_readLine_9 : decode cX5_readLine 9 = .ok (.aload_n 1, 1) := by decide +kernel
theorem dX5_readLine_10 : decode cX5_readLine 10 = .ok (.getfield 63, 3) := by decide +kernel
theorem dX5_readLine_13 : decode cX5_readLine 13 = .ok (.iconst (-1), 1) := by decide +kernel
theorem dX5_readLine_14 : decode cX5_readLine 14 = .ok (.if_icmp .eq 11, 3) := by decide +kernel
theorem dX5_readLine_17 : decode cX5_readLine 17 = .ok (.aload_n 0, 1) := by decide +kernel
theorem dX5_readLine_18 : decode cX5_readLine 18 = .ok (.iconst 2, 1) := by decide +kernel
theorem dX5_readLine_19 : decode cX5_readLine 19 = .ok (.invokevirtual 68, 3) := by decide +kernel
theorem dX5_readLine_22 : decode cX5_readLine 22 = .ok (.goto 38, 3) := by decide +kernel
theorem dX5_readLine_25 : decode cX5_readLine 25 = .ok (.aload_n 0, 1) := by decide +kernel
theorem dX5_readLine_26 : decode cX5_readLine 26 = .ok (.aload_n 1, 1) := by decide +kernel
theorem dX5_readLine_27 : decode cX5_readLine 27 = .ok (.invokevirtual 72, 3) := by decide +kernel
theorem dX5_readLine_30 : decode cX5_readLine 30 = .ok (.ifCond .eq 11, 3) := by decide +kernel
theorem dX5_readLine_33 : decode cX5_readLine 33 = .ok (.aload_n 0, 1) := by decide +kernel
theorem dX5_readLine_34 : decode cX5_readLine 34 = .ok (.iconst 4, 1) := by decide +kernel
theorem dX5_readLine_35 : decode cX5_readLine 35 = .ok (.invokevirtual 68, 3) := by decide +kernel
theorem dX5_readLine_38 : decode cX5_readLine 38 = .ok (.goto 22, 3) := by decide +kernel
theorem dX5_readLine_41 : decode cX5_readLine 41 = .ok (.aload_n 1, 1) := by decide +kernel
theorem dX5_readLine_42 : decode cX5_readLine 42 = .ok (.getstatic 76, 3) := by decide +kernel
theorem dX5_readLine_45 : decode cX5_readLine 45 = .ok (.if_acmp .ne 10, 3) := by decide +kernel
theorem dX5_readLine_48 : decode cX5_readLine 48 = .ok (.aload_n 0, 1) := by decide +kernel
theorem dX5_readLine_49 : decode cX5_readLine 49 = .ok (.invokevirtual 80, 3) := by decide +kernel
theorem dX5_readLine_52 : decode cX5_readLine 52 = .ok (.goto 8, 3) := by decide +kernel
theorem dX5_readLine_55 : decode cX5_readLine 55 = .ok (.aload_n 0, 1) := by decide +kernel
theorem dX5_readLine_56 : decode cX5_readLine 56 = .ok (.aload_n 1, 1) := by decide +kernel
theorem dX5_readLine_57 : decode cX5_readLine 57 = .ok (.invokevirtual 83, 3) := by decide +kernel
theorem dX5_readLine_60 : decode cX5_readLine 60 = .ok (.aload_n 0, 1) := by decide +kernel
theorem dX5_readLine_61 : decode cX5_readLine 61 = .ok (.getfield 38, 3) := by decide +kernel
theorem dX5_readLine_64 : decode cX5_readLine 64 = .ok (.ifCond .ne 27, 3) := by decide +kernel
theorem dX5_readLine_67 : decode cX5_readLine 67 = .ok (.aload_n 0, 1) := by decide +kernel
theorem dX5_readLine_68 : decode cX5_readLine 68 = .ok (.invokevirtual 50, 3) := by decide +kernel
theorem dX5_readLine_71 : decode cX5_readLine 71 = .ok (.aload_n 0, 1) := by decide +kernel
theorem dX5_readLine_72 : decode cX5_readLine 72 = .ok (.getfield 38, 3) := by decide +kernel
theorem dX5_readLine_75 : decode cX5_readLine 75 = .ok (.ifCond .ne 16, 3) := by decide +kernel
theorem dX5_readLine_78 : decode cX5_readLine 78 = .ok (.aload_n 0, 1) := by decide +kernel
theorem dX5_readLine_79 : decode cX5_readLine 79 = .ok (.getfield 53, 3) := by decide +kernel
theorem dX5_readLine_82 : decode cX5_readLine 82 = .ok (.iconst 3, 1) := by decide +kernel
theorem dX5_readLine_83 : decode cX5_readLine 83 = .ok (.if_icmp .eq 8, 3) := by decide +kernel
theorem dX5_readLine_86 : decode cX5_readLine 86 = .ok (.aload_n 0, 1) := by decide +kernel
theorem dX5_readLine_87 : decode cX5_readLine 87 = .ok (.iconst 2, 1) := by decide +kernel
theorem dX5_readLine_88 : decode cX5_readLine 88 = .ok (.invokevirtual 68, 3) := by decide +kernel
theorem dX5_readLine_91 : decode cX5_readLine 91 = .ok (.return_, 1) := by decide +kernel
theorem s_note {l : Launch} {E : aE} {N : Nat} {S : aS} {M : aM} (hfl : l.stackTraces = false) (hC : lyC S) (f : Int → Int) (hF : CF M f) (h1 : 0 ≤ f 1 ∧ f 1 ≤ 6) (h14 : 0 ≤ f 14 ∧ f 14 ≤ 4) (k : Nat) (hk9 : k < 9) (v u : Int) (hk2 : k = 2 → f 1 < 6) (hk3 : k = 3 → f 14 < 4) (hk7 : k = 7 → 0 ≤ v ∧ v ≤ 5) : aMt l E pX5_note [(2, 17), (2, -2 - (k : Int)), (0, v), (0, u)] N S M (aU N S (fun M' => CF M' (noteF f v u k) ∧ ∀ x y : Int, ¬ (19 ≤ x ∧ x < 25) → M' x y = M x y)) := by
  refine a_met hfl rfl (by decide +kernel) (Nat.le_of_ble_eq_true rfl) ?_
  have hk : k < 13 := by omega
  refine x_aload_n (pc := 0) dX5_note_0 rfl rfl ?_
  refine x_kZ (pc := 1) dX5_note_1 (lw_ok_in (List.mem_of_getElem? (i := 955) (by decide +kernel)) rfl) (List.mem_of_getElem? (i := 0) rfl) (Or.inr ⟨rfl, by decide⟩) ?_
  refine x_kacmp_ne (j := k) (k := 0) (tgt := 18) (pc := 4) dX5_note_4 (by decide) rfl (by decide) hk (by decide) (fun c_4 => ?_) (fun c_4 => ?_)
  · refine x_aload_n (pc := 18) dX5_note_18 rfl rfl ?_
    refine x_kZ (pc := 19) dX5_note_19 (lw_ok_in (List.mem_of_getElem? (i := 957) (by decide +kernel)) rfl) (List.mem_of_getElem? (i := 1) rfl) (Or.inr ⟨rfl, by decide⟩) ?_
    refine x_kacmp_ne (j := k) (k := 1) (tgt := 36) (pc := 22) dX5_note_22 (by decide) rfl (by decide) hk (by decide) (fun c_22 => ?_) (fun c_22 => ?_)
    · refine x_aload_n (pc := 36) dX5_note_36 rfl rfl ?_
      refine x_kZ (pc := 37) dX5_note_37 (lw_ok_in (List.mem_of_getElem? (i := 929) (by decide +kernel)) rfl) (List.mem_of_getElem? (i := 2) rfl) (Or.inr ⟨rfl, by decide⟩) ?_
      refine x_kacmp_ne (j := k) (k := 2) (tgt := 55) (pc := 40) dX5_note_40 (by decide) rfl (by decide) hk (by decide) (fun c_40 => ?_) (fun c_40 => ?_)
      · refine x_aload_n (pc := 55) dX5_note_55 rfl rfl ?_
        refine x_kZ (pc := 56) dX5_note_56 (lw_ok_in (List.mem_of_getElem? (i := 931) (by decide +kernel)) rfl) (List.mem_of_getElem? (i := 3) rfl) (Or.inr ⟨rfl, by decide⟩) ?_
        refine x_kacmp_ne (j := k) (k := 3) (tgt := 74) (pc := 59) dX5_note_59 (by decide) rfl (by decide) hk (by decide) (fun c_59 => ?_) (fun c_59 => ?_)
        · refine x_aload_n (pc := 74) dX5_note_74 rfl rfl ?_
          refine x_kZ (pc := 75) dX5_note_75 (lw_ok_in (List.mem_of_getElem? (i := 967) (by decide +kernel)) rfl) (List.mem_of_getElem? (i := 4) rfl) (Or.inr ⟨rfl, by decide⟩) ?_
          refine x_kacmp_ne (j := k) (k := 4) (tgt := 92) (pc := 78) dX5_note_78 (by decide) rfl (by decide) hk (by decide) (fun c_78 => ?_) (fun c_78 => ?_)
          · refine x_aload_n (pc := 92) dX5_note_92 rfl rfl ?_
            refine x_kZ (pc := 93) dX5_note_93 (lw_ok_in (List.mem_of_getElem? (i := 969) (by decide +kernel)) rfl) (List.mem_of_getElem? (i := 5) rfl) (Or.inr ⟨rfl, by decide⟩) ?_
            refine x_kacmp_ne (j := k) (k := 5) (tgt := 110) (pc := 96) dX5_note_96 (by decide) rfl (by decide) hk (by decide) (fun c_96 => ?_) (fun c_96 => ?_)
            · refine x_aload_n (pc := 110) dX5_note_110 rfl rfl ?_
              refine x_kZ (pc := 111) dX5_note_111 (lw_ok_in (List.mem_of_getElem? (i := 971) (by decide +kernel)) rfl) (List.mem_of_getElem? (i := 6) rfl) (Or.inr ⟨rfl, by decide⟩) ?_
              refine x_kacmp_ne (j := k) (k := 6) (tgt := 128) (pc := 114) dX5_note_114 (by decide) rfl (by decide) hk (by decide) (fun c_114 => ?_) (fun c_114 => ?_)
              · refine x_aload_n (pc := 128) dX5_note_128 rfl rfl ?_
                refine x_kZ (pc := 129) dX5_note_129 (lw_ok_in (List.mem_of_getElem? (i := 973) (by decide +kernel)) rfl) (List.mem_of_getElem? (i := 7) rfl) (Or.inr ⟨rfl, by decide⟩) ?_
                refine x_kacmp_ne (j := k) (k := 7) (tgt := 148) (pc := 132) dX5_note_132 (by decide) rfl (by decide) hk (by decide) (fun c_132 => ?_) (fun c_132 => ?_)
                · refine x_aload_n (pc := 148) dX5_note_148 rfl rfl ?_
                  refine x_kZ (pc := 149) dX5_note_149 (lw_ok_in (List.mem_of_getElem? (i := 975) (by decide +kernel)) rfl) (List.mem_of_getElem? (i := 8) rfl) (Or.inr ⟨rfl, by decide⟩) ?_
                  refine x_kacmp_ne (j := k) (k := 8) (tgt := 163) (pc := 152) dX5_note_152 (by decide) rfl (by decide) hk (by decide) (fun c_152 => ?_) (fun c_152 => ?_)
                  · refine x_return (pc := 163) dX5_note_163 rfl (by decide) ?_
                    exfalso; omega
                  · refine x_aload_n (pc := 155) dX5_note_155 rfl rfl ?_
                    refine x_getR (jj := 5) (pc := 156) dX5_note_156 fX5_22 (sC_17 hC) rfl (by decide) rfl rC_17_5 ?_
                    refine x_iload_n (pc := 159) dX5_note_159 rfl rfl ?_
                    refine x_putI (jj := 11) (pc := 160) dX5_note_160 fX5_174 (hC.2.2.1).1 rfl (by decide) rfl ?_
                    refine x_return (pc := 163) dX5_note_163 rfl (by decide) ?_
                    subst c_152
                    have e9 : CF (up M 19 11 (v)) (fU f (32) (v)) := hF.one h1.2 h14.2 (by omega)
                    exact ⟨rfl, rfl, rfl, e9, fun x y q => up_w (by omega)⟩
                · have h7 := hk7 c_132
                  refine x_aload_n (pc := 135) dX5_note_135 rfl rfl ?_
                  refine x_getR (jj := 5) (pc := 136) dX5_note_136 fX5_22 (sC_17 hC) rfl (by decide) rfl rC_17_5 ?_
                  refine x_getR (jj := 10) (pc := 139) dX5_note_139 fX5_167 (hC.2.2.1).1 rfl (by decide) rfl rT_10 ?_
                  refine x_iload_n (pc := 142) dX5_note_142 rfl rfl ?_
                  refine x_iload_n (pc := 143) dX5_note_143 rfl rfl ?_
                  refine x_iastore (pc := 144) dX5_note_144 (hC.2.2.1).2.2.2.2.2 (by omega) ?_
                  refine x_goto (tgt := 163) (pc := 145) dX5_note_145 (by decide) ?_
                  refine x_return (pc := 163) dX5_note_163 rfl (by decide) ?_
                  have h7 := hk7 c_132
                  subst c_132
                  have e9 : CF (up M 24 v (u)) (fU f (26 + v) (u)) := hF.one h1.2 h14.2 (by omega)
                  exact ⟨rfl, rfl, rfl, e9, fun x y q => up_w (by omega)⟩
              · refine x_aload_n (pc := 117) dX5_note_117 rfl rfl ?_
                refine x_getR (jj := 5) (pc := 118) dX5_note_118 fX5_22 (sC_17 hC) rfl (by decide) rfl rC_17_5 ?_
                refine x_iload_n (pc := 121) dX5_note_121 rfl rfl ?_
                refine x_putI (jj := 9) (pc := 122) dX5_note_122 fX5_161 (hC.2.2.1).1 rfl (by decide) rfl ?_
                refine x_goto (tgt := 163) (pc := 125) dX5_note_125 (by decide) ?_
                refine x_return (pc := 163) dX5_note_163 rfl (by decide) ?_
                subst c_114
                have e9 : CF (up M 19 9 (v)) (fU f (25) (v)) := hF.one h1.2 h14.2 (by omega)
                exact ⟨rfl, rfl, rfl, e9, fun x y q => up_w (by omega)⟩
            · refine x_aload_n (pc := 99) dX5_note_99 rfl rfl ?_
              refine x_getR (jj := 5) (pc := 100) dX5_note_100 fX5_22 (sC_17 hC) rfl (by decide) rfl rC_17_5 ?_
              refine x_iload_n (pc := 103) dX5_note_103 rfl rfl ?_
              refine x_putI (jj := 8) (pc := 104) dX5_note_104 fX5_155 (hC.2.2.1).1 rfl (by decide) rfl ?_
              refine x_goto (tgt := 163) (pc := 107) dX5_note_107 (by decide) ?_
              refine x_return (pc := 163) dX5_note_163 rfl (by decide) ?_
              subst c_96
              have e9 : CF (up M 19 8 (v)) (fU f (24) (v)) := hF.one h1.2 h14.2 (by omega)
              exact ⟨rfl, rfl, rfl, e9, fun x y q => up_w (by omega)⟩
          · refine x_aload_n (pc := 81) dX5_note_81 rfl rfl ?_
            refine x_getR (jj := 5) (pc := 82) dX5_note_82 fX5_22 (sC_17 hC) rfl (by decide) rfl rC_17_5 ?_
            refine x_iload_n (pc := 85) dX5_note_85 rfl rfl ?_
            refine x_putI (jj := 7) (pc := 86) dX5_note_86 fX5_149 (hC.2.2.1).1 rfl (by decide) rfl ?_
            refine x_goto (tgt := 163) (pc := 89) dX5_note_89 (by decide) ?_
            refine x_return (pc := 163) dX5_note_163 rfl (by decide) ?_
            subst c_78
            have e9 : CF (up M 19 7 (v)) (fU f (23) (v)) := hF.one h1.2 h14.2 (by omega)
            exact ⟨rfl, rfl, rfl, e9, fun x y q => up_w (by omega)⟩
        · refine x_aload_n (pc := 62) dX5_note_62 rfl rfl ?_
          refine x_getR (jj := 5) (pc := 63) dX5_note_63 fX5_22 (sC_17 hC) rfl (by decide) rfl rC_17_5 ?_
          refine x_iload_n (pc := 66) dX5_note_66 rfl rfl ?_
          refine x_iload_n (pc := 67) dX5_note_67 rfl rfl ?_
          refine x_callV2 (pc := 68) dX5_note_68 rfl kX5_143 (s_addCart hfl hC v u (f 14) hF.2.2.2.1 ⟨h14.1, hk3 c_59⟩) (hC.2.2.1).1 rfl rfl (Nat.le_of_ble_eq_true rfl) (k_U (fun M9 hM9 => ?_)) n_U
          subst hM9
          refine x_goto (tgt := 163) (pc := 71) dX5_note_71 (by decide) ?_
          refine x_return (pc := 163) dX5_note_163 rfl (by decide) ?_
          have h3 := hk3 c_59
          subst c_59
          exact ⟨rfl, rfl, rfl, (show CF _ (fU (fU (fU f (15 + f 14) v) (19 + f 14) u) 14 (f 14 + 1)) from hF.crt ⟨h14.1, h3⟩ h1.2), fun x y q => by rw [up_w (by omega), up_w (by omega), up_w (by omega)]⟩
      · refine x_aload_n (pc := 43) dX5_note_43 rfl rfl ?_
        refine x_getR (jj := 5) (pc := 44) dX5_note_44 fX5_22 (sC_17 hC) rfl (by decide) rfl rC_17_5 ?_
        refine x_iload_n (pc := 47) dX5_note_47 rfl rfl ?_
        refine x_iload_n (pc := 48) dX5_note_48 rfl rfl ?_
        refine x_callV2 (pc := 49) dX5_note_49 rfl kX5_139 (s_addStep hfl 19 v u (f 1) hC.2.2.1 hF.2.1 ⟨h1.1, hk2 c_40⟩) (hC.2.2.1).1 rfl rfl (Nat.le_of_ble_eq_true rfl) (k_U (fun M9 hM9 => ?_)) n_U
        subst hM9
        refine x_goto (tgt := 163) (pc := 52) dX5_note_52 (by decide) ?_
        refine x_return (pc := 163) dX5_note_163 rfl (by decide) ?_
        have h3 := hk2 c_40
        subst c_40
        exact ⟨rfl, rfl, rfl, (show CF _ (fU (fU (fU f (2 + f 1) v) (8 + f 1) u) 1 (f 1 + 1)) from hF.stp ⟨h1.1, h3⟩ h14.2), fun x y q => by rw [up_w (by omega), up_w (by omega), up_w (by omega)]⟩
    · refine x_aload_n (pc := 25) dX5_note_25 rfl rfl ?_
      refine x_getR (jj := 5) (pc := 26) dX5_note_26 fX5_22 (sC_17 hC) rfl (by decide) rfl rC_17_5 ?_
      refine x_iconst (pc := 29) dX5_note_29 (by decide) ?_
      refine x_putZ (jj := 0) (pc := 30) dX5_note_30 fX5_132 (hC.2.2.1).1 rfl (by decide) rfl (by omega) ?_
      refine x_goto (tgt := 163) (pc := 33) dX5_note_33 (by decide) ?_
      refine x_return (pc := 163) dX5_note_163 rfl (by decide) ?_
      subst c_22
      have e9 : CF (up M 19 0 (1)) (fU f (0) (1)) := hF.one h1.2 h14.2 (by omega)
      exact ⟨rfl, rfl, rfl, e9, fun x y q => up_w (by omega)⟩
  · refine x_aload_n (pc := 7) dX5_note_7 rfl rfl ?_
    refine x_getR (jj := 5) (pc := 8) dX5_note_8 fX5_22 (sC_17 hC) rfl (by decide) rfl rC_17_5 ?_
    refine x_iconst (pc := 11) dX5_note_11 (by decide) ?_
    refine x_putZ (jj := 0) (pc := 12) dX5_note_12 fX5_132 (hC.2.2.1).1 rfl (by decide) rfl (by omega) ?_
    refine x_goto (tgt := 163) (pc := 15) dX5_note_15 (by decide) ?_
    refine x_return (pc := 163) dX5_note_163 rfl (by decide) ?_
    subst c_4
    have e9 : CF (up M 19 0 (0)) (fU f (0) (0)) := hF.one h1.2 h14.2 (by omega)
    exact ⟨rfl, rfl, rfl, e9, fun x y q => up_w (by omega)⟩
theorem s_readRuleC {l : Launch} {E : aE} {N : Nat} {S : aS} {M : aM} (hfl : l.stackTraces = false) (hC : lyC S) (T : Int → Int) (n : Int) (hB : CB M T n) (hn : 0 ≤ n ∧ n ≤ 300) (f : Int → Int) (hF : CF M f) (h1 : 0 ≤ f 1 ∧ f 1 ≤ 6) (h14 : 0 ≤ f 14 ∧ f 14 ≤ 4) (a : Int) (ha : 0 ≤ a ∧ a ≤ n) (h9 : M 17 9 = a) (hk0 : M 17 2 = 0) (hp : M 17 3 = -1) : aMt l E pX5_readRule [(2, 17)] N S M (aU N S (fun M' => RESc M' (ruleM T n a f) ∧ frZc M M')) := by
  refine a_met hfl rfl (by decide +kernel) (Nat.le_of_ble_eq_true rfl) ?_
  refine x_aload_n (pc := 0) dX5_readRule_0 rfl rfl ?_
  refine x_callV0 (pc := 1) dX5_readRule_1 rfl kX5_50 (s_advance hfl hC T n hB hn a ha h9 hk0) (sC_17 hC) rfl rfl (Nat.le_of_ble_eq_true rfl) (k_U (fun M1 hM1 => ?_)) n_U
  obtain ⟨⟨t1, t2⟩, f1, p1⟩ := hM1
  refine x_aload_n (pc := 4) dX5_readRule_4 rfl rfl ?_
  refine x_getIV (jj := 2) (pc := 5) dX5_readRule_5 fX5_38 (sC_17 hC) rfl (by decide) rfl (by (repeat (first | rewrite [up_s] | rewrite [up_i (by omega)] | rewrite [up_a (by omega)])); rfl) ?_
  refine x_if_eq (tgt := 12) (pc := 8) dX5_readRule_8 (by decide) (fun c_8 => ?_) (fun c_8 => ?_)
  · refine x_aload_n (pc := 12) dX5_readRule_12 rfl rfl ?_
    have h4 : tK T n a ≠ 4 := fun z => by have := (t1 z).1; omega
    obtain ⟨g1, g2, g3, g4, g5⟩ := t2 h4
    have g0 := (p1 h4).trans hp
    have hB1 := hB.r f1
    refine x_callV0 (pc := 13) dX5_readRule_13 rfl kX5_59 (s_wordHere hfl hC T n hB1 hn a ha g2 g3 g4) (sC_17 hC) rfl rfl (Nat.le_of_ble_eq_true rfl) (k_R ?_) n_R
    refine x_astore_n (pc := 16) dX5_readRule_16 rfl (by decide) rfl ?_
    refine x_aload_n (pc := 17) dX5_readRule_17 rfl rfl ?_
    refine x_ifnull (tgt := 29) (pc := 18) dX5_readRule_18 (by decide) (fun c_18 => ?_) (fun c_18 => ?_)
    · refine x_aload_n (pc := 29) dX5_readRule_29 rfl rfl ?_
      refine x_iconst (pc := 30) dX5_readRule_30 (by decide) ?_
      refine x_callV1 (pc := 31) dX5_readRule_31 rfl kX5_68 (s_blame hfl hC 2) (sC_17 hC) rfl rfl (Nat.le_of_ble_eq_true rfl) (k_U (fun M9 hM9 => ?_)) n_U
      subst hM9
      refine x_goto (tgt := 48) (pc := 34) dX5_readRule_34 (by decide) ?_
      refine x_return (pc := 48) dX5_readRule_48 rfl (by decide) ?_
      have hn1 : ¬ (tK T n a = 1 ∧ 10 ≤ wIx T (tB T n a) (tE T n a)) := fun q => by rw [if_pos q.1] at c_18; omega
      exact ⟨rfl, rfl, rfl, RESc.bad (k := 2) (p := tB T n a) (by unfold ruleM errR; rw [if_neg hn1, if_neg h4]) (by decide) (by rw [up_i (by omega), up_s]) (by rw [up_s]; exact g3), f1.k.bl⟩
    · have h1k : tK T n a = 1 := by
        by_cases z : tK T n a = 1
        · exact z
        · rw [if_neg z] at c_18; exact absurd rfl c_18
      rw [if_pos h1k] at c_18
      have hw9 := wIx_r T (tB T n a) (tE T n a)
      obtain ⟨k, hk, ek⟩ : ∃ k : Nat, k < 13 ∧ wIx T (tB T n a) (tE T n a) = (k : Int) := ⟨(wIx T (tB T n a) (tE T n a)).toNat, by omega, by omega⟩
      have hu := wW_u k hk
      refine x_lo (lo' := [(0, (2, 17)), (1, (2, -2 - (k : Int)))]) ⟨rfl, by rw [if_pos h1k, ek]; rfl, trivial⟩ ?_
      refine x_aload_n (pc := 21) dX5_readRule_21 rfl rfl ?_
      refine x_kF (pc := 22) dX5_readRule_22 (lw_ok_in (List.mem_of_getElem? (i := 2146) (by decide +kernel)) rfl) (hkW5 k hk) rfl (wok k hk 5 (by decide)) ?_
      refine x_iconst (pc := 25) dX5_readRule_25 (by decide) ?_
      refine x_icmp_ne (tgt := 37) (pc := 26) dX5_readRule_26 (by decide) (fun c_26 => ?_) (fun c_26 => ?_)
      · refine x_aload_n (pc := 37) dX5_readRule_37 rfl rfl ?_
        refine x_getR (jj := 5) (pc := 38) dX5_readRule_38 fX5_22 (sC_17 hC) rfl (by decide) rfl rC_17_5 ?_
        refine x_aload_n (pc := 41) dX5_readRule_41 rfl rfl ?_
        refine x_kF (pc := 42) dX5_readRule_42 (lw_ok_in (List.mem_of_getElem? (i := 2146) (by decide +kernel)) rfl) (hkW5 k hk) rfl (wok k hk 5 (by decide)) ?_
        refine x_putI (jj := 12) (pc := 45) dX5_readRule_45 fX5_99 (hC.2.2.1).1 rfl (by decide) rfl ?_
        refine x_return (pc := 48) dX5_readRule_48 rfl (by decide) ?_
        have hu2 : 10 ≤ k ∧ wW k 5 = (k : Int) - 10 := by omega
        exact ⟨rfl, rfl, rfl, RESc.ok (a := tE T n a) (f := fU f 33 (k - 10)) (by unfold ruleM; rw [if_pos ⟨h1k, by omega⟩, ek]) ((up_a (by omega)).trans g1) ((up_a (by omega)).trans g4) (by rw [hu2.2]; exact (hF.r f1).one h1.2 h14.2 (by omega)) ((up_a (by omega)).trans g0), fun x y q r => (up_a (by omega)).trans (f1 x y q)⟩
      · refine x_aload_n (pc := 29) dX5_readRule_29 rfl rfl ?_
        refine x_iconst (pc := 30) dX5_readRule_30 (by decide) ?_
        refine x_callV1 (pc := 31) dX5_readRule_31 rfl kX5_68 (s_blame hfl hC 2) (sC_17 hC) rfl rfl (Nat.le_of_ble_eq_true rfl) (k_U (fun M9 hM9 => ?_)) n_U
        subst hM9
        refine x_goto (tgt := 48) (pc := 34) dX5_readRule_34 (by decide) ?_
        refine x_return (pc := 48) dX5_readRule_48 rfl (by decide) ?_
        have hn1 : ¬ (tK T n a = 1 ∧ 10 ≤ wIx T (tB T n a) (tE T n a)) := fun q => by rw [ek] at q; omega
        exact ⟨rfl, rfl, rfl, RESc.bad (k := 2) (p := tB T n a) (by unfold ruleM errR; rw [if_neg hn1, if_neg h4]) (by decide) (by rw [up_i (by omega), up_s]) (by rw [up_s]; exact g3), f1.k.bl⟩
  · refine x_return (pc := 11) dX5_readRule_11 rfl (by decide) ?_
    have h4 : tK T n a = 4 := by
      by_cases z : tK T n a = 4
      · exact z
      · exact absurd (t2 z).1 c_8
    exact ⟨rfl, rfl, rfl, RESc.bad (k := 1) (p := tB T n a) (by unfold ruleM errR; rw [if_neg (by omega), if_pos h4]) (by decide) (t1 h4).1 (t1 h4).2, f1.k⟩
theorem s_readNumbersC {l : Launch} {E : aE} {N : Nat} {S : aS} {M : aM} (hfl : l.stackTraces = false) (hC : lyC S) (T : Int → Int) (n : Int) (hB : CB M T n) (hn : 0 ≤ n ∧ n ≤ 300) (f : Int → Int) (hF : CF M f) (h1 : 0 ≤ f 1 ∧ f 1 ≤ 6) (h14 : 0 ≤ f 14 ∧ f 14 ≤ 4) (a : Int) (ha : 0 ≤ a ∧ a ≤ n) (h9 : M 17 9 = a) (hk0 : M 17 2 = 0) (hp : M 17 3 = -1) (k : Nat) (hk9 : k < 9) (hs2 : k = 2 → f 1 < 6) (hs3 : k = 3 → f 14 < 4) : aMt l E pX5_readNumbers [(2, 17), (2, -2 - (k : Int))] N S M (aU N S (fun M' => RESc M' (genM T n a f k) ∧ frZc M M')) := by
  refine a_met hfl rfl (by decide +kernel) (Nat.le_of_ble_eq_true rfl) ?_
  have hk : k < 13 := by omega
  have hn0 := wW_n k hk9
  have Jb : ∀ (v : Int) (M1 : aM), RESc M1 (genM T n a f k) → frZc M M1 → M1 17 2 ≠ 0 → aX l E pX5_readNumbers (aU N S (fun M' => RESc M' (genM T n a f k) ∧ frZc M M')) 0 0 N S M1 54 [(0, (2, 17)), (1, (2, -2 - (k : Int))), (2, (0, v))] [] := by
    intro v M1 hr hf hz
    refine x_aload_n (pc := 54) dX5_readNumbers_54 rfl rfl ?_
    refine x_getIV (jj := 2) (pc := 55) dX5_readNumbers_55 fX5_38 (sC_17 hC) rfl (by decide) rfl (by (repeat (first | rewrite [up_s] | rewrite [up_i (by omega)] | rewrite [up_a (by omega)])); rfl) ?_
    refine x_if_ne (tgt := 84) (pc := 58) dX5_readNumbers_58 (by decide) (fun c_58 => ?_) (fun c_58 => ?_)
    · refine x_iconst (pc := 84) dX5_readNumbers_84 (by decide) ?_
      refine x_istore_n (pc := 85) dX5_readNumbers_85 rfl (by decide) rfl ?_
      refine x_aload_n (pc := 86) dX5_readNumbers_86 rfl rfl ?_
      refine x_getIV (jj := 2) (pc := 87) dX5_readNumbers_87 fX5_38 (sC_17 hC) rfl (by decide) rfl (by (repeat (first | rewrite [up_s] | rewrite [up_i (by omega)] | rewrite [up_a (by omega)])); rfl) ?_
      refine x_if_ne (tgt := 100) (pc := 90) dX5_readNumbers_90 (by decide) (fun c_90 => ?_) (fun c_90 => ?_)
      · refine x_return (pc := 100) dX5_readNumbers_100 rfl (by decide) ?_
        exact ⟨rfl, rfl, rfl, hr, hf⟩
      · exact absurd c_90 hz
    · exact absurd c_58 hz
  have J54 : ∀ (v : Int) (M1 : aM) (e1 : Int), M1 17 2 = 0 → M1 17 9 = e1 → M1 17 3 = -1 → CF M1 f → frZc M M1 → 0 ≤ e1 ∧ e1 ≤ n → (k = 7 → 0 ≤ v ∧ v ≤ 5) → (genM T n a f k) = (if wW k 0 ≤ 1 then okM e1 (noteF f v 0 k) else numR T n e1 (wW k 3) (wW k 4) fun u e2 => okM e2 (noteF f v u k)) → aX l E pX5_readNumbers (aU N S (fun M' => RESc M' (genM T n a f k) ∧ frZc M M')) 0 0 N S M1 54 [(0, (2, 17)), (1, (2, -2 - (k : Int))), (2, (0, v))] [] := by
    intro v M1 e1 h2 h9' h3' hF1 hf he1 hv7 eg
    have hB1 := hB.k hf
    refine x_aload_n (pc := 54) dX5_readNumbers_54 rfl rfl ?_
    refine x_getIV (jj := 2) (pc := 55) dX5_readNumbers_55 fX5_38 (sC_17 hC) rfl (by decide) rfl (by (repeat (first | rewrite [up_s] | rewrite [up_i (by omega)] | rewrite [up_a (by omega)])); first | exact h2 | exact n1 | rfl) ?_
    refine x_if_ne (tgt := 84) (pc := 58) dX5_readNumbers_58 (by decide) (fun c_58 => ?_) (fun c_58 => ?_)
    · exact absurd rfl c_58
    · refine x_aload_n (pc := 61) dX5_readNumbers_61 rfl rfl ?_
      refine x_kF (pc := 62) dX5_readNumbers_62 (lw_ok_in (List.mem_of_getElem? (i := 2147) (by decide +kernel)) rfl) (hkW0 k hk) rfl (wok k hk 0 (by decide)) ?_
      refine x_iconst (pc := 65) dX5_readNumbers_65 (by decide) ?_
      refine x_icmp_le (tgt := 84) (pc := 66) dX5_readNumbers_66 (by decide) (fun c_66 => ?_) (fun c_66 => ?_)
      · have hle : wW k 0 ≤ 1 := by omega
        refine x_iconst (pc := 84) dX5_readNumbers_84 (by decide) ?_
        refine x_istore_n (pc := 85) dX5_readNumbers_85 rfl (by decide) rfl ?_
        refine x_aload_n (pc := 86) dX5_readNumbers_86 rfl rfl ?_
        refine x_getIV (jj := 2) (pc := 87) dX5_readNumbers_87 fX5_38 (sC_17 hC) rfl (by decide) rfl (by (repeat (first | rewrite [up_s] | rewrite [up_i (by omega)] | rewrite [up_a (by omega)])); first | exact h2 | rfl) ?_
        refine x_if_ne (tgt := 100) (pc := 90) dX5_readNumbers_90 (by decide) (fun c_90 => ?_) (fun c_90 => ?_)
        · refine x_return (pc := 100) dX5_readNumbers_100 rfl (by decide) ?_
          exact absurd rfl c_90
        · refine x_aload_n (pc := 93) dX5_readNumbers_93 rfl rfl ?_
          refine x_aload_n (pc := 94) dX5_readNumbers_94 rfl rfl ?_
          refine x_iload_n (pc := 95) dX5_readNumbers_95 rfl rfl ?_
          refine x_iload_n (pc := 96) dX5_readNumbers_96 rfl rfl ?_
          refine x_callV3 (pc := 97) dX5_readNumbers_97 rfl kX5_122 (s_note hfl hC f (hF1) h1 h14 k hk9 v 0 hs2 hs3 hv7) (sC_17 hC) rfl rfl (Nat.le_of_ble_eq_true rfl) (k_U (fun M9 hM9 => ?_)) n_U
          obtain ⟨cf9, f9⟩ := hM9
          have k9 : ∀ x y : Int, ¬ (19 ≤ x ∧ x < 25) → M9 x y = M1 x y := f9
          refine x_return (pc := 100) dX5_readNumbers_100 rfl (by decide) ?_
          exact ⟨rfl, rfl, rfl, RESc.ok (by rw [eg, if_pos hle]) ((k9 _ _ (by omega)).trans h2) ((k9 _ _ (by omega)).trans h9') cf9 ((k9 _ _ (by omega)).trans h3'), hf.tr fun x y q r => k9 x y r⟩
      · refine x_aload_n (pc := 69) dX5_readNumbers_69 rfl rfl ?_
        refine x_aload_n (pc := 70) dX5_readNumbers_70 rfl rfl ?_
        refine x_kF (pc := 71) dX5_readNumbers_71 (lw_ok_in (List.mem_of_getElem? (i := 2150) (by decide +kernel)) rfl) (hkW3 k hk) rfl (wok k hk 3 (by decide)) ?_
        refine x_aload_n (pc := 74) dX5_readNumbers_74 rfl rfl ?_
        refine x_kF (pc := 75) dX5_readNumbers_75 (lw_ok_in (List.mem_of_getElem? (i := 2151) (by decide +kernel)) rfl) (hkW4 k hk) rfl (wok k hk 4 (by decide)) ?_
        have hle : ¬ wW k 0 ≤ 1 := by omega
        refine x_callV2 (pc := 78) dX5_readNumbers_78 rfl kX5_109 (s_readNumber hfl hC T n hB1 hn (wW k 3) (wW k 4) e1 he1 h9' h2) (sC_17 hC) rfl rfl (Nat.le_of_ble_eq_true rfl) (k_G (fun v9 M2 hM2 => ?_)) n_G
        obtain ⟨rfl, n1, n2, n3, n4⟩ := hM2
        refine x_goto (tgt := 85) (pc := 81) dX5_readNumbers_81 (by decide) ?_
        refine x_istore_n (pc := 85) dX5_readNumbers_85 rfl (by decide) rfl ?_
        refine x_aload_n (pc := 86) dX5_readNumbers_86 rfl rfl ?_
        refine x_getIV (jj := 2) (pc := 87) dX5_readNumbers_87 fX5_38 (sC_17 hC) rfl (by decide) rfl (by (repeat (first | rewrite [up_s] | rewrite [up_i (by omega)] | rewrite [up_a (by omega)])); first | exact h2 | exact n1 | rfl) ?_
        refine x_if_ne (tgt := 100) (pc := 90) dX5_readNumbers_90 (by decide) (fun c_90 => ?_) (fun c_90 => ?_)
        · refine x_return (pc := 100) dX5_readNumbers_100 rfl (by decide) ?_
          have hz : numE T n e1 (wW k 3) (wW k 4) ≠ 0 := c_90
          have hno := numR_no (k := fun u e2 => okM e2 (noteF f v u k)) hz
          exact ⟨rfl, rfl, rfl, RESc.bad (by rw [eg, if_neg hle]; exact hno) hz n1 (n2 hz), hf.tr n4.k⟩
        · refine x_aload_n (pc := 93) dX5_readNumbers_93 rfl rfl ?_
          refine x_aload_n (pc := 94) dX5_readNumbers_94 rfl rfl ?_
          refine x_iload_n (pc := 95) dX5_readNumbers_95 rfl rfl ?_
          refine x_iload_n (pc := 96) dX5_readNumbers_96 rfl rfl ?_
          refine x_callV3 (pc := 97) dX5_readNumbers_97 rfl kX5_122 (s_note hfl hC f (hF1.r n4) h1 h14 k hk9 v (M2 17 10) hs2 hs3 hv7) (sC_17 hC) rfl rfl (Nat.le_of_ble_eq_true rfl) (k_U (fun M9 hM9 => ?_)) n_U
          obtain ⟨cf9, f9⟩ := hM9
          have k9 : ∀ x y : Int, ¬ (19 ≤ x ∧ x < 25) → M9 x y = M2 x y := f9
          refine x_return (pc := 100) dX5_readNumbers_100 rfl (by decide) ?_
          have hz : numE T n e1 (wW k 3) (wW k 4) = 0 := c_90
          obtain ⟨m1, m2, m3, m4⟩ := n3 hz
          have hy := (numR_yes (k := fun u e2 => okM e2 (noteF f v u k)) hz).1
          exact ⟨rfl, rfl, rfl, RESc.ok (a := tE T n e1) (f := noteF f v (tV T n e1) k) (by rw [eg, if_neg hle]; exact hy) ((k9 _ _ (by omega)).trans (n1.trans hz)) ((k9 _ _ (by omega)).trans m2) (by rw [← m1]; exact cf9) ((k9 _ _ (by omega)).trans (m4.trans h3')), hf.tr (n4.k.tr fun x y q r => k9 x y r)⟩
  refine x_aload_n (pc := 0) dX5_readNumbers_0 rfl rfl ?_
  refine x_kF (pc := 1) dX5_readNumbers_1 (lw_ok_in (List.mem_of_getElem? (i := 2147) (by decide +kernel)) rfl) (hkW0 k hk) rfl (wok k hk 0 (by decide)) ?_
  refine x_if_le (tgt := 22) (pc := 4) dX5_readNumbers_4 (by decide) (fun c_4 => ?_) (fun c_4 => ?_)
  · have h00 : wW k 0 = 0 := by omega
    refine x_iconst (pc := 22) dX5_readNumbers_22 (by decide) ?_
    refine x_istore_n (pc := 23) dX5_readNumbers_23 rfl (by decide) rfl ?_
    refine x_aload_n (pc := 24) dX5_readNumbers_24 rfl rfl ?_
    refine x_getIV (jj := 2) (pc := 25) dX5_readNumbers_25 fX5_38 (sC_17 hC) rfl (by decide) rfl (by (repeat (first | rewrite [up_s] | rewrite [up_i (by omega)] | rewrite [up_a (by omega)])); first | exact hk0 | rfl) ?_
    refine x_if_ne (tgt := 54) (pc := 28) dX5_readNumbers_28 (by decide) (fun c_28 => ?_) (fun c_28 => ?_)
    · exact absurd rfl c_28
    · refine x_aload_n (pc := 31) dX5_readNumbers_31 rfl rfl ?_
      refine x_kZ (pc := 32) dX5_readNumbers_32 (lw_ok_in (List.mem_of_getElem? (i := 929) (by decide +kernel)) rfl) (List.mem_of_getElem? (i := 2) rfl) (Or.inr ⟨rfl, by decide⟩) ?_
      refine x_kacmp_ne (j := k) (k := 2) (tgt := 54) (pc := 35) dX5_readNumbers_35 (by decide) rfl (by decide) hk (by decide) (fun c_35 => ?_) (fun c_35 => ?_)
      · exact x_lo (lo' := [(0, (2, 17)), (1, (2, -2 - (k : Int))), (2, (0, 0))]) ⟨rfl, rfl, rfl, trivial⟩ (J54 0 M a hk0 h9 hp hF frZc.rf ha (fun q => by omega) (by unfold genM; rw [if_pos h00, if_pos (by omega)]))
      · exfalso; omega
  · refine x_aload_n (pc := 7) dX5_readNumbers_7 rfl rfl ?_
    refine x_aload_n (pc := 8) dX5_readNumbers_8 rfl rfl ?_
    refine x_kF (pc := 9) dX5_readNumbers_9 (lw_ok_in (List.mem_of_getElem? (i := 2148) (by decide +kernel)) rfl) (hkW1 k hk) rfl (wok k hk 1 (by decide)) ?_
    refine x_aload_n (pc := 12) dX5_readNumbers_12 rfl rfl ?_
    refine x_kF (pc := 13) dX5_readNumbers_13 (lw_ok_in (List.mem_of_getElem? (i := 2149) (by decide +kernel)) rfl) (hkW2 k hk) rfl (wok k hk 2 (by decide)) ?_
    have h00 : wW k 0 ≠ 0 := by omega
    have eg0 : (genM T n a f k) = numR T n a (wW k 1) (wW k 2) (fun v e1 => if k = 2 ∧ hasS f v (f 1).toNat = true then badR 4 (tB T n a) else if wW k 0 = 1 then okM e1 (noteF f v 0 k) else numR T n e1 (wW k 3) (wW k 4) fun u e2 => okM e2 (noteF f v u k)) := if_neg h00
    refine x_callV2 (pc := 16) dX5_readNumbers_16 rfl kX5_109 (s_readNumber hfl hC T n hB hn (wW k 1) (wW k 2) a ha h9 hk0) (sC_17 hC) rfl rfl (Nat.le_of_ble_eq_true rfl) (k_G (fun v9 M1 hM1 => ?_)) n_G
    obtain ⟨rfl, n1, n2, n3, n4⟩ := hM1
    refine x_goto (tgt := 23) (pc := 19) dX5_readNumbers_19 (by decide) ?_
    refine x_istore_n (pc := 23) dX5_readNumbers_23 rfl (by decide) rfl ?_
    refine x_aload_n (pc := 24) dX5_readNumbers_24 rfl rfl ?_
    refine x_getIV (jj := 2) (pc := 25) dX5_readNumbers_25 fX5_38 (sC_17 hC) rfl (by decide) rfl (by (repeat (first | rewrite [up_s] | rewrite [up_i (by omega)] | rewrite [up_a (by omega)])); first | exact n1 | rfl) ?_
    refine x_if_ne (tgt := 54) (pc := 28) dX5_readNumbers_28 (by decide) (fun c_28 => ?_) (fun c_28 => ?_)
    · have hz : numE T n a (wW k 1) (wW k 2) ≠ 0 := c_28
      exact x_lo (lo' := [(0, (2, 17)), (1, (2, -2 - (k : Int))), (2, (0, M1 17 10))]) ⟨rfl, rfl, rfl, trivial⟩ (Jb _ M1 (RESc.bad (by rw [eg0]; exact numR_no hz) hz n1 (n2 hz)) n4.k (by rw [n1]; exact hz))
    · have hz : numE T n a (wW k 1) (wW k 2) = 0 := c_28
      obtain ⟨m1, m2, m3, m4⟩ := n3 hz
      obtain ⟨y1, y2, y3, y4⟩ := numR_yes (k := (fun v e1 => if k = 2 ∧ hasS f v (f 1).toNat = true then badR 4 (tB T n a) else if wW k 0 = 1 then okM e1 (noteF f v 0 k) else numR T n e1 (wW k 3) (wW k 4) fun u e2 => okM e2 (noteF f v u k))) hz
      have hF1 : CF M1 f := hF.r n4
      have hte := tE_r (T := T) ha.2
      have htb := tB_r (T := T) ha.2
      have hv7 : k = 7 → 0 ≤ M1 17 10 ∧ M1 17 10 ≤ 5 := fun q => by
        subst q
        rw [m1]
        exact ⟨y3, y4⟩
      refine x_aload_n (pc := 31) dX5_readNumbers_31 rfl rfl ?_
      refine x_kZ (pc := 32) dX5_readNumbers_32 (lw_ok_in (List.mem_of_getElem? (i := 929) (by decide +kernel)) rfl) (List.mem_of_getElem? (i := 2) rfl) (Or.inr ⟨rfl, by decide⟩) ?_
      refine x_kacmp_ne (j := k) (k := 2) (tgt := 54) (pc := 35) dX5_readNumbers_35 (by decide) rfl (by decide) hk (by decide) (fun c_35 => ?_) (fun c_35 => ?_)
      · exact x_lo (lo' := [(0, (2, 17)), (1, (2, -2 - (k : Int))), (2, (0, M1 17 10))]) ⟨rfl, rfl, rfl, trivial⟩ (J54 (M1 17 10) M1 (tE T n a) (n1.trans hz) m2 (m4.trans hp) hF1 n4.k ⟨by omega, hte.2⟩ hv7 (by
          rw [eg0, y1, ← m1]
          show (if k = 2 ∧ hasS f (M1 17 10) (f 1).toNat = true then badR 4 (tB T n a) else if wW k 0 = 1 then okM (tE T n a) (noteF f (M1 17 10) 0 k) else numR T n (tE T n a) (wW k 3) (wW k 4) fun u e2 => okM e2 (noteF f (M1 17 10) u k)) = _
          rw [if_neg (show ¬ (k = 2 ∧ hasS f (M1 17 10) (f 1).toNat = true) from fun q => c_35 q.1)]
          by_cases z : wW k 0 = 1
          · rw [if_pos z, if_pos (by omega)]
          · rw [if_neg z, if_neg (by omega)]))
      · refine x_aload_n (pc := 38) dX5_readNumbers_38 rfl rfl ?_
        refine x_getR (jj := 5) (pc := 39) dX5_readNumbers_39 fX5_22 (sC_17 hC) rfl (by decide) rfl rC_17_5 ?_
        refine x_iload_n (pc := 42) dX5_readNumbers_42 rfl rfl ?_
        refine x_callV1 (pc := 43) dX5_readNumbers_43 rfl kX5_112 (s_hasStepC hfl hC f hF1 h1 (M1 17 10)) (hC.2.2.1).1 rfl rfl (Nat.le_of_ble_eq_true rfl) (k_B (fun q_43 => ?_) (fun q_43 => ?_)) n_B
        · refine x_if_eq (tgt := 54) (pc := 46) dX5_readNumbers_46 (by decide) (fun c => absurd c (by decide)) (fun _ => ?_)
          refine x_aload_n (pc := 49) dX5_readNumbers_49 rfl rfl ?_
          refine x_iconst (pc := 50) dX5_readNumbers_50 (by decide) ?_
          refine x_callV1 (pc := 51) dX5_readNumbers_51 rfl kX5_68 (s_blame hfl hC 4) (sC_17 hC) rfl rfl (Nat.le_of_ble_eq_true rfl) (k_U (fun M9 hM9 => ?_)) n_U
          subst hM9
          refine x_lo (lo' := [(0, (2, 17)), (1, (2, -2 - (k : Int))), (2, (0, M1 17 10))]) ⟨rfl, rfl, rfl, trivial⟩ (Jb (M1 17 10) _ (RESc.bad (k := 4) (p := tB T n a) ?_ (by decide) (by rw [up_i (by omega), up_s]) (by rw [up_s]; exact m3)) n4.k.bl (by rw [up_i (by omega), up_s]; decide))
          rw [eg0, y1, ← m1]
          exact if_pos ⟨c_35, q_43⟩
        · refine x_if_eq (tgt := 54) (pc := 46) dX5_readNumbers_46 (by decide) (fun _ => ?_) (fun c => absurd c (by decide))
          exact x_lo (lo' := [(0, (2, 17)), (1, (2, -2 - (k : Int))), (2, (0, M1 17 10))]) ⟨rfl, rfl, rfl, trivial⟩ (J54 (M1 17 10) M1 (tE T n a) (n1.trans hz) m2 (m4.trans hp) hF1 n4.k ⟨by omega, hte.2⟩ hv7 (by
            rw [eg0, y1, ← m1]
            show (if k = 2 ∧ hasS f (M1 17 10) (f 1).toNat = true then badR 4 (tB T n a) else if wW k 0 = 1 then okM (tE T n a) (noteF f (M1 17 10) 0 k) else numR T n (tE T n a) (wW k 3) (wW k 4) fun u e2 => okM e2 (noteF f (M1 17 10) u k)) = _
            rw [if_neg (show ¬ (k = 2 ∧ hasS f (M1 17 10) (f 1).toNat = true) from fun q => q_43 q.2)]
            by_cases z : wW k 0 = 1
            · rw [if_pos z, if_pos (by omega)]
            · rw [if_neg z, if_neg (by omega)]))
theorem s_readLineC {l : Launch} {E : aE} {N : Nat} {S : aS} {M : aM} (hfl : l.stackTraces = false) (hC : lyC S) (T : Int → Int) (n : Int) (hB : CB M T n) (hn : 0 ≤ n ∧ n ≤ 300) (f : Int → Int) (hF : CF M f) (hK : FOK f) (a : Int) (ha : 0 ≤ a ∧ a ≤ n) (h0 : M 17 2 = 0) (hp : M 17 3 = -1) (hT : CTk M T n a) : aMt l E pX5_readLine [(2, 17)] N S M (aU N S (fun M' => RESc M' (lineR T n a f) ∧ frZc M M')) := by
  refine a_met hfl rfl (by decide +kernel) (Nat.le_of_ble_eq_true rfl) ?_
  have h4 : tK T n a ≠ 4 := fun z => by have := (hT.1 z).1; omega
  obtain ⟨g1, g2, g3, g4, g5⟩ := hT.2 h4
  have h1 : 0 ≤ f 1 ∧ f 1 ≤ 6 := hK.2.1
  have h14 : 0 ≤ f 14 ∧ f 14 ≤ 4 := hK.2.2.2.1
  have J60 : ∀ (w : aV) (M1 : aM), RESc M1 (lineM T n a f) → frZc M M1 → aX l E pX5_readLine (aU N S (fun M' => RESc M' (lineR T n a f) ∧ frZc M M')) 0 0 N S M1 60 [(0, (2, 17)), (1, w)] [] := by
    intro w M1 hr hf
    refine x_aload_n (pc := 60) dX5_readLine_60 rfl rfl ?_
    refine x_getIV (jj := 2) (pc := 61) dX5_readLine_61 fX5_38 (sC_17 hC) rfl (by decide) rfl (by (repeat (first | rewrite [up_s] | rewrite [up_i (by omega)] | rewrite [up_a (by omega)])); first | exact g2 | rfl) ?_
    refine x_if_ne (tgt := 91) (pc := 64) dX5_readLine_64 (by decide) (fun c_64 => ?_) (fun c_64 => ?_)
    · refine x_return (pc := 91) dX5_readLine_91 rfl (by decide) ?_
      have hz : (lineM T n a f).1 ≠ 0 := by rw [← hr.1]; exact c_64
      have eb : (lineR T n a f) = (lineM T n a f) := by rw [lineR_b]; exact if_neg hz
      exact ⟨rfl, rfl, rfl, by rw [eb]; exact hr, hf⟩
    · refine x_aload_n (pc := 67) dX5_readLine_67 rfl rfl ?_
      have hz : (lineM T n a f).1 = 0 := by rw [← hr.1]; exact c_64
      obtain ⟨o1, o2, o4⟩ := hr.2.2 hz
      obtain ⟨⟨o5, o6⟩, o7⟩ := lineM_ok (T := T) ha.2 hK hz
      have eb : (lineR T n a f) = finR T n (lineM T n a f).2.2.1 (lineM T n a f).2.2.2 := by rw [lineR_b]; exact if_pos hz
      refine x_callV0 (pc := 68) dX5_readLine_68 rfl kX5_50 (s_advance hfl hC T n (hB.k hf) hn (lineM T n a f).2.2.1 ⟨by omega, o6⟩ o1 (hr.1.trans hz)) (sC_17 hC) rfl rfl (Nat.le_of_ble_eq_true rfl) (k_U (fun M2 hM2 => ?_)) n_U
      obtain ⟨⟨t1, t2⟩, f1, p1⟩ := hM2
      refine x_aload_n (pc := 71) dX5_readLine_71 rfl rfl ?_
      refine x_getIV (jj := 2) (pc := 72) dX5_readLine_72 fX5_38 (sC_17 hC) rfl (by decide) rfl (by (repeat (first | rewrite [up_s] | rewrite [up_i (by omega)] | rewrite [up_a (by omega)])); first | exact g2 | rfl) ?_
      refine x_if_ne (tgt := 91) (pc := 75) dX5_readLine_75 (by decide) (fun c_75 => ?_) (fun c_75 => ?_)
      · refine x_return (pc := 91) dX5_readLine_91 rfl (by decide) ?_
        have h4 : tK T n (lineM T n a f).2.2.1 = 4 := by
          by_cases z : tK T n (lineM T n a f).2.2.1 = 4
          · exact z
          · exact absurd (t2 z).1 c_75
        exact ⟨rfl, rfl, rfl, RESc.bad (k := 1) (p := tB T n (lineM T n a f).2.2.1) (by rw [eb]; unfold finR errR; rw [if_neg (by omega), if_pos h4]) (by decide) (t1 h4).1 (t1 h4).2, hf.tr f1.k⟩
      · have h4 : tK T n (lineM T n a f).2.2.1 ≠ 4 := fun z => by have := (t1 z).1; omega
        obtain ⟨g1, g2, g3, g4, g5⟩ := t2 h4
        refine x_aload_n (pc := 78) dX5_readLine_78 rfl rfl ?_
        refine x_getIV (jj := 7) (pc := 79) dX5_readLine_79 fX5_53 (sC_17 hC) rfl (by decide) rfl (by (repeat (first | rewrite [up_s] | rewrite [up_i (by omega)] | rewrite [up_a (by omega)])); first | exact g2 | rfl) ?_
        refine x_iconst (pc := 82) dX5_readLine_82 (by decide) ?_
        refine x_icmp_eq (tgt := 91) (pc := 83) dX5_readLine_83 (by decide) (fun c_83 => ?_) (fun c_83 => ?_)
        · refine x_return (pc := 91) dX5_readLine_91 rfl (by decide) ?_
          exact ⟨rfl, rfl, rfl, RESc.ok (a := tE T n (lineM T n a f).2.2.1) (f := (lineM T n a f).2.2.2) (by rw [eb]; unfold finR; exact if_pos (by omega)) g1 g4 (o2.r f1) ((p1 h4).trans o4), hf.tr f1.k⟩
        · refine x_aload_n (pc := 86) dX5_readLine_86 rfl rfl ?_
          refine x_iconst (pc := 87) dX5_readLine_87 (by decide) ?_
          refine x_callV1 (pc := 88) dX5_readLine_88 rfl kX5_68 (s_blame hfl hC 2) (sC_17 hC) rfl rfl (Nat.le_of_ble_eq_true rfl) (k_U (fun M9 hM9 => ?_)) n_U
          subst hM9
          refine x_return (pc := 91) dX5_readLine_91 rfl (by decide) ?_
          exact ⟨rfl, rfl, rfl, RESc.bad (k := 2) (p := tB T n (lineM T n a f).2.2.1) (by rw [eb]; unfold finR errR; rw [if_neg (by omega), if_neg h4]) (by decide) (by rw [up_i (by omega), up_s]) (by rw [up_s]; exact g3), (hf.tr f1.k).bl⟩
  refine x_aload_n (pc := 0) dX5_readLine_0 rfl rfl ?_
  refine x_callV0 (pc := 1) dX5_readLine_1 rfl kX5_59 (s_wordHere hfl hC T n hB hn a ha g2 g3 g4) (sC_17 hC) rfl rfl (Nat.le_of_ble_eq_true rfl) (k_R ?_) n_R
  refine x_astore_n (pc := 4) dX5_readLine_4 rfl (by decide) rfl ?_
  refine x_aload_n (pc := 5) dX5_readLine_5 rfl rfl ?_
  refine x_ifnull (tgt := 17) (pc := 6) dX5_readLine_6 (by decide) (fun c_6 => ?_) (fun c_6 => ?_)
  · refine x_aload_n (pc := 17) dX5_readLine_17 rfl rfl ?_
    refine x_iconst (pc := 18) dX5_readLine_18 (by decide) ?_
    refine x_callV1 (pc := 19) dX5_readLine_19 rfl kX5_68 (s_blame hfl hC 2) (sC_17 hC) rfl rfl (Nat.le_of_ble_eq_true rfl) (k_U (fun M9 hM9 => ?_)) n_U
    subst hM9
    refine x_goto (tgt := 60) (pc := 22) dX5_readLine_22 (by decide) ?_
    refine x_lo (lo' := [(0, (2, 17)), (1, (2, if tK T n a = 1 then -2 - wIx T (tB T n a) (tE T n a) else -1))]) ⟨rfl, rfl, trivial⟩ ?_
    exact J60 _ _ (RESc.bad (k := 2) (p := tB T n a) (by
      unfold lineM
      by_cases z : tK T n a = 1
      · rw [if_pos z] at c_6
        have ew : wIx T (tB T n a) (tE T n a) = -1 := by omega
        rw [if_neg (fun q => q z), ew]; rfl
      · rw [if_pos (show tK T n a ≠ 1 from z)]; unfold errR; rw [if_neg h4]) (by decide) (by rw [up_i (by omega), up_s]) (by rw [up_s]; exact g3)) frZc.rf.bl
  · have h1k : tK T n a = 1 := by
      by_cases z : tK T n a = 1
      · exact z
      · rw [if_neg z] at c_6; exact absurd rfl c_6
    rw [if_pos h1k] at c_6
    have hw9 := wIx_r T (tB T n a) (tE T n a)
    obtain ⟨k, hk, ek⟩ : ∃ k : Nat, k < 13 ∧ wIx T (tB T n a) (tE T n a) = (k : Int) := ⟨(wIx T (tB T n a) (tE T n a)).toNat, by omega, by omega⟩
    have hu := wW_u k hk
    refine x_lo (lo' := [(0, (2, 17)), (1, (2, -2 - (k : Int)))]) ⟨rfl, by rw [if_pos h1k, ek]; rfl, trivial⟩ ?_
    refine x_aload_n (pc := 9) dX5_readLine_9 rfl rfl ?_
    refine x_kF (pc := 10) dX5_readLine_10 (lw_ok_in (List.mem_of_getElem? (i := 2146) (by decide +kernel)) rfl) (hkW5 k hk) rfl (wok k hk 5 (by decide)) ?_
    refine x_iconst (pc := 13) dX5_readLine_13 (by decide) ?_
    refine x_icmp_eq (tgt := 25) (pc := 14) dX5_readLine_14 (by decide) (fun c_14 => ?_) (fun c_14 => ?_)
    · refine x_aload_n (pc := 25) dX5_readLine_25 rfl rfl ?_
      refine x_aload_n (pc := 26) dX5_readLine_26 rfl rfl ?_
      refine x_callV1 (pc := 27) dX5_readLine_27 rfl kX5_72 (s_isFull hfl hC f hF k hk) (sC_17 hC) rfl rfl (Nat.le_of_ble_eq_true rfl) (k_B (fun q_27 => ?_) (fun q_27 => ?_)) n_B
      · refine x_if_eq (tgt := 41) (pc := 30) dX5_readLine_30 (by decide) (fun c => absurd c (by decide)) (fun _ => ?_)
        refine x_aload_n (pc := 33) dX5_readLine_33 rfl rfl ?_
        refine x_iconst (pc := 34) dX5_readLine_34 (by decide) ?_
        refine x_callV1 (pc := 35) dX5_readLine_35 rfl kX5_68 (s_blame hfl hC 4) (sC_17 hC) rfl rfl (Nat.le_of_ble_eq_true rfl) (k_U (fun M9 hM9 => ?_)) n_U
        subst hM9
        refine x_goto (tgt := 60) (pc := 38) dX5_readLine_38 (by decide) ?_
        exact J60 _ _ (RESc.bad (k := 4) (p := tB T n a) (by
          unfold lineM
          rw [if_neg (fun q => q h1k), ek]
          rcases q_27 with ⟨z, z2⟩ | ⟨z, z2⟩
          · subst z; rw [if_neg (by decide), if_neg (by decide), if_pos (by decide), if_pos z2]
          · subst z; rw [if_neg (by decide), if_neg (by decide), if_neg (by decide), if_pos (by decide), if_pos z2]) (by decide) (by rw [up_i (by omega), up_s]) (by rw [up_s]; exact g3)) frZc.rf.bl
      · refine x_if_eq (tgt := 41) (pc := 30) dX5_readLine_30 (by decide) (fun _ => ?_) (fun c => absurd c (by decide))
        refine x_aload_n (pc := 41) dX5_readLine_41 rfl rfl ?_
        refine x_kZ (pc := 42) dX5_readLine_42 (lw_ok_in (List.mem_of_getElem? (i := 933) (by decide +kernel)) rfl) (List.mem_of_getElem? (i := 9) rfl) (Or.inr ⟨rfl, by decide⟩) ?_
        refine x_kacmp_ne (j := k) (k := 9) (tgt := 55) (pc := 45) dX5_readLine_45 (by decide) rfl (by decide) hk (by decide) (fun c_45 => ?_) (fun c_45 => ?_)
        · refine x_aload_n (pc := 55) dX5_readLine_55 rfl rfl ?_
          refine x_aload_n (pc := 56) dX5_readLine_56 rfl rfl ?_
          have hte := tE_r (T := T) ha.2
          have htb := tB_r (T := T) ha.2
          have hs2 : k = 2 → f 1 < 6 := fun q => by omega
          have hs3 : k = 3 → f 14 < 4 := fun q => by omega
          refine x_callV1 (pc := 57) dX5_readLine_57 rfl kX5_83 (s_readNumbersC hfl hC T n hB hn f hF h1 h14 (tE T n a) ⟨by omega, hte.2⟩ g4 h0 hp k (by omega) hs2 hs3) (sC_17 hC) rfl rfl (Nat.le_of_ble_eq_true rfl) (k_U (fun M1 hM1 => ?_)) n_U
          obtain ⟨r9, f9⟩ := hM1
          exact J60 _ M1 (by rw [gen_line (f := f) (k := k) (by omega) h1k ek (fun q => by omega) (fun q => by omega)]; exact r9) f9
        · refine x_aload_n (pc := 48) dX5_readLine_48 rfl rfl ?_
          have hte := tE_r (T := T) ha.2
          have htb := tB_r (T := T) ha.2
          refine x_callV0 (pc := 49) dX5_readLine_49 rfl kX5_80 (s_readRuleC hfl hC T n hB hn f hF h1 h14 (tE T n a) ⟨by omega, hte.2⟩ g4 h0 hp) (sC_17 hC) rfl rfl (Nat.le_of_ble_eq_true rfl) (k_U (fun M1 hM1 => ?_)) n_U
          obtain ⟨r9, f9⟩ := hM1
          refine x_goto (tgt := 60) (pc := 52) dX5_readLine_52 (by decide) ?_
          exact J60 _ M1 (by
            have e9 : lineM T n a f = ruleM T n (tE T n a) f := by
              unfold lineM
              rw [if_neg (fun q => q h1k), ek, c_45]
              rfl
            rw [e9]; exact r9) f9
    · refine x_aload_n (pc := 17) dX5_readLine_17 rfl rfl ?_
      refine x_iconst (pc := 18) dX5_readLine_18 (by decide) ?_
      refine x_callV1 (pc := 19) dX5_readLine_19 rfl kX5_68 (s_blame hfl hC 2) (sC_17 hC) rfl rfl (Nat.le_of_ble_eq_true rfl) (k_U (fun M9 hM9 => ?_)) n_U
      subst hM9
      refine x_goto (tgt := 60) (pc := 22) dX5_readLine_22 (by decide) ?_
      exact J60 _ _ (RESc.bad (k := 2) (p := tB T n a) (by
        unfold lineM
        rw [if_neg (fun q => q h1k), ek]
        have hk10 : 10 ≤ k := by omega
        rw [if_neg (by omega), if_neg (by omega), if_neg (by omega), if_neg (by omega), if_neg (by omega), if_neg (by omega), if_neg (by omega), if_neg (by omega), if_neg (by omega), if_neg (by omega)]) (by decide) (by rw [up_i (by omega), up_s]) (by rw [up_s]; exact g3)) frZc.rf.bl
