/-! constructors -/
theorem sAdd_e {S : aS} {N : Nat} {w : Nat × Int × (Int → Int)} {i : Int} (h : i = N) : sAdd S N w i = w := if_pos h
theorem mAdd_e {M : aM} {N : Nat} {v i j : Int} (h : i = N) : mAdd M N v i j = v := if_pos h
theorem sh_eq {S : aS} {a n : Int} {k : Nat} {r r' : Int → Int} (h : S a = (k, n, r)) (e : ∀ j, r j = r' j) : S a = (k, n, r') := by
  rw [h, show r = r' from funext e]
def aC (post : Nat → aS → aM → Prop) : aQ := fun o N' S' M' => o = .inl none ∧ post N' S' M'
section AX30
variable {l : Launch} {E : aE} {P : aP} {Q : aQ} {kc ks N : Nat} {S : aS} {M : aM} {pc : Nat} {lo : List (Nat × aV)} {st : List aV}
theorem k_C {P' : aP} {post : Nat → aS → aM → Prop} (k : ∀ N' S' M', post N' S' M' → aX l E P Q (kc + P'.2.2.2.2.1.cells) (ks + P'.2.2.2.2.1.slots) N' S' M' (pc + 3) lo st) : ∀ (r : Option aV) (N' : Nat) (S' : aS) (M' : aM), aC post (.inl r) N' S' M' → a_ex N N' S S' → aX l E P Q (kc + P'.2.2.2.2.1.cells) (ks + P'.2.2.2.2.1.slots) N' S' M' (pc + 3) lo (r.toList ++ st) := by
  intro r N' S' M' h _
  obtain ⟨e, h⟩ := h
  cases e
  exact k N' S' M' h
theorem n_C {post : Nat → aS → aM → Prop} : ∀ (x9 N' : Nat) (S' : aS) (M' : aM), aC post (.inr x9) N' S' M' → a_ex N N' S S' → Q (.inr x9) N' S' M' := by
  intro x9 N' S' M' h _
  cases h.1
end AX30
theorem own_0 (C : String) (T : u_T) (n : Nat) (h : vwCl[0]? = some (C, T, n)) : C = RX0 := by
  have h2 := congrArg (fun o => o.map (fun z => z.1)) h
  exact Option.some.inj (h2.symm.trans rfl)
theorem own_1 (C : String) (T : u_T) (n : Nat) (h : vwCl[1]? = some (C, T, n)) : C = RX1 := by
  have h2 := congrArg (fun o => o.map (fun z => z.1)) h
  exact Option.some.inj (h2.symm.trans rfl)
theorem own_2 (C : String) (T : u_T) (n : Nat) (h : vwCl[2]? = some (C, T, n)) : C = RX2 := by
  have h2 := congrArg (fun o => o.map (fun z => z.1)) h
  exact Option.some.inj (h2.symm.trans rfl)
theorem own_3 (C : String) (T : u_T) (n : Nat) (h : vwCl[3]? = some (C, T, n)) : C = RX3 := by
  have h2 := congrArg (fun o => o.map (fun z => z.1)) h
  exact Option.some.inj (h2.symm.trans rfl)
theorem own_4 (C : String) (T : u_T) (n : Nat) (h : vwCl[4]? = some (C, T, n)) : C = RX4 := by
  have h2 := congrArg (fun o => o.map (fun z => z.1)) h
  exact Option.some.inj (h2.symm.trans rfl)
theorem own_5 (C : String) (T : u_T) (n : Nat) (h : vwCl[5]? = some (C, T, n)) : C = RX5 := by
  have h2 := congrArg (fun o => o.map (fun z => z.1)) h
  exact Option.some.inj (h2.symm.trans rfl)
theorem own_6 (C : String) (T : u_T) (n : Nat) (h : vwCl[6]? = some (C, T, n)) : C = RX6 := by
  have h2 := congrArg (fun o => o.map (fun z => z.1)) h
  exact Option.some.inj (h2.symm.trans rfl)
theorem own_7 (C : String) (T : u_T) (n : Nat) (h : vwCl[7]? = some (C, T, n)) : C = RX7 := by
  have h2 := congrArg (fun o => o.map (fun z => z.1)) h
  exact Option.some.inj (h2.symm.trans rfl)
theorem own_8 (C : String) (T : u_T) (n : Nat) (h : vwCl[8]? = some (C, T, n)) : C = RX8 := by
  have h2 := congrArg (fun o => o.map (fun z => z.1)) h
  exact Option.some.inj (h2.symm.trans rfl)
theorem own_9 (C : String) (T : u_T) (n : Nat) (h : vwCl[9]? = some (C, T, n)) : C = RX9 := by
  have h2 := congrArg (fun o => o.map (fun z => z.1)) h
  exact Option.some.inj (h2.symm.trans rfl)
theorem own_10 (C : String) (T : u_T) (n : Nat) (h : vwCl[10]? = some (C, T, n)) : C = RX11 := by
  have h2 := congrArg (fun o => o.map (fun z => z.1)) h
  exact Option.some.inj (h2.symm.trans rfl)
theorem own_11 (C : String) (T : u_T) (n : Nat) (h : vwCl[11]? = some (C, T, n)) : C = RX12 := by
  have h2 := congrArg (fun o => o.map (fun z => z.1)) h
  exact Option.some.inj (h2.symm.trans rfl)
theorem dX8_init_0 : decode cX8_init 0 = .ok (.aload_n 0, 1) := by decide +kernel
theorem dX8_init_1 : decode cX8_init 1 = .ok (.invokespecial 3, 3) := by decide +kernel
theorem dX8_init_4 : decode cX8_init 4 = .ok (.aload_n 0, 1) := by decide +kernel
theorem dX8_init_5 : decode cX8_init 5 = .ok (.bipush 6, 2) := by decide +kernel
theorem dX8_init_7 : decode cX8_init 7 = .ok (.newarray .int, 2) := by decide +kernel
theorem dX8_init_9 : decode cX8_init 9 = .ok (.putfield 11, 3) := by decide +kernel
theorem dX8_init_12 : decode cX8_init 12 = .ok (.aload_n 0, 1) := by decide +kernel
theorem dX8_init_13 : decode cX8_init 13 = .ok (.bipush 6, 2) := by decide +kernel
theorem dX8_init_15 : decode cX8_init 15 = .ok (.newarray .int, 2) := by decide +kernel
theorem dX8_init_17 : decode cX8_init 17 = .ok (.putfield 15, 3) := by decide +kernel
theorem dX8_init_20 : decode cX8_init 20 = .ok (.aload_n 0, 1) := by decide +kernel
theorem dX8_init_21 : decode cX8_init 21 = .ok (.iconst 4, 1) := by decide +kernel
theorem dX8_init_22 : decode cX8_init 22 = .ok (.newarray .int, 2) := by decide +kernel
theorem dX8_init_24 : decode cX8_init 24 = .ok (.putfield 18, 3) := by decide +kernel
theorem dX8_init_27 : decode cX8_init 27 = .ok (.aload_n 0, 1) := by decide +kernel
theorem dX8_init_28 : decode cX8_init 28 = .ok (.iconst 4, 1) := by decide +kernel
theorem dX8_init_29 : decode cX8_init 29 = .ok (.newarray .int, 2) := by decide +kernel
theorem dX8_init_31 : decode cX8_init 31 = .ok (.putfield 21, 3) := by decide +kernel
theorem dX8_init_34 : decode cX8_init 34 = .ok (.aload_n 0, 1) := by decide +kernel
theorem dX8_init_35 : decode cX8_init 35 = .ok (.iconst 1, 1) := by decide +kernel
theorem dX8_init_36 : decode cX8_init 36 = .ok (.putfield 24, 3) := by decide +kernel
theorem dX8_init_39 : decode cX8_init 39 = .ok (.aload_n 0, 1) := by decide +kernel
theorem dX8_init_40 : decode cX8_init 40 = .ok (.bipush 6, 2) := by decide +kernel
theorem dX8_init_42 : decode cX8_init 42 = .ok (.newarray .int, 2) := by decide +kernel
theorem dX8_init_44 : decode cX8_init 44 = .ok (.putfield 28, 3) := by decide +kernel
theorem dX8_init_47 : decode cX8_init 47 = .ok (.return_, 1) := by decide +kernel
theorem dX7_init_0 : decode cX7_init 0 = .ok (.aload_n 0, 1) := by decide +kernel
theorem dX7_init_1 : decode cX7_init 1 = .ok (.invokespecial 3, 3) := by decide +kernel
theorem dX7_init_4 : decode cX7_init 4 = .ok (.aload_n 0, 1) := by decide +kernel
theorem dX7_init_5 : decode cX7_init 5 = .ok (.new 9, 3) := by decide +kernel
theorem dX7_init_8 : decode cX7_init 8 = .ok (.dup, 1) := by decide +kernel
theorem dX7_init_9 : decode cX7_init 9 = .ok (.invokespecial 11, 3) := by decide +kernel
theorem dX7_init_12 : decode cX7_init 12 = .ok (.putfield 12, 3) := by decide +kernel
theorem dX7_init_15 : decode cX7_init 15 = .ok (.aload_n 0, 1) := by decide +kernel
theorem dX7_init_16 : decode cX7_init 16 = .ok (.bipush 7, 2) := by decide +kernel
theorem dX7_init_18 : decode cX7_init 18 = .ok (.newarray .int, 2) := by decide +kernel
theorem dX7_init_20 : decode cX7_init 20 = .ok (.putfield 18, 3) := by decide +kernel
theorem dX7_init_23 : decode cX7_init 23 = .ok (.aload_n 0, 1) := by decide +kernel
theorem dX7_init_24 : decode cX7_init 24 = .ok (.bipush 42, 2) := by decide +kernel
theorem dX7_init_26 : decode cX7_init 26 = .ok (.newarray .int, 2) := by decide +kernel
theorem dX7_init_28 : decode cX7_init 28 = .ok (.putfield 22, 3) := by decide +kernel
theorem dX7_init_31 : decode cX7_init 31 = .ok (.aload_n 0, 1) := by decide +kernel
theorem dX7_init_32 : decode cX7_init 32 = .ok (.bipush 7, 2) := by decide +kernel
theorem dX7_init_34 : decode cX7_init 34 = .ok (.newarray .int, 2) := by decide +kernel
theorem dX7_init_36 : decode cX7_init 36 = .ok (.putfield 25, 3) := by decide +kernel
theorem dX7_init_39 : decode cX7_init 39 = .ok (.aload_n 0, 1) := by decide +kernel
theorem dX7_init_40 : decode cX7_init 40 = .ok (.bipush 7, 2) := by decide +kernel
theorem dX7_init_42 : decode cX7_init 42 = .ok (.newarray .int, 2) := by decide +kernel
theorem dX7_init_44 : decode cX7_init 44 = .ok (.putfield 28, 3) := by decide +kernel
theorem dX7_init_47 : decode cX7_init 47 = .ok (.aload_n 0, 1) := by decide +kernel
theorem dX7_init_48 : decode cX7_init 48 = .ok (.bipush 7, 2) := by decide +kernel
theorem dX7_init_50 : decode cX7_init 50 = .ok (.newarray .int, 2) := by decide +kernel
theorem dX7_init_52 : decode cX7_init 52 = .ok (.putfield 31, 3) := by decide +kernel
theorem dX7_init_55 : decode cX7_init 55 = .ok (.aload_n 0, 1) := by decide +kernel
theorem dX7_init_56 : decode cX7_init 56 = .ok (.iconst 1, 1) := by decide +kernel
theorem dX7_init_57 : decode cX7_init 57 = .ok (.putfield 34, 3) := by decide +kernel
theorem dX7_init_60 : decode cX7_init 60 = .ok (.aload_n 0, 1) := by decide +kernel
theorem dX7_init_61 : decode cX7_init 61 = .ok (.bipush 7, 2) := by decide +kernel
theorem dX7_init_63 : decode cX7_init 63 = .ok (.newarray .int, 2) := by decide +kernel
theorem dX7_init_65 : decode cX7_init 65 = .ok (.putfield 38, 3) := by decide +kernel
theorem dX7_init_68 : decode cX7_init 68 = .ok (.aload_n 0, 1) := by decide +kernel
theorem dX7_init_69 : decode cX7_init 69 = .ok (.bipush 28, 2) := by decide +kernel
theorem dX7_init_71 : decode cX7_init 71 = .ok (.newarray .int, 2) := by decide +kernel
theorem dX7_init_73 : decode cX7_init 73 = .ok (.putfield 41, 3) := by decide +kernel
theorem dX7_init_76 : decode cX7_init 76 = .ok (.aload_n 0, 1) := by decide +kernel
theorem dX7_init_77 : decode cX7_init 77 = .ok (.bipush 28, 2) := by decide +kernel
theorem dX7_init_79 : decode cX7_init 79 = .ok (.newarray .int, 2) := by decide +kernel
theorem dX7_init_81 : decode cX7_init 81 = .ok (.putfield 44, 3) := by decide +kernel
theorem dX7_init_84 : decode cX7_init 84 = .ok (.return_, 1) := by decide +kernel
theorem dX11_image_0 : decode cX11_image 0 = .ok (.aload_n 0, 1) := by decide +kernel
theorem dX11_image_1 : decode cX11_image 1 = .ok (.iload_n 1, 1) := by decide +kernel
theorem dX11_image_2 : decode cX11_image 2 = .ok (.invokevirtual 347, 3) := by decide +kernel
theorem dX11_image_5 : decode cX11_image 5 = .ok (.aload_n 0, 1) := by decide +kernel
theorem dX11_image_6 : decode cX11_image 6 = .ok (.getfield 16, 3) := by decide +kernel
theorem dX11_image_9 : decode cX11_image 9 = .ok (.iload_n 1, 1) := by decide +kernel
theorem dX11_image_10 : decode cX11_image 10 = .ok (.aaload, 1) := by decide +kernel
theorem dX11_image_11 : decode cX11_image 11 = .ok (.ifnonnull 16, 3) := by decide +kernel
theorem dX11_image_14 : decode cX11_image 14 = .ok (.aload_n 0, 1) := by decide +kernel
theorem dX11_image_15 : decode cX11_image 15 = .ok (.getfield 16, 3) := by decide +kernel
theorem dX11_image_18 : decode cX11_image 18 = .ok (.iload_n 1, 1) := by decide +kernel
theorem dX11_image_19 : decode cX11_image 19 = .ok (.new 7, 3) := by decide +kernel
theorem dX11_image_22 : decode cX11_image 22 = .ok (.dup, 1) := by decide +kernel
theorem dX11_image_23 : decode cX11_image 23 = .ok (.invokespecial 9, 3) := by decide +kernel
theorem dX11_image_26 : decode cX11_image 26 = .ok (.aastore, 1) := by decide +kernel
theorem dX11_image_27 : decode cX11_image 27 = .ok (.aload_n 0, 1) := by decide +kernel
theorem dX11_image_28 : decode cX11_image 28 = .ok (.getfield 16, 3) := by decide +kernel
theorem dX11_image_31 : decode cX11_image 31 = .ok (.iload_n 1, 1) := by decide +kernel
theorem dX11_image_32 : decode cX11_image 32 = .ok (.aaload, 1) := by decide +kernel
theorem dX11_image_33 : decode cX11_image 33 = .ok (.aload_n 0, 1) := by decide +kernel
theorem dX11_image_34 : decode cX11_image 34 = .ok (.getfield 10, 3) := by decide +kernel
theorem dX11_image_37 : decode cX11_image 37 = .ok (.invokevirtual 350, 3) := by decide +kernel
theorem dX11_image_40 : decode cX11_image 40 = .ok (.return_, 1) := by decide +kernel
theorem s_X8init {l : Launch} {E : aE} {N : Nat} {S : aS} {M : aM} (hfl : l.stackTraces = false) (u : Int) (h0 : 0 ≤ u) (hN : (N : Int) = u + 1) (hS : S u = (8, 13, fun _ => -1)) : aMt l E pX8_init [(2, u)] N S M (aC (fun N' S' M' => N' = N + 5 ∧ lyT S' u ∧ (∀ i, i < u → S' i = S i) ∧ (∀ i j, i < u → M' i j = M i j) ∧ (∀ j, M' u j = if j = 9 then 1 else M u j) ∧ ∀ i j, u < i → i < u + 6 → M' i j = 0)) := by
  refine a_met hfl rfl (by decide +kernel) (Nat.le_of_ble_eq_true rfl) ?_
  refine x_aload_n (pc := 0) dX8_init_0 rfl rfl ?_
  refine x_objInit (pc := 1) dX8_init_1 obX8_3 (by omega) (by decide) (Nat.le_of_ble_eq_true rfl) ?_
  refine x_aload_n (pc := 4) dX8_init_4 rfl rfl ?_
  refine x_bipush (pc := 5) dX8_init_5 (by decide) ?_
  refine x_newI (pc := 7) dX8_init_7 ac_int (by decide) (by decide) ?_
  refine x_putR (j := 2) (pc := 9) dX8_init_9 fX8_11 (by repeat (first | exact hS | refine (sAdd_o (by omega)).trans ?_ | apply sPut_s)) (by decide) rfl (by omega) (fun _ => rfl) (fun _ => rfl) (Or.inr ⟨rfl, own_8⟩) ?_
  refine x_aload_n (pc := 12) dX8_init_12 rfl rfl ?_
  refine x_bipush (pc := 13) dX8_init_13 (by decide) ?_
  refine x_newI (pc := 15) dX8_init_15 ac_int (by decide) (by decide) ?_
  refine x_putR (j := 3) (pc := 17) dX8_init_17 fX8_15 (by repeat (first | exact hS | refine (sAdd_o (by omega)).trans ?_ | apply sPut_s)) (by decide) rfl (by omega) (fun _ => rfl) (fun _ => rfl) (Or.inr ⟨rfl, own_8⟩) ?_
  refine x_aload_n (pc := 20) dX8_init_20 rfl rfl ?_
  refine x_iconst (pc := 21) dX8_init_21 (by decide) ?_
  refine x_newI (pc := 22) dX8_init_22 ac_int (by decide) (by decide) ?_
  refine x_putR (j := 5) (pc := 24) dX8_init_24 fX8_18 (by repeat (first | exact hS | refine (sAdd_o (by omega)).trans ?_ | apply sPut_s)) (by decide) rfl (by omega) (fun _ => rfl) (fun _ => rfl) (Or.inr ⟨rfl, own_8⟩) ?_
  refine x_aload_n (pc := 27) dX8_init_27 rfl rfl ?_
  refine x_iconst (pc := 28) dX8_init_28 (by decide) ?_
  refine x_newI (pc := 29) dX8_init_29 ac_int (by decide) (by decide) ?_
  refine x_putR (j := 6) (pc := 31) dX8_init_31 fX8_21 (by repeat (first | exact hS | refine (sAdd_o (by omega)).trans ?_ | apply sPut_s)) (by decide) rfl (by omega) (fun _ => rfl) (fun _ => rfl) (Or.inr ⟨rfl, own_8⟩) ?_
  refine x_aload_n (pc := 34) dX8_init_34 rfl rfl ?_
  refine x_iconst (pc := 35) dX8_init_35 (by decide) ?_
  refine x_putI (jj := 9) (pc := 36) dX8_init_36 fX8_24 (by repeat (first | exact hS | refine (sAdd_o (by omega)).trans ?_ | apply sPut_s)) rfl (by decide) rfl ?_
  refine x_aload_n (pc := 39) dX8_init_39 rfl rfl ?_
  refine x_bipush (pc := 40) dX8_init_40 (by decide) ?_
  refine x_newI (pc := 42) dX8_init_42 ac_int (by decide) (by decide) ?_
  refine x_putR (j := 10) (pc := 44) dX8_init_44 fX8_28 (by repeat (first | exact hS | refine (sAdd_o (by omega)).trans ?_ | apply sPut_s)) (by decide) rfl (by omega) (fun _ => rfl) (fun _ => rfl) (Or.inr ⟨rfl, own_8⟩) ?_
  refine x_return (pc := 47) dX8_init_47 rfl (by decide) ?_
  refine ⟨rfl, rfl, ⟨sh_eq (by repeat (first | exact hS | refine (sAdd_o (by omega)).trans ?_ | apply sPut_s)) (fun j => ?_), ?_, ?_, ?_, ?_, ?_⟩, fun i h => ?_, fun i j h => ?_, fun j => ?_, fun i j h1 h2 => ?_⟩
  · try dsimp only
    unfold rT
    (repeat' split) <;> omega
  · repeat (first | exact sAdd_e (by omega) | refine (sPut_o (by omega)).trans ?_ | refine (sAdd_o (by omega)).trans ?_)
  · repeat (first | exact sAdd_e (by omega) | refine (sPut_o (by omega)).trans ?_ | refine (sAdd_o (by omega)).trans ?_)
  · repeat (first | exact sAdd_e (by omega) | refine (sPut_o (by omega)).trans ?_ | refine (sAdd_o (by omega)).trans ?_)
  · repeat (first | exact sAdd_e (by omega) | refine (sPut_o (by omega)).trans ?_ | refine (sAdd_o (by omega)).trans ?_)
  · repeat (first | exact sAdd_e (by omega) | refine (sPut_o (by omega)).trans ?_ | refine (sAdd_o (by omega)).trans ?_)
  · repeat (first | rfl | refine (sPut_o (by omega)).trans ?_ | refine (sAdd_o (by omega)).trans ?_)
  · repeat (first | rfl | refine (up_a (by omega)).trans ?_ | refine (mAdd_o (by omega)).trans ?_)
  · refine (mAdd_o (by omega)).trans ?_
    by_cases e : j = 9
    · rw [if_pos e, e]
      exact up_s
    · rw [if_neg e]
      refine (up_i e).trans ?_
      repeat (first | rfl | refine (up_a (by omega)).trans ?_ | refine (mAdd_o (by omega)).trans ?_)
  · rcases (show i = u + 1 ∨ i = u + 2 ∨ i = u + 3 ∨ i = u + 4 ∨ i = u + 5 by omega) with q | q | q | q | q <;> (repeat (first | exact mAdd_e (by omega) | refine (up_a (by omega)).trans ?_ | refine (mAdd_o (by omega)).trans ?_))
