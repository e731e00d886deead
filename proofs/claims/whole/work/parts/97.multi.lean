/-! a row of rows of longs -/
theorem sh_rf {k : Nat} {n : Int} {F F' : Int → Int} (e : ∀ j, F j = F' j) : ((k, n, F) : Nat × Int × (Int → Int)) = (k, n, F') := by rw [funext e]
theorem multi_outer {cA : ClassId} {n h0 : Nat} : ∀ i, i ≤ n → Jvm.Free.Multi.outerC cA n h0 i = arrV cA n (fun j => if j < i then .ref (h0 + 1 + j) else .null)
  | 0, _ => by
    show ({ cls := cA, slots := Array.replicate n .null, vm := .none } : Cell) = _
    rw [arrV_new]
    congr 1
  | i + 1, h => by
    show (Jvm.Free.Multi.outerC cA n h0 i).setSlot i (.ref (h0 + 1 + i)) = _
    rw [multi_outer i (by omega), arrV_store]
    congr 1
    funext j
    unfold updV
    by_cases e : j = i
    · subst e
      rw [if_pos rfl, if_pos (by omega)]
    · rw [if_neg e]
      show (if j < i then Value.ref (h0 + 1 + j) else Value.null) = _
      by_cases e2 : j < i
      · rw [if_pos e2, if_pos (by omega)]
      · rw [if_neg e2, if_neg (by omega)]
def adW (ad : Nat → Nat) (N n q : Nat) : Nat → Nat := fun i => if N ≤ i ∧ i ≤ N + n then q + (i - N) else ad i
def sMul (S : aS) (N n : Nat) (k : Int) : aS := fun i => if i = N then (17, n, fun j => if 0 ≤ j ∧ j < n then N + 1 + j else -1) else if (N : Int) < i ∧ i ≤ N + n then (14, k, fun _ => -1) else S i
def mMul (M : aM) (N n : Nat) : aM := fun a j => if (N : Int) ≤ a ∧ a ≤ N + n then 0 else M a j
theorem sMul_o {S : aS} {N n : Nat} {k i : Int} (h : i < N) : sMul S N n k i = S i := by
  unfold sMul
  rw [if_neg (by omega), if_neg (by omega)]
theorem mMul_o {M : aM} {N n : Nat} {i j : Int} (h : i < N) : mMul M N n i j = M i j := if_neg (by omega)
theorem a_ws_multi {E : aE} {ad : Nat → Nat} {N n q : Nat} {S : aS} {M : aM} {H : Heap} {k : Int} (w : a_w E ad N S M H) (i : Nat) (x : Nat × va_E) (hx : (a_ws E (adW ad N n q) (N + 1 + n) (sMul S N n k) (mMul M N n))[i]? = some x) :
    ((a_ws E ad N S M)[i]? = some x ∧ i < N) ∨ (i = N ∧ x = (q, .inl (E.2.1 17, n, .inr (.inr (.inr (.inr fun j => if j < n then some (q + 1 + j) else none)))))) ∨ (∃ j, j < n ∧ i = N + 1 + j ∧ x = (q + 1 + j, .inl (E.2.1 14, k.toNat, .inr (.inl fun _ => Int64.ofInt 0)))) := by
  have hi : i < N + 1 + n := by
    have := (List.getElem?_eq_some_iff.mp hx).1
    rwa [a_ws_len] at this
  rw [a_ws_get hi] at hx
  cases hx
  by_cases e1 : i < N
  · refine Or.inl ⟨?_, e1⟩
    rw [a_ws_get e1, sMul_o (by omega), show adW ad N n q i = ad i from if_neg (by omega), show (mMul M N n (i : Int)) = M i from funext fun j => mMul_o (by omega)]
    congr 2
    refine (a_ce_ext (N := N) (fun j => w.2.2.2.2.1 _ j) (fun h j => w.2.2.2.2.2 _ j h) fun z hz => if_neg (by omega)).symm
  · by_cases e2 : i = N
    · subst e2
      refine Or.inr (Or.inl ⟨rfl, ?_⟩)
      rw [show adW ad i n q i = q from (if_pos (by omega)).trans (by omega), show sMul S i n k (i : Int) = (17, (n : Int), fun j : Int => if 0 ≤ j ∧ j < n then (i : Int) + 1 + j else -1) from if_pos rfl]
      show (q, Sum.inl (E.2.1 17, ((n : Int)).toNat, Sum.inr (Sum.inr (Sum.inr (Sum.inr fun j : Nat => a_ro E (adW ad i n q) (if 0 ≤ (j : Int) ∧ (j : Int) < n then (i : Int) + 1 + j else -1)))))) = _
      congr 8
      funext j
      by_cases e3 : j < n
      · rw [if_pos (by omega), if_pos e3, a_ro_in (by omega), show ((i : Int) + 1 + j).toNat = i + 1 + j by omega, show adW ad i n q (i + 1 + j) = q + (i + 1 + j - i) from if_pos (by omega)]
        congr 1
        omega
      · rw [if_neg (by omega), if_neg e3]
        rfl
    · refine Or.inr (Or.inr ⟨i - N - 1, by omega, by omega, ?_⟩)
      rw [show adW ad N n q i = q + (i - N) from if_pos (by omega), show sMul S N n k (i : Int) = (14, k, fun _ => -1) from (if_neg (by omega)).trans (if_pos (by omega)), show q + (i - N) = q + 1 + (i - N - 1) by omega]
      show (_, Sum.inl (E.2.1 14, k.toNat, Sum.inr (Sum.inl fun j : Nat => Int64.ofInt (mMul M N n i j)))) = _
      congr 6
      funext j
      rw [show mMul M N n (i : Int) j = 0 from if_pos (by omega)]
section AX97
variable {l : Launch} {E : aE} {P : aP} {Q : aQ} {kc ks N : Nat} {S : aS} {M : aM} {pc : Nat} {lo : List (Nat × aV)} {st : List aV}
theorem x_multi {i9 n k9 : Nat} (hd : decode P.2.1 pc = .ok (.multianewarray i9 2, 4)) (hcl : Cond.classLink P.1.cls i9 "[[J" ∈ lw_ok) (harr : Cond.arrayClass .long ∈ lw_ok) (hn : n ≤ 10000 ∧ k9 ≤ 10000) (hr : kc + (1 + n) ≤ P.2.2.2.2.1.cells ∧ ks + (n + n * k9) ≤ P.2.2.2.2.1.slots)
    (k : aX l E P Q (kc + 1 + n) (ks + n + n * k9) (N + 1 + n) (sMul S N n k9) (mMul M N n) (pc + 4) lo ((2, N) :: st)) : aX l E P Q kc ks N S M pc lo ((0, k9) :: (0, n) :: st) := by
  intro p e s m args below meth c H locs ls ad0 ad N0 S0 B w x hS9 hl h1 h2
  have en : (Int32.ofInt (n : Int)).toInt = n := a_i32 (by omega)
  have ek : (Int32.ofInt (k9 : Int)).toInt = k9 := a_i32 (by omega)
  have en2 : (Int32.ofInt (n : Int)).toNatClampNeg = n := by
    show (Int32.ofInt (n : Int)).toInt.toNat = _
    rw [en]; omega
  have ek2 : (Int32.ofInt (k9 : Int)).toNatClampNeg = k9 := by
    show (Int32.ofInt (k9 : Int)).toInt.toNat = _
    rw [ek]; omega
  refine w_multi (ty := .long) (n := Int32.ofInt (n : Int)) (k := Int32.ofInt (k9 : Int)) B.1 B.2.1 B.2.2.2.2.1 (B.2.2.2.2.2.1 _ hcl) B.2.2.2.2.2.2.2.2.1.2.2.2.1.2 (B.2.2.2.2.2.1 _ harr) rfl hd rfl (by rw [Int32.lt_iff_toInt_lt, en]; show ¬ (n : Int) < 0; omega) (by rw [Int32.lt_iff_toInt_lt, ek]; show ¬ (k9 : Int) < 0; omega) (by rw [en2]; omega) (by rw [ek2]; show k9 * 8 ≤ _; omega) (by rw [ek2]; omega) rfl rfl (by rw [en2]; exact hr.1) (by rw [en2, ek2]; exact hr.2) (fun H1 cA comp f1 f2 z1 e1 e2 o1 => ?_)
  rw [en2] at z1 e1 e2
  rw [ek2] at e2
  rw [en2, ek2]
  have hcA : cA = E.2.1 17 := Option.some.inj (f1.symm.trans (B.2.2.2.2.2.2.2.1.2 5 (E.2.1 17, .array .long) rfl).2)
  have hco : comp = E.2.1 14 := Option.some.inj (f2.symm.trans (B.2.2.2.2.2.2.2.1.2 2 (E.2.1 14, .long) rfl).2)
  subst hcA
  subst hco
  have hsz : ∀ (i : Nat) (y : Nat × va_E), (a_ws E ad N S M)[i]? = some y → y.1 < H.size := fun i y hy => (w.1 i y hy).lt
  have had : ∀ i : Nat, i < N → adW ad N n H.size i = ad i := fun i hi => if_neg (by omega)
  have hW : a_w E (adW ad N n H.size) (N + 1 + n) (sMul S N n k9) (mMul M N n) H1 := by
    refine ⟨fun i y hy => ?_, ⟨fun i j y z hy hz hyz => ?_, fun i y hy => ?_⟩, fun a j => ?_, fun i hi => ?_, fun a j => ?_, fun a j h => ?_⟩
    · rcases a_ws_multi w i y hy with ⟨h, -⟩ | ⟨-, h⟩ | ⟨j, hj, -, h⟩
      · exact (w.1 i y h).kept (o1 _ (hsz i y h))
      · rw [h]
        show H1[H.size]? = some (vp_cell _ _)
        rw [e1, vp_cell_q, multi_outer n (Nat.le_refl n)]
        congr 2
        funext j
        by_cases e : j < n
        · rw [if_pos e, if_pos e]; rfl
        · rw [if_neg e, if_neg e]; rfl
      · rw [h]
        show H1[H.size + 1 + j]? = some (vp_cell _ _)
        rw [e2 j hj, vp_cell_l, ← arrV_new]
        rfl
    · rcases a_ws_multi w i y hy with ⟨h, hi⟩ | ⟨hi, h⟩ | ⟨i2, hi2, hi, h⟩ <;> rcases a_ws_multi w j z hz with ⟨g, hj⟩ | ⟨hj, g⟩ | ⟨j2, hj2, hj, g⟩
      · exact w.2.1.1 i j y z h g hyz
      · have := hsz i y h; rw [g] at hyz; simp only at hyz; omega
      · have := hsz i y h; rw [g] at hyz; simp only at hyz; omega
      · have := hsz j z g; rw [h] at hyz; simp only at hyz; omega
      · omega
      · rw [h, g] at hyz; simp only at hyz; omega
      · have := hsz j z g; rw [h] at hyz; simp only at hyz; omega
      · rw [h, g] at hyz; simp only at hyz; omega
      · rw [h, g] at hyz; simp only at hyz; omega
    · have hE : E.2.2.1 ≤ H.size := Nat.le_trans B.2.2.2.2.2.2.2.2.2.2.2.2 hS9.1
      rcases a_ws_multi w i y hy with ⟨h, -⟩ | ⟨-, h⟩ | ⟨j, hj, -, h⟩
      · exact w.2.1.2 i y h
      · rw [h]; exact hE
      · rw [h]; show E.2.2.1 ≤ H.size + 1 + j; omega
    · by_cases e : (N : Int) ≤ a ∧ a ≤ N + n
      · rw [show mMul M N n a j = 0 from if_pos e]
        split <;> omega
      · have hs : sMul S N n k9 a = S a := by
          unfold sMul
          rw [if_neg (by omega), if_neg (by omega)]
        rw [show mMul M N n a j = M a j from if_neg e, hs]
        exact w.2.2.1 a j
    · have hs : sMul S N n k9 i = S i := by
        unfold sMul
        rw [if_neg (by omega), if_neg (by omega)]
      rw [hs]
      exact w.2.2.2.1 i (by omega)
    · unfold sMul
      by_cases e : a = N
      · rw [if_pos e]
        show (if 0 ≤ j ∧ j < n then (N : Int) + 1 + j else -1) < _
        split <;> omega
      · rw [if_neg e]
        by_cases e3 : (N : Int) < a ∧ a ≤ N + n
        · rw [if_pos e3]
          show (-1 : Int) < _
          omega
        · rw [if_neg e3]
          have := w.2.2.2.2.1 a j
          omega
    · by_cases e : (N : Int) ≤ a ∧ a ≤ N + n
      · rw [show mMul M N n a j = 0 from if_pos e]
        omega
      · have hs : sMul S N n k9 a = S a := by
          unfold sMul
          rw [if_neg (by omega), if_neg (by omega)]
        rw [hs] at h
        rw [show mMul M N n a j = M a j from if_neg e]
        have := w.2.2.2.2.2 a j h
        omega
  have hx : a_ext ad (adW ad N n H.size) N (N + 1 + n) S (sMul S N n k9) := ⟨by omega, fun i hi => ⟨had i hi, by rw [sMul_o (by omega)]⟩⟩
  have hS1 : va_S (a_A E) s.heap H1 locs := ⟨Nat.le_trans hS9.1 (by omega), fun x h1 h2 => (o1 x (Nat.lt_of_lt_of_le h1 hS9.1)).trans (hS9.2.1 x h1 h2), hS9.2.2⟩
  have z := k p e s m args below meth c H1 locs ls ad0 (adW ad N n H.size) N0 S0 B hW (a_ext_trans x hx) hS1 (by rw [a_lo_ext h2 had]; exact hl) (a_cons (show ((N : Nat) : Int) < ((N + 1 + n : Nat) : Int) by omega) fun v hv => a_vok_mono (by omega) (a_tl (a_tl h1) v hv)) fun v hv => a_vok_mono (by omega) (h2 v hv)
  rw [List.map_cons, a_cv_in (show (0 : Int) ≤ (N : Int) by omega), a_map_ext (a_tl (a_tl h1)) had, show adW ad N n H.size ((N : Int)).toNat = H.size from (if_pos (by omega)).trans (by omega)] at z
  exact z
end AX97
theorem bd_multi {S0 S : aS} {M0 M : aM} {s : Int} {w : Int → Nat × Int × (Int → Int)} {v : aM} {k N n9 : Nat} {n k9 : Int} {F G : Int → Int} (h : Bd S0 M0 s w v k n F G N S M) (j9 : Int) (hs : s < N) (hw : ∀ i, (N : Int) ≤ i → i ≤ N + n9 → w i = sMul S N n9 k9 i) (hv : ∀ i j, (N : Int) ≤ i → i ≤ N + n9 → v i j = 0) : Bd S0 M0 s w v k n (fun x => if x = j9 then (N : Int) else F x) G (N + 1 + n9) (sPut (sMul S N n9 k9) s j9 N) (mMul M N n9) := by
  obtain ⟨h1, h2, h3, h4, h5, h6⟩ := h
  refine ⟨sPut_s ((sMul_o (by omega)).trans h1), fun i a b => ?_, fun i a => ?_, fun i j a => ?_, fun i j a b => ?_, fun j => ?_⟩
  · refine (sPut_o (by omega)).trans ?_
    by_cases e : i < N
    · exact (sMul_o e).trans (h2 i a e)
    · exact (hw i (by omega) (by omega)).symm
  · exact (sPut_o (by omega)).trans ((sMul_o (by omega)).trans (h3 i a))
  · exact (mMul_o (by omega)).trans (h4 i j a)
  · by_cases e : i < N
    · exact (mMul_o e).trans (h5 i j a e)
    · rw [hv i j (by omega) (by omega)]; exact if_pos (by omega)
  · exact (mMul_o (by omega)).trans (h6 j)
def r41s (s : Int) : Int → Int := fun j => if 0 ≤ j ∧ j < 32 then s + 2 + j else -1
def wX2i (s i : Int) : Nat × Int × (Int → Int) := if i = s + 1 then (17, 32, r41s s) else if i ≤ s + 33 then (14, 6, rN) else if i = s + 34 then (13, 32, rN) else if i = s + 35 then (13, 5, rN) else if i = s + 36 then (15, 5, rN) else if i = s + 37 then (13, 5, rN) else (13, 7, rN)
def fX2i (s t u : Int) : Int → Int := fun j => if j = 0 then t else if j = 1 then u else if j = 2 then s + 1 else if j = 3 then s + 34 else if j = 4 then s + 35 else if j = 5 then s + 36 else if j = 6 then s + 37 else if j = 11 then s + 38 else -1
theorem wX2i_34 {s i : Int} (h : i = s + 34) : wX2i s i = (13, 32, rN) := by
  unfold wX2i
  rw [if_neg (by omega), if_neg (by omega), if_pos h]
theorem wX2i_35 {s i : Int} (h : i = s + 35) : wX2i s i = (13, 5, rN) := by
  unfold wX2i
  rw [if_neg (by omega), if_neg (by omega), if_neg (by omega), if_pos h]
theorem wX2i_36 {s i : Int} (h : i = s + 36) : wX2i s i = (15, 5, rN) := by
  unfold wX2i
  rw [if_neg (by omega), if_neg (by omega), if_neg (by omega), if_neg (by omega), if_pos h]
theorem wX2i_37 {s i : Int} (h : i = s + 37) : wX2i s i = (13, 5, rN) := by
  unfold wX2i
  rw [if_neg (by omega), if_neg (by omega), if_neg (by omega), if_neg (by omega), if_neg (by omega), if_pos h]
theorem wX2i_38 {s i : Int} (h : i = s + 38) : wX2i s i = (13, 7, rN) := by
  unfold wX2i
  rw [if_neg (by omega), if_neg (by omega), if_neg (by omega), if_neg (by omega), if_neg (by omega), if_neg (by omega)]
theorem dX2_init_0 : decode cX2_init 0 = .ok (.aload_n 0, 1) := by decide +kernel
theorem dX2_init_1 : decode cX2_init 1 = .ok (.invokespecial 3, 3) := by decide +kernel
theorem dX2_init_4 : decode cX2_init 4 = .ok (.aload_n 0, 1) := by decide +kernel
theorem dX2_init_5 : decode cX2_init 5 = .ok (.bipush 32, 2) := by decide +kernel
theorem dX2_init_7 : decode cX2_init 7 = .ok (.bipush 6, 2) := by decide +kernel
theorem dX2_init_9 : decode cX2_init 9 = .ok (.multianewarray 11 2, 4) := by decide +kernel
theorem dX2_init_13 : decode cX2_init 13 = .ok (.putfield 13, 3) := by decide +kernel
theorem dX2_init_16 : decode cX2_init 16 = .ok (.aload_n 0, 1) := by decide +kernel
theorem dX2_init_17 : decode cX2_init 17 = .ok (.bipush 32, 2) := by decide +kernel
theorem dX2_init_19 : decode cX2_init 19 = .ok (.newarray .int, 2) := by decide +kernel
theorem dX2_init_21 : decode cX2_init 21 = .ok (.putfield 16, 3) := by decide +kernel
theorem dX2_init_24 : decode cX2_init 24 = .ok (.aload_n 0, 1) := by decide +kernel
theorem dX2_init_25 : decode cX2_init 25 = .ok (.iconst 5, 1) := by decide +kernel
theorem dX2_init_26 : decode cX2_init 26 = .ok (.newarray .int, 2) := by decide +kernel
theorem dX2_init_28 : decode cX2_init 28 = .ok (.putfield 20, 3) := by decide +kernel
theorem dX2_init_31 : decode cX2_init 31 = .ok (.aload_n 0, 1) := by decide +kernel
theorem dX2_init_32 : decode cX2_init 32 = .ok (.iconst 5, 1) := by decide +kernel
theorem dX2_init_33 : decode cX2_init 33 = .ok (.newarray .boolean, 2) := by decide +kernel
theorem dX2_init_35 : decode cX2_init 35 = .ok (.putfield 23, 3) := by decide +kernel
theorem dX2_init_38 : decode cX2_init 38 = .ok (.aload_n 0, 1) := by decide +kernel
theorem dX2_init_39 : decode cX2_init 39 = .ok (.iconst 5, 1) := by decide +kernel
theorem dX2_init_40 : decode cX2_init 40 = .ok (.newarray .int, 2) := by decide +kernel
theorem dX2_init_42 : decode cX2_init 42 = .ok (.putfield 27, 3) := by decide +kernel
theorem dX2_init_45 : decode cX2_init 45 = .ok (.aload_n 0, 1) := by decide +kernel
theorem dX2_init_46 : decode cX2_init 46 = .ok (.bipush 7, 2) := by decide +kernel
theorem dX2_init_48 : decode cX2_init 48 = .ok (.newarray .int, 2) := by decide +kernel
theorem dX2_init_50 : decode cX2_init 50 = .ok (.putfield 30, 3) := by decide +kernel
theorem dX2_init_53 : decode cX2_init 53 = .ok (.aload_n 0, 1) := by decide +kernel
theorem dX2_init_54 : decode cX2_init 54 = .ok (.aload_n 1, 1) := by decide +kernel
theorem dX2_init_55 : decode cX2_init 55 = .ok (.putfield 33, 3) := by decide +kernel
theorem dX2_init_58 : decode cX2_init 58 = .ok (.aload_n 0, 1) := by decide +kernel
theorem dX2_init_59 : decode cX2_init 59 = .ok (.aload_n 2, 1) := by decide +kernel
theorem dX2_init_60 : decode cX2_init 60 = .ok (.putfield 37, 3) := by decide +kernel
theorem dX2_init_63 : decode cX2_init 63 = .ok (.return_, 1) := by decide +kernel
theorem s_X2init {l : Launch} {E : aE} {N : Nat} {S : aS} {M : aM} (hfl : l.stackTraces = false) (s t u : Int) (h0 : 0 ≤ s) (hN : (N : Int) = s + 1) (hS : S s = (2, 12, fun _ => -1)) (ht : 0 ≤ t ∧ t < s) (hu : 0 ≤ u ∧ u < s) : aMt l E pX2_init [(2, s), (2, t), (2, u)] N S M (aC (fun N' S' M' => N' = N + 38 ∧ Bd S M s (wX2i s) (fun _ _ => 0) 2 12 (fX2i s t u) (M s) N' S' M')) := by
  refine a_met hfl rfl (by decide +kernel) (Nat.le_of_ble_eq_true rfl) ?_
  have hB := Bd.rf (w := wX2i s) (v := fun _ _ => 0) (M := M) hS hN
  refine x_aload_n (pc := 0) dX2_init_0 rfl rfl ?_
  refine x_objInit (pc := 1) dX2_init_1 obX2_3 (by omega) (by decide) (Nat.le_of_ble_eq_true rfl) ?_
  refine x_aload_n (pc := 4) dX2_init_4 rfl rfl ?_
  refine x_bipush (pc := 5) dX2_init_5 (by decide) ?_
  refine x_bipush (pc := 7) dX2_init_7 (by decide) ?_
  refine x_multi (n := 32) (k9 := 6) (pc := 9) dX2_init_9 (lw_ok_in (List.mem_of_getElem? (i := 428) (by decide +kernel)) rfl) ac_long (by decide) (by decide) ?_
  refine x_putR (j := 2) (pc := 13) dX2_init_13 fX2_13 ((sMul_o (by omega)).trans hB.1) (by decide) rfl (by omega) (fun _ => rfl) (fun _ => rfl) (Or.inr ⟨rfl, own_2⟩) ?_
  refine x_bd (bd_multi hB 2 (by omega) (fun i a b => ?_) (fun _ _ _ _ => rfl)) (fun S0 M0 hB => ?_)
  · unfold sMul wX2i
    by_cases e : i = N
    · rw [if_pos (by omega), if_pos e]
      refine sh_rf (fun j => ?_)
      unfold r41s
      split <;> split <;> omega
    · rw [if_neg (by omega), if_pos (by omega), if_neg e, if_pos (by omega)]
      rfl
  refine x_aload_n (pc := 16) dX2_init_16 rfl rfl ?_
  refine x_bipush (pc := 17) dX2_init_17 (by decide) ?_
  refine x_newI (pc := 19) dX2_init_19 ac_int (by decide) (by decide) ?_
  refine x_putR (j := 3) (pc := 21) dX2_init_21 fX2_16 (by first | exact hB.1 | exact (sAdd_o (by omega)).trans hB.1) (by decide) rfl (by omega) (fun _ => rfl) (fun _ => rfl) (Or.inr ⟨rfl, own_2⟩) ?_
  refine x_bd (bd_arr hB 3 (by omega) (wX2i_34 (by omega)) (fun _ => rfl)) (fun S1 M1 hB => ?_)
  refine x_aload_n (pc := 24) dX2_init_24 rfl rfl ?_
  refine x_iconst (pc := 25) dX2_init_25 (by decide) ?_
  refine x_newI (pc := 26) dX2_init_26 ac_int (by decide) (by decide) ?_
  refine x_putR (j := 4) (pc := 28) dX2_init_28 fX2_20 (by first | exact hB.1 | exact (sAdd_o (by omega)).trans hB.1) (by decide) rfl (by omega) (fun _ => rfl) (fun _ => rfl) (Or.inr ⟨rfl, own_2⟩) ?_
  refine x_bd (bd_arr hB 4 (by omega) (wX2i_35 (by omega)) (fun _ => rfl)) (fun S2 M2 hB => ?_)
  refine x_aload_n (pc := 31) dX2_init_31 rfl rfl ?_
  refine x_iconst (pc := 32) dX2_init_32 (by decide) ?_
  refine x_newZ (pc := 33) dX2_init_33 ac_boolean (by decide) (by decide) ?_
  refine x_putR (j := 5) (pc := 35) dX2_init_35 fX2_23 (by first | exact hB.1 | exact (sAdd_o (by omega)).trans hB.1) (by decide) rfl (by omega) (fun _ => rfl) (fun _ => rfl) (Or.inr ⟨rfl, own_2⟩) ?_
  refine x_bd (bd_arr hB 5 (by omega) (wX2i_36 (by omega)) (fun _ => rfl)) (fun S3 M3 hB => ?_)
  refine x_aload_n (pc := 38) dX2_init_38 rfl rfl ?_
  refine x_iconst (pc := 39) dX2_init_39 (by decide) ?_
  refine x_newI (pc := 40) dX2_init_40 ac_int (by decide) (by decide) ?_
  refine x_putR (j := 6) (pc := 42) dX2_init_42 fX2_27 (by first | exact hB.1 | exact (sAdd_o (by omega)).trans hB.1) (by decide) rfl (by omega) (fun _ => rfl) (fun _ => rfl) (Or.inr ⟨rfl, own_2⟩) ?_
  refine x_bd (bd_arr hB 6 (by omega) (wX2i_37 (by omega)) (fun _ => rfl)) (fun S4 M4 hB => ?_)
  refine x_aload_n (pc := 45) dX2_init_45 rfl rfl ?_
  refine x_bipush (pc := 46) dX2_init_46 (by decide) ?_
  refine x_newI (pc := 48) dX2_init_48 ac_int (by decide) (by decide) ?_
  refine x_putR (j := 11) (pc := 50) dX2_init_50 fX2_30 (by first | exact hB.1 | exact (sAdd_o (by omega)).trans hB.1) (by decide) rfl (by omega) (fun _ => rfl) (fun _ => rfl) (Or.inr ⟨rfl, own_2⟩) ?_
  refine x_bd (bd_arr hB 11 (by omega) (wX2i_38 (by omega)) (fun _ => rfl)) (fun S5 M5 hB => ?_)
  refine x_aload_n (pc := 53) dX2_init_53 rfl rfl ?_
  refine x_aload_n (pc := 54) dX2_init_54 rfl rfl ?_
  refine x_putR (j := 0) (pc := 55) dX2_init_55 fX2_33 (by first | exact hB.1 | exact (sAdd_o (by omega)).trans hB.1) (by decide) rfl (by omega) (fun _ => rfl) (fun _ => rfl) (Or.inr ⟨rfl, own_2⟩) ?_
  refine x_bd (bd_ref hB 0 (t)) (fun S10 M10 hB => ?_)
  refine x_aload_n (pc := 58) dX2_init_58 rfl rfl ?_
  refine x_aload_n (pc := 59) dX2_init_59 rfl rfl ?_
  refine x_putR (j := 1) (pc := 60) dX2_init_60 fX2_37 (by first | exact hB.1 | exact (sAdd_o (by omega)).trans hB.1) (by decide) rfl (by omega) (fun _ => rfl) (fun _ => rfl) (Or.inr ⟨rfl, own_2⟩) ?_
  refine x_bd (bd_ref hB 1 (u)) (fun S11 M11 hB => ?_)
  refine x_return (pc := 63) dX2_init_63 rfl (by decide) ?_
  exact ⟨rfl, by omega, (Bd.F hB (F' := fX2i s t u) (fun j => by unfold fX2i; (repeat' split) <;> omega))⟩
